section
-- ===== PART A: goes FIRST, ahead of the names: the tables' words, and 'selects' of the private methods out of them =====
/-- a private method of a class that the tables say can be made, by its rows of tables_1 -/
def lw_okq (q : MethodName × Nat) : Prop := (q.1.cls ≠ "java/lang/invoke/MethodHandle" ∧ q.1.cls ≠ "java/lang/invoke/VarHandle") ∧ Cond.instantiable q.1.cls q.2 ∈ tables_1 ∧ Cond.privateMethod q.1 ∈ tables_1 ∧ Cond.instanceMethod q.1 ∈ tables_1
theorem lw_p0 : lw_okq (⟨"RetoldRun$Retelling", "hasEntry", "(II)Z"⟩, 2) := ⟨⟨by decide +kernel, by decide +kernel⟩, List.mem_of_getElem? (i := 102) (by decide +kernel), List.mem_of_getElem? (i := 294) (by decide +kernel), List.mem_of_getElem? (i := 295) (by decide +kernel)⟩
theorem lw_p1 : lw_okq (⟨"RetoldRun$JournalReader", "readNumber", "()I"⟩, 7) := ⟨⟨by decide +kernel, by decide +kernel⟩, List.mem_of_getElem? (i := 104) (by decide +kernel), List.mem_of_getElem? (i := 306) (by decide +kernel), List.mem_of_getElem? (i := 307) (by decide +kernel)⟩
theorem lw_p2 : lw_okq (⟨"RetoldRun$Machine", "perform", "(IIILRetoldRun$Outside;)V"⟩, 10) := ⟨⟨by decide +kernel, by decide +kernel⟩, List.mem_of_getElem? (i := 148) (by decide +kernel), List.mem_of_getElem? (i := 310) (by decide +kernel), List.mem_of_getElem? (i := 311) (by decide +kernel)⟩
theorem lw_p3 : lw_okq (⟨"RetoldRun$Machine", "turn", "(III)V"⟩, 10) := ⟨⟨by decide +kernel, by decide +kernel⟩, List.mem_of_getElem? (i := 148) (by decide +kernel), List.mem_of_getElem? (i := 338) (by decide +kernel), List.mem_of_getElem? (i := 339) (by decide +kernel)⟩
theorem lw_p4 : lw_okq (⟨"RetoldRun$Machine", "followTrace", "()V"⟩, 10) := ⟨⟨by decide +kernel, by decide +kernel⟩, List.mem_of_getElem? (i := 148) (by decide +kernel), List.mem_of_getElem? (i := 342) (by decide +kernel), List.mem_of_getElem? (i := 343) (by decide +kernel)⟩
theorem lw_p5 : lw_okq (⟨"RetoldRun", "machineOf", "(I)LRetoldRun$Machine;"⟩, 8) := ⟨⟨by decide +kernel, by decide +kernel⟩, List.mem_of_getElem? (i := 13) (by decide +kernel), List.mem_of_getElem? (i := 400) (by decide +kernel), List.mem_of_getElem? (i := 401) (by decide +kernel)⟩
theorem lw_p6 : lw_okq (⟨"RetoldRunModel", "anew", "(I)V"⟩, 21) := ⟨⟨by decide +kernel, by decide +kernel⟩, List.mem_of_getElem? (i := 421) (by decide +kernel), List.mem_of_getElem? (i := 503) (by decide +kernel), List.mem_of_getElem? (i := 504) (by decide +kernel)⟩
theorem lw_p7 : lw_okq (⟨"RetoldRunModel", "step", "(I)V"⟩, 21) := ⟨⟨by decide +kernel, by decide +kernel⟩, List.mem_of_getElem? (i := 421) (by decide +kernel), List.mem_of_getElem? (i := 524) (by decide +kernel), List.mem_of_getElem? (i := 525) (by decide +kernel)⟩
theorem lw_p8 : lw_okq (⟨"RetoldRunModel", "interrupts", "(I)Z"⟩, 21) := ⟨⟨by decide +kernel, by decide +kernel⟩, List.mem_of_getElem? (i := 421) (by decide +kernel), List.mem_of_getElem? (i := 528) (by decide +kernel), List.mem_of_getElem? (i := 529) (by decide +kernel)⟩
theorem lw_p9 : lw_okq (⟨"RetoldRunModel", "found", "(II)I"⟩, 21) := ⟨⟨by decide +kernel, by decide +kernel⟩, List.mem_of_getElem? (i := 421) (by decide +kernel), List.mem_of_getElem? (i := 532) (by decide +kernel), List.mem_of_getElem? (i := 533) (by decide +kernel)⟩
theorem lw_p10 : lw_okq (⟨"RetoldRunModel", "writeEntry", "(I)V"⟩, 21) := ⟨⟨by decide +kernel, by decide +kernel⟩, List.mem_of_getElem? (i := 421) (by decide +kernel), List.mem_of_getElem? (i := 536) (by decide +kernel), List.mem_of_getElem? (i := 537) (by decide +kernel)⟩
theorem lw_p11 : lw_okq (⟨"RetoldRunModel", "writeNumber", "(J)V"⟩, 21) := ⟨⟨by decide +kernel, by decide +kernel⟩, List.mem_of_getElem? (i := 421) (by decide +kernel), List.mem_of_getElem? (i := 541) (by decide +kernel), List.mem_of_getElem? (i := 542) (by decide +kernel)⟩
theorem lw_p12 : lw_okq (⟨"RetoldRunModel", "writeByte", "(I)V"⟩, 21) := ⟨⟨by decide +kernel, by decide +kernel⟩, List.mem_of_getElem? (i := 421) (by decide +kernel), List.mem_of_getElem? (i := 546) (by decide +kernel), List.mem_of_getElem? (i := 547) (by decide +kernel)⟩
theorem lw_p13 : lw_okq (⟨"RetoldRunModel", "perform", "(IIII)V"⟩, 21) := ⟨⟨by decide +kernel, by decide +kernel⟩, List.mem_of_getElem? (i := 421) (by decide +kernel), List.mem_of_getElem? (i := 554) (by decide +kernel), List.mem_of_getElem? (i := 555) (by decide +kernel)⟩
theorem lw_p14 : lw_okq (⟨"RetoldRunModel", "inputFor", "(I)I"⟩, 21) := ⟨⟨by decide +kernel, by decide +kernel⟩, List.mem_of_getElem? (i := 421) (by decide +kernel), List.mem_of_getElem? (i := 561) (by decide +kernel), List.mem_of_getElem? (i := 562) (by decide +kernel)⟩
theorem lw_p15 : lw_okq (⟨"RetoldRunModel", "timeFor", "(I)I"⟩, 21) := ⟨⟨by decide +kernel, by decide +kernel⟩, List.mem_of_getElem? (i := 421) (by decide +kernel), List.mem_of_getElem? (i := 567) (by decide +kernel), List.mem_of_getElem? (i := 568) (by decide +kernel)⟩
def lw_privs_1 : List (MethodName × Nat) := [(⟨"RetoldRun$Retelling", "hasEntry", "(II)Z"⟩, 2), (⟨"RetoldRun$JournalReader", "readNumber", "()I"⟩, 7), (⟨"RetoldRun$Machine", "perform", "(IIILRetoldRun$Outside;)V"⟩, 10), (⟨"RetoldRun$Machine", "turn", "(III)V"⟩, 10), (⟨"RetoldRun$Machine", "followTrace", "()V"⟩, 10), (⟨"RetoldRun", "machineOf", "(I)LRetoldRun$Machine;"⟩, 8), (⟨"RetoldRunModel", "anew", "(I)V"⟩, 21), (⟨"RetoldRunModel", "step", "(I)V"⟩, 21), (⟨"RetoldRunModel", "interrupts", "(I)Z"⟩, 21), (⟨"RetoldRunModel", "found", "(II)I"⟩, 21), (⟨"RetoldRunModel", "writeEntry", "(I)V"⟩, 21), (⟨"RetoldRunModel", "writeNumber", "(J)V"⟩, 21), (⟨"RetoldRunModel", "writeByte", "(I)V"⟩, 21), (⟨"RetoldRunModel", "perform", "(IIII)V"⟩, 21), (⟨"RetoldRunModel", "inputFor", "(I)I"⟩, 21), (⟨"RetoldRunModel", "timeFor", "(I)I"⟩, 21)]
theorem lw_r1 : ∀ q ∈ lw_privs_1, lw_okq q := List.forall_mem_cons.mpr ⟨lw_p0, List.forall_mem_cons.mpr ⟨lw_p1, List.forall_mem_cons.mpr ⟨lw_p2, List.forall_mem_cons.mpr ⟨lw_p3, List.forall_mem_cons.mpr ⟨lw_p4, List.forall_mem_cons.mpr ⟨lw_p5, List.forall_mem_cons.mpr ⟨lw_p6, List.forall_mem_cons.mpr ⟨lw_p7, List.forall_mem_cons.mpr ⟨lw_p8, List.forall_mem_cons.mpr ⟨lw_p9, List.forall_mem_cons.mpr ⟨lw_p10, List.forall_mem_cons.mpr ⟨lw_p11, List.forall_mem_cons.mpr ⟨lw_p12, List.forall_mem_cons.mpr ⟨lw_p13, List.forall_mem_cons.mpr ⟨lw_p14, List.forall_mem_cons.mpr ⟨lw_p15, fun _ h => absurd h List.not_mem_nil⟩⟩⟩⟩⟩⟩⟩⟩⟩⟩⟩⟩⟩⟩⟩⟩
theorem lw_p16 : lw_okq (⟨"RetoldRunModel", "trace", "(II)V"⟩, 21) := ⟨⟨by decide +kernel, by decide +kernel⟩, List.mem_of_getElem? (i := 421) (by decide +kernel), List.mem_of_getElem? (i := 572) (by decide +kernel), List.mem_of_getElem? (i := 573) (by decide +kernel)⟩
theorem lw_p17 : lw_okq (⟨"RetoldRunModel", "sealNow", "()I"⟩, 21) := ⟨⟨by decide +kernel, by decide +kernel⟩, List.mem_of_getElem? (i := 421) (by decide +kernel), List.mem_of_getElem? (i := 580) (by decide +kernel), List.mem_of_getElem? (i := 581) (by decide +kernel)⟩
theorem lw_p18 : lw_okq (⟨"RetoldRunModel", "readAll", "()Z"⟩, 21) := ⟨⟨by decide +kernel, by decide +kernel⟩, List.mem_of_getElem? (i := 421) (by decide +kernel), List.mem_of_getElem? (i := 584) (by decide +kernel), List.mem_of_getElem? (i := 585) (by decide +kernel)⟩
theorem lw_p19 : lw_okq (⟨"RetoldRunModel", "readNumber", "()J"⟩, 21) := ⟨⟨by decide +kernel, by decide +kernel⟩, List.mem_of_getElem? (i := 421) (by decide +kernel), List.mem_of_getElem? (i := 588) (by decide +kernel), List.mem_of_getElem? (i := 589) (by decide +kernel)⟩
def lw_privs_2 : List (MethodName × Nat) := [(⟨"RetoldRunModel", "trace", "(II)V"⟩, 21), (⟨"RetoldRunModel", "sealNow", "()I"⟩, 21), (⟨"RetoldRunModel", "readAll", "()Z"⟩, 21), (⟨"RetoldRunModel", "readNumber", "()J"⟩, 21)]
theorem lw_r2 : ∀ q ∈ lw_privs_2, lw_okq q := List.forall_mem_cons.mpr ⟨lw_p16, List.forall_mem_cons.mpr ⟨lw_p17, List.forall_mem_cons.mpr ⟨lw_p18, List.forall_mem_cons.mpr ⟨lw_p19, fun _ h => absurd h List.not_mem_nil⟩⟩⟩⟩
def lw_privs : List (MethodName × Nat) := lw_privs_1 ++ (lw_privs_2)
def lw_tbl : List Cond := k2_sels lw_privs ++ tables_1
theorem lw_privs_ok : ∀ q ∈ lw_privs, lw_okq q := by
  show ∀ q ∈ lw_privs_1 ++ (lw_privs_2), lw_okq q
  exact List.forall_mem_append.mpr ⟨lw_r1, lw_r2⟩
end
section
def R_P : String := "RetoldRun$Program"
def R_J : String := "RetoldRun$Journal"
def R_R : String := "RetoldRun$Recording"
def R_T : String := "RetoldRun$Retelling"
def R_D : String := "RetoldRun$JournalReader"
def R_M : String := "RetoldRun$Machine"
def R_X : String := "RetoldRun"
def R_Y : String := "RetoldRunModel"
def R_O : String := "RetoldRun$Outside"
def R_L : String := "RetoldRunLaw"
def F_P : u_T := fun k => match k with
  | 0 => ("RetoldRun$Program", "operations", "[I", true)
  | 1 => ("RetoldRun$Program", "firsts", "[I", true)
  | 2 => ("RetoldRun$Program", "seconds", "[I", true)
  | _ => ("RetoldRun$Program", "size", "I", false)
def ft_P : Nat → FieldType := fun k => match k with
  | 0 => .array .int
  | 1 => .array .int
  | 2 => .array .int
  | _ => .int
theorem nok_P : ∀ a, a < 4 → ∀ b, b < 4 → a ≠ b → (F_P a).2.1 ≠ (F_P b).2.1 := by decide +kernel
theorem tok_P : ∀ k, k < 4 → parseFieldDescriptor (F_P k).2.2.1 = some (ft_P k) := by decide +kernel
def F_J : u_T := fun k => match k with
  | 0 => ("RetoldRun$Journal", "bytes", "[I", true)
  | 1 => ("RetoldRun$Journal", "size", "I", false)
  | 2 => ("RetoldRun$Journal", "made", "I", false)
  | 3 => ("RetoldRun$Journal", "sealMade", "I", false)
  | _ => ("RetoldRun$Journal", "stepBefore", "I", false)
def ft_J : Nat → FieldType := fun k => match k with
  | 0 => .array .int
  | 1 => .int
  | 2 => .int
  | 3 => .int
  | _ => .int
theorem nok_J : ∀ a, a < 5 → ∀ b, b < 5 → a ≠ b → (F_J a).2.1 ≠ (F_J b).2.1 := by decide +kernel
theorem tok_J : ∀ k, k < 5 → parseFieldDescriptor (F_J k).2.2.1 = some (ft_J k) := by decide +kernel
def F_R : u_T := fun k => match k with
  | 0 => ("RetoldRun$Recording", "journal", "LRetoldRun$Journal;", true)
  | 1 => ("RetoldRun$Recording", "inputs", "[I", true)
  | 2 => ("RetoldRun$Recording", "waiting", "I", false)
  | 3 => ("RetoldRun$Recording", "timeBefore", "I", false)
  | 4 => ("RetoldRun$Recording", "requested", "Z", false)
  | _ => ("RetoldRun$Recording", "clock", "I", false)
def ft_R : Nat → FieldType := fun k => match k with
  | 0 => .object "RetoldRun$Journal"
  | 1 => .array .int
  | 2 => .int
  | 3 => .int
  | 4 => .boolean
  | _ => .int
theorem nok_R : ∀ a, a < 6 → ∀ b, b < 6 → a ≠ b → (F_R a).2.1 ≠ (F_R b).2.1 := by decide +kernel
theorem tok_R : ∀ k, k < 6 → parseFieldDescriptor (F_R k).2.2.1 = some (ft_R k) := by decide +kernel
def F_T : u_T := fun k => match k with
  | 0 => ("RetoldRun$Retelling", "reader", "LRetoldRun$JournalReader;", true)
  | _ => ("RetoldRun$Retelling", "timeBefore", "I", false)
def ft_T : Nat → FieldType := fun k => match k with
  | 0 => .object "RetoldRun$JournalReader"
  | _ => .int
theorem nok_T : ∀ a, a < 2 → ∀ b, b < 2 → a ≠ b → (F_T a).2.1 ≠ (F_T b).2.1 := by decide +kernel
theorem tok_T : ∀ k, k < 2 → parseFieldDescriptor (F_T k).2.2.1 = some (ft_T k) := by decide +kernel
def F_D : u_T := fun k => match k with
  | 0 => ("RetoldRun$JournalReader", "journal", "LRetoldRun$Journal;", true)
  | 1 => ("RetoldRun$JournalReader", "position", "I", false)
  | 2 => ("RetoldRun$JournalReader", "present", "Z", false)
  | 3 => ("RetoldRun$JournalReader", "broken", "Z", false)
  | 4 => ("RetoldRun$JournalReader", "step", "J", false)
  | 5 => ("RetoldRun$JournalReader", "kind", "I", false)
  | _ => ("RetoldRun$JournalReader", "value", "I", false)
def ft_D : Nat → FieldType := fun k => match k with
  | 0 => .object "RetoldRun$Journal"
  | 1 => .int
  | 2 => .boolean
  | 3 => .boolean
  | 4 => .long
  | 5 => .int
  | _ => .int
theorem nok_D : ∀ a, a < 7 → ∀ b, b < 7 → a ≠ b → (F_D a).2.1 ≠ (F_D b).2.1 := by decide +kernel
theorem tok_D : ∀ k, k < 7 → parseFieldDescriptor (F_D k).2.2.1 = some (ft_D k) := by decide +kernel
def F_M : u_T := fun k => match k with
  | 0 => ("RetoldRun$Machine", "registers", "[I", true)
  | 1 => ("RetoldRun$Machine", "cells", "[I", true)
  | 2 => ("RetoldRun$Machine", "place", "I", false)
  | 3 => ("RetoldRun$Machine", "back", "I", false)
  | 4 => ("RetoldRun$Machine", "inside", "Z", false)
  | 5 => ("RetoldRun$Machine", "ended", "Z", false)
  | 6 => ("RetoldRun$Machine", "lot", "I", false)
  | 7 => ("RetoldRun$Machine", "output", "I", false)
  | 8 => ("RetoldRun$Machine", "trace", "I", false)
  | _ => ("RetoldRun$Machine", "steps", "I", false)
def ft_M : Nat → FieldType := fun k => match k with
  | 0 => .array .int
  | 1 => .array .int
  | 2 => .int
  | 3 => .int
  | 4 => .boolean
  | 5 => .boolean
  | 6 => .int
  | 7 => .int
  | 8 => .int
  | _ => .int
theorem nok_M : ∀ a, a < 10 → ∀ b, b < 10 → a ≠ b → (F_M a).2.1 ≠ (F_M b).2.1 := by decide +kernel
theorem tok_M : ∀ k, k < 10 → parseFieldDescriptor (F_M k).2.2.1 = some (ft_M k) := by decide +kernel
def F_X : u_T := fun k => match k with
  | 0 => ("RetoldRun", "seed", "I", true)
  | 1 => ("RetoldRun", "program", "LRetoldRun$Program;", true)
  | 2 => ("RetoldRun", "journal", "LRetoldRun$Journal;", true)
  | 3 => ("RetoldRun", "recording", "LRetoldRun$Recording;", true)
  | 4 => ("RetoldRun", "retelling", "LRetoldRun$Retelling;", true)
  | 5 => ("RetoldRun", "live", "LRetoldRun$Machine;", true)
  | 6 => ("RetoldRun", "told", "LRetoldRun$Machine;", true)
  | _ => ("RetoldRun", "begun", "Z", false)
def ft_X : Nat → FieldType := fun k => match k with
  | 0 => .int
  | 1 => .object "RetoldRun$Program"
  | 2 => .object "RetoldRun$Journal"
  | 3 => .object "RetoldRun$Recording"
  | 4 => .object "RetoldRun$Retelling"
  | 5 => .object "RetoldRun$Machine"
  | 6 => .object "RetoldRun$Machine"
  | _ => .boolean
theorem nok_X : ∀ a, a < 8 → ∀ b, b < 8 → a ≠ b → (F_X a).2.1 ≠ (F_X b).2.1 := by decide +kernel
theorem tok_X : ∀ k, k < 8 → parseFieldDescriptor (F_X k).2.2.1 = some (ft_X k) := by decide +kernel
def F_Y : u_T := fun k => match k with
  | 0 => ("RetoldRunModel", "seed", "I", true)
  | 1 => ("RetoldRunModel", "size", "I", false)
  | 2 => ("RetoldRunModel", "operation", "[I", true)
  | 3 => ("RetoldRunModel", "first", "[I", true)
  | 4 => ("RetoldRunModel", "second", "[I", true)
  | 5 => ("RetoldRunModel", "begun", "Z", false)
  | 6 => ("RetoldRunModel", "machine", "[I", true)
  | 7 => ("RetoldRunModel", "clock", "I", false)
  | 8 => ("RetoldRunModel", "waiting", "I", false)
  | 9 => ("RetoldRunModel", "inputs", "[I", true)
  | 10 => ("RetoldRunModel", "asked", "Z", false)
  | 11 => ("RetoldRunModel", "bytes", "I", false)
  | 12 => ("RetoldRunModel", "log", "[I", true)
  | 13 => ("RetoldRunModel", "entries", "I", false)
  | 14 => ("RetoldRunModel", "lastStep", "I", false)
  | 15 => ("RetoldRunModel", "seal", "I", false)
  | 16 => ("RetoldRunModel", "read", "I", false)
  | 17 => ("RetoldRunModel", "at", "I", false)
  | 18 => ("RetoldRunModel", "steps", "[J", true)
  | 19 => ("RetoldRunModel", "kinds", "[I", true)
  | _ => ("RetoldRunModel", "values", "[I", true)
def ft_Y : Nat → FieldType := fun k => match k with
  | 0 => .int
  | 1 => .int
  | 2 => .array .int
  | 3 => .array .int
  | 4 => .array .int
  | 5 => .boolean
  | 6 => .array .int
  | 7 => .int
  | 8 => .int
  | 9 => .array .int
  | 10 => .boolean
  | 11 => .int
  | 12 => .array .int
  | 13 => .int
  | 14 => .int
  | 15 => .int
  | 16 => .int
  | 17 => .int
  | 18 => .array .long
  | 19 => .array .int
  | _ => .array .int
theorem nok_Y : ∀ a, a < 21 → ∀ b, b < 21 → a ≠ b → (F_Y a).2.1 ≠ (F_Y b).2.1 := by decide +kernel
theorem tok_Y : ∀ k, k < 21 → parseFieldDescriptor (F_Y k).2.2.1 = some (ft_Y k) := by decide +kernel
abbrev vwCl : List vw_C := [(R_P, F_P, 4), (R_J, F_J, 5), (R_R, F_R, 6), (R_T, F_T, 2), (R_D, F_D, 7), (R_M, F_M, 10), (R_X, F_X, 8), (R_Y, F_Y, 21)]
def y_X_init : MethodName := ⟨R_X, "<init>", "(I)V"⟩
abbrev b_X_init : ByteArray := prog_1_method_1_code
def y_P_init : MethodName := ⟨R_P, "<init>", "()V"⟩
abbrev b_P_init : ByteArray := prog_6_method_1_code
def y_J_init : MethodName := ⟨R_J, "<init>", "()V"⟩
abbrev b_J_init : ByteArray := prog_2_method_1_code
def y_R_init : MethodName := ⟨R_R, "<init>", "(LRetoldRun$Journal;)V"⟩
abbrev b_R_init : ByteArray := prog_7_method_1_code
def y_O_init : MethodName := ⟨R_O, "<init>", "()V"⟩
abbrev b_O_init : ByteArray := prog_5_method_1_code
def y_D_init : MethodName := ⟨R_D, "<init>", "(LRetoldRun$Journal;)V"⟩
abbrev b_D_init : ByteArray := prog_3_method_1_code
def y_T_init : MethodName := ⟨R_T, "<init>", "(LRetoldRun$JournalReader;)V"⟩
abbrev b_T_init : ByteArray := prog_8_method_1_code
def y_M_init : MethodName := ⟨R_M, "<init>", "(I)V"⟩
abbrev b_M_init : ByteArray := prog_4_method_1_code
def y_X_add : MethodName := ⟨R_X, "add", "(III)I"⟩
abbrev b_X_add : ByteArray := prog_1_method_2_code
def y_X_isInstruction : MethodName := ⟨R_X, "isInstruction", "(II)Z"⟩
abbrev b_X_isInstruction : ByteArray := prog_1_method_18_code
def y_P_append : MethodName := ⟨R_P, "append", "(III)I"⟩
abbrev b_P_append : ByteArray := prog_6_method_3_code
def y_X_clear : MethodName := ⟨R_X, "clear", "()I"⟩
abbrev b_X_clear : ByteArray := prog_1_method_3_code
def y_M_restart : MethodName := ⟨R_M, "restart", "(I)V"⟩
abbrev b_M_restart : ByteArray := prog_4_method_2_code
def y_A_fill : MethodName := ⟨"java/util/Arrays", "fill", "([II)V"⟩
abbrev b_A_fill : ByteArray := prog_12_method_103_code
def y_J_restart : MethodName := ⟨R_J, "restart", "()V"⟩
abbrev b_J_restart : ByteArray := prog_2_method_2_code
def y_R_restart : MethodName := ⟨R_R, "restart", "()V"⟩
abbrev b_R_restart : ByteArray := prog_7_method_2_code
def y_X_input : MethodName := ⟨R_X, "input", "(I)I"⟩
abbrev b_X_input : ByteArray := prog_1_method_4_code
def y_R_addInput : MethodName := ⟨R_R, "addInput", "(I)I"⟩
abbrev b_R_addInput : ByteArray := prog_7_method_3_code
def y_X_request : MethodName := ⟨R_X, "request", "()Z"⟩
abbrev b_X_request : ByteArray := prog_1_method_5_code
def y_X_pass : MethodName := ⟨R_X, "pass", "(I)Z"⟩
abbrev b_X_pass : ByteArray := prog_1_method_6_code
def y_X_run : MethodName := ⟨R_X, "run", "(I)I"⟩
abbrev b_X_run : ByteArray := prog_1_method_7_code
def y_M_step : MethodName := ⟨R_M, "step", "(LRetoldRun$Program;LRetoldRun$Outside;)Z"⟩
abbrev b_M_step : ByteArray := prog_4_method_3_code
def y_P_has : MethodName := ⟨R_P, "has", "(I)Z"⟩
abbrev b_P_has : ByteArray := prog_6_method_2_code
def y_O_takeInterrupt : MethodName := ⟨R_O, "takeInterrupt", "(I)Z"⟩
def y_R_takeInterrupt : MethodName := ⟨R_R, "takeInterrupt", "(I)Z"⟩
abbrev b_R_takeInterrupt : ByteArray := prog_7_method_4_code
def y_J_beginEntry : MethodName := ⟨R_J, "beginEntry", "(II)V"⟩
abbrev b_J_beginEntry : ByteArray := prog_2_method_4_code
def y_J_writeNumber : MethodName := ⟨R_J, "writeNumber", "(I)V"⟩
abbrev b_J_writeNumber : ByteArray := prog_2_method_5_code
def y_X_sealByte : MethodName := ⟨R_X, "sealByte", "(II)I"⟩
abbrev b_X_sealByte : ByteArray := prog_1_method_20_code
def y_X_mix : MethodName := ⟨R_X, "mix", "(II)I"⟩
abbrev b_X_mix : ByteArray := prog_1_method_19_code
def y_T_takeInterrupt : MethodName := ⟨R_T, "takeInterrupt", "(I)Z"⟩
abbrev b_T_takeInterrupt : ByteArray := prog_8_method_4_code
def y_T_hasEntry : MethodName := ⟨R_T, "hasEntry", "(II)Z"⟩
abbrev b_T_hasEntry : ByteArray := prog_8_method_7_code
def y_D_readEntry : MethodName := ⟨R_D, "readEntry", "()V"⟩
abbrev b_D_readEntry : ByteArray := prog_3_method_3_code
def y_J_has : MethodName := ⟨R_J, "has", "(I)Z"⟩
abbrev b_J_has : ByteArray := prog_2_method_3_code
def y_D_readNumber : MethodName := ⟨R_D, "readNumber", "()I"⟩
abbrev b_D_readNumber : ByteArray := prog_3_method_4_code
def y_M_perform : MethodName := ⟨R_M, "perform", "(IIILRetoldRun$Outside;)V"⟩
abbrev b_M_perform : ByteArray := prog_4_method_4_code
def y_O_takeInput : MethodName := ⟨R_O, "takeInput", "(I)I"⟩
def y_R_takeInput : MethodName := ⟨R_R, "takeInput", "(I)I"⟩
abbrev b_R_takeInput : ByteArray := prog_7_method_5_code
def y_T_takeInput : MethodName := ⟨R_T, "takeInput", "(I)I"⟩
abbrev b_T_takeInput : ByteArray := prog_8_method_5_code
def y_O_readClock : MethodName := ⟨R_O, "readClock", "(I)I"⟩
def y_R_readClock : MethodName := ⟨R_R, "readClock", "(I)I"⟩
abbrev b_R_readClock : ByteArray := prog_7_method_6_code
def y_T_readClock : MethodName := ⟨R_T, "readClock", "(I)I"⟩
abbrev b_T_readClock : ByteArray := prog_8_method_6_code
def y_M_turn : MethodName := ⟨R_M, "turn", "(III)V"⟩
abbrev b_M_turn : ByteArray := prog_4_method_5_code
def y_M_followTrace : MethodName := ⟨R_M, "followTrace", "()V"⟩
abbrev b_M_followTrace : ByteArray := prog_4_method_6_code
def y_X_log : MethodName := ⟨R_X, "log", "()I"⟩
abbrev b_X_log : ByteArray := prog_1_method_8_code
def y_X_at : MethodName := ⟨R_X, "at", "(I)I"⟩
abbrev b_X_at : ByteArray := prog_1_method_9_code
def y_X_entries : MethodName := ⟨R_X, "entries", "()I"⟩
abbrev b_X_entries : ByteArray := prog_1_method_10_code
def y_X_seal : MethodName := ⟨R_X, "seal", "()I"⟩
abbrev b_X_seal : ByteArray := prog_1_method_11_code
def y_X_change : MethodName := ⟨R_X, "change", "(II)Z"⟩
abbrev b_X_change : ByteArray := prog_1_method_12_code
def y_X_tell : MethodName := ⟨R_X, "tell", "(II)I"⟩
abbrev b_X_tell : ByteArray := prog_1_method_13_code
def y_J_sealNow : MethodName := ⟨R_J, "sealNow", "()I"⟩
abbrev b_J_sealNow : ByteArray := prog_2_method_6_code
def y_T_isReadable : MethodName := ⟨R_T, "isReadable", "()Z"⟩
abbrev b_T_isReadable : ByteArray := prog_8_method_2_code
def y_D_rewind : MethodName := ⟨R_D, "rewind", "()V"⟩
abbrev b_D_rewind : ByteArray := prog_3_method_2_code
def y_T_restart : MethodName := ⟨R_T, "restart", "()V"⟩
abbrev b_T_restart : ByteArray := prog_8_method_3_code
def y_M_looksLike : MethodName := ⟨R_M, "looksLike", "(LRetoldRun$Machine;)Z"⟩
abbrev b_M_looksLike : ByteArray := prog_4_method_9_code
def y_M_stateOf : MethodName := ⟨R_M, "stateOf", "(I)I"⟩
abbrev b_M_stateOf : ByteArray := prog_4_method_7_code
def y_X_state : MethodName := ⟨R_X, "state", "(II)I"⟩
abbrev b_X_state : ByteArray := prog_1_method_14_code
def y_X_machineOf : MethodName := ⟨R_X, "machineOf", "(I)LRetoldRun$Machine;"⟩
abbrev b_X_machineOf : ByteArray := prog_1_method_17_code
def y_X_cell : MethodName := ⟨R_X, "cell", "(II)I"⟩
abbrev b_X_cell : ByteArray := prog_1_method_15_code
def y_M_cellOf : MethodName := ⟨R_M, "cellOf", "(I)I"⟩
abbrev b_M_cellOf : ByteArray := prog_4_method_8_code
def y_X_sealed : MethodName := ⟨R_X, "sealed", "(III)I"⟩
abbrev b_X_sealed : ByteArray := prog_1_method_16_code
def y_L_cell : MethodName := ⟨R_L, "cell", "([II)I"⟩
abbrev b_L_cell : ByteArray := method_2_code
def y_Y_init : MethodName := ⟨R_Y, "<init>", "(I)V"⟩
abbrev b_Y_init : ByteArray := prog_10_method_1_code
def y_Y_add : MethodName := ⟨R_Y, "add", "(III)I"⟩
abbrev b_Y_add : ByteArray := prog_10_method_3_code
def y_Y_in : MethodName := ⟨R_Y, "in", "(III)Z"⟩
abbrev b_Y_in : ByteArray := prog_10_method_2_code
def y_Y_clear : MethodName := ⟨R_Y, "clear", "()I"⟩
abbrev b_Y_clear : ByteArray := prog_10_method_5_code
def y_Y_anew : MethodName := ⟨R_Y, "anew", "(I)V"⟩
abbrev b_Y_anew : ByteArray := prog_10_method_4_code
def y_Y_input : MethodName := ⟨R_Y, "input", "(I)I"⟩
abbrev b_Y_input : ByteArray := prog_10_method_6_code
def y_Y_request : MethodName := ⟨R_Y, "request", "()Z"⟩
abbrev b_Y_request : ByteArray := prog_10_method_7_code
def y_Y_pass : MethodName := ⟨R_Y, "pass", "(I)Z"⟩
abbrev b_Y_pass : ByteArray := prog_10_method_8_code
def y_Y_run : MethodName := ⟨R_Y, "run", "(I)I"⟩
abbrev b_Y_run : ByteArray := prog_10_method_21_code
def y_Y_step : MethodName := ⟨R_Y, "step", "(I)V"⟩
abbrev b_Y_step : ByteArray := prog_10_method_20_code
def y_Y_interrupts : MethodName := ⟨R_Y, "interrupts", "(I)Z"⟩
abbrev b_Y_interrupts : ByteArray := prog_10_method_14_code
def y_Y_found : MethodName := ⟨R_Y, "found", "(II)I"⟩
abbrev b_Y_found : ByteArray := prog_10_method_13_code
def y_Y_writeEntry : MethodName := ⟨R_Y, "writeEntry", "(I)V"⟩
abbrev b_Y_writeEntry : ByteArray := prog_10_method_12_code
def y_Y_writeNumber : MethodName := ⟨R_Y, "writeNumber", "(J)V"⟩
abbrev b_Y_writeNumber : ByteArray := prog_10_method_11_code
def y_Y_writeByte : MethodName := ⟨R_Y, "writeByte", "(I)V"⟩
abbrev b_Y_writeByte : ByteArray := prog_10_method_10_code
def y_Y_mix : MethodName := ⟨R_Y, "mix", "(II)I"⟩
abbrev b_Y_mix : ByteArray := prog_10_method_9_code
def y_Y_perform : MethodName := ⟨R_Y, "perform", "(IIII)V"⟩
abbrev b_Y_perform : ByteArray := prog_10_method_18_code
def y_Y_mod : MethodName := ⟨R_Y, "mod", "(II)I"⟩
abbrev b_Y_mod : ByteArray := prog_10_method_17_code
def y_Y_inputFor : MethodName := ⟨R_Y, "inputFor", "(I)I"⟩
abbrev b_Y_inputFor : ByteArray := prog_10_method_15_code
def y_Y_timeFor : MethodName := ⟨R_Y, "timeFor", "(I)I"⟩
abbrev b_Y_timeFor : ByteArray := prog_10_method_16_code
def y_Y_trace : MethodName := ⟨R_Y, "trace", "(II)V"⟩
abbrev b_Y_trace : ByteArray := prog_10_method_19_code
def y_Y_tell : MethodName := ⟨R_Y, "tell", "(II)I"⟩
abbrev b_Y_tell : ByteArray := prog_10_method_25_code
def y_Y_sealNow : MethodName := ⟨R_Y, "sealNow", "()I"⟩
abbrev b_Y_sealNow : ByteArray := prog_10_method_24_code
def y_Y_readAll : MethodName := ⟨R_Y, "readAll", "()Z"⟩
abbrev b_Y_readAll : ByteArray := prog_10_method_23_code
def y_Y_readNumber : MethodName := ⟨R_Y, "readNumber", "()J"⟩
abbrev b_Y_readNumber : ByteArray := prog_10_method_22_code
def y_Y_log : MethodName := ⟨R_Y, "log", "()I"⟩
abbrev b_Y_log : ByteArray := prog_10_method_26_code
def y_Y_at : MethodName := ⟨R_Y, "at", "(I)I"⟩
abbrev b_Y_at : ByteArray := prog_10_method_27_code
def y_Y_entries : MethodName := ⟨R_Y, "entries", "()I"⟩
abbrev b_Y_entries : ByteArray := prog_10_method_28_code
def y_Y_seal : MethodName := ⟨R_Y, "seal", "()I"⟩
abbrev b_Y_seal : ByteArray := prog_10_method_29_code
def y_Y_change : MethodName := ⟨R_Y, "change", "(II)Z"⟩
abbrev b_Y_change : ByteArray := prog_10_method_30_code
def y_Y_state : MethodName := ⟨R_Y, "state", "(II)I"⟩
abbrev b_Y_state : ByteArray := prog_10_method_31_code
def y_Y_cell : MethodName := ⟨R_Y, "cell", "(II)I"⟩
abbrev b_Y_cell : ByteArray := prog_10_method_32_code
def y_Y_sealed : MethodName := ⟨R_Y, "sealed", "(III)I"⟩
abbrev b_Y_sealed : ByteArray := prog_10_method_33_code
def y_L_law : MethodName := ⟨R_L, "law", "([I)Z"⟩
abbrev b_L_law : ByteArray := code
end
section
def zk_T : List Cond := [
  Cond.initialized R_L,
  Cond.initialized R_X,
  Cond.initialized R_P,
  Cond.initialized R_J,
  Cond.initialized R_O,
  Cond.initialized R_R,
  Cond.initialized R_T,
  Cond.initialized R_D,
  Cond.initialized R_M,
  Cond.initialized R_Y,
  Cond.initialized "java/util/Arrays",
  Cond.initialized "java/lang/System",
  Cond.classLink R_L 7 R_X,
  Cond.instantiable R_X 8,
  Cond.methodLink R_L 15 y_X_init,
  Cond.instanceMethod y_X_init,
  Cond.code y_X_init b_X_init 2 none,
  Cond.methodLink R_X 1 objectInit,
  Cond.instanceMethod objectInit,
  Cond.code objectInit ⟨#[0xb1]⟩ 1 none,
  Cond.classLink R_X 13 R_P,
  Cond.instantiable R_P 4,
  Cond.instanceMethod y_P_init,
  Cond.code y_P_init b_P_init 1 none,
  Cond.methodLink R_P 3 objectInit,
  Cond.fieldLink R_P 9 R_P "operations" "[I",
  Cond.fieldLink R_M 61 R_P "operations" "[I",
  Cond.fieldLink R_P 15 R_P "firsts" "[I",
  Cond.fieldLink R_M 64 R_P "firsts" "[I",
  Cond.fieldLink R_P 18 R_P "seconds" "[I",
  Cond.fieldLink R_M 67 R_P "seconds" "[I",
  Cond.fieldLink R_P 21 R_P "size" "I",
  Cond.fieldLink R_X 72 R_P "size" "I",
  Cond.laysFinal R_P R_P "operations" "[I",
  Cond.laysFinal R_P R_P "firsts" "[I",
  Cond.laysFinal R_P R_P "seconds" "[I",
  Cond.lays R_P R_P "size" "I",
  Cond.arrayClass Jvm.ClassFile.FieldType.int,
  Cond.classLink R_X 20 R_J,
  Cond.instantiable R_J 5,
  Cond.instanceMethod y_J_init,
  Cond.code y_J_init b_J_init 1 none,
  Cond.methodLink R_J 3 objectInit,
  Cond.fieldLink R_J 9 R_J "bytes" "[I",
  Cond.fieldLink R_D 49 R_J "bytes" "[I",
  Cond.fieldLink R_X 101 R_J "bytes" "[I",
  Cond.fieldLink R_J 19 R_J "size" "I",
  Cond.fieldLink R_X 92 R_J "size" "I",
  Cond.fieldLink R_J 22 R_J "made" "I",
  Cond.fieldLink R_X 105 R_J "made" "I",
  Cond.fieldLink R_J 15 R_J "sealMade" "I",
  Cond.fieldLink R_X 108 R_J "sealMade" "I",
  Cond.fieldLink R_J 25 R_J "stepBefore" "I",
  Cond.laysFinal R_J R_J "bytes" "[I",
  Cond.lays R_J R_J "size" "I",
  Cond.lays R_J R_J "made" "I",
  Cond.lays R_J R_J "sealMade" "I",
  Cond.lays R_J R_J "stepBefore" "I",
  Cond.classLink R_X 27 R_R,
  Cond.instantiable R_R 6,
  Cond.methodLink R_X 29 y_R_init,
  Cond.instanceMethod y_R_init,
  Cond.code y_R_init b_R_init 2 none,
  Cond.instanceMethod y_O_init,
  Cond.code y_O_init b_O_init 1 none,
  Cond.methodLink R_O 1 objectInit,
  Cond.fieldLink R_R 15 R_R "journal" "LRetoldRun$Journal;",
  Cond.fieldLink R_R 9 R_R "inputs" "[I",
  Cond.fieldLink R_R 19 R_R "waiting" "I",
  Cond.fieldLink R_R 23 R_R "timeBefore" "I",
  Cond.fieldLink R_R 26 R_R "requested" "Z",
  Cond.fieldLink R_X 85 R_R "requested" "Z",
  Cond.fieldLink R_R 30 R_R "clock" "I",
  Cond.fieldLink R_X 89 R_R "clock" "I",
  Cond.laysFinal R_R R_R "journal" "LRetoldRun$Journal;",
  Cond.laysFinal R_R R_R "inputs" "[I",
  Cond.lays R_R R_R "waiting" "I",
  Cond.lays R_R R_R "timeBefore" "I",
  Cond.lays R_R R_R "requested" "Z",
  Cond.lays R_R R_R "clock" "I",
  Cond.classLink R_X 36 R_T,
  Cond.instantiable R_T 2,
  Cond.classLink R_X 38 R_D,
  Cond.instantiable R_D 7,
  Cond.methodLink R_X 40 y_D_init,
  Cond.instanceMethod y_D_init,
  Cond.code y_D_init b_D_init 2 none,
  Cond.methodLink R_D 3 objectInit,
  Cond.fieldLink R_D 9 R_D "journal" "LRetoldRun$Journal;",
  Cond.fieldLink R_D 15 R_D "position" "I",
  Cond.fieldLink R_T 20 R_D "present" "Z",
  Cond.fieldLink R_D 30 R_D "present" "Z",
  Cond.fieldLink R_D 23 R_D "broken" "Z",
  Cond.fieldLink R_T 27 R_D "broken" "Z",
  Cond.fieldLink R_D 19 R_D "step" "J",
  Cond.fieldLink R_T 41 R_D "step" "J",
  Cond.fieldLink R_D 43 R_D "kind" "I",
  Cond.fieldLink R_T 45 R_D "kind" "I",
  Cond.fieldLink R_D 46 R_D "value" "I",
  Cond.fieldLink R_T 38 R_D "value" "I",
  Cond.laysFinal R_D R_D "journal" "LRetoldRun$Journal;",
  Cond.lays R_D R_D "position" "I",
  Cond.lays R_D R_D "present" "Z",
  Cond.lays R_D R_D "broken" "Z",
  Cond.lays R_D R_D "step" "J",
  Cond.lays R_D R_D "kind" "I",
  Cond.lays R_D R_D "value" "I",
  Cond.methodLink R_X 41 y_T_init,
  Cond.instanceMethod y_T_init,
  Cond.code y_T_init b_T_init 2 none,
  Cond.fieldLink R_T 9 R_T "reader" "LRetoldRun$JournalReader;",
  Cond.fieldLink R_T 30 R_T "timeBefore" "I",
  Cond.laysFinal R_T R_T "reader" "LRetoldRun$JournalReader;",
  Cond.lays R_T R_T "timeBefore" "I",
  Cond.classLink R_X 48 R_M,
  Cond.instantiable R_M 10,
  Cond.methodLink R_X 50 y_M_init,
  Cond.instanceMethod y_M_init,
  Cond.code y_M_init b_M_init 2 none,
  Cond.methodLink R_M 3 objectInit,
  Cond.fieldLink R_M 9 R_M "registers" "[I",
  Cond.fieldLink R_M 15 R_M "cells" "[I",
  Cond.fieldLink R_M 28 R_M "place" "I",
  Cond.fieldLink R_M 31 R_M "back" "I",
  Cond.fieldLink R_M 34 R_M "inside" "Z",
  Cond.fieldLink R_M 38 R_M "ended" "Z",
  Cond.fieldLink R_M 18 R_M "lot" "I",
  Cond.fieldLink R_M 41 R_M "output" "I",
  Cond.fieldLink R_M 44 R_M "trace" "I",
  Cond.fieldLink R_M 47 R_M "steps" "I",
  Cond.fieldLink R_X 120 R_M "steps" "I",
  Cond.laysFinal R_M R_M "registers" "[I",
  Cond.laysFinal R_M R_M "cells" "[I",
  Cond.lays R_M R_M "place" "I",
  Cond.lays R_M R_M "back" "I",
  Cond.lays R_M R_M "inside" "Z",
  Cond.lays R_M R_M "ended" "Z",
  Cond.lays R_M R_M "lot" "I",
  Cond.lays R_M R_M "output" "I",
  Cond.lays R_M R_M "trace" "I",
  Cond.lays R_M R_M "steps" "I",
  Cond.fieldLink R_X 7 R_X "seed" "I",
  Cond.fieldLink R_X 16 R_X "program" "LRetoldRun$Program;",
  Cond.fieldLink R_X 23 R_X "journal" "LRetoldRun$Journal;",
  Cond.fieldLink R_X 32 R_X "recording" "LRetoldRun$Recording;",
  Cond.fieldLink R_X 44 R_X "retelling" "LRetoldRun$Retelling;",
  Cond.fieldLink R_X 53 R_X "live" "LRetoldRun$Machine;",
  Cond.fieldLink R_X 57 R_X "told" "LRetoldRun$Machine;",
  Cond.fieldLink R_X 60 R_X "begun" "Z",
  Cond.laysFinal R_X R_X "seed" "I",
  Cond.laysFinal R_X R_X "program" "LRetoldRun$Program;",
  Cond.laysFinal R_X R_X "journal" "LRetoldRun$Journal;",
  Cond.laysFinal R_X R_X "recording" "LRetoldRun$Recording;",
  Cond.laysFinal R_X R_X "retelling" "LRetoldRun$Retelling;",
  Cond.laysFinal R_X R_X "live" "LRetoldRun$Machine;",
  Cond.laysFinal R_X R_X "told" "LRetoldRun$Machine;",
  Cond.lays R_X R_X "begun" "Z",
  Cond.methodLink R_L 21 y_X_add,
  Cond.instanceMethod y_X_add,
  Cond.selects R_X y_X_add y_X_add,
  Cond.code y_X_add b_X_add 4 (Option.some Jvm.ClassFile.FieldType.int),
  Cond.methodLink R_X 64 y_X_isInstruction,
  Cond.static y_X_isInstruction,
  Cond.code y_X_isInstruction b_X_isInstruction 3 (Option.some Jvm.ClassFile.FieldType.boolean),
  Cond.methodLink R_X 68 y_P_append,
  Cond.instanceMethod y_P_append,
  Cond.selects R_P y_P_append y_P_append,
  Cond.code y_P_append b_P_append 4 (Option.some Jvm.ClassFile.FieldType.int),
  Cond.methodLink R_L 26 y_X_clear,
  Cond.instanceMethod y_X_clear,
  Cond.selects R_X y_X_clear y_X_clear,
  Cond.code y_X_clear b_X_clear 2 (Option.some Jvm.ClassFile.FieldType.int),
  Cond.methodLink R_X 75 y_M_restart,
  Cond.instanceMethod y_M_restart,
  Cond.selects R_M y_M_restart y_M_restart,
  Cond.code y_M_restart b_M_restart 2 none,
  Cond.methodLink R_M 22 y_A_fill,
  Cond.static y_A_fill,
  Cond.code y_A_fill b_A_fill 4 none,
  Cond.methodLink R_X 78 y_J_restart,
  Cond.instanceMethod y_J_restart,
  Cond.selects R_J y_J_restart y_J_restart,
  Cond.code y_J_restart b_J_restart 1 none,
  Cond.methodLink R_X 80 y_R_restart,
  Cond.instanceMethod y_R_restart,
  Cond.selects R_R y_R_restart y_R_restart,
  Cond.code y_R_restart b_R_restart 1 none,
  Cond.methodLink R_L 31 y_X_input,
  Cond.instanceMethod y_X_input,
  Cond.selects R_X y_X_input y_X_input,
  Cond.code y_X_input b_X_input 2 (Option.some Jvm.ClassFile.FieldType.int),
  Cond.methodLink R_X 81 y_R_addInput,
  Cond.instanceMethod y_R_addInput,
  Cond.selects R_R y_R_addInput y_R_addInput,
  Cond.code y_R_addInput b_R_addInput 2 (Option.some Jvm.ClassFile.FieldType.int),
  Cond.methodLink R_L 36 y_X_request,
  Cond.instanceMethod y_X_request,
  Cond.selects R_X y_X_request y_X_request,
  Cond.code y_X_request b_X_request 1 (Option.some Jvm.ClassFile.FieldType.boolean),
  Cond.methodLink R_L 41 y_X_pass,
  Cond.instanceMethod y_X_pass,
  Cond.selects R_X y_X_pass y_X_pass,
  Cond.code y_X_pass b_X_pass 2 (Option.some Jvm.ClassFile.FieldType.boolean),
  Cond.constant R_X 88 1000000,
  Cond.methodLink R_L 46 y_X_run,
  Cond.instanceMethod y_X_run,
  Cond.selects R_X y_X_run y_X_run,
  Cond.code y_X_run b_X_run 4 (Option.some Jvm.ClassFile.FieldType.int),
  Cond.methodLink R_X 93 y_M_step,
  Cond.instanceMethod y_M_step,
  Cond.selects R_M y_M_step y_M_step,
  Cond.code y_M_step b_M_step 4 (Option.some Jvm.ClassFile.FieldType.boolean),
  Cond.methodLink R_M 50 y_P_has,
  Cond.instanceMethod y_P_has,
  Cond.selects R_P y_P_has y_P_has,
  Cond.code y_P_has b_P_has 2 (Option.some Jvm.ClassFile.FieldType.boolean),
  Cond.methodLink R_M 56 y_O_takeInterrupt,
  Cond.sameMethod R_O R_O "takeInterrupt" "(I)Z",
  Cond.selects R_R y_O_takeInterrupt y_R_takeInterrupt,
  Cond.instanceMethod y_R_takeInterrupt,
  Cond.code y_R_takeInterrupt b_R_takeInterrupt 2 (Option.some Jvm.ClassFile.FieldType.boolean),
  Cond.methodLink R_R 33 y_J_beginEntry,
  Cond.instanceMethod y_J_beginEntry,
  Cond.selects R_J y_J_beginEntry y_J_beginEntry,
  Cond.code y_J_beginEntry b_J_beginEntry 3 none,
  Cond.methodLink R_J 28 y_J_writeNumber,
  Cond.instanceMethod y_J_writeNumber,
  Cond.selects R_J y_J_writeNumber y_J_writeNumber,
  Cond.code y_J_writeNumber b_J_writeNumber 6 none,
  Cond.static y_X_sealByte,
  Cond.code y_X_sealByte b_X_sealByte 3 (Option.some Jvm.ClassFile.FieldType.int),
  Cond.methodLink R_X 142 y_X_mix,
  Cond.static y_X_mix,
  Cond.code y_X_mix b_X_mix 2 (Option.some Jvm.ClassFile.FieldType.int),
  Cond.constant R_X 141 16777619,
  Cond.selects R_T y_O_takeInterrupt y_T_takeInterrupt,
  Cond.instanceMethod y_T_takeInterrupt,
  Cond.code y_T_takeInterrupt b_T_takeInterrupt 2 (Option.some Jvm.ClassFile.FieldType.boolean),
  Cond.methodLink R_T 34 y_T_hasEntry,
  Cond.instanceMethod y_T_hasEntry,
  Cond.code y_T_hasEntry b_T_hasEntry 4 (Option.some Jvm.ClassFile.FieldType.boolean),
  Cond.methodLink R_T 24 y_D_readEntry,
  Cond.instanceMethod y_D_readEntry,
  Cond.selects R_D y_D_readEntry y_D_readEntry,
  Cond.code y_D_readEntry b_D_readEntry 3 none,
  Cond.methodLink R_D 33 y_J_has,
  Cond.instanceMethod y_J_has,
  Cond.selects R_J y_J_has y_J_has,
  Cond.code y_J_has b_J_has 2 (Option.some Jvm.ClassFile.FieldType.boolean),
  Cond.methodLink R_D 39 y_D_readNumber,
  Cond.instanceMethod y_D_readNumber,
  Cond.code y_D_readNumber b_D_readNumber 4 (Option.some Jvm.ClassFile.FieldType.int),
  Cond.methodLink R_M 70 y_M_perform,
  Cond.instanceMethod y_M_perform,
  Cond.code y_M_perform b_M_perform 7 none,
  Cond.methodLink R_M 77 y_O_takeInput,
  Cond.sameMethod R_O R_O "takeInput" "(I)I",
  Cond.selects R_R y_O_takeInput y_R_takeInput,
  Cond.instanceMethod y_R_takeInput,
  Cond.code y_R_takeInput b_R_takeInput 3 (Option.some Jvm.ClassFile.FieldType.int),
  Cond.methodLink R_R 39 arraycopyName,
  Cond.static arraycopyName,
  Cond.native arraycopyName,
  Cond.methodLink R_R 45 y_J_writeNumber,
  Cond.selects R_T y_O_takeInput y_T_takeInput,
  Cond.instanceMethod y_T_takeInput,
  Cond.code y_T_takeInput b_T_takeInput 3 (Option.some Jvm.ClassFile.FieldType.int),
  Cond.methodLink R_M 81 y_O_readClock,
  Cond.sameMethod R_O R_O "readClock" "(I)I",
  Cond.selects R_R y_O_readClock y_R_readClock,
  Cond.instanceMethod y_R_readClock,
  Cond.code y_R_readClock b_R_readClock 2 (Option.some Jvm.ClassFile.FieldType.int),
  Cond.selects R_T y_O_readClock y_T_readClock,
  Cond.instanceMethod y_T_readClock,
  Cond.code y_T_readClock b_T_readClock 2 (Option.some Jvm.ClassFile.FieldType.int),
  Cond.constant R_M 84 1103515245,
  Cond.methodLink R_M 89 y_M_turn,
  Cond.instanceMethod y_M_turn,
  Cond.code y_M_turn b_M_turn 4 none,
  Cond.methodLink R_M 74 y_M_followTrace,
  Cond.instanceMethod y_M_followTrace,
  Cond.code y_M_followTrace b_M_followTrace 3 none,
  Cond.methodLink R_L 50 y_X_log,
  Cond.instanceMethod y_X_log,
  Cond.selects R_X y_X_log y_X_log,
  Cond.code y_X_log b_X_log 1 (Option.some Jvm.ClassFile.FieldType.int),
  Cond.methodLink R_L 54 y_X_at,
  Cond.instanceMethod y_X_at,
  Cond.selects R_X y_X_at y_X_at,
  Cond.code y_X_at b_X_at 2 (Option.some Jvm.ClassFile.FieldType.int),
  Cond.methodLink R_X 97 y_J_has,
  Cond.methodLink R_L 58 y_X_entries,
  Cond.instanceMethod y_X_entries,
  Cond.selects R_X y_X_entries y_X_entries,
  Cond.code y_X_entries b_X_entries 1 (Option.some Jvm.ClassFile.FieldType.int),
  Cond.methodLink R_L 62 y_X_seal,
  Cond.instanceMethod y_X_seal,
  Cond.selects R_X y_X_seal y_X_seal,
  Cond.code y_X_seal b_X_seal 1 (Option.some Jvm.ClassFile.FieldType.int),
  Cond.methodLink R_L 66 y_X_change,
  Cond.instanceMethod y_X_change,
  Cond.selects R_X y_X_change y_X_change,
  Cond.code y_X_change b_X_change 3 (Option.some Jvm.ClassFile.FieldType.boolean),
  Cond.methodLink R_L 71 y_X_tell,
  Cond.instanceMethod y_X_tell,
  Cond.selects R_X y_X_tell y_X_tell,
  Cond.code y_X_tell b_X_tell 4 (Option.some Jvm.ClassFile.FieldType.int),
  Cond.methodLink R_X 111 y_J_sealNow,
  Cond.instanceMethod y_J_sealNow,
  Cond.selects R_J y_J_sealNow y_J_sealNow,
  Cond.code y_J_sealNow b_J_sealNow 3 (Option.some Jvm.ClassFile.FieldType.int),
  Cond.methodLink R_X 115 y_T_isReadable,
  Cond.instanceMethod y_T_isReadable,
  Cond.selects R_T y_T_isReadable y_T_isReadable,
  Cond.code y_T_isReadable b_T_isReadable 2 (Option.some Jvm.ClassFile.FieldType.boolean),
  Cond.methodLink R_T 15 y_D_rewind,
  Cond.instanceMethod y_D_rewind,
  Cond.selects R_D y_D_rewind y_D_rewind,
  Cond.code y_D_rewind b_D_rewind 1 none,
  Cond.methodLink R_D 27 y_D_readEntry,
  Cond.methodLink R_X 119 y_T_restart,
  Cond.instanceMethod y_T_restart,
  Cond.selects R_T y_T_restart y_T_restart,
  Cond.code y_T_restart b_T_restart 1 none,
  Cond.methodLink R_X 123 y_M_looksLike,
  Cond.instanceMethod y_M_looksLike,
  Cond.selects R_M y_M_looksLike y_M_looksLike,
  Cond.code y_M_looksLike b_M_looksLike 3 (Option.some Jvm.ClassFile.FieldType.boolean),
  Cond.methodLink R_M 93 y_M_stateOf,
  Cond.instanceMethod y_M_stateOf,
  Cond.selects R_M y_M_stateOf y_M_stateOf,
  Cond.code y_M_stateOf b_M_stateOf 2 (Option.some Jvm.ClassFile.FieldType.int),
  Cond.methodLink R_L 76 y_X_state,
  Cond.instanceMethod y_X_state,
  Cond.selects R_X y_X_state y_X_state,
  Cond.code y_X_state b_X_state 4 (Option.some Jvm.ClassFile.FieldType.int),
  Cond.methodLink R_X 127 y_X_machineOf,
  Cond.instanceMethod y_X_machineOf,
  Cond.code y_X_machineOf b_X_machineOf 2 (Option.some (Jvm.ClassFile.FieldType.object "RetoldRun$Machine")),
  Cond.methodLink R_X 131 y_M_stateOf,
  Cond.methodLink R_L 80 y_X_cell,
  Cond.instanceMethod y_X_cell,
  Cond.selects R_X y_X_cell y_X_cell,
  Cond.code y_X_cell b_X_cell 4 (Option.some Jvm.ClassFile.FieldType.int),
  Cond.methodLink R_X 134 y_M_cellOf,
  Cond.instanceMethod y_M_cellOf,
  Cond.selects R_M y_M_cellOf y_M_cellOf,
  Cond.code y_M_cellOf b_M_cellOf 2 (Option.some Jvm.ClassFile.FieldType.int),
  Cond.methodLink R_L 83 y_X_sealed,
  Cond.instanceMethod y_X_sealed,
  Cond.selects R_X y_X_sealed y_X_sealed,
  Cond.code y_X_sealed b_X_sealed 6 (Option.some Jvm.ClassFile.FieldType.int),
  Cond.methodLink R_X 137 y_X_sealByte,
  Cond.methodLink R_L 9 y_L_cell,
  Cond.static y_L_cell,
  Cond.code y_L_cell b_L_cell 2 (Option.some Jvm.ClassFile.FieldType.int),
  Cond.classLink R_L 18 R_Y,
  Cond.instantiable R_Y 21,
  Cond.methodLink R_L 20 y_Y_init,
  Cond.instanceMethod y_Y_init,
  Cond.code y_Y_init b_Y_init 2 none,
  Cond.methodLink R_Y 1 objectInit,
  Cond.fieldLink R_Y 42 R_Y "seed" "I",
  Cond.fieldLink R_Y 49 R_Y "size" "I",
  Cond.fieldLink R_Y 7 R_Y "operation" "[I",
  Cond.fieldLink R_Y 13 R_Y "first" "[I",
  Cond.fieldLink R_Y 16 R_Y "second" "[I",
  Cond.fieldLink R_Y 52 R_Y "begun" "Z",
  Cond.fieldLink R_Y 19 R_Y "machine" "[I",
  Cond.fieldLink R_Y 60 R_Y "clock" "I",
  Cond.fieldLink R_Y 63 R_Y "waiting" "I",
  Cond.fieldLink R_Y 22 R_Y "inputs" "[I",
  Cond.fieldLink R_Y 66 R_Y "asked" "Z",
  Cond.fieldLink R_Y 69 R_Y "bytes" "I",
  Cond.fieldLink R_Y 25 R_Y "log" "[I",
  Cond.fieldLink R_Y 72 R_Y "entries" "I",
  Cond.fieldLink R_Y 75 R_Y "lastStep" "I",
  Cond.fieldLink R_Y 28 R_Y "seal" "I",
  Cond.fieldLink R_Y 95 R_Y "read" "I",
  Cond.fieldLink R_Y 134 R_Y "at" "I",
  Cond.fieldLink R_Y 32 R_Y "steps" "[J",
  Cond.fieldLink R_Y 36 R_Y "kinds" "[I",
  Cond.fieldLink R_Y 39 R_Y "values" "[I",
  Cond.laysFinal R_Y R_Y "seed" "I",
  Cond.lays R_Y R_Y "size" "I",
  Cond.laysFinal R_Y R_Y "operation" "[I",
  Cond.laysFinal R_Y R_Y "first" "[I",
  Cond.laysFinal R_Y R_Y "second" "[I",
  Cond.lays R_Y R_Y "begun" "Z",
  Cond.laysFinal R_Y R_Y "machine" "[I",
  Cond.lays R_Y R_Y "clock" "I",
  Cond.lays R_Y R_Y "waiting" "I",
  Cond.laysFinal R_Y R_Y "inputs" "[I",
  Cond.lays R_Y R_Y "asked" "Z",
  Cond.lays R_Y R_Y "bytes" "I",
  Cond.laysFinal R_Y R_Y "log" "[I",
  Cond.lays R_Y R_Y "entries" "I",
  Cond.lays R_Y R_Y "lastStep" "I",
  Cond.lays R_Y R_Y "seal" "I",
  Cond.lays R_Y R_Y "read" "I",
  Cond.lays R_Y R_Y "at" "I",
  Cond.laysFinal R_Y R_Y "steps" "[J",
  Cond.laysFinal R_Y R_Y "kinds" "[I",
  Cond.laysFinal R_Y R_Y "values" "[I",
  Cond.arrayClass Jvm.ClassFile.FieldType.long,
  Cond.methodLink R_L 25 y_Y_add,
  Cond.instanceMethod y_Y_add,
  Cond.selects R_Y y_Y_add y_Y_add,
  Cond.code y_Y_add b_Y_add 5 (Option.some Jvm.ClassFile.FieldType.int),
  Cond.methodLink R_Y 45 y_Y_in,
  Cond.static y_Y_in,
  Cond.code y_Y_in b_Y_in 3 (Option.some Jvm.ClassFile.FieldType.boolean),
  Cond.methodLink R_L 30 y_Y_clear,
  Cond.instanceMethod y_Y_clear,
  Cond.selects R_Y y_Y_clear y_Y_clear,
  Cond.code y_Y_clear b_Y_clear 2 (Option.some Jvm.ClassFile.FieldType.int),
  Cond.methodLink R_Y 56 y_Y_anew,
  Cond.instanceMethod y_Y_anew,
  Cond.code y_Y_anew b_Y_anew 3 none,
  Cond.methodLink R_L 35 y_Y_input,
  Cond.instanceMethod y_Y_input,
  Cond.selects R_Y y_Y_input y_Y_input,
  Cond.code y_Y_input b_Y_input 2 (Option.some Jvm.ClassFile.FieldType.int),
  Cond.methodLink R_L 40 y_Y_request,
  Cond.instanceMethod y_Y_request,
  Cond.selects R_Y y_Y_request y_Y_request,
  Cond.code y_Y_request b_Y_request 2 (Option.some Jvm.ClassFile.FieldType.boolean),
  Cond.methodLink R_L 45 y_Y_pass,
  Cond.instanceMethod y_Y_pass,
  Cond.selects R_Y y_Y_pass y_Y_pass,
  Cond.code y_Y_pass b_Y_pass 2 (Option.some Jvm.ClassFile.FieldType.boolean),
  Cond.constant R_Y 78 1000000,
  Cond.methodLink R_L 49 y_Y_run,
  Cond.instanceMethod y_Y_run,
  Cond.selects R_Y y_Y_run y_Y_run,
  Cond.code y_Y_run b_Y_run 3 (Option.some Jvm.ClassFile.FieldType.int),
  Cond.methodLink R_Y 131 y_Y_step,
  Cond.instanceMethod y_Y_step,
  Cond.code y_Y_step b_Y_step 4 none,
  Cond.methodLink R_Y 119 y_Y_interrupts,
  Cond.instanceMethod y_Y_interrupts,
  Cond.code y_Y_interrupts b_Y_interrupts 3 (Option.some Jvm.ClassFile.FieldType.boolean),
  Cond.methodLink R_Y 98 y_Y_found,
  Cond.instanceMethod y_Y_found,
  Cond.code y_Y_found b_Y_found 5 (Option.some Jvm.ClassFile.FieldType.int),
  Cond.methodLink R_Y 101 y_Y_writeEntry,
  Cond.instanceMethod y_Y_writeEntry,
  Cond.code y_Y_writeEntry b_Y_writeEntry 3 none,
  Cond.constantLong R_Y 89 4,
  Cond.methodLink R_Y 91 y_Y_writeNumber,
  Cond.instanceMethod y_Y_writeNumber,
  Cond.code y_Y_writeNumber b_Y_writeNumber 5 none,
  Cond.constantLong R_Y 84 128,
  Cond.methodLink R_Y 86 y_Y_writeByte,
  Cond.instanceMethod y_Y_writeByte,
  Cond.code y_Y_writeByte b_Y_writeByte 2 none,
  Cond.methodLink R_Y 80 y_Y_mix,
  Cond.static y_Y_mix,
  Cond.code y_Y_mix b_Y_mix 3 (Option.some Jvm.ClassFile.FieldType.int),
  Cond.constant R_Y 79 16777619,
  Cond.methodLink R_Y 123 y_Y_perform,
  Cond.instanceMethod y_Y_perform,
  Cond.code y_Y_perform b_Y_perform 8 none,
  Cond.methodLink R_Y 108 y_Y_mod,
  Cond.static y_Y_mod,
  Cond.code y_Y_mod b_Y_mod 3 (Option.some Jvm.ClassFile.FieldType.int),
  Cond.methodLink R_Y 111 y_Y_inputFor,
  Cond.instanceMethod y_Y_inputFor,
  Cond.code y_Y_inputFor b_Y_inputFor 4 (Option.some Jvm.ClassFile.FieldType.int),
  Cond.constantLong R_Y 104 2,
  Cond.constantLong R_Y 106 (-2),
  Cond.methodLink R_Y 115 y_Y_timeFor,
  Cond.instanceMethod y_Y_timeFor,
  Cond.code y_Y_timeFor b_Y_timeFor 4 (Option.some Jvm.ClassFile.FieldType.int),
  Cond.constant R_Y 118 1103515245,
  Cond.methodLink R_Y 127 y_Y_trace,
  Cond.instanceMethod y_Y_trace,
  Cond.code y_Y_trace b_Y_trace 3 none,
  Cond.methodLink R_L 75 y_Y_tell,
  Cond.instanceMethod y_Y_tell,
  Cond.selects R_Y y_Y_tell y_Y_tell,
  Cond.code y_Y_tell b_Y_tell 6 (Option.some Jvm.ClassFile.FieldType.int),
  Cond.methodLink R_Y 147 y_Y_sealNow,
  Cond.instanceMethod y_Y_sealNow,
  Cond.code y_Y_sealNow b_Y_sealNow 3 (Option.some Jvm.ClassFile.FieldType.int),
  Cond.methodLink R_Y 151 y_Y_readAll,
  Cond.instanceMethod y_Y_readAll,
  Cond.code y_Y_readAll b_Y_readAll 8 (Option.some Jvm.ClassFile.FieldType.boolean),
  Cond.methodLink R_Y 141 y_Y_readNumber,
  Cond.instanceMethod y_Y_readNumber,
  Cond.code y_Y_readNumber b_Y_readNumber 5 (Option.some Jvm.ClassFile.FieldType.long),
  Cond.constantLong R_Y 137 (-1),
  Cond.constantLong R_Y 139 4294967295,
  Cond.constantLong R_Y 145 3,
  Cond.methodLink R_L 53 y_Y_log,
  Cond.instanceMethod y_Y_log,
  Cond.selects R_Y y_Y_log y_Y_log,
  Cond.code y_Y_log b_Y_log 1 (Option.some Jvm.ClassFile.FieldType.int),
  Cond.methodLink R_L 57 y_Y_at,
  Cond.instanceMethod y_Y_at,
  Cond.selects R_Y y_Y_at y_Y_at,
  Cond.code y_Y_at b_Y_at 2 (Option.some Jvm.ClassFile.FieldType.int),
  Cond.methodLink R_L 61 y_Y_entries,
  Cond.instanceMethod y_Y_entries,
  Cond.selects R_Y y_Y_entries y_Y_entries,
  Cond.code y_Y_entries b_Y_entries 1 (Option.some Jvm.ClassFile.FieldType.int),
  Cond.methodLink R_L 65 y_Y_seal,
  Cond.instanceMethod y_Y_seal,
  Cond.selects R_Y y_Y_seal y_Y_seal,
  Cond.code y_Y_seal b_Y_seal 1 (Option.some Jvm.ClassFile.FieldType.int),
  Cond.methodLink R_L 70 y_Y_change,
  Cond.instanceMethod y_Y_change,
  Cond.selects R_Y y_Y_change y_Y_change,
  Cond.code y_Y_change b_Y_change 3 (Option.some Jvm.ClassFile.FieldType.boolean),
  Cond.methodLink R_L 79 y_Y_state,
  Cond.instanceMethod y_Y_state,
  Cond.selects R_Y y_Y_state y_Y_state,
  Cond.code y_Y_state b_Y_state 3 (Option.some Jvm.ClassFile.FieldType.int),
  Cond.methodLink R_L 82 y_Y_cell,
  Cond.instanceMethod y_Y_cell,
  Cond.selects R_Y y_Y_cell y_Y_cell,
  Cond.code y_Y_cell b_Y_cell 3 (Option.some Jvm.ClassFile.FieldType.int),
  Cond.methodLink R_L 86 y_Y_sealed,
  Cond.instanceMethod y_Y_sealed,
  Cond.selects R_Y y_Y_sealed y_Y_sealed,
  Cond.code y_Y_sealed b_Y_sealed 6 (Option.some Jvm.ClassFile.FieldType.int),
  Cond.selects R_T y_T_hasEntry y_T_hasEntry,
  Cond.selects R_D y_D_readNumber y_D_readNumber,
  Cond.selects R_M y_M_perform y_M_perform,
  Cond.selects R_M y_M_turn y_M_turn,
  Cond.selects R_M y_M_followTrace y_M_followTrace,
  Cond.selects R_X y_X_machineOf y_X_machineOf,
  Cond.selects R_Y y_Y_anew y_Y_anew,
  Cond.selects R_Y y_Y_step y_Y_step,
  Cond.selects R_Y y_Y_interrupts y_Y_interrupts,
  Cond.selects R_Y y_Y_found y_Y_found,
  Cond.selects R_Y y_Y_writeEntry y_Y_writeEntry,
  Cond.selects R_Y y_Y_writeNumber y_Y_writeNumber,
  Cond.selects R_Y y_Y_writeByte y_Y_writeByte,
  Cond.selects R_Y y_Y_perform y_Y_perform,
  Cond.selects R_Y y_Y_inputFor y_Y_inputFor,
  Cond.selects R_Y y_Y_timeFor y_Y_timeFor,
  Cond.selects R_Y y_Y_trace y_Y_trace,
  Cond.selects R_Y y_Y_sealNow y_Y_sealNow,
  Cond.selects R_Y y_Y_readAll y_Y_readAll,
  Cond.selects R_Y y_Y_readNumber y_Y_readNumber]
set_option maxRecDepth 20000 in
theorem tw_0 : Cond.initialized R_L ∈ zk_T := List.mem_of_getElem? (i := 0) rfl
set_option maxRecDepth 20000 in
theorem tw_1 : Cond.initialized R_X ∈ zk_T := List.mem_of_getElem? (i := 1) rfl
set_option maxRecDepth 20000 in
theorem tw_2 : Cond.initialized R_P ∈ zk_T := List.mem_of_getElem? (i := 2) rfl
set_option maxRecDepth 20000 in
theorem tw_3 : Cond.initialized R_J ∈ zk_T := List.mem_of_getElem? (i := 3) rfl
set_option maxRecDepth 20000 in
theorem tw_4 : Cond.initialized R_O ∈ zk_T := List.mem_of_getElem? (i := 4) rfl
set_option maxRecDepth 20000 in
theorem tw_5 : Cond.initialized R_R ∈ zk_T := List.mem_of_getElem? (i := 5) rfl
set_option maxRecDepth 20000 in
theorem tw_6 : Cond.initialized R_T ∈ zk_T := List.mem_of_getElem? (i := 6) rfl
set_option maxRecDepth 20000 in
theorem tw_7 : Cond.initialized R_D ∈ zk_T := List.mem_of_getElem? (i := 7) rfl
set_option maxRecDepth 20000 in
theorem tw_8 : Cond.initialized R_M ∈ zk_T := List.mem_of_getElem? (i := 8) rfl
set_option maxRecDepth 20000 in
theorem tw_9 : Cond.initialized R_Y ∈ zk_T := List.mem_of_getElem? (i := 9) rfl
set_option maxRecDepth 20000 in
theorem tw_10 : Cond.initialized "java/util/Arrays" ∈ zk_T := List.mem_of_getElem? (i := 10) rfl
set_option maxRecDepth 20000 in
theorem tw_11 : Cond.initialized "java/lang/System" ∈ zk_T := List.mem_of_getElem? (i := 11) rfl
set_option maxRecDepth 20000 in
theorem tw_12 : Cond.classLink R_L 7 R_X ∈ zk_T := List.mem_of_getElem? (i := 12) rfl
set_option maxRecDepth 20000 in
theorem tw_13 : Cond.instantiable R_X 8 ∈ zk_T := List.mem_of_getElem? (i := 13) rfl
set_option maxRecDepth 20000 in
theorem tw_14 : Cond.methodLink R_L 15 y_X_init ∈ zk_T := List.mem_of_getElem? (i := 14) rfl
set_option maxRecDepth 20000 in
theorem tw_15 : Cond.instanceMethod y_X_init ∈ zk_T := List.mem_of_getElem? (i := 15) rfl
set_option maxRecDepth 20000 in
theorem tw_16 : Cond.code y_X_init b_X_init 2 none ∈ zk_T := List.mem_of_getElem? (i := 16) rfl
set_option maxRecDepth 20000 in
theorem tw_17 : Cond.methodLink R_X 1 objectInit ∈ zk_T := List.mem_of_getElem? (i := 17) rfl
set_option maxRecDepth 20000 in
theorem tw_18 : Cond.instanceMethod objectInit ∈ zk_T := List.mem_of_getElem? (i := 18) rfl
set_option maxRecDepth 20000 in
theorem tw_19 : Cond.code objectInit ⟨#[0xb1]⟩ 1 none ∈ zk_T := List.mem_of_getElem? (i := 19) rfl
set_option maxRecDepth 20000 in
theorem tw_20 : Cond.classLink R_X 13 R_P ∈ zk_T := List.mem_of_getElem? (i := 20) rfl
set_option maxRecDepth 20000 in
theorem tw_21 : Cond.instantiable R_P 4 ∈ zk_T := List.mem_of_getElem? (i := 21) rfl
set_option maxRecDepth 20000 in
theorem tw_22 : Cond.instanceMethod y_P_init ∈ zk_T := List.mem_of_getElem? (i := 22) rfl
set_option maxRecDepth 20000 in
theorem tw_23 : Cond.code y_P_init b_P_init 1 none ∈ zk_T := List.mem_of_getElem? (i := 23) rfl
set_option maxRecDepth 20000 in
theorem tw_24 : Cond.methodLink R_P 3 objectInit ∈ zk_T := List.mem_of_getElem? (i := 24) rfl
set_option maxRecDepth 20000 in
theorem tw_25 : Cond.fieldLink R_P 9 R_P "operations" "[I" ∈ zk_T := List.mem_of_getElem? (i := 25) rfl
set_option maxRecDepth 20000 in
theorem tw_26 : Cond.fieldLink R_M 61 R_P "operations" "[I" ∈ zk_T := List.mem_of_getElem? (i := 26) rfl
set_option maxRecDepth 20000 in
theorem tw_27 : Cond.fieldLink R_P 15 R_P "firsts" "[I" ∈ zk_T := List.mem_of_getElem? (i := 27) rfl
set_option maxRecDepth 20000 in
theorem tw_28 : Cond.fieldLink R_M 64 R_P "firsts" "[I" ∈ zk_T := List.mem_of_getElem? (i := 28) rfl
set_option maxRecDepth 20000 in
theorem tw_29 : Cond.fieldLink R_P 18 R_P "seconds" "[I" ∈ zk_T := List.mem_of_getElem? (i := 29) rfl
set_option maxRecDepth 20000 in
theorem tw_30 : Cond.fieldLink R_M 67 R_P "seconds" "[I" ∈ zk_T := List.mem_of_getElem? (i := 30) rfl
set_option maxRecDepth 20000 in
theorem tw_31 : Cond.fieldLink R_P 21 R_P "size" "I" ∈ zk_T := List.mem_of_getElem? (i := 31) rfl
set_option maxRecDepth 20000 in
theorem tw_32 : Cond.fieldLink R_X 72 R_P "size" "I" ∈ zk_T := List.mem_of_getElem? (i := 32) rfl
set_option maxRecDepth 20000 in
theorem tw_33 : Cond.laysFinal R_P R_P "operations" "[I" ∈ zk_T := List.mem_of_getElem? (i := 33) rfl
set_option maxRecDepth 20000 in
theorem tw_34 : Cond.laysFinal R_P R_P "firsts" "[I" ∈ zk_T := List.mem_of_getElem? (i := 34) rfl
set_option maxRecDepth 20000 in
theorem tw_35 : Cond.laysFinal R_P R_P "seconds" "[I" ∈ zk_T := List.mem_of_getElem? (i := 35) rfl
set_option maxRecDepth 20000 in
theorem tw_36 : Cond.lays R_P R_P "size" "I" ∈ zk_T := List.mem_of_getElem? (i := 36) rfl
set_option maxRecDepth 20000 in
theorem tw_37 : Cond.arrayClass Jvm.ClassFile.FieldType.int ∈ zk_T := List.mem_of_getElem? (i := 37) rfl
set_option maxRecDepth 20000 in
theorem tw_38 : Cond.classLink R_X 20 R_J ∈ zk_T := List.mem_of_getElem? (i := 38) rfl
set_option maxRecDepth 20000 in
theorem tw_39 : Cond.instantiable R_J 5 ∈ zk_T := List.mem_of_getElem? (i := 39) rfl
set_option maxRecDepth 20000 in
theorem tw_40 : Cond.instanceMethod y_J_init ∈ zk_T := List.mem_of_getElem? (i := 40) rfl
set_option maxRecDepth 20000 in
theorem tw_41 : Cond.code y_J_init b_J_init 1 none ∈ zk_T := List.mem_of_getElem? (i := 41) rfl
set_option maxRecDepth 20000 in
theorem tw_42 : Cond.methodLink R_J 3 objectInit ∈ zk_T := List.mem_of_getElem? (i := 42) rfl
set_option maxRecDepth 20000 in
theorem tw_43 : Cond.fieldLink R_J 9 R_J "bytes" "[I" ∈ zk_T := List.mem_of_getElem? (i := 43) rfl
set_option maxRecDepth 20000 in
theorem tw_44 : Cond.fieldLink R_D 49 R_J "bytes" "[I" ∈ zk_T := List.mem_of_getElem? (i := 44) rfl
set_option maxRecDepth 20000 in
theorem tw_45 : Cond.fieldLink R_X 101 R_J "bytes" "[I" ∈ zk_T := List.mem_of_getElem? (i := 45) rfl
set_option maxRecDepth 20000 in
theorem tw_46 : Cond.fieldLink R_J 19 R_J "size" "I" ∈ zk_T := List.mem_of_getElem? (i := 46) rfl
set_option maxRecDepth 20000 in
theorem tw_47 : Cond.fieldLink R_X 92 R_J "size" "I" ∈ zk_T := List.mem_of_getElem? (i := 47) rfl
set_option maxRecDepth 20000 in
theorem tw_48 : Cond.fieldLink R_J 22 R_J "made" "I" ∈ zk_T := List.mem_of_getElem? (i := 48) rfl
set_option maxRecDepth 20000 in
theorem tw_49 : Cond.fieldLink R_X 105 R_J "made" "I" ∈ zk_T := List.mem_of_getElem? (i := 49) rfl
set_option maxRecDepth 20000 in
theorem tw_50 : Cond.fieldLink R_J 15 R_J "sealMade" "I" ∈ zk_T := List.mem_of_getElem? (i := 50) rfl
set_option maxRecDepth 20000 in
theorem tw_51 : Cond.fieldLink R_X 108 R_J "sealMade" "I" ∈ zk_T := List.mem_of_getElem? (i := 51) rfl
set_option maxRecDepth 20000 in
theorem tw_52 : Cond.fieldLink R_J 25 R_J "stepBefore" "I" ∈ zk_T := List.mem_of_getElem? (i := 52) rfl
set_option maxRecDepth 20000 in
theorem tw_53 : Cond.laysFinal R_J R_J "bytes" "[I" ∈ zk_T := List.mem_of_getElem? (i := 53) rfl
set_option maxRecDepth 20000 in
theorem tw_54 : Cond.lays R_J R_J "size" "I" ∈ zk_T := List.mem_of_getElem? (i := 54) rfl
set_option maxRecDepth 20000 in
theorem tw_55 : Cond.lays R_J R_J "made" "I" ∈ zk_T := List.mem_of_getElem? (i := 55) rfl
set_option maxRecDepth 20000 in
theorem tw_56 : Cond.lays R_J R_J "sealMade" "I" ∈ zk_T := List.mem_of_getElem? (i := 56) rfl
set_option maxRecDepth 20000 in
theorem tw_57 : Cond.lays R_J R_J "stepBefore" "I" ∈ zk_T := List.mem_of_getElem? (i := 57) rfl
set_option maxRecDepth 20000 in
theorem tw_58 : Cond.classLink R_X 27 R_R ∈ zk_T := List.mem_of_getElem? (i := 58) rfl
set_option maxRecDepth 20000 in
theorem tw_59 : Cond.instantiable R_R 6 ∈ zk_T := List.mem_of_getElem? (i := 59) rfl
set_option maxRecDepth 20000 in
theorem tw_60 : Cond.methodLink R_X 29 y_R_init ∈ zk_T := List.mem_of_getElem? (i := 60) rfl
set_option maxRecDepth 20000 in
theorem tw_61 : Cond.instanceMethod y_R_init ∈ zk_T := List.mem_of_getElem? (i := 61) rfl
set_option maxRecDepth 20000 in
theorem tw_62 : Cond.code y_R_init b_R_init 2 none ∈ zk_T := List.mem_of_getElem? (i := 62) rfl
set_option maxRecDepth 20000 in
theorem tw_63 : Cond.instanceMethod y_O_init ∈ zk_T := List.mem_of_getElem? (i := 63) rfl
set_option maxRecDepth 20000 in
theorem tw_64 : Cond.code y_O_init b_O_init 1 none ∈ zk_T := List.mem_of_getElem? (i := 64) rfl
set_option maxRecDepth 20000 in
theorem tw_65 : Cond.methodLink R_O 1 objectInit ∈ zk_T := List.mem_of_getElem? (i := 65) rfl
set_option maxRecDepth 20000 in
theorem tw_66 : Cond.fieldLink R_R 15 R_R "journal" "LRetoldRun$Journal;" ∈ zk_T := List.mem_of_getElem? (i := 66) rfl
set_option maxRecDepth 20000 in
theorem tw_67 : Cond.fieldLink R_R 9 R_R "inputs" "[I" ∈ zk_T := List.mem_of_getElem? (i := 67) rfl
set_option maxRecDepth 20000 in
theorem tw_68 : Cond.fieldLink R_R 19 R_R "waiting" "I" ∈ zk_T := List.mem_of_getElem? (i := 68) rfl
set_option maxRecDepth 20000 in
theorem tw_69 : Cond.fieldLink R_R 23 R_R "timeBefore" "I" ∈ zk_T := List.mem_of_getElem? (i := 69) rfl
set_option maxRecDepth 20000 in
theorem tw_70 : Cond.fieldLink R_R 26 R_R "requested" "Z" ∈ zk_T := List.mem_of_getElem? (i := 70) rfl
set_option maxRecDepth 20000 in
theorem tw_71 : Cond.fieldLink R_X 85 R_R "requested" "Z" ∈ zk_T := List.mem_of_getElem? (i := 71) rfl
set_option maxRecDepth 20000 in
theorem tw_72 : Cond.fieldLink R_R 30 R_R "clock" "I" ∈ zk_T := List.mem_of_getElem? (i := 72) rfl
set_option maxRecDepth 20000 in
theorem tw_73 : Cond.fieldLink R_X 89 R_R "clock" "I" ∈ zk_T := List.mem_of_getElem? (i := 73) rfl
set_option maxRecDepth 20000 in
theorem tw_74 : Cond.laysFinal R_R R_R "journal" "LRetoldRun$Journal;" ∈ zk_T := List.mem_of_getElem? (i := 74) rfl
set_option maxRecDepth 20000 in
theorem tw_75 : Cond.laysFinal R_R R_R "inputs" "[I" ∈ zk_T := List.mem_of_getElem? (i := 75) rfl
set_option maxRecDepth 20000 in
theorem tw_76 : Cond.lays R_R R_R "waiting" "I" ∈ zk_T := List.mem_of_getElem? (i := 76) rfl
set_option maxRecDepth 20000 in
theorem tw_77 : Cond.lays R_R R_R "timeBefore" "I" ∈ zk_T := List.mem_of_getElem? (i := 77) rfl
set_option maxRecDepth 20000 in
theorem tw_78 : Cond.lays R_R R_R "requested" "Z" ∈ zk_T := List.mem_of_getElem? (i := 78) rfl
set_option maxRecDepth 20000 in
theorem tw_79 : Cond.lays R_R R_R "clock" "I" ∈ zk_T := List.mem_of_getElem? (i := 79) rfl
set_option maxRecDepth 20000 in
theorem tw_80 : Cond.classLink R_X 36 R_T ∈ zk_T := List.mem_of_getElem? (i := 80) rfl
set_option maxRecDepth 20000 in
theorem tw_81 : Cond.instantiable R_T 2 ∈ zk_T := List.mem_of_getElem? (i := 81) rfl
set_option maxRecDepth 20000 in
theorem tw_82 : Cond.classLink R_X 38 R_D ∈ zk_T := List.mem_of_getElem? (i := 82) rfl
set_option maxRecDepth 20000 in
theorem tw_83 : Cond.instantiable R_D 7 ∈ zk_T := List.mem_of_getElem? (i := 83) rfl
set_option maxRecDepth 20000 in
theorem tw_84 : Cond.methodLink R_X 40 y_D_init ∈ zk_T := List.mem_of_getElem? (i := 84) rfl
set_option maxRecDepth 20000 in
theorem tw_85 : Cond.instanceMethod y_D_init ∈ zk_T := List.mem_of_getElem? (i := 85) rfl
set_option maxRecDepth 20000 in
theorem tw_86 : Cond.code y_D_init b_D_init 2 none ∈ zk_T := List.mem_of_getElem? (i := 86) rfl
set_option maxRecDepth 20000 in
theorem tw_87 : Cond.methodLink R_D 3 objectInit ∈ zk_T := List.mem_of_getElem? (i := 87) rfl
set_option maxRecDepth 20000 in
theorem tw_88 : Cond.fieldLink R_D 9 R_D "journal" "LRetoldRun$Journal;" ∈ zk_T := List.mem_of_getElem? (i := 88) rfl
set_option maxRecDepth 20000 in
theorem tw_89 : Cond.fieldLink R_D 15 R_D "position" "I" ∈ zk_T := List.mem_of_getElem? (i := 89) rfl
set_option maxRecDepth 20000 in
theorem tw_90 : Cond.fieldLink R_T 20 R_D "present" "Z" ∈ zk_T := List.mem_of_getElem? (i := 90) rfl
set_option maxRecDepth 20000 in
theorem tw_91 : Cond.fieldLink R_D 30 R_D "present" "Z" ∈ zk_T := List.mem_of_getElem? (i := 91) rfl
set_option maxRecDepth 20000 in
theorem tw_92 : Cond.fieldLink R_D 23 R_D "broken" "Z" ∈ zk_T := List.mem_of_getElem? (i := 92) rfl
set_option maxRecDepth 20000 in
theorem tw_93 : Cond.fieldLink R_T 27 R_D "broken" "Z" ∈ zk_T := List.mem_of_getElem? (i := 93) rfl
set_option maxRecDepth 20000 in
theorem tw_94 : Cond.fieldLink R_D 19 R_D "step" "J" ∈ zk_T := List.mem_of_getElem? (i := 94) rfl
set_option maxRecDepth 20000 in
theorem tw_95 : Cond.fieldLink R_T 41 R_D "step" "J" ∈ zk_T := List.mem_of_getElem? (i := 95) rfl
set_option maxRecDepth 20000 in
theorem tw_96 : Cond.fieldLink R_D 43 R_D "kind" "I" ∈ zk_T := List.mem_of_getElem? (i := 96) rfl
set_option maxRecDepth 20000 in
theorem tw_97 : Cond.fieldLink R_T 45 R_D "kind" "I" ∈ zk_T := List.mem_of_getElem? (i := 97) rfl
set_option maxRecDepth 20000 in
theorem tw_98 : Cond.fieldLink R_D 46 R_D "value" "I" ∈ zk_T := List.mem_of_getElem? (i := 98) rfl
set_option maxRecDepth 20000 in
theorem tw_99 : Cond.fieldLink R_T 38 R_D "value" "I" ∈ zk_T := List.mem_of_getElem? (i := 99) rfl
set_option maxRecDepth 20000 in
theorem tw_100 : Cond.laysFinal R_D R_D "journal" "LRetoldRun$Journal;" ∈ zk_T := List.mem_of_getElem? (i := 100) rfl
set_option maxRecDepth 20000 in
theorem tw_101 : Cond.lays R_D R_D "position" "I" ∈ zk_T := List.mem_of_getElem? (i := 101) rfl
set_option maxRecDepth 20000 in
theorem tw_102 : Cond.lays R_D R_D "present" "Z" ∈ zk_T := List.mem_of_getElem? (i := 102) rfl
set_option maxRecDepth 20000 in
theorem tw_103 : Cond.lays R_D R_D "broken" "Z" ∈ zk_T := List.mem_of_getElem? (i := 103) rfl
set_option maxRecDepth 20000 in
theorem tw_104 : Cond.lays R_D R_D "step" "J" ∈ zk_T := List.mem_of_getElem? (i := 104) rfl
set_option maxRecDepth 20000 in
theorem tw_105 : Cond.lays R_D R_D "kind" "I" ∈ zk_T := List.mem_of_getElem? (i := 105) rfl
set_option maxRecDepth 20000 in
theorem tw_106 : Cond.lays R_D R_D "value" "I" ∈ zk_T := List.mem_of_getElem? (i := 106) rfl
set_option maxRecDepth 20000 in
theorem tw_107 : Cond.methodLink R_X 41 y_T_init ∈ zk_T := List.mem_of_getElem? (i := 107) rfl
set_option maxRecDepth 20000 in
theorem tw_108 : Cond.instanceMethod y_T_init ∈ zk_T := List.mem_of_getElem? (i := 108) rfl
set_option maxRecDepth 20000 in
theorem tw_109 : Cond.code y_T_init b_T_init 2 none ∈ zk_T := List.mem_of_getElem? (i := 109) rfl
set_option maxRecDepth 20000 in
theorem tw_110 : Cond.fieldLink R_T 9 R_T "reader" "LRetoldRun$JournalReader;" ∈ zk_T := List.mem_of_getElem? (i := 110) rfl
set_option maxRecDepth 20000 in
theorem tw_111 : Cond.fieldLink R_T 30 R_T "timeBefore" "I" ∈ zk_T := List.mem_of_getElem? (i := 111) rfl
set_option maxRecDepth 20000 in
theorem tw_112 : Cond.laysFinal R_T R_T "reader" "LRetoldRun$JournalReader;" ∈ zk_T := List.mem_of_getElem? (i := 112) rfl
set_option maxRecDepth 20000 in
theorem tw_113 : Cond.lays R_T R_T "timeBefore" "I" ∈ zk_T := List.mem_of_getElem? (i := 113) rfl
set_option maxRecDepth 20000 in
theorem tw_114 : Cond.classLink R_X 48 R_M ∈ zk_T := List.mem_of_getElem? (i := 114) rfl
set_option maxRecDepth 20000 in
theorem tw_115 : Cond.instantiable R_M 10 ∈ zk_T := List.mem_of_getElem? (i := 115) rfl
set_option maxRecDepth 20000 in
theorem tw_116 : Cond.methodLink R_X 50 y_M_init ∈ zk_T := List.mem_of_getElem? (i := 116) rfl
set_option maxRecDepth 20000 in
theorem tw_117 : Cond.instanceMethod y_M_init ∈ zk_T := List.mem_of_getElem? (i := 117) rfl
set_option maxRecDepth 20000 in
theorem tw_118 : Cond.code y_M_init b_M_init 2 none ∈ zk_T := List.mem_of_getElem? (i := 118) rfl
set_option maxRecDepth 20000 in
theorem tw_119 : Cond.methodLink R_M 3 objectInit ∈ zk_T := List.mem_of_getElem? (i := 119) rfl
set_option maxRecDepth 20000 in
theorem tw_120 : Cond.fieldLink R_M 9 R_M "registers" "[I" ∈ zk_T := List.mem_of_getElem? (i := 120) rfl
set_option maxRecDepth 20000 in
theorem tw_121 : Cond.fieldLink R_M 15 R_M "cells" "[I" ∈ zk_T := List.mem_of_getElem? (i := 121) rfl
set_option maxRecDepth 20000 in
theorem tw_122 : Cond.fieldLink R_M 28 R_M "place" "I" ∈ zk_T := List.mem_of_getElem? (i := 122) rfl
set_option maxRecDepth 20000 in
theorem tw_123 : Cond.fieldLink R_M 31 R_M "back" "I" ∈ zk_T := List.mem_of_getElem? (i := 123) rfl
set_option maxRecDepth 20000 in
theorem tw_124 : Cond.fieldLink R_M 34 R_M "inside" "Z" ∈ zk_T := List.mem_of_getElem? (i := 124) rfl
set_option maxRecDepth 20000 in
theorem tw_125 : Cond.fieldLink R_M 38 R_M "ended" "Z" ∈ zk_T := List.mem_of_getElem? (i := 125) rfl
set_option maxRecDepth 20000 in
theorem tw_126 : Cond.fieldLink R_M 18 R_M "lot" "I" ∈ zk_T := List.mem_of_getElem? (i := 126) rfl
set_option maxRecDepth 20000 in
theorem tw_127 : Cond.fieldLink R_M 41 R_M "output" "I" ∈ zk_T := List.mem_of_getElem? (i := 127) rfl
set_option maxRecDepth 20000 in
theorem tw_128 : Cond.fieldLink R_M 44 R_M "trace" "I" ∈ zk_T := List.mem_of_getElem? (i := 128) rfl
set_option maxRecDepth 20000 in
theorem tw_129 : Cond.fieldLink R_M 47 R_M "steps" "I" ∈ zk_T := List.mem_of_getElem? (i := 129) rfl
set_option maxRecDepth 20000 in
theorem tw_130 : Cond.fieldLink R_X 120 R_M "steps" "I" ∈ zk_T := List.mem_of_getElem? (i := 130) rfl
set_option maxRecDepth 20000 in
theorem tw_131 : Cond.laysFinal R_M R_M "registers" "[I" ∈ zk_T := List.mem_of_getElem? (i := 131) rfl
set_option maxRecDepth 20000 in
theorem tw_132 : Cond.laysFinal R_M R_M "cells" "[I" ∈ zk_T := List.mem_of_getElem? (i := 132) rfl
set_option maxRecDepth 20000 in
theorem tw_133 : Cond.lays R_M R_M "place" "I" ∈ zk_T := List.mem_of_getElem? (i := 133) rfl
set_option maxRecDepth 20000 in
theorem tw_134 : Cond.lays R_M R_M "back" "I" ∈ zk_T := List.mem_of_getElem? (i := 134) rfl
set_option maxRecDepth 20000 in
theorem tw_135 : Cond.lays R_M R_M "inside" "Z" ∈ zk_T := List.mem_of_getElem? (i := 135) rfl
set_option maxRecDepth 20000 in
theorem tw_136 : Cond.lays R_M R_M "ended" "Z" ∈ zk_T := List.mem_of_getElem? (i := 136) rfl
set_option maxRecDepth 20000 in
theorem tw_137 : Cond.lays R_M R_M "lot" "I" ∈ zk_T := List.mem_of_getElem? (i := 137) rfl
set_option maxRecDepth 20000 in
theorem tw_138 : Cond.lays R_M R_M "output" "I" ∈ zk_T := List.mem_of_getElem? (i := 138) rfl
set_option maxRecDepth 20000 in
theorem tw_139 : Cond.lays R_M R_M "trace" "I" ∈ zk_T := List.mem_of_getElem? (i := 139) rfl
set_option maxRecDepth 20000 in
theorem tw_140 : Cond.lays R_M R_M "steps" "I" ∈ zk_T := List.mem_of_getElem? (i := 140) rfl
set_option maxRecDepth 20000 in
theorem tw_141 : Cond.fieldLink R_X 7 R_X "seed" "I" ∈ zk_T := List.mem_of_getElem? (i := 141) rfl
set_option maxRecDepth 20000 in
theorem tw_142 : Cond.fieldLink R_X 16 R_X "program" "LRetoldRun$Program;" ∈ zk_T := List.mem_of_getElem? (i := 142) rfl
set_option maxRecDepth 20000 in
theorem tw_143 : Cond.fieldLink R_X 23 R_X "journal" "LRetoldRun$Journal;" ∈ zk_T := List.mem_of_getElem? (i := 143) rfl
set_option maxRecDepth 20000 in
theorem tw_144 : Cond.fieldLink R_X 32 R_X "recording" "LRetoldRun$Recording;" ∈ zk_T := List.mem_of_getElem? (i := 144) rfl
set_option maxRecDepth 20000 in
theorem tw_145 : Cond.fieldLink R_X 44 R_X "retelling" "LRetoldRun$Retelling;" ∈ zk_T := List.mem_of_getElem? (i := 145) rfl
set_option maxRecDepth 20000 in
theorem tw_146 : Cond.fieldLink R_X 53 R_X "live" "LRetoldRun$Machine;" ∈ zk_T := List.mem_of_getElem? (i := 146) rfl
set_option maxRecDepth 20000 in
theorem tw_147 : Cond.fieldLink R_X 57 R_X "told" "LRetoldRun$Machine;" ∈ zk_T := List.mem_of_getElem? (i := 147) rfl
set_option maxRecDepth 20000 in
theorem tw_148 : Cond.fieldLink R_X 60 R_X "begun" "Z" ∈ zk_T := List.mem_of_getElem? (i := 148) rfl
set_option maxRecDepth 20000 in
theorem tw_149 : Cond.laysFinal R_X R_X "seed" "I" ∈ zk_T := List.mem_of_getElem? (i := 149) rfl
set_option maxRecDepth 20000 in
theorem tw_150 : Cond.laysFinal R_X R_X "program" "LRetoldRun$Program;" ∈ zk_T := List.mem_of_getElem? (i := 150) rfl
set_option maxRecDepth 20000 in
theorem tw_151 : Cond.laysFinal R_X R_X "journal" "LRetoldRun$Journal;" ∈ zk_T := List.mem_of_getElem? (i := 151) rfl
set_option maxRecDepth 20000 in
theorem tw_152 : Cond.laysFinal R_X R_X "recording" "LRetoldRun$Recording;" ∈ zk_T := List.mem_of_getElem? (i := 152) rfl
set_option maxRecDepth 20000 in
theorem tw_153 : Cond.laysFinal R_X R_X "retelling" "LRetoldRun$Retelling;" ∈ zk_T := List.mem_of_getElem? (i := 153) rfl
set_option maxRecDepth 20000 in
theorem tw_154 : Cond.laysFinal R_X R_X "live" "LRetoldRun$Machine;" ∈ zk_T := List.mem_of_getElem? (i := 154) rfl
set_option maxRecDepth 20000 in
theorem tw_155 : Cond.laysFinal R_X R_X "told" "LRetoldRun$Machine;" ∈ zk_T := List.mem_of_getElem? (i := 155) rfl
set_option maxRecDepth 20000 in
theorem tw_156 : Cond.lays R_X R_X "begun" "Z" ∈ zk_T := List.mem_of_getElem? (i := 156) rfl
set_option maxRecDepth 20000 in
theorem tw_157 : Cond.methodLink R_L 21 y_X_add ∈ zk_T := List.mem_of_getElem? (i := 157) rfl
set_option maxRecDepth 20000 in
theorem tw_158 : Cond.instanceMethod y_X_add ∈ zk_T := List.mem_of_getElem? (i := 158) rfl
set_option maxRecDepth 20000 in
theorem tw_159 : Cond.selects R_X y_X_add y_X_add ∈ zk_T := List.mem_of_getElem? (i := 159) rfl
set_option maxRecDepth 20000 in
theorem tw_160 : Cond.code y_X_add b_X_add 4 (Option.some Jvm.ClassFile.FieldType.int) ∈ zk_T := List.mem_of_getElem? (i := 160) rfl
set_option maxRecDepth 20000 in
theorem tw_161 : Cond.methodLink R_X 64 y_X_isInstruction ∈ zk_T := List.mem_of_getElem? (i := 161) rfl
set_option maxRecDepth 20000 in
theorem tw_162 : Cond.static y_X_isInstruction ∈ zk_T := List.mem_of_getElem? (i := 162) rfl
set_option maxRecDepth 20000 in
theorem tw_163 : Cond.code y_X_isInstruction b_X_isInstruction 3 (Option.some Jvm.ClassFile.FieldType.boolean) ∈ zk_T := List.mem_of_getElem? (i := 163) rfl
set_option maxRecDepth 20000 in
theorem tw_164 : Cond.methodLink R_X 68 y_P_append ∈ zk_T := List.mem_of_getElem? (i := 164) rfl
set_option maxRecDepth 20000 in
theorem tw_165 : Cond.instanceMethod y_P_append ∈ zk_T := List.mem_of_getElem? (i := 165) rfl
set_option maxRecDepth 20000 in
theorem tw_166 : Cond.selects R_P y_P_append y_P_append ∈ zk_T := List.mem_of_getElem? (i := 166) rfl
set_option maxRecDepth 20000 in
theorem tw_167 : Cond.code y_P_append b_P_append 4 (Option.some Jvm.ClassFile.FieldType.int) ∈ zk_T := List.mem_of_getElem? (i := 167) rfl
set_option maxRecDepth 20000 in
theorem tw_168 : Cond.methodLink R_L 26 y_X_clear ∈ zk_T := List.mem_of_getElem? (i := 168) rfl
set_option maxRecDepth 20000 in
theorem tw_169 : Cond.instanceMethod y_X_clear ∈ zk_T := List.mem_of_getElem? (i := 169) rfl
set_option maxRecDepth 20000 in
theorem tw_170 : Cond.selects R_X y_X_clear y_X_clear ∈ zk_T := List.mem_of_getElem? (i := 170) rfl
set_option maxRecDepth 20000 in
theorem tw_171 : Cond.code y_X_clear b_X_clear 2 (Option.some Jvm.ClassFile.FieldType.int) ∈ zk_T := List.mem_of_getElem? (i := 171) rfl
set_option maxRecDepth 20000 in
theorem tw_172 : Cond.methodLink R_X 75 y_M_restart ∈ zk_T := List.mem_of_getElem? (i := 172) rfl
set_option maxRecDepth 20000 in
theorem tw_173 : Cond.instanceMethod y_M_restart ∈ zk_T := List.mem_of_getElem? (i := 173) rfl
set_option maxRecDepth 20000 in
theorem tw_174 : Cond.selects R_M y_M_restart y_M_restart ∈ zk_T := List.mem_of_getElem? (i := 174) rfl
set_option maxRecDepth 20000 in
theorem tw_175 : Cond.code y_M_restart b_M_restart 2 none ∈ zk_T := List.mem_of_getElem? (i := 175) rfl
set_option maxRecDepth 20000 in
theorem tw_176 : Cond.methodLink R_M 22 y_A_fill ∈ zk_T := List.mem_of_getElem? (i := 176) rfl
set_option maxRecDepth 20000 in
theorem tw_177 : Cond.static y_A_fill ∈ zk_T := List.mem_of_getElem? (i := 177) rfl
set_option maxRecDepth 20000 in
theorem tw_178 : Cond.code y_A_fill b_A_fill 4 none ∈ zk_T := List.mem_of_getElem? (i := 178) rfl
set_option maxRecDepth 20000 in
theorem tw_179 : Cond.methodLink R_X 78 y_J_restart ∈ zk_T := List.mem_of_getElem? (i := 179) rfl
set_option maxRecDepth 20000 in
theorem tw_180 : Cond.instanceMethod y_J_restart ∈ zk_T := List.mem_of_getElem? (i := 180) rfl
set_option maxRecDepth 20000 in
theorem tw_181 : Cond.selects R_J y_J_restart y_J_restart ∈ zk_T := List.mem_of_getElem? (i := 181) rfl
set_option maxRecDepth 20000 in
theorem tw_182 : Cond.code y_J_restart b_J_restart 1 none ∈ zk_T := List.mem_of_getElem? (i := 182) rfl
set_option maxRecDepth 20000 in
theorem tw_183 : Cond.methodLink R_X 80 y_R_restart ∈ zk_T := List.mem_of_getElem? (i := 183) rfl
set_option maxRecDepth 20000 in
theorem tw_184 : Cond.instanceMethod y_R_restart ∈ zk_T := List.mem_of_getElem? (i := 184) rfl
set_option maxRecDepth 20000 in
theorem tw_185 : Cond.selects R_R y_R_restart y_R_restart ∈ zk_T := List.mem_of_getElem? (i := 185) rfl
set_option maxRecDepth 20000 in
theorem tw_186 : Cond.code y_R_restart b_R_restart 1 none ∈ zk_T := List.mem_of_getElem? (i := 186) rfl
set_option maxRecDepth 20000 in
theorem tw_187 : Cond.methodLink R_L 31 y_X_input ∈ zk_T := List.mem_of_getElem? (i := 187) rfl
set_option maxRecDepth 20000 in
theorem tw_188 : Cond.instanceMethod y_X_input ∈ zk_T := List.mem_of_getElem? (i := 188) rfl
set_option maxRecDepth 20000 in
theorem tw_189 : Cond.selects R_X y_X_input y_X_input ∈ zk_T := List.mem_of_getElem? (i := 189) rfl
set_option maxRecDepth 20000 in
theorem tw_190 : Cond.code y_X_input b_X_input 2 (Option.some Jvm.ClassFile.FieldType.int) ∈ zk_T := List.mem_of_getElem? (i := 190) rfl
set_option maxRecDepth 20000 in
theorem tw_191 : Cond.methodLink R_X 81 y_R_addInput ∈ zk_T := List.mem_of_getElem? (i := 191) rfl
set_option maxRecDepth 20000 in
theorem tw_192 : Cond.instanceMethod y_R_addInput ∈ zk_T := List.mem_of_getElem? (i := 192) rfl
set_option maxRecDepth 20000 in
theorem tw_193 : Cond.selects R_R y_R_addInput y_R_addInput ∈ zk_T := List.mem_of_getElem? (i := 193) rfl
set_option maxRecDepth 20000 in
theorem tw_194 : Cond.code y_R_addInput b_R_addInput 2 (Option.some Jvm.ClassFile.FieldType.int) ∈ zk_T := List.mem_of_getElem? (i := 194) rfl
set_option maxRecDepth 20000 in
theorem tw_195 : Cond.methodLink R_L 36 y_X_request ∈ zk_T := List.mem_of_getElem? (i := 195) rfl
set_option maxRecDepth 20000 in
theorem tw_196 : Cond.instanceMethod y_X_request ∈ zk_T := List.mem_of_getElem? (i := 196) rfl
set_option maxRecDepth 20000 in
theorem tw_197 : Cond.selects R_X y_X_request y_X_request ∈ zk_T := List.mem_of_getElem? (i := 197) rfl
set_option maxRecDepth 20000 in
theorem tw_198 : Cond.code y_X_request b_X_request 1 (Option.some Jvm.ClassFile.FieldType.boolean) ∈ zk_T := List.mem_of_getElem? (i := 198) rfl
set_option maxRecDepth 20000 in
theorem tw_199 : Cond.methodLink R_L 41 y_X_pass ∈ zk_T := List.mem_of_getElem? (i := 199) rfl
set_option maxRecDepth 20000 in
theorem tw_200 : Cond.instanceMethod y_X_pass ∈ zk_T := List.mem_of_getElem? (i := 200) rfl
set_option maxRecDepth 20000 in
theorem tw_201 : Cond.selects R_X y_X_pass y_X_pass ∈ zk_T := List.mem_of_getElem? (i := 201) rfl
set_option maxRecDepth 20000 in
theorem tw_202 : Cond.code y_X_pass b_X_pass 2 (Option.some Jvm.ClassFile.FieldType.boolean) ∈ zk_T := List.mem_of_getElem? (i := 202) rfl
set_option maxRecDepth 20000 in
theorem tw_203 : Cond.constant R_X 88 1000000 ∈ zk_T := List.mem_of_getElem? (i := 203) rfl
set_option maxRecDepth 20000 in
theorem tw_204 : Cond.methodLink R_L 46 y_X_run ∈ zk_T := List.mem_of_getElem? (i := 204) rfl
set_option maxRecDepth 20000 in
theorem tw_205 : Cond.instanceMethod y_X_run ∈ zk_T := List.mem_of_getElem? (i := 205) rfl
set_option maxRecDepth 20000 in
theorem tw_206 : Cond.selects R_X y_X_run y_X_run ∈ zk_T := List.mem_of_getElem? (i := 206) rfl
set_option maxRecDepth 20000 in
theorem tw_207 : Cond.code y_X_run b_X_run 4 (Option.some Jvm.ClassFile.FieldType.int) ∈ zk_T := List.mem_of_getElem? (i := 207) rfl
set_option maxRecDepth 20000 in
theorem tw_208 : Cond.methodLink R_X 93 y_M_step ∈ zk_T := List.mem_of_getElem? (i := 208) rfl
set_option maxRecDepth 20000 in
theorem tw_209 : Cond.instanceMethod y_M_step ∈ zk_T := List.mem_of_getElem? (i := 209) rfl
set_option maxRecDepth 20000 in
theorem tw_210 : Cond.selects R_M y_M_step y_M_step ∈ zk_T := List.mem_of_getElem? (i := 210) rfl
set_option maxRecDepth 20000 in
theorem tw_211 : Cond.code y_M_step b_M_step 4 (Option.some Jvm.ClassFile.FieldType.boolean) ∈ zk_T := List.mem_of_getElem? (i := 211) rfl
set_option maxRecDepth 20000 in
theorem tw_212 : Cond.methodLink R_M 50 y_P_has ∈ zk_T := List.mem_of_getElem? (i := 212) rfl
set_option maxRecDepth 20000 in
theorem tw_213 : Cond.instanceMethod y_P_has ∈ zk_T := List.mem_of_getElem? (i := 213) rfl
set_option maxRecDepth 20000 in
theorem tw_214 : Cond.selects R_P y_P_has y_P_has ∈ zk_T := List.mem_of_getElem? (i := 214) rfl
set_option maxRecDepth 20000 in
theorem tw_215 : Cond.code y_P_has b_P_has 2 (Option.some Jvm.ClassFile.FieldType.boolean) ∈ zk_T := List.mem_of_getElem? (i := 215) rfl
set_option maxRecDepth 20000 in
theorem tw_216 : Cond.methodLink R_M 56 y_O_takeInterrupt ∈ zk_T := List.mem_of_getElem? (i := 216) rfl
set_option maxRecDepth 20000 in
theorem tw_217 : Cond.sameMethod R_O R_O "takeInterrupt" "(I)Z" ∈ zk_T := List.mem_of_getElem? (i := 217) rfl
set_option maxRecDepth 20000 in
theorem tw_218 : Cond.selects R_R y_O_takeInterrupt y_R_takeInterrupt ∈ zk_T := List.mem_of_getElem? (i := 218) rfl
set_option maxRecDepth 20000 in
theorem tw_219 : Cond.instanceMethod y_R_takeInterrupt ∈ zk_T := List.mem_of_getElem? (i := 219) rfl
set_option maxRecDepth 20000 in
theorem tw_220 : Cond.code y_R_takeInterrupt b_R_takeInterrupt 2 (Option.some Jvm.ClassFile.FieldType.boolean) ∈ zk_T := List.mem_of_getElem? (i := 220) rfl
set_option maxRecDepth 20000 in
theorem tw_221 : Cond.methodLink R_R 33 y_J_beginEntry ∈ zk_T := List.mem_of_getElem? (i := 221) rfl
set_option maxRecDepth 20000 in
theorem tw_222 : Cond.instanceMethod y_J_beginEntry ∈ zk_T := List.mem_of_getElem? (i := 222) rfl
set_option maxRecDepth 20000 in
theorem tw_223 : Cond.selects R_J y_J_beginEntry y_J_beginEntry ∈ zk_T := List.mem_of_getElem? (i := 223) rfl
set_option maxRecDepth 20000 in
theorem tw_224 : Cond.code y_J_beginEntry b_J_beginEntry 3 none ∈ zk_T := List.mem_of_getElem? (i := 224) rfl
set_option maxRecDepth 20000 in
theorem tw_225 : Cond.methodLink R_J 28 y_J_writeNumber ∈ zk_T := List.mem_of_getElem? (i := 225) rfl
set_option maxRecDepth 20000 in
theorem tw_226 : Cond.instanceMethod y_J_writeNumber ∈ zk_T := List.mem_of_getElem? (i := 226) rfl
set_option maxRecDepth 20000 in
theorem tw_227 : Cond.selects R_J y_J_writeNumber y_J_writeNumber ∈ zk_T := List.mem_of_getElem? (i := 227) rfl
set_option maxRecDepth 20000 in
theorem tw_228 : Cond.code y_J_writeNumber b_J_writeNumber 6 none ∈ zk_T := List.mem_of_getElem? (i := 228) rfl
set_option maxRecDepth 20000 in
theorem tw_229 : Cond.static y_X_sealByte ∈ zk_T := List.mem_of_getElem? (i := 229) rfl
set_option maxRecDepth 20000 in
theorem tw_230 : Cond.code y_X_sealByte b_X_sealByte 3 (Option.some Jvm.ClassFile.FieldType.int) ∈ zk_T := List.mem_of_getElem? (i := 230) rfl
set_option maxRecDepth 20000 in
theorem tw_231 : Cond.methodLink R_X 142 y_X_mix ∈ zk_T := List.mem_of_getElem? (i := 231) rfl
set_option maxRecDepth 20000 in
theorem tw_232 : Cond.static y_X_mix ∈ zk_T := List.mem_of_getElem? (i := 232) rfl
set_option maxRecDepth 20000 in
theorem tw_233 : Cond.code y_X_mix b_X_mix 2 (Option.some Jvm.ClassFile.FieldType.int) ∈ zk_T := List.mem_of_getElem? (i := 233) rfl
set_option maxRecDepth 20000 in
theorem tw_234 : Cond.constant R_X 141 16777619 ∈ zk_T := List.mem_of_getElem? (i := 234) rfl
set_option maxRecDepth 20000 in
theorem tw_235 : Cond.selects R_T y_O_takeInterrupt y_T_takeInterrupt ∈ zk_T := List.mem_of_getElem? (i := 235) rfl
set_option maxRecDepth 20000 in
theorem tw_236 : Cond.instanceMethod y_T_takeInterrupt ∈ zk_T := List.mem_of_getElem? (i := 236) rfl
set_option maxRecDepth 20000 in
theorem tw_237 : Cond.code y_T_takeInterrupt b_T_takeInterrupt 2 (Option.some Jvm.ClassFile.FieldType.boolean) ∈ zk_T := List.mem_of_getElem? (i := 237) rfl
set_option maxRecDepth 20000 in
theorem tw_238 : Cond.methodLink R_T 34 y_T_hasEntry ∈ zk_T := List.mem_of_getElem? (i := 238) rfl
set_option maxRecDepth 20000 in
theorem tw_239 : Cond.instanceMethod y_T_hasEntry ∈ zk_T := List.mem_of_getElem? (i := 239) rfl
set_option maxRecDepth 20000 in
theorem tw_240 : Cond.code y_T_hasEntry b_T_hasEntry 4 (Option.some Jvm.ClassFile.FieldType.boolean) ∈ zk_T := List.mem_of_getElem? (i := 240) rfl
set_option maxRecDepth 20000 in
theorem tw_241 : Cond.methodLink R_T 24 y_D_readEntry ∈ zk_T := List.mem_of_getElem? (i := 241) rfl
set_option maxRecDepth 20000 in
theorem tw_242 : Cond.instanceMethod y_D_readEntry ∈ zk_T := List.mem_of_getElem? (i := 242) rfl
set_option maxRecDepth 20000 in
theorem tw_243 : Cond.selects R_D y_D_readEntry y_D_readEntry ∈ zk_T := List.mem_of_getElem? (i := 243) rfl
set_option maxRecDepth 20000 in
theorem tw_244 : Cond.code y_D_readEntry b_D_readEntry 3 none ∈ zk_T := List.mem_of_getElem? (i := 244) rfl
set_option maxRecDepth 20000 in
theorem tw_245 : Cond.methodLink R_D 33 y_J_has ∈ zk_T := List.mem_of_getElem? (i := 245) rfl
set_option maxRecDepth 20000 in
theorem tw_246 : Cond.instanceMethod y_J_has ∈ zk_T := List.mem_of_getElem? (i := 246) rfl
set_option maxRecDepth 20000 in
theorem tw_247 : Cond.selects R_J y_J_has y_J_has ∈ zk_T := List.mem_of_getElem? (i := 247) rfl
set_option maxRecDepth 20000 in
theorem tw_248 : Cond.code y_J_has b_J_has 2 (Option.some Jvm.ClassFile.FieldType.boolean) ∈ zk_T := List.mem_of_getElem? (i := 248) rfl
set_option maxRecDepth 20000 in
theorem tw_249 : Cond.methodLink R_D 39 y_D_readNumber ∈ zk_T := List.mem_of_getElem? (i := 249) rfl
set_option maxRecDepth 20000 in
theorem tw_250 : Cond.instanceMethod y_D_readNumber ∈ zk_T := List.mem_of_getElem? (i := 250) rfl
set_option maxRecDepth 20000 in
theorem tw_251 : Cond.code y_D_readNumber b_D_readNumber 4 (Option.some Jvm.ClassFile.FieldType.int) ∈ zk_T := List.mem_of_getElem? (i := 251) rfl
set_option maxRecDepth 20000 in
theorem tw_252 : Cond.methodLink R_M 70 y_M_perform ∈ zk_T := List.mem_of_getElem? (i := 252) rfl
set_option maxRecDepth 20000 in
theorem tw_253 : Cond.instanceMethod y_M_perform ∈ zk_T := List.mem_of_getElem? (i := 253) rfl
set_option maxRecDepth 20000 in
theorem tw_254 : Cond.code y_M_perform b_M_perform 7 none ∈ zk_T := List.mem_of_getElem? (i := 254) rfl
set_option maxRecDepth 20000 in
theorem tw_255 : Cond.methodLink R_M 77 y_O_takeInput ∈ zk_T := List.mem_of_getElem? (i := 255) rfl
set_option maxRecDepth 20000 in
theorem tw_256 : Cond.sameMethod R_O R_O "takeInput" "(I)I" ∈ zk_T := List.mem_of_getElem? (i := 256) rfl
set_option maxRecDepth 20000 in
theorem tw_257 : Cond.selects R_R y_O_takeInput y_R_takeInput ∈ zk_T := List.mem_of_getElem? (i := 257) rfl
set_option maxRecDepth 20000 in
theorem tw_258 : Cond.instanceMethod y_R_takeInput ∈ zk_T := List.mem_of_getElem? (i := 258) rfl
set_option maxRecDepth 20000 in
theorem tw_259 : Cond.code y_R_takeInput b_R_takeInput 3 (Option.some Jvm.ClassFile.FieldType.int) ∈ zk_T := List.mem_of_getElem? (i := 259) rfl
set_option maxRecDepth 20000 in
theorem tw_260 : Cond.methodLink R_R 39 arraycopyName ∈ zk_T := List.mem_of_getElem? (i := 260) rfl
set_option maxRecDepth 20000 in
theorem tw_261 : Cond.static arraycopyName ∈ zk_T := List.mem_of_getElem? (i := 261) rfl
set_option maxRecDepth 20000 in
theorem tw_262 : Cond.native arraycopyName ∈ zk_T := List.mem_of_getElem? (i := 262) rfl
set_option maxRecDepth 20000 in
theorem tw_263 : Cond.methodLink R_R 45 y_J_writeNumber ∈ zk_T := List.mem_of_getElem? (i := 263) rfl
set_option maxRecDepth 20000 in
theorem tw_264 : Cond.selects R_T y_O_takeInput y_T_takeInput ∈ zk_T := List.mem_of_getElem? (i := 264) rfl
set_option maxRecDepth 20000 in
theorem tw_265 : Cond.instanceMethod y_T_takeInput ∈ zk_T := List.mem_of_getElem? (i := 265) rfl
set_option maxRecDepth 20000 in
theorem tw_266 : Cond.code y_T_takeInput b_T_takeInput 3 (Option.some Jvm.ClassFile.FieldType.int) ∈ zk_T := List.mem_of_getElem? (i := 266) rfl
set_option maxRecDepth 20000 in
theorem tw_267 : Cond.methodLink R_M 81 y_O_readClock ∈ zk_T := List.mem_of_getElem? (i := 267) rfl
set_option maxRecDepth 20000 in
theorem tw_268 : Cond.sameMethod R_O R_O "readClock" "(I)I" ∈ zk_T := List.mem_of_getElem? (i := 268) rfl
set_option maxRecDepth 20000 in
theorem tw_269 : Cond.selects R_R y_O_readClock y_R_readClock ∈ zk_T := List.mem_of_getElem? (i := 269) rfl
set_option maxRecDepth 20000 in
theorem tw_270 : Cond.instanceMethod y_R_readClock ∈ zk_T := List.mem_of_getElem? (i := 270) rfl
set_option maxRecDepth 20000 in
theorem tw_271 : Cond.code y_R_readClock b_R_readClock 2 (Option.some Jvm.ClassFile.FieldType.int) ∈ zk_T := List.mem_of_getElem? (i := 271) rfl
set_option maxRecDepth 20000 in
theorem tw_272 : Cond.selects R_T y_O_readClock y_T_readClock ∈ zk_T := List.mem_of_getElem? (i := 272) rfl
set_option maxRecDepth 20000 in
theorem tw_273 : Cond.instanceMethod y_T_readClock ∈ zk_T := List.mem_of_getElem? (i := 273) rfl
set_option maxRecDepth 20000 in
theorem tw_274 : Cond.code y_T_readClock b_T_readClock 2 (Option.some Jvm.ClassFile.FieldType.int) ∈ zk_T := List.mem_of_getElem? (i := 274) rfl
set_option maxRecDepth 20000 in
theorem tw_275 : Cond.constant R_M 84 1103515245 ∈ zk_T := List.mem_of_getElem? (i := 275) rfl
set_option maxRecDepth 20000 in
theorem tw_276 : Cond.methodLink R_M 89 y_M_turn ∈ zk_T := List.mem_of_getElem? (i := 276) rfl
set_option maxRecDepth 20000 in
theorem tw_277 : Cond.instanceMethod y_M_turn ∈ zk_T := List.mem_of_getElem? (i := 277) rfl
set_option maxRecDepth 20000 in
theorem tw_278 : Cond.code y_M_turn b_M_turn 4 none ∈ zk_T := List.mem_of_getElem? (i := 278) rfl
set_option maxRecDepth 20000 in
theorem tw_279 : Cond.methodLink R_M 74 y_M_followTrace ∈ zk_T := List.mem_of_getElem? (i := 279) rfl
set_option maxRecDepth 20000 in
theorem tw_280 : Cond.instanceMethod y_M_followTrace ∈ zk_T := List.mem_of_getElem? (i := 280) rfl
set_option maxRecDepth 20000 in
theorem tw_281 : Cond.code y_M_followTrace b_M_followTrace 3 none ∈ zk_T := List.mem_of_getElem? (i := 281) rfl
set_option maxRecDepth 20000 in
theorem tw_282 : Cond.methodLink R_L 50 y_X_log ∈ zk_T := List.mem_of_getElem? (i := 282) rfl
set_option maxRecDepth 20000 in
theorem tw_283 : Cond.instanceMethod y_X_log ∈ zk_T := List.mem_of_getElem? (i := 283) rfl
set_option maxRecDepth 20000 in
theorem tw_284 : Cond.selects R_X y_X_log y_X_log ∈ zk_T := List.mem_of_getElem? (i := 284) rfl
set_option maxRecDepth 20000 in
theorem tw_285 : Cond.code y_X_log b_X_log 1 (Option.some Jvm.ClassFile.FieldType.int) ∈ zk_T := List.mem_of_getElem? (i := 285) rfl
set_option maxRecDepth 20000 in
theorem tw_286 : Cond.methodLink R_L 54 y_X_at ∈ zk_T := List.mem_of_getElem? (i := 286) rfl
set_option maxRecDepth 20000 in
theorem tw_287 : Cond.instanceMethod y_X_at ∈ zk_T := List.mem_of_getElem? (i := 287) rfl
set_option maxRecDepth 20000 in
theorem tw_288 : Cond.selects R_X y_X_at y_X_at ∈ zk_T := List.mem_of_getElem? (i := 288) rfl
set_option maxRecDepth 20000 in
theorem tw_289 : Cond.code y_X_at b_X_at 2 (Option.some Jvm.ClassFile.FieldType.int) ∈ zk_T := List.mem_of_getElem? (i := 289) rfl
set_option maxRecDepth 20000 in
theorem tw_290 : Cond.methodLink R_X 97 y_J_has ∈ zk_T := List.mem_of_getElem? (i := 290) rfl
set_option maxRecDepth 20000 in
theorem tw_291 : Cond.methodLink R_L 58 y_X_entries ∈ zk_T := List.mem_of_getElem? (i := 291) rfl
set_option maxRecDepth 20000 in
theorem tw_292 : Cond.instanceMethod y_X_entries ∈ zk_T := List.mem_of_getElem? (i := 292) rfl
set_option maxRecDepth 20000 in
theorem tw_293 : Cond.selects R_X y_X_entries y_X_entries ∈ zk_T := List.mem_of_getElem? (i := 293) rfl
set_option maxRecDepth 20000 in
theorem tw_294 : Cond.code y_X_entries b_X_entries 1 (Option.some Jvm.ClassFile.FieldType.int) ∈ zk_T := List.mem_of_getElem? (i := 294) rfl
set_option maxRecDepth 20000 in
theorem tw_295 : Cond.methodLink R_L 62 y_X_seal ∈ zk_T := List.mem_of_getElem? (i := 295) rfl
set_option maxRecDepth 20000 in
theorem tw_296 : Cond.instanceMethod y_X_seal ∈ zk_T := List.mem_of_getElem? (i := 296) rfl
set_option maxRecDepth 20000 in
theorem tw_297 : Cond.selects R_X y_X_seal y_X_seal ∈ zk_T := List.mem_of_getElem? (i := 297) rfl
set_option maxRecDepth 20000 in
theorem tw_298 : Cond.code y_X_seal b_X_seal 1 (Option.some Jvm.ClassFile.FieldType.int) ∈ zk_T := List.mem_of_getElem? (i := 298) rfl
set_option maxRecDepth 20000 in
theorem tw_299 : Cond.methodLink R_L 66 y_X_change ∈ zk_T := List.mem_of_getElem? (i := 299) rfl
set_option maxRecDepth 20000 in
theorem tw_300 : Cond.instanceMethod y_X_change ∈ zk_T := List.mem_of_getElem? (i := 300) rfl
set_option maxRecDepth 20000 in
theorem tw_301 : Cond.selects R_X y_X_change y_X_change ∈ zk_T := List.mem_of_getElem? (i := 301) rfl
set_option maxRecDepth 20000 in
theorem tw_302 : Cond.code y_X_change b_X_change 3 (Option.some Jvm.ClassFile.FieldType.boolean) ∈ zk_T := List.mem_of_getElem? (i := 302) rfl
set_option maxRecDepth 20000 in
theorem tw_303 : Cond.methodLink R_L 71 y_X_tell ∈ zk_T := List.mem_of_getElem? (i := 303) rfl
set_option maxRecDepth 20000 in
theorem tw_304 : Cond.instanceMethod y_X_tell ∈ zk_T := List.mem_of_getElem? (i := 304) rfl
set_option maxRecDepth 20000 in
theorem tw_305 : Cond.selects R_X y_X_tell y_X_tell ∈ zk_T := List.mem_of_getElem? (i := 305) rfl
set_option maxRecDepth 20000 in
theorem tw_306 : Cond.code y_X_tell b_X_tell 4 (Option.some Jvm.ClassFile.FieldType.int) ∈ zk_T := List.mem_of_getElem? (i := 306) rfl
set_option maxRecDepth 20000 in
theorem tw_307 : Cond.methodLink R_X 111 y_J_sealNow ∈ zk_T := List.mem_of_getElem? (i := 307) rfl
set_option maxRecDepth 20000 in
theorem tw_308 : Cond.instanceMethod y_J_sealNow ∈ zk_T := List.mem_of_getElem? (i := 308) rfl
set_option maxRecDepth 20000 in
theorem tw_309 : Cond.selects R_J y_J_sealNow y_J_sealNow ∈ zk_T := List.mem_of_getElem? (i := 309) rfl
set_option maxRecDepth 20000 in
theorem tw_310 : Cond.code y_J_sealNow b_J_sealNow 3 (Option.some Jvm.ClassFile.FieldType.int) ∈ zk_T := List.mem_of_getElem? (i := 310) rfl
set_option maxRecDepth 20000 in
theorem tw_311 : Cond.methodLink R_X 115 y_T_isReadable ∈ zk_T := List.mem_of_getElem? (i := 311) rfl
set_option maxRecDepth 20000 in
theorem tw_312 : Cond.instanceMethod y_T_isReadable ∈ zk_T := List.mem_of_getElem? (i := 312) rfl
set_option maxRecDepth 20000 in
theorem tw_313 : Cond.selects R_T y_T_isReadable y_T_isReadable ∈ zk_T := List.mem_of_getElem? (i := 313) rfl
set_option maxRecDepth 20000 in
theorem tw_314 : Cond.code y_T_isReadable b_T_isReadable 2 (Option.some Jvm.ClassFile.FieldType.boolean) ∈ zk_T := List.mem_of_getElem? (i := 314) rfl
set_option maxRecDepth 20000 in
theorem tw_315 : Cond.methodLink R_T 15 y_D_rewind ∈ zk_T := List.mem_of_getElem? (i := 315) rfl
set_option maxRecDepth 20000 in
theorem tw_316 : Cond.instanceMethod y_D_rewind ∈ zk_T := List.mem_of_getElem? (i := 316) rfl
set_option maxRecDepth 20000 in
theorem tw_317 : Cond.selects R_D y_D_rewind y_D_rewind ∈ zk_T := List.mem_of_getElem? (i := 317) rfl
set_option maxRecDepth 20000 in
theorem tw_318 : Cond.code y_D_rewind b_D_rewind 1 none ∈ zk_T := List.mem_of_getElem? (i := 318) rfl
set_option maxRecDepth 20000 in
theorem tw_319 : Cond.methodLink R_D 27 y_D_readEntry ∈ zk_T := List.mem_of_getElem? (i := 319) rfl
set_option maxRecDepth 20000 in
theorem tw_320 : Cond.methodLink R_X 119 y_T_restart ∈ zk_T := List.mem_of_getElem? (i := 320) rfl
set_option maxRecDepth 20000 in
theorem tw_321 : Cond.instanceMethod y_T_restart ∈ zk_T := List.mem_of_getElem? (i := 321) rfl
set_option maxRecDepth 20000 in
theorem tw_322 : Cond.selects R_T y_T_restart y_T_restart ∈ zk_T := List.mem_of_getElem? (i := 322) rfl
set_option maxRecDepth 20000 in
theorem tw_323 : Cond.code y_T_restart b_T_restart 1 none ∈ zk_T := List.mem_of_getElem? (i := 323) rfl
set_option maxRecDepth 20000 in
theorem tw_324 : Cond.methodLink R_X 123 y_M_looksLike ∈ zk_T := List.mem_of_getElem? (i := 324) rfl
set_option maxRecDepth 20000 in
theorem tw_325 : Cond.instanceMethod y_M_looksLike ∈ zk_T := List.mem_of_getElem? (i := 325) rfl
set_option maxRecDepth 20000 in
theorem tw_326 : Cond.selects R_M y_M_looksLike y_M_looksLike ∈ zk_T := List.mem_of_getElem? (i := 326) rfl
set_option maxRecDepth 20000 in
theorem tw_327 : Cond.code y_M_looksLike b_M_looksLike 3 (Option.some Jvm.ClassFile.FieldType.boolean) ∈ zk_T := List.mem_of_getElem? (i := 327) rfl
set_option maxRecDepth 20000 in
theorem tw_328 : Cond.methodLink R_M 93 y_M_stateOf ∈ zk_T := List.mem_of_getElem? (i := 328) rfl
set_option maxRecDepth 20000 in
theorem tw_329 : Cond.instanceMethod y_M_stateOf ∈ zk_T := List.mem_of_getElem? (i := 329) rfl
set_option maxRecDepth 20000 in
theorem tw_330 : Cond.selects R_M y_M_stateOf y_M_stateOf ∈ zk_T := List.mem_of_getElem? (i := 330) rfl
set_option maxRecDepth 20000 in
theorem tw_331 : Cond.code y_M_stateOf b_M_stateOf 2 (Option.some Jvm.ClassFile.FieldType.int) ∈ zk_T := List.mem_of_getElem? (i := 331) rfl
set_option maxRecDepth 20000 in
theorem tw_332 : Cond.methodLink R_L 76 y_X_state ∈ zk_T := List.mem_of_getElem? (i := 332) rfl
set_option maxRecDepth 20000 in
theorem tw_333 : Cond.instanceMethod y_X_state ∈ zk_T := List.mem_of_getElem? (i := 333) rfl
set_option maxRecDepth 20000 in
theorem tw_334 : Cond.selects R_X y_X_state y_X_state ∈ zk_T := List.mem_of_getElem? (i := 334) rfl
set_option maxRecDepth 20000 in
theorem tw_335 : Cond.code y_X_state b_X_state 4 (Option.some Jvm.ClassFile.FieldType.int) ∈ zk_T := List.mem_of_getElem? (i := 335) rfl
set_option maxRecDepth 20000 in
theorem tw_336 : Cond.methodLink R_X 127 y_X_machineOf ∈ zk_T := List.mem_of_getElem? (i := 336) rfl
set_option maxRecDepth 20000 in
theorem tw_337 : Cond.instanceMethod y_X_machineOf ∈ zk_T := List.mem_of_getElem? (i := 337) rfl
set_option maxRecDepth 20000 in
theorem tw_338 : Cond.code y_X_machineOf b_X_machineOf 2 (Option.some (Jvm.ClassFile.FieldType.object "RetoldRun$Machine")) ∈ zk_T := List.mem_of_getElem? (i := 338) rfl
set_option maxRecDepth 20000 in
theorem tw_339 : Cond.methodLink R_X 131 y_M_stateOf ∈ zk_T := List.mem_of_getElem? (i := 339) rfl
set_option maxRecDepth 20000 in
theorem tw_340 : Cond.methodLink R_L 80 y_X_cell ∈ zk_T := List.mem_of_getElem? (i := 340) rfl
set_option maxRecDepth 20000 in
theorem tw_341 : Cond.instanceMethod y_X_cell ∈ zk_T := List.mem_of_getElem? (i := 341) rfl
set_option maxRecDepth 20000 in
theorem tw_342 : Cond.selects R_X y_X_cell y_X_cell ∈ zk_T := List.mem_of_getElem? (i := 342) rfl
set_option maxRecDepth 20000 in
theorem tw_343 : Cond.code y_X_cell b_X_cell 4 (Option.some Jvm.ClassFile.FieldType.int) ∈ zk_T := List.mem_of_getElem? (i := 343) rfl
set_option maxRecDepth 20000 in
theorem tw_344 : Cond.methodLink R_X 134 y_M_cellOf ∈ zk_T := List.mem_of_getElem? (i := 344) rfl
set_option maxRecDepth 20000 in
theorem tw_345 : Cond.instanceMethod y_M_cellOf ∈ zk_T := List.mem_of_getElem? (i := 345) rfl
set_option maxRecDepth 20000 in
theorem tw_346 : Cond.selects R_M y_M_cellOf y_M_cellOf ∈ zk_T := List.mem_of_getElem? (i := 346) rfl
set_option maxRecDepth 20000 in
theorem tw_347 : Cond.code y_M_cellOf b_M_cellOf 2 (Option.some Jvm.ClassFile.FieldType.int) ∈ zk_T := List.mem_of_getElem? (i := 347) rfl
set_option maxRecDepth 20000 in
theorem tw_348 : Cond.methodLink R_L 83 y_X_sealed ∈ zk_T := List.mem_of_getElem? (i := 348) rfl
set_option maxRecDepth 20000 in
theorem tw_349 : Cond.instanceMethod y_X_sealed ∈ zk_T := List.mem_of_getElem? (i := 349) rfl
set_option maxRecDepth 20000 in
theorem tw_350 : Cond.selects R_X y_X_sealed y_X_sealed ∈ zk_T := List.mem_of_getElem? (i := 350) rfl
set_option maxRecDepth 20000 in
theorem tw_351 : Cond.code y_X_sealed b_X_sealed 6 (Option.some Jvm.ClassFile.FieldType.int) ∈ zk_T := List.mem_of_getElem? (i := 351) rfl
set_option maxRecDepth 20000 in
theorem tw_352 : Cond.methodLink R_X 137 y_X_sealByte ∈ zk_T := List.mem_of_getElem? (i := 352) rfl
set_option maxRecDepth 20000 in
theorem tw_353 : Cond.methodLink R_L 9 y_L_cell ∈ zk_T := List.mem_of_getElem? (i := 353) rfl
set_option maxRecDepth 20000 in
theorem tw_354 : Cond.static y_L_cell ∈ zk_T := List.mem_of_getElem? (i := 354) rfl
set_option maxRecDepth 20000 in
theorem tw_355 : Cond.code y_L_cell b_L_cell 2 (Option.some Jvm.ClassFile.FieldType.int) ∈ zk_T := List.mem_of_getElem? (i := 355) rfl
set_option maxRecDepth 20000 in
theorem tw_356 : Cond.classLink R_L 18 R_Y ∈ zk_T := List.mem_of_getElem? (i := 356) rfl
set_option maxRecDepth 20000 in
theorem tw_357 : Cond.instantiable R_Y 21 ∈ zk_T := List.mem_of_getElem? (i := 357) rfl
set_option maxRecDepth 20000 in
theorem tw_358 : Cond.methodLink R_L 20 y_Y_init ∈ zk_T := List.mem_of_getElem? (i := 358) rfl
set_option maxRecDepth 20000 in
theorem tw_359 : Cond.instanceMethod y_Y_init ∈ zk_T := List.mem_of_getElem? (i := 359) rfl
set_option maxRecDepth 20000 in
theorem tw_360 : Cond.code y_Y_init b_Y_init 2 none ∈ zk_T := List.mem_of_getElem? (i := 360) rfl
set_option maxRecDepth 20000 in
theorem tw_361 : Cond.methodLink R_Y 1 objectInit ∈ zk_T := List.mem_of_getElem? (i := 361) rfl
set_option maxRecDepth 20000 in
theorem tw_362 : Cond.fieldLink R_Y 42 R_Y "seed" "I" ∈ zk_T := List.mem_of_getElem? (i := 362) rfl
set_option maxRecDepth 20000 in
theorem tw_363 : Cond.fieldLink R_Y 49 R_Y "size" "I" ∈ zk_T := List.mem_of_getElem? (i := 363) rfl
set_option maxRecDepth 20000 in
theorem tw_364 : Cond.fieldLink R_Y 7 R_Y "operation" "[I" ∈ zk_T := List.mem_of_getElem? (i := 364) rfl
set_option maxRecDepth 20000 in
theorem tw_365 : Cond.fieldLink R_Y 13 R_Y "first" "[I" ∈ zk_T := List.mem_of_getElem? (i := 365) rfl
set_option maxRecDepth 20000 in
theorem tw_366 : Cond.fieldLink R_Y 16 R_Y "second" "[I" ∈ zk_T := List.mem_of_getElem? (i := 366) rfl
set_option maxRecDepth 20000 in
theorem tw_367 : Cond.fieldLink R_Y 52 R_Y "begun" "Z" ∈ zk_T := List.mem_of_getElem? (i := 367) rfl
set_option maxRecDepth 20000 in
theorem tw_368 : Cond.fieldLink R_Y 19 R_Y "machine" "[I" ∈ zk_T := List.mem_of_getElem? (i := 368) rfl
set_option maxRecDepth 20000 in
theorem tw_369 : Cond.fieldLink R_Y 60 R_Y "clock" "I" ∈ zk_T := List.mem_of_getElem? (i := 369) rfl
set_option maxRecDepth 20000 in
theorem tw_370 : Cond.fieldLink R_Y 63 R_Y "waiting" "I" ∈ zk_T := List.mem_of_getElem? (i := 370) rfl
set_option maxRecDepth 20000 in
theorem tw_371 : Cond.fieldLink R_Y 22 R_Y "inputs" "[I" ∈ zk_T := List.mem_of_getElem? (i := 371) rfl
set_option maxRecDepth 20000 in
theorem tw_372 : Cond.fieldLink R_Y 66 R_Y "asked" "Z" ∈ zk_T := List.mem_of_getElem? (i := 372) rfl
set_option maxRecDepth 20000 in
theorem tw_373 : Cond.fieldLink R_Y 69 R_Y "bytes" "I" ∈ zk_T := List.mem_of_getElem? (i := 373) rfl
set_option maxRecDepth 20000 in
theorem tw_374 : Cond.fieldLink R_Y 25 R_Y "log" "[I" ∈ zk_T := List.mem_of_getElem? (i := 374) rfl
set_option maxRecDepth 20000 in
theorem tw_375 : Cond.fieldLink R_Y 72 R_Y "entries" "I" ∈ zk_T := List.mem_of_getElem? (i := 375) rfl
set_option maxRecDepth 20000 in
theorem tw_376 : Cond.fieldLink R_Y 75 R_Y "lastStep" "I" ∈ zk_T := List.mem_of_getElem? (i := 376) rfl
set_option maxRecDepth 20000 in
theorem tw_377 : Cond.fieldLink R_Y 28 R_Y "seal" "I" ∈ zk_T := List.mem_of_getElem? (i := 377) rfl
set_option maxRecDepth 20000 in
theorem tw_378 : Cond.fieldLink R_Y 95 R_Y "read" "I" ∈ zk_T := List.mem_of_getElem? (i := 378) rfl
set_option maxRecDepth 20000 in
theorem tw_379 : Cond.fieldLink R_Y 134 R_Y "at" "I" ∈ zk_T := List.mem_of_getElem? (i := 379) rfl
set_option maxRecDepth 20000 in
theorem tw_380 : Cond.fieldLink R_Y 32 R_Y "steps" "[J" ∈ zk_T := List.mem_of_getElem? (i := 380) rfl
set_option maxRecDepth 20000 in
theorem tw_381 : Cond.fieldLink R_Y 36 R_Y "kinds" "[I" ∈ zk_T := List.mem_of_getElem? (i := 381) rfl
set_option maxRecDepth 20000 in
theorem tw_382 : Cond.fieldLink R_Y 39 R_Y "values" "[I" ∈ zk_T := List.mem_of_getElem? (i := 382) rfl
set_option maxRecDepth 20000 in
theorem tw_383 : Cond.laysFinal R_Y R_Y "seed" "I" ∈ zk_T := List.mem_of_getElem? (i := 383) rfl
set_option maxRecDepth 20000 in
theorem tw_384 : Cond.lays R_Y R_Y "size" "I" ∈ zk_T := List.mem_of_getElem? (i := 384) rfl
set_option maxRecDepth 20000 in
theorem tw_385 : Cond.laysFinal R_Y R_Y "operation" "[I" ∈ zk_T := List.mem_of_getElem? (i := 385) rfl
set_option maxRecDepth 20000 in
theorem tw_386 : Cond.laysFinal R_Y R_Y "first" "[I" ∈ zk_T := List.mem_of_getElem? (i := 386) rfl
set_option maxRecDepth 20000 in
theorem tw_387 : Cond.laysFinal R_Y R_Y "second" "[I" ∈ zk_T := List.mem_of_getElem? (i := 387) rfl
set_option maxRecDepth 20000 in
theorem tw_388 : Cond.lays R_Y R_Y "begun" "Z" ∈ zk_T := List.mem_of_getElem? (i := 388) rfl
set_option maxRecDepth 20000 in
theorem tw_389 : Cond.laysFinal R_Y R_Y "machine" "[I" ∈ zk_T := List.mem_of_getElem? (i := 389) rfl
set_option maxRecDepth 20000 in
theorem tw_390 : Cond.lays R_Y R_Y "clock" "I" ∈ zk_T := List.mem_of_getElem? (i := 390) rfl
set_option maxRecDepth 20000 in
theorem tw_391 : Cond.lays R_Y R_Y "waiting" "I" ∈ zk_T := List.mem_of_getElem? (i := 391) rfl
set_option maxRecDepth 20000 in
theorem tw_392 : Cond.laysFinal R_Y R_Y "inputs" "[I" ∈ zk_T := List.mem_of_getElem? (i := 392) rfl
set_option maxRecDepth 20000 in
theorem tw_393 : Cond.lays R_Y R_Y "asked" "Z" ∈ zk_T := List.mem_of_getElem? (i := 393) rfl
set_option maxRecDepth 20000 in
theorem tw_394 : Cond.lays R_Y R_Y "bytes" "I" ∈ zk_T := List.mem_of_getElem? (i := 394) rfl
set_option maxRecDepth 20000 in
theorem tw_395 : Cond.laysFinal R_Y R_Y "log" "[I" ∈ zk_T := List.mem_of_getElem? (i := 395) rfl
set_option maxRecDepth 20000 in
theorem tw_396 : Cond.lays R_Y R_Y "entries" "I" ∈ zk_T := List.mem_of_getElem? (i := 396) rfl
set_option maxRecDepth 20000 in
theorem tw_397 : Cond.lays R_Y R_Y "lastStep" "I" ∈ zk_T := List.mem_of_getElem? (i := 397) rfl
set_option maxRecDepth 20000 in
theorem tw_398 : Cond.lays R_Y R_Y "seal" "I" ∈ zk_T := List.mem_of_getElem? (i := 398) rfl
set_option maxRecDepth 20000 in
theorem tw_399 : Cond.lays R_Y R_Y "read" "I" ∈ zk_T := List.mem_of_getElem? (i := 399) rfl
set_option maxRecDepth 20000 in
theorem tw_400 : Cond.lays R_Y R_Y "at" "I" ∈ zk_T := List.mem_of_getElem? (i := 400) rfl
set_option maxRecDepth 20000 in
theorem tw_401 : Cond.laysFinal R_Y R_Y "steps" "[J" ∈ zk_T := List.mem_of_getElem? (i := 401) rfl
set_option maxRecDepth 20000 in
theorem tw_402 : Cond.laysFinal R_Y R_Y "kinds" "[I" ∈ zk_T := List.mem_of_getElem? (i := 402) rfl
set_option maxRecDepth 20000 in
theorem tw_403 : Cond.laysFinal R_Y R_Y "values" "[I" ∈ zk_T := List.mem_of_getElem? (i := 403) rfl
set_option maxRecDepth 20000 in
theorem tw_404 : Cond.arrayClass Jvm.ClassFile.FieldType.long ∈ zk_T := List.mem_of_getElem? (i := 404) rfl
set_option maxRecDepth 20000 in
theorem tw_405 : Cond.methodLink R_L 25 y_Y_add ∈ zk_T := List.mem_of_getElem? (i := 405) rfl
set_option maxRecDepth 20000 in
theorem tw_406 : Cond.instanceMethod y_Y_add ∈ zk_T := List.mem_of_getElem? (i := 406) rfl
set_option maxRecDepth 20000 in
theorem tw_407 : Cond.selects R_Y y_Y_add y_Y_add ∈ zk_T := List.mem_of_getElem? (i := 407) rfl
set_option maxRecDepth 20000 in
theorem tw_408 : Cond.code y_Y_add b_Y_add 5 (Option.some Jvm.ClassFile.FieldType.int) ∈ zk_T := List.mem_of_getElem? (i := 408) rfl
set_option maxRecDepth 20000 in
theorem tw_409 : Cond.methodLink R_Y 45 y_Y_in ∈ zk_T := List.mem_of_getElem? (i := 409) rfl
set_option maxRecDepth 20000 in
theorem tw_410 : Cond.static y_Y_in ∈ zk_T := List.mem_of_getElem? (i := 410) rfl
set_option maxRecDepth 20000 in
theorem tw_411 : Cond.code y_Y_in b_Y_in 3 (Option.some Jvm.ClassFile.FieldType.boolean) ∈ zk_T := List.mem_of_getElem? (i := 411) rfl
set_option maxRecDepth 20000 in
theorem tw_412 : Cond.methodLink R_L 30 y_Y_clear ∈ zk_T := List.mem_of_getElem? (i := 412) rfl
set_option maxRecDepth 20000 in
theorem tw_413 : Cond.instanceMethod y_Y_clear ∈ zk_T := List.mem_of_getElem? (i := 413) rfl
set_option maxRecDepth 20000 in
theorem tw_414 : Cond.selects R_Y y_Y_clear y_Y_clear ∈ zk_T := List.mem_of_getElem? (i := 414) rfl
set_option maxRecDepth 20000 in
theorem tw_415 : Cond.code y_Y_clear b_Y_clear 2 (Option.some Jvm.ClassFile.FieldType.int) ∈ zk_T := List.mem_of_getElem? (i := 415) rfl
set_option maxRecDepth 20000 in
theorem tw_416 : Cond.methodLink R_Y 56 y_Y_anew ∈ zk_T := List.mem_of_getElem? (i := 416) rfl
set_option maxRecDepth 20000 in
theorem tw_417 : Cond.instanceMethod y_Y_anew ∈ zk_T := List.mem_of_getElem? (i := 417) rfl
set_option maxRecDepth 20000 in
theorem tw_418 : Cond.code y_Y_anew b_Y_anew 3 none ∈ zk_T := List.mem_of_getElem? (i := 418) rfl
set_option maxRecDepth 20000 in
theorem tw_419 : Cond.methodLink R_L 35 y_Y_input ∈ zk_T := List.mem_of_getElem? (i := 419) rfl
set_option maxRecDepth 20000 in
theorem tw_420 : Cond.instanceMethod y_Y_input ∈ zk_T := List.mem_of_getElem? (i := 420) rfl
set_option maxRecDepth 20000 in
theorem tw_421 : Cond.selects R_Y y_Y_input y_Y_input ∈ zk_T := List.mem_of_getElem? (i := 421) rfl
set_option maxRecDepth 20000 in
theorem tw_422 : Cond.code y_Y_input b_Y_input 2 (Option.some Jvm.ClassFile.FieldType.int) ∈ zk_T := List.mem_of_getElem? (i := 422) rfl
set_option maxRecDepth 20000 in
theorem tw_423 : Cond.methodLink R_L 40 y_Y_request ∈ zk_T := List.mem_of_getElem? (i := 423) rfl
set_option maxRecDepth 20000 in
theorem tw_424 : Cond.instanceMethod y_Y_request ∈ zk_T := List.mem_of_getElem? (i := 424) rfl
set_option maxRecDepth 20000 in
theorem tw_425 : Cond.selects R_Y y_Y_request y_Y_request ∈ zk_T := List.mem_of_getElem? (i := 425) rfl
set_option maxRecDepth 20000 in
theorem tw_426 : Cond.code y_Y_request b_Y_request 2 (Option.some Jvm.ClassFile.FieldType.boolean) ∈ zk_T := List.mem_of_getElem? (i := 426) rfl
set_option maxRecDepth 20000 in
theorem tw_427 : Cond.methodLink R_L 45 y_Y_pass ∈ zk_T := List.mem_of_getElem? (i := 427) rfl
set_option maxRecDepth 20000 in
theorem tw_428 : Cond.instanceMethod y_Y_pass ∈ zk_T := List.mem_of_getElem? (i := 428) rfl
set_option maxRecDepth 20000 in
theorem tw_429 : Cond.selects R_Y y_Y_pass y_Y_pass ∈ zk_T := List.mem_of_getElem? (i := 429) rfl
set_option maxRecDepth 20000 in
theorem tw_430 : Cond.code y_Y_pass b_Y_pass 2 (Option.some Jvm.ClassFile.FieldType.boolean) ∈ zk_T := List.mem_of_getElem? (i := 430) rfl
set_option maxRecDepth 20000 in
theorem tw_431 : Cond.constant R_Y 78 1000000 ∈ zk_T := List.mem_of_getElem? (i := 431) rfl
set_option maxRecDepth 20000 in
theorem tw_432 : Cond.methodLink R_L 49 y_Y_run ∈ zk_T := List.mem_of_getElem? (i := 432) rfl
set_option maxRecDepth 20000 in
theorem tw_433 : Cond.instanceMethod y_Y_run ∈ zk_T := List.mem_of_getElem? (i := 433) rfl
set_option maxRecDepth 20000 in
theorem tw_434 : Cond.selects R_Y y_Y_run y_Y_run ∈ zk_T := List.mem_of_getElem? (i := 434) rfl
set_option maxRecDepth 20000 in
theorem tw_435 : Cond.code y_Y_run b_Y_run 3 (Option.some Jvm.ClassFile.FieldType.int) ∈ zk_T := List.mem_of_getElem? (i := 435) rfl
set_option maxRecDepth 20000 in
theorem tw_436 : Cond.methodLink R_Y 131 y_Y_step ∈ zk_T := List.mem_of_getElem? (i := 436) rfl
set_option maxRecDepth 20000 in
theorem tw_437 : Cond.instanceMethod y_Y_step ∈ zk_T := List.mem_of_getElem? (i := 437) rfl
set_option maxRecDepth 20000 in
theorem tw_438 : Cond.code y_Y_step b_Y_step 4 none ∈ zk_T := List.mem_of_getElem? (i := 438) rfl
set_option maxRecDepth 20000 in
theorem tw_439 : Cond.methodLink R_Y 119 y_Y_interrupts ∈ zk_T := List.mem_of_getElem? (i := 439) rfl
set_option maxRecDepth 20000 in
theorem tw_440 : Cond.instanceMethod y_Y_interrupts ∈ zk_T := List.mem_of_getElem? (i := 440) rfl
set_option maxRecDepth 20000 in
theorem tw_441 : Cond.code y_Y_interrupts b_Y_interrupts 3 (Option.some Jvm.ClassFile.FieldType.boolean) ∈ zk_T := List.mem_of_getElem? (i := 441) rfl
set_option maxRecDepth 20000 in
theorem tw_442 : Cond.methodLink R_Y 98 y_Y_found ∈ zk_T := List.mem_of_getElem? (i := 442) rfl
set_option maxRecDepth 20000 in
theorem tw_443 : Cond.instanceMethod y_Y_found ∈ zk_T := List.mem_of_getElem? (i := 443) rfl
set_option maxRecDepth 20000 in
theorem tw_444 : Cond.code y_Y_found b_Y_found 5 (Option.some Jvm.ClassFile.FieldType.int) ∈ zk_T := List.mem_of_getElem? (i := 444) rfl
set_option maxRecDepth 20000 in
theorem tw_445 : Cond.methodLink R_Y 101 y_Y_writeEntry ∈ zk_T := List.mem_of_getElem? (i := 445) rfl
set_option maxRecDepth 20000 in
theorem tw_446 : Cond.instanceMethod y_Y_writeEntry ∈ zk_T := List.mem_of_getElem? (i := 446) rfl
set_option maxRecDepth 20000 in
theorem tw_447 : Cond.code y_Y_writeEntry b_Y_writeEntry 3 none ∈ zk_T := List.mem_of_getElem? (i := 447) rfl
set_option maxRecDepth 20000 in
theorem tw_448 : Cond.constantLong R_Y 89 4 ∈ zk_T := List.mem_of_getElem? (i := 448) rfl
set_option maxRecDepth 20000 in
theorem tw_449 : Cond.methodLink R_Y 91 y_Y_writeNumber ∈ zk_T := List.mem_of_getElem? (i := 449) rfl
set_option maxRecDepth 20000 in
theorem tw_450 : Cond.instanceMethod y_Y_writeNumber ∈ zk_T := List.mem_of_getElem? (i := 450) rfl
set_option maxRecDepth 20000 in
theorem tw_451 : Cond.code y_Y_writeNumber b_Y_writeNumber 5 none ∈ zk_T := List.mem_of_getElem? (i := 451) rfl
set_option maxRecDepth 20000 in
theorem tw_452 : Cond.constantLong R_Y 84 128 ∈ zk_T := List.mem_of_getElem? (i := 452) rfl
set_option maxRecDepth 20000 in
theorem tw_453 : Cond.methodLink R_Y 86 y_Y_writeByte ∈ zk_T := List.mem_of_getElem? (i := 453) rfl
set_option maxRecDepth 20000 in
theorem tw_454 : Cond.instanceMethod y_Y_writeByte ∈ zk_T := List.mem_of_getElem? (i := 454) rfl
set_option maxRecDepth 20000 in
theorem tw_455 : Cond.code y_Y_writeByte b_Y_writeByte 2 none ∈ zk_T := List.mem_of_getElem? (i := 455) rfl
set_option maxRecDepth 20000 in
theorem tw_456 : Cond.methodLink R_Y 80 y_Y_mix ∈ zk_T := List.mem_of_getElem? (i := 456) rfl
set_option maxRecDepth 20000 in
theorem tw_457 : Cond.static y_Y_mix ∈ zk_T := List.mem_of_getElem? (i := 457) rfl
set_option maxRecDepth 20000 in
theorem tw_458 : Cond.code y_Y_mix b_Y_mix 3 (Option.some Jvm.ClassFile.FieldType.int) ∈ zk_T := List.mem_of_getElem? (i := 458) rfl
set_option maxRecDepth 20000 in
theorem tw_459 : Cond.constant R_Y 79 16777619 ∈ zk_T := List.mem_of_getElem? (i := 459) rfl
set_option maxRecDepth 20000 in
theorem tw_460 : Cond.methodLink R_Y 123 y_Y_perform ∈ zk_T := List.mem_of_getElem? (i := 460) rfl
set_option maxRecDepth 20000 in
theorem tw_461 : Cond.instanceMethod y_Y_perform ∈ zk_T := List.mem_of_getElem? (i := 461) rfl
set_option maxRecDepth 20000 in
theorem tw_462 : Cond.code y_Y_perform b_Y_perform 8 none ∈ zk_T := List.mem_of_getElem? (i := 462) rfl
set_option maxRecDepth 20000 in
theorem tw_463 : Cond.methodLink R_Y 108 y_Y_mod ∈ zk_T := List.mem_of_getElem? (i := 463) rfl
set_option maxRecDepth 20000 in
theorem tw_464 : Cond.static y_Y_mod ∈ zk_T := List.mem_of_getElem? (i := 464) rfl
set_option maxRecDepth 20000 in
theorem tw_465 : Cond.code y_Y_mod b_Y_mod 3 (Option.some Jvm.ClassFile.FieldType.int) ∈ zk_T := List.mem_of_getElem? (i := 465) rfl
set_option maxRecDepth 20000 in
theorem tw_466 : Cond.methodLink R_Y 111 y_Y_inputFor ∈ zk_T := List.mem_of_getElem? (i := 466) rfl
set_option maxRecDepth 20000 in
theorem tw_467 : Cond.instanceMethod y_Y_inputFor ∈ zk_T := List.mem_of_getElem? (i := 467) rfl
set_option maxRecDepth 20000 in
theorem tw_468 : Cond.code y_Y_inputFor b_Y_inputFor 4 (Option.some Jvm.ClassFile.FieldType.int) ∈ zk_T := List.mem_of_getElem? (i := 468) rfl
set_option maxRecDepth 20000 in
theorem tw_469 : Cond.constantLong R_Y 104 2 ∈ zk_T := List.mem_of_getElem? (i := 469) rfl
set_option maxRecDepth 20000 in
theorem tw_470 : Cond.constantLong R_Y 106 (-2) ∈ zk_T := List.mem_of_getElem? (i := 470) rfl
set_option maxRecDepth 20000 in
theorem tw_471 : Cond.methodLink R_Y 115 y_Y_timeFor ∈ zk_T := List.mem_of_getElem? (i := 471) rfl
set_option maxRecDepth 20000 in
theorem tw_472 : Cond.instanceMethod y_Y_timeFor ∈ zk_T := List.mem_of_getElem? (i := 472) rfl
set_option maxRecDepth 20000 in
theorem tw_473 : Cond.code y_Y_timeFor b_Y_timeFor 4 (Option.some Jvm.ClassFile.FieldType.int) ∈ zk_T := List.mem_of_getElem? (i := 473) rfl
set_option maxRecDepth 20000 in
theorem tw_474 : Cond.constant R_Y 118 1103515245 ∈ zk_T := List.mem_of_getElem? (i := 474) rfl
set_option maxRecDepth 20000 in
theorem tw_475 : Cond.methodLink R_Y 127 y_Y_trace ∈ zk_T := List.mem_of_getElem? (i := 475) rfl
set_option maxRecDepth 20000 in
theorem tw_476 : Cond.instanceMethod y_Y_trace ∈ zk_T := List.mem_of_getElem? (i := 476) rfl
set_option maxRecDepth 20000 in
theorem tw_477 : Cond.code y_Y_trace b_Y_trace 3 none ∈ zk_T := List.mem_of_getElem? (i := 477) rfl
set_option maxRecDepth 20000 in
theorem tw_478 : Cond.methodLink R_L 75 y_Y_tell ∈ zk_T := List.mem_of_getElem? (i := 478) rfl
set_option maxRecDepth 20000 in
theorem tw_479 : Cond.instanceMethod y_Y_tell ∈ zk_T := List.mem_of_getElem? (i := 479) rfl
set_option maxRecDepth 20000 in
theorem tw_480 : Cond.selects R_Y y_Y_tell y_Y_tell ∈ zk_T := List.mem_of_getElem? (i := 480) rfl
set_option maxRecDepth 20000 in
theorem tw_481 : Cond.code y_Y_tell b_Y_tell 6 (Option.some Jvm.ClassFile.FieldType.int) ∈ zk_T := List.mem_of_getElem? (i := 481) rfl
set_option maxRecDepth 20000 in
theorem tw_482 : Cond.methodLink R_Y 147 y_Y_sealNow ∈ zk_T := List.mem_of_getElem? (i := 482) rfl
set_option maxRecDepth 20000 in
theorem tw_483 : Cond.instanceMethod y_Y_sealNow ∈ zk_T := List.mem_of_getElem? (i := 483) rfl
set_option maxRecDepth 20000 in
theorem tw_484 : Cond.code y_Y_sealNow b_Y_sealNow 3 (Option.some Jvm.ClassFile.FieldType.int) ∈ zk_T := List.mem_of_getElem? (i := 484) rfl
set_option maxRecDepth 20000 in
theorem tw_485 : Cond.methodLink R_Y 151 y_Y_readAll ∈ zk_T := List.mem_of_getElem? (i := 485) rfl
set_option maxRecDepth 20000 in
theorem tw_486 : Cond.instanceMethod y_Y_readAll ∈ zk_T := List.mem_of_getElem? (i := 486) rfl
set_option maxRecDepth 20000 in
theorem tw_487 : Cond.code y_Y_readAll b_Y_readAll 8 (Option.some Jvm.ClassFile.FieldType.boolean) ∈ zk_T := List.mem_of_getElem? (i := 487) rfl
set_option maxRecDepth 20000 in
theorem tw_488 : Cond.methodLink R_Y 141 y_Y_readNumber ∈ zk_T := List.mem_of_getElem? (i := 488) rfl
set_option maxRecDepth 20000 in
theorem tw_489 : Cond.instanceMethod y_Y_readNumber ∈ zk_T := List.mem_of_getElem? (i := 489) rfl
set_option maxRecDepth 20000 in
theorem tw_490 : Cond.code y_Y_readNumber b_Y_readNumber 5 (Option.some Jvm.ClassFile.FieldType.long) ∈ zk_T := List.mem_of_getElem? (i := 490) rfl
set_option maxRecDepth 20000 in
theorem tw_491 : Cond.constantLong R_Y 137 (-1) ∈ zk_T := List.mem_of_getElem? (i := 491) rfl
set_option maxRecDepth 20000 in
theorem tw_492 : Cond.constantLong R_Y 139 4294967295 ∈ zk_T := List.mem_of_getElem? (i := 492) rfl
set_option maxRecDepth 20000 in
theorem tw_493 : Cond.constantLong R_Y 145 3 ∈ zk_T := List.mem_of_getElem? (i := 493) rfl
set_option maxRecDepth 20000 in
theorem tw_494 : Cond.methodLink R_L 53 y_Y_log ∈ zk_T := List.mem_of_getElem? (i := 494) rfl
set_option maxRecDepth 20000 in
theorem tw_495 : Cond.instanceMethod y_Y_log ∈ zk_T := List.mem_of_getElem? (i := 495) rfl
set_option maxRecDepth 20000 in
theorem tw_496 : Cond.selects R_Y y_Y_log y_Y_log ∈ zk_T := List.mem_of_getElem? (i := 496) rfl
set_option maxRecDepth 20000 in
theorem tw_497 : Cond.code y_Y_log b_Y_log 1 (Option.some Jvm.ClassFile.FieldType.int) ∈ zk_T := List.mem_of_getElem? (i := 497) rfl
set_option maxRecDepth 20000 in
theorem tw_498 : Cond.methodLink R_L 57 y_Y_at ∈ zk_T := List.mem_of_getElem? (i := 498) rfl
set_option maxRecDepth 20000 in
theorem tw_499 : Cond.instanceMethod y_Y_at ∈ zk_T := List.mem_of_getElem? (i := 499) rfl
set_option maxRecDepth 20000 in
theorem tw_500 : Cond.selects R_Y y_Y_at y_Y_at ∈ zk_T := List.mem_of_getElem? (i := 500) rfl
set_option maxRecDepth 20000 in
theorem tw_501 : Cond.code y_Y_at b_Y_at 2 (Option.some Jvm.ClassFile.FieldType.int) ∈ zk_T := List.mem_of_getElem? (i := 501) rfl
set_option maxRecDepth 20000 in
theorem tw_502 : Cond.methodLink R_L 61 y_Y_entries ∈ zk_T := List.mem_of_getElem? (i := 502) rfl
set_option maxRecDepth 20000 in
theorem tw_503 : Cond.instanceMethod y_Y_entries ∈ zk_T := List.mem_of_getElem? (i := 503) rfl
set_option maxRecDepth 20000 in
theorem tw_504 : Cond.selects R_Y y_Y_entries y_Y_entries ∈ zk_T := List.mem_of_getElem? (i := 504) rfl
set_option maxRecDepth 20000 in
theorem tw_505 : Cond.code y_Y_entries b_Y_entries 1 (Option.some Jvm.ClassFile.FieldType.int) ∈ zk_T := List.mem_of_getElem? (i := 505) rfl
set_option maxRecDepth 20000 in
theorem tw_506 : Cond.methodLink R_L 65 y_Y_seal ∈ zk_T := List.mem_of_getElem? (i := 506) rfl
set_option maxRecDepth 20000 in
theorem tw_507 : Cond.instanceMethod y_Y_seal ∈ zk_T := List.mem_of_getElem? (i := 507) rfl
set_option maxRecDepth 20000 in
theorem tw_508 : Cond.selects R_Y y_Y_seal y_Y_seal ∈ zk_T := List.mem_of_getElem? (i := 508) rfl
set_option maxRecDepth 20000 in
theorem tw_509 : Cond.code y_Y_seal b_Y_seal 1 (Option.some Jvm.ClassFile.FieldType.int) ∈ zk_T := List.mem_of_getElem? (i := 509) rfl
set_option maxRecDepth 20000 in
theorem tw_510 : Cond.methodLink R_L 70 y_Y_change ∈ zk_T := List.mem_of_getElem? (i := 510) rfl
set_option maxRecDepth 20000 in
theorem tw_511 : Cond.instanceMethod y_Y_change ∈ zk_T := List.mem_of_getElem? (i := 511) rfl
set_option maxRecDepth 20000 in
theorem tw_512 : Cond.selects R_Y y_Y_change y_Y_change ∈ zk_T := List.mem_of_getElem? (i := 512) rfl
set_option maxRecDepth 20000 in
theorem tw_513 : Cond.code y_Y_change b_Y_change 3 (Option.some Jvm.ClassFile.FieldType.boolean) ∈ zk_T := List.mem_of_getElem? (i := 513) rfl
set_option maxRecDepth 20000 in
theorem tw_514 : Cond.methodLink R_L 79 y_Y_state ∈ zk_T := List.mem_of_getElem? (i := 514) rfl
set_option maxRecDepth 20000 in
theorem tw_515 : Cond.instanceMethod y_Y_state ∈ zk_T := List.mem_of_getElem? (i := 515) rfl
set_option maxRecDepth 20000 in
theorem tw_516 : Cond.selects R_Y y_Y_state y_Y_state ∈ zk_T := List.mem_of_getElem? (i := 516) rfl
set_option maxRecDepth 20000 in
theorem tw_517 : Cond.code y_Y_state b_Y_state 3 (Option.some Jvm.ClassFile.FieldType.int) ∈ zk_T := List.mem_of_getElem? (i := 517) rfl
set_option maxRecDepth 20000 in
theorem tw_518 : Cond.methodLink R_L 82 y_Y_cell ∈ zk_T := List.mem_of_getElem? (i := 518) rfl
set_option maxRecDepth 20000 in
theorem tw_519 : Cond.instanceMethod y_Y_cell ∈ zk_T := List.mem_of_getElem? (i := 519) rfl
set_option maxRecDepth 20000 in
theorem tw_520 : Cond.selects R_Y y_Y_cell y_Y_cell ∈ zk_T := List.mem_of_getElem? (i := 520) rfl
set_option maxRecDepth 20000 in
theorem tw_521 : Cond.code y_Y_cell b_Y_cell 3 (Option.some Jvm.ClassFile.FieldType.int) ∈ zk_T := List.mem_of_getElem? (i := 521) rfl
set_option maxRecDepth 20000 in
theorem tw_522 : Cond.methodLink R_L 86 y_Y_sealed ∈ zk_T := List.mem_of_getElem? (i := 522) rfl
set_option maxRecDepth 20000 in
theorem tw_523 : Cond.instanceMethod y_Y_sealed ∈ zk_T := List.mem_of_getElem? (i := 523) rfl
set_option maxRecDepth 20000 in
theorem tw_524 : Cond.selects R_Y y_Y_sealed y_Y_sealed ∈ zk_T := List.mem_of_getElem? (i := 524) rfl
set_option maxRecDepth 20000 in
theorem tw_525 : Cond.code y_Y_sealed b_Y_sealed 6 (Option.some Jvm.ClassFile.FieldType.int) ∈ zk_T := List.mem_of_getElem? (i := 525) rfl
set_option maxRecDepth 20000 in
theorem tw_526 : Cond.selects R_T y_T_hasEntry y_T_hasEntry ∈ zk_T := List.mem_of_getElem? (i := 526) rfl
set_option maxRecDepth 20000 in
theorem tw_527 : Cond.selects R_D y_D_readNumber y_D_readNumber ∈ zk_T := List.mem_of_getElem? (i := 527) rfl
set_option maxRecDepth 20000 in
theorem tw_528 : Cond.selects R_M y_M_perform y_M_perform ∈ zk_T := List.mem_of_getElem? (i := 528) rfl
set_option maxRecDepth 20000 in
theorem tw_529 : Cond.selects R_M y_M_turn y_M_turn ∈ zk_T := List.mem_of_getElem? (i := 529) rfl
set_option maxRecDepth 20000 in
theorem tw_530 : Cond.selects R_M y_M_followTrace y_M_followTrace ∈ zk_T := List.mem_of_getElem? (i := 530) rfl
set_option maxRecDepth 20000 in
theorem tw_531 : Cond.selects R_X y_X_machineOf y_X_machineOf ∈ zk_T := List.mem_of_getElem? (i := 531) rfl
set_option maxRecDepth 20000 in
theorem tw_532 : Cond.selects R_Y y_Y_anew y_Y_anew ∈ zk_T := List.mem_of_getElem? (i := 532) rfl
set_option maxRecDepth 20000 in
theorem tw_533 : Cond.selects R_Y y_Y_step y_Y_step ∈ zk_T := List.mem_of_getElem? (i := 533) rfl
set_option maxRecDepth 20000 in
theorem tw_534 : Cond.selects R_Y y_Y_interrupts y_Y_interrupts ∈ zk_T := List.mem_of_getElem? (i := 534) rfl
set_option maxRecDepth 20000 in
theorem tw_535 : Cond.selects R_Y y_Y_found y_Y_found ∈ zk_T := List.mem_of_getElem? (i := 535) rfl
set_option maxRecDepth 20000 in
theorem tw_536 : Cond.selects R_Y y_Y_writeEntry y_Y_writeEntry ∈ zk_T := List.mem_of_getElem? (i := 536) rfl
set_option maxRecDepth 20000 in
theorem tw_537 : Cond.selects R_Y y_Y_writeNumber y_Y_writeNumber ∈ zk_T := List.mem_of_getElem? (i := 537) rfl
set_option maxRecDepth 20000 in
theorem tw_538 : Cond.selects R_Y y_Y_writeByte y_Y_writeByte ∈ zk_T := List.mem_of_getElem? (i := 538) rfl
set_option maxRecDepth 20000 in
theorem tw_539 : Cond.selects R_Y y_Y_perform y_Y_perform ∈ zk_T := List.mem_of_getElem? (i := 539) rfl
set_option maxRecDepth 20000 in
theorem tw_540 : Cond.selects R_Y y_Y_inputFor y_Y_inputFor ∈ zk_T := List.mem_of_getElem? (i := 540) rfl
set_option maxRecDepth 20000 in
theorem tw_541 : Cond.selects R_Y y_Y_timeFor y_Y_timeFor ∈ zk_T := List.mem_of_getElem? (i := 541) rfl
set_option maxRecDepth 20000 in
theorem tw_542 : Cond.selects R_Y y_Y_trace y_Y_trace ∈ zk_T := List.mem_of_getElem? (i := 542) rfl
set_option maxRecDepth 20000 in
theorem tw_543 : Cond.selects R_Y y_Y_sealNow y_Y_sealNow ∈ zk_T := List.mem_of_getElem? (i := 543) rfl
set_option maxRecDepth 20000 in
theorem tw_544 : Cond.selects R_Y y_Y_readAll y_Y_readAll ∈ zk_T := List.mem_of_getElem? (i := 544) rfl
set_option maxRecDepth 20000 in
theorem tw_545 : Cond.selects R_Y y_Y_readNumber y_Y_readNumber ∈ zk_T := List.mem_of_getElem? (i := 545) rfl
set_option maxRecDepth 100000 in
theorem zk_ok : ∀ w ∈ zk_T, (w.onTables && w.keeps) = true ∨ ∃ ty, w = .arrayClass ty := fun w h => good_of_word (List.all_eq_true.mp (by decide +kernel : zk_T.all goodWord = true) w h)
theorem zk_m {w c0 : Cond} (h : w ∈ zk_T) : w ∈ c0 :: zk_T := List.mem_cons_of_mem _ h
theorem in_P {c0 : Cond} : ∀ w ∈ u_ws R_P F_P 4, w ∈ c0 :: zk_T := by
  show ∀ w ∈ [u_lay R_P F_P 0, u_lay R_P F_P 1, u_lay R_P F_P 2, u_lay R_P F_P 3], w ∈ c0 :: zk_T
  exact List.forall_mem_cons.mpr ⟨zk_m tw_33, List.forall_mem_cons.mpr ⟨zk_m tw_34, List.forall_mem_cons.mpr ⟨zk_m tw_35, List.forall_mem_cons.mpr ⟨zk_m tw_36, fun _ h => absurd h List.not_mem_nil⟩⟩⟩⟩
theorem in_J {c0 : Cond} : ∀ w ∈ u_ws R_J F_J 5, w ∈ c0 :: zk_T := by
  show ∀ w ∈ [u_lay R_J F_J 0, u_lay R_J F_J 1, u_lay R_J F_J 2, u_lay R_J F_J 3, u_lay R_J F_J 4], w ∈ c0 :: zk_T
  exact List.forall_mem_cons.mpr ⟨zk_m tw_53, List.forall_mem_cons.mpr ⟨zk_m tw_54, List.forall_mem_cons.mpr ⟨zk_m tw_55, List.forall_mem_cons.mpr ⟨zk_m tw_56, List.forall_mem_cons.mpr ⟨zk_m tw_57, fun _ h => absurd h List.not_mem_nil⟩⟩⟩⟩⟩
theorem in_R {c0 : Cond} : ∀ w ∈ u_ws R_R F_R 6, w ∈ c0 :: zk_T := by
  show ∀ w ∈ [u_lay R_R F_R 0, u_lay R_R F_R 1, u_lay R_R F_R 2, u_lay R_R F_R 3, u_lay R_R F_R 4, u_lay R_R F_R 5], w ∈ c0 :: zk_T
  exact List.forall_mem_cons.mpr ⟨zk_m tw_74, List.forall_mem_cons.mpr ⟨zk_m tw_75, List.forall_mem_cons.mpr ⟨zk_m tw_76, List.forall_mem_cons.mpr ⟨zk_m tw_77, List.forall_mem_cons.mpr ⟨zk_m tw_78, List.forall_mem_cons.mpr ⟨zk_m tw_79, fun _ h => absurd h List.not_mem_nil⟩⟩⟩⟩⟩⟩
theorem in_T {c0 : Cond} : ∀ w ∈ u_ws R_T F_T 2, w ∈ c0 :: zk_T := by
  show ∀ w ∈ [u_lay R_T F_T 0, u_lay R_T F_T 1], w ∈ c0 :: zk_T
  exact List.forall_mem_cons.mpr ⟨zk_m tw_112, List.forall_mem_cons.mpr ⟨zk_m tw_113, fun _ h => absurd h List.not_mem_nil⟩⟩
theorem in_D {c0 : Cond} : ∀ w ∈ u_ws R_D F_D 7, w ∈ c0 :: zk_T := by
  show ∀ w ∈ [u_lay R_D F_D 0, u_lay R_D F_D 1, u_lay R_D F_D 2, u_lay R_D F_D 3, u_lay R_D F_D 4, u_lay R_D F_D 5, u_lay R_D F_D 6], w ∈ c0 :: zk_T
  exact List.forall_mem_cons.mpr ⟨zk_m tw_100, List.forall_mem_cons.mpr ⟨zk_m tw_101, List.forall_mem_cons.mpr ⟨zk_m tw_102, List.forall_mem_cons.mpr ⟨zk_m tw_103, List.forall_mem_cons.mpr ⟨zk_m tw_104, List.forall_mem_cons.mpr ⟨zk_m tw_105, List.forall_mem_cons.mpr ⟨zk_m tw_106, fun _ h => absurd h List.not_mem_nil⟩⟩⟩⟩⟩⟩⟩
theorem in_M {c0 : Cond} : ∀ w ∈ u_ws R_M F_M 10, w ∈ c0 :: zk_T := by
  show ∀ w ∈ [u_lay R_M F_M 0, u_lay R_M F_M 1, u_lay R_M F_M 2, u_lay R_M F_M 3, u_lay R_M F_M 4, u_lay R_M F_M 5, u_lay R_M F_M 6, u_lay R_M F_M 7, u_lay R_M F_M 8, u_lay R_M F_M 9], w ∈ c0 :: zk_T
  exact List.forall_mem_cons.mpr ⟨zk_m tw_131, List.forall_mem_cons.mpr ⟨zk_m tw_132, List.forall_mem_cons.mpr ⟨zk_m tw_133, List.forall_mem_cons.mpr ⟨zk_m tw_134, List.forall_mem_cons.mpr ⟨zk_m tw_135, List.forall_mem_cons.mpr ⟨zk_m tw_136, List.forall_mem_cons.mpr ⟨zk_m tw_137, List.forall_mem_cons.mpr ⟨zk_m tw_138, List.forall_mem_cons.mpr ⟨zk_m tw_139, List.forall_mem_cons.mpr ⟨zk_m tw_140, fun _ h => absurd h List.not_mem_nil⟩⟩⟩⟩⟩⟩⟩⟩⟩⟩
theorem in_X {c0 : Cond} : ∀ w ∈ u_ws R_X F_X 8, w ∈ c0 :: zk_T := by
  show ∀ w ∈ [u_lay R_X F_X 0, u_lay R_X F_X 1, u_lay R_X F_X 2, u_lay R_X F_X 3, u_lay R_X F_X 4, u_lay R_X F_X 5, u_lay R_X F_X 6, u_lay R_X F_X 7], w ∈ c0 :: zk_T
  exact List.forall_mem_cons.mpr ⟨zk_m tw_149, List.forall_mem_cons.mpr ⟨zk_m tw_150, List.forall_mem_cons.mpr ⟨zk_m tw_151, List.forall_mem_cons.mpr ⟨zk_m tw_152, List.forall_mem_cons.mpr ⟨zk_m tw_153, List.forall_mem_cons.mpr ⟨zk_m tw_154, List.forall_mem_cons.mpr ⟨zk_m tw_155, List.forall_mem_cons.mpr ⟨zk_m tw_156, fun _ h => absurd h List.not_mem_nil⟩⟩⟩⟩⟩⟩⟩⟩
theorem in_Y {c0 : Cond} : ∀ w ∈ u_ws R_Y F_Y 21, w ∈ c0 :: zk_T := by
  show ∀ w ∈ [u_lay R_Y F_Y 0, u_lay R_Y F_Y 1, u_lay R_Y F_Y 2, u_lay R_Y F_Y 3, u_lay R_Y F_Y 4, u_lay R_Y F_Y 5, u_lay R_Y F_Y 6, u_lay R_Y F_Y 7, u_lay R_Y F_Y 8, u_lay R_Y F_Y 9, u_lay R_Y F_Y 10, u_lay R_Y F_Y 11, u_lay R_Y F_Y 12, u_lay R_Y F_Y 13, u_lay R_Y F_Y 14, u_lay R_Y F_Y 15, u_lay R_Y F_Y 16, u_lay R_Y F_Y 17, u_lay R_Y F_Y 18, u_lay R_Y F_Y 19, u_lay R_Y F_Y 20], w ∈ c0 :: zk_T
  exact List.forall_mem_cons.mpr ⟨zk_m tw_383, List.forall_mem_cons.mpr ⟨zk_m tw_384, List.forall_mem_cons.mpr ⟨zk_m tw_385, List.forall_mem_cons.mpr ⟨zk_m tw_386, List.forall_mem_cons.mpr ⟨zk_m tw_387, List.forall_mem_cons.mpr ⟨zk_m tw_388, List.forall_mem_cons.mpr ⟨zk_m tw_389, List.forall_mem_cons.mpr ⟨zk_m tw_390, List.forall_mem_cons.mpr ⟨zk_m tw_391, List.forall_mem_cons.mpr ⟨zk_m tw_392, List.forall_mem_cons.mpr ⟨zk_m tw_393, List.forall_mem_cons.mpr ⟨zk_m tw_394, List.forall_mem_cons.mpr ⟨zk_m tw_395, List.forall_mem_cons.mpr ⟨zk_m tw_396, List.forall_mem_cons.mpr ⟨zk_m tw_397, List.forall_mem_cons.mpr ⟨zk_m tw_398, List.forall_mem_cons.mpr ⟨zk_m tw_399, List.forall_mem_cons.mpr ⟨zk_m tw_400, List.forall_mem_cons.mpr ⟨zk_m tw_401, List.forall_mem_cons.mpr ⟨zk_m tw_402, List.forall_mem_cons.mpr ⟨zk_m tw_403, fun _ h => absurd h List.not_mem_nil⟩⟩⟩⟩⟩⟩⟩⟩⟩⟩⟩⟩⟩⟩⟩⟩⟩⟩⟩⟩⟩
def w_X_init : List Cond := Cond.code y_X_init b_X_init 2 none :: zk_T
def w_P_init : List Cond := Cond.code y_P_init b_P_init 1 none :: zk_T
def w_J_init : List Cond := Cond.code y_J_init b_J_init 1 none :: zk_T
def w_R_init : List Cond := Cond.code y_R_init b_R_init 2 none :: zk_T
def w_O_init : List Cond := Cond.code y_O_init b_O_init 1 none :: zk_T
def w_D_init : List Cond := Cond.code y_D_init b_D_init 2 none :: zk_T
def w_T_init : List Cond := Cond.code y_T_init b_T_init 2 none :: zk_T
def w_M_init : List Cond := Cond.code y_M_init b_M_init 2 none :: zk_T
def w_X_add : List Cond := Cond.code y_X_add b_X_add 4 (Option.some Jvm.ClassFile.FieldType.int) :: zk_T
def w_X_isInstruction : List Cond := Cond.code y_X_isInstruction b_X_isInstruction 3 (Option.some Jvm.ClassFile.FieldType.boolean) :: zk_T
def w_P_append : List Cond := Cond.code y_P_append b_P_append 4 (Option.some Jvm.ClassFile.FieldType.int) :: zk_T
def w_X_clear : List Cond := Cond.code y_X_clear b_X_clear 2 (Option.some Jvm.ClassFile.FieldType.int) :: zk_T
def w_M_restart : List Cond := Cond.code y_M_restart b_M_restart 2 none :: zk_T
def w_A_fill : List Cond := Cond.code y_A_fill b_A_fill 4 none :: zk_T
def w_J_restart : List Cond := Cond.code y_J_restart b_J_restart 1 none :: zk_T
def w_R_restart : List Cond := Cond.code y_R_restart b_R_restart 1 none :: zk_T
def w_X_input : List Cond := Cond.code y_X_input b_X_input 2 (Option.some Jvm.ClassFile.FieldType.int) :: zk_T
def w_R_addInput : List Cond := Cond.code y_R_addInput b_R_addInput 2 (Option.some Jvm.ClassFile.FieldType.int) :: zk_T
def w_X_request : List Cond := Cond.code y_X_request b_X_request 1 (Option.some Jvm.ClassFile.FieldType.boolean) :: zk_T
def w_X_pass : List Cond := Cond.code y_X_pass b_X_pass 2 (Option.some Jvm.ClassFile.FieldType.boolean) :: zk_T
def w_X_run : List Cond := Cond.code y_X_run b_X_run 4 (Option.some Jvm.ClassFile.FieldType.int) :: zk_T
def w_M_step : List Cond := Cond.code y_M_step b_M_step 4 (Option.some Jvm.ClassFile.FieldType.boolean) :: zk_T
def w_P_has : List Cond := Cond.code y_P_has b_P_has 2 (Option.some Jvm.ClassFile.FieldType.boolean) :: zk_T
def w_R_takeInterrupt : List Cond := Cond.code y_R_takeInterrupt b_R_takeInterrupt 2 (Option.some Jvm.ClassFile.FieldType.boolean) :: zk_T
def w_J_beginEntry : List Cond := Cond.code y_J_beginEntry b_J_beginEntry 3 none :: zk_T
def w_J_writeNumber : List Cond := Cond.code y_J_writeNumber b_J_writeNumber 6 none :: zk_T
def w_X_sealByte : List Cond := Cond.code y_X_sealByte b_X_sealByte 3 (Option.some Jvm.ClassFile.FieldType.int) :: zk_T
def w_X_mix : List Cond := Cond.code y_X_mix b_X_mix 2 (Option.some Jvm.ClassFile.FieldType.int) :: zk_T
def w_T_takeInterrupt : List Cond := Cond.code y_T_takeInterrupt b_T_takeInterrupt 2 (Option.some Jvm.ClassFile.FieldType.boolean) :: zk_T
def w_T_hasEntry : List Cond := Cond.code y_T_hasEntry b_T_hasEntry 4 (Option.some Jvm.ClassFile.FieldType.boolean) :: zk_T
def w_D_readEntry : List Cond := Cond.code y_D_readEntry b_D_readEntry 3 none :: zk_T
def w_J_has : List Cond := Cond.code y_J_has b_J_has 2 (Option.some Jvm.ClassFile.FieldType.boolean) :: zk_T
def w_D_readNumber : List Cond := Cond.code y_D_readNumber b_D_readNumber 4 (Option.some Jvm.ClassFile.FieldType.int) :: zk_T
def w_M_perform : List Cond := Cond.code y_M_perform b_M_perform 7 none :: zk_T
def w_R_takeInput : List Cond := Cond.code y_R_takeInput b_R_takeInput 3 (Option.some Jvm.ClassFile.FieldType.int) :: zk_T
def w_T_takeInput : List Cond := Cond.code y_T_takeInput b_T_takeInput 3 (Option.some Jvm.ClassFile.FieldType.int) :: zk_T
def w_R_readClock : List Cond := Cond.code y_R_readClock b_R_readClock 2 (Option.some Jvm.ClassFile.FieldType.int) :: zk_T
def w_T_readClock : List Cond := Cond.code y_T_readClock b_T_readClock 2 (Option.some Jvm.ClassFile.FieldType.int) :: zk_T
def w_M_turn : List Cond := Cond.code y_M_turn b_M_turn 4 none :: zk_T
def w_M_followTrace : List Cond := Cond.code y_M_followTrace b_M_followTrace 3 none :: zk_T
def w_X_log : List Cond := Cond.code y_X_log b_X_log 1 (Option.some Jvm.ClassFile.FieldType.int) :: zk_T
def w_X_at : List Cond := Cond.code y_X_at b_X_at 2 (Option.some Jvm.ClassFile.FieldType.int) :: zk_T
def w_X_entries : List Cond := Cond.code y_X_entries b_X_entries 1 (Option.some Jvm.ClassFile.FieldType.int) :: zk_T
def w_X_seal : List Cond := Cond.code y_X_seal b_X_seal 1 (Option.some Jvm.ClassFile.FieldType.int) :: zk_T
def w_X_change : List Cond := Cond.code y_X_change b_X_change 3 (Option.some Jvm.ClassFile.FieldType.boolean) :: zk_T
def w_X_tell : List Cond := Cond.code y_X_tell b_X_tell 4 (Option.some Jvm.ClassFile.FieldType.int) :: zk_T
def w_J_sealNow : List Cond := Cond.code y_J_sealNow b_J_sealNow 3 (Option.some Jvm.ClassFile.FieldType.int) :: zk_T
def w_T_isReadable : List Cond := Cond.code y_T_isReadable b_T_isReadable 2 (Option.some Jvm.ClassFile.FieldType.boolean) :: zk_T
def w_D_rewind : List Cond := Cond.code y_D_rewind b_D_rewind 1 none :: zk_T
def w_T_restart : List Cond := Cond.code y_T_restart b_T_restart 1 none :: zk_T
def w_M_looksLike : List Cond := Cond.code y_M_looksLike b_M_looksLike 3 (Option.some Jvm.ClassFile.FieldType.boolean) :: zk_T
def w_M_stateOf : List Cond := Cond.code y_M_stateOf b_M_stateOf 2 (Option.some Jvm.ClassFile.FieldType.int) :: zk_T
def w_X_state : List Cond := Cond.code y_X_state b_X_state 4 (Option.some Jvm.ClassFile.FieldType.int) :: zk_T
def w_X_machineOf : List Cond := Cond.code y_X_machineOf b_X_machineOf 2 (Option.some (Jvm.ClassFile.FieldType.object "RetoldRun$Machine")) :: zk_T
def w_X_cell : List Cond := Cond.code y_X_cell b_X_cell 4 (Option.some Jvm.ClassFile.FieldType.int) :: zk_T
def w_M_cellOf : List Cond := Cond.code y_M_cellOf b_M_cellOf 2 (Option.some Jvm.ClassFile.FieldType.int) :: zk_T
def w_X_sealed : List Cond := Cond.code y_X_sealed b_X_sealed 6 (Option.some Jvm.ClassFile.FieldType.int) :: zk_T
def w_L_cell : List Cond := Cond.code y_L_cell b_L_cell 2 (Option.some Jvm.ClassFile.FieldType.int) :: zk_T
def w_Y_init : List Cond := Cond.code y_Y_init b_Y_init 2 none :: zk_T
def w_Y_add : List Cond := Cond.code y_Y_add b_Y_add 5 (Option.some Jvm.ClassFile.FieldType.int) :: zk_T
def w_Y_in : List Cond := Cond.code y_Y_in b_Y_in 3 (Option.some Jvm.ClassFile.FieldType.boolean) :: zk_T
def w_Y_clear : List Cond := Cond.code y_Y_clear b_Y_clear 2 (Option.some Jvm.ClassFile.FieldType.int) :: zk_T
def w_Y_anew : List Cond := Cond.code y_Y_anew b_Y_anew 3 none :: zk_T
def w_Y_input : List Cond := Cond.code y_Y_input b_Y_input 2 (Option.some Jvm.ClassFile.FieldType.int) :: zk_T
def w_Y_request : List Cond := Cond.code y_Y_request b_Y_request 2 (Option.some Jvm.ClassFile.FieldType.boolean) :: zk_T
def w_Y_pass : List Cond := Cond.code y_Y_pass b_Y_pass 2 (Option.some Jvm.ClassFile.FieldType.boolean) :: zk_T
def w_Y_run : List Cond := Cond.code y_Y_run b_Y_run 3 (Option.some Jvm.ClassFile.FieldType.int) :: zk_T
def w_Y_step : List Cond := Cond.code y_Y_step b_Y_step 4 none :: zk_T
def w_Y_interrupts : List Cond := Cond.code y_Y_interrupts b_Y_interrupts 3 (Option.some Jvm.ClassFile.FieldType.boolean) :: zk_T
def w_Y_found : List Cond := Cond.code y_Y_found b_Y_found 5 (Option.some Jvm.ClassFile.FieldType.int) :: zk_T
def w_Y_writeEntry : List Cond := Cond.code y_Y_writeEntry b_Y_writeEntry 3 none :: zk_T
def w_Y_writeNumber : List Cond := Cond.code y_Y_writeNumber b_Y_writeNumber 5 none :: zk_T
def w_Y_writeByte : List Cond := Cond.code y_Y_writeByte b_Y_writeByte 2 none :: zk_T
def w_Y_mix : List Cond := Cond.code y_Y_mix b_Y_mix 3 (Option.some Jvm.ClassFile.FieldType.int) :: zk_T
def w_Y_perform : List Cond := Cond.code y_Y_perform b_Y_perform 8 none :: zk_T
def w_Y_mod : List Cond := Cond.code y_Y_mod b_Y_mod 3 (Option.some Jvm.ClassFile.FieldType.int) :: zk_T
def w_Y_inputFor : List Cond := Cond.code y_Y_inputFor b_Y_inputFor 4 (Option.some Jvm.ClassFile.FieldType.int) :: zk_T
def w_Y_timeFor : List Cond := Cond.code y_Y_timeFor b_Y_timeFor 4 (Option.some Jvm.ClassFile.FieldType.int) :: zk_T
def w_Y_trace : List Cond := Cond.code y_Y_trace b_Y_trace 3 none :: zk_T
def w_Y_tell : List Cond := Cond.code y_Y_tell b_Y_tell 6 (Option.some Jvm.ClassFile.FieldType.int) :: zk_T
def w_Y_sealNow : List Cond := Cond.code y_Y_sealNow b_Y_sealNow 3 (Option.some Jvm.ClassFile.FieldType.int) :: zk_T
def w_Y_readAll : List Cond := Cond.code y_Y_readAll b_Y_readAll 8 (Option.some Jvm.ClassFile.FieldType.boolean) :: zk_T
def w_Y_readNumber : List Cond := Cond.code y_Y_readNumber b_Y_readNumber 5 (Option.some Jvm.ClassFile.FieldType.long) :: zk_T
def w_Y_log : List Cond := Cond.code y_Y_log b_Y_log 1 (Option.some Jvm.ClassFile.FieldType.int) :: zk_T
def w_Y_at : List Cond := Cond.code y_Y_at b_Y_at 2 (Option.some Jvm.ClassFile.FieldType.int) :: zk_T
def w_Y_entries : List Cond := Cond.code y_Y_entries b_Y_entries 1 (Option.some Jvm.ClassFile.FieldType.int) :: zk_T
def w_Y_seal : List Cond := Cond.code y_Y_seal b_Y_seal 1 (Option.some Jvm.ClassFile.FieldType.int) :: zk_T
def w_Y_change : List Cond := Cond.code y_Y_change b_Y_change 3 (Option.some Jvm.ClassFile.FieldType.boolean) :: zk_T
def w_Y_state : List Cond := Cond.code y_Y_state b_Y_state 3 (Option.some Jvm.ClassFile.FieldType.int) :: zk_T
def w_Y_cell : List Cond := Cond.code y_Y_cell b_Y_cell 3 (Option.some Jvm.ClassFile.FieldType.int) :: zk_T
def w_Y_sealed : List Cond := Cond.code y_Y_sealed b_Y_sealed 6 (Option.some Jvm.ClassFile.FieldType.int) :: zk_T
/-- words that are no table words: links to a nest mate's private methods, and the abstract methods -/
def zk_N (U : State) : Prop := va_Nw (.methodLinkNest R_X 15 y_P_init R_X) U ∧ va_Nw (.methodLinkNest R_X 22 y_J_init R_X) U ∧ va_Nw (.methodLinkNest R_R 3 y_O_init R_X) U ∧ va_Nw (.methodLinkNest R_T 3 y_O_init R_X) U ∧ va_Nw (.declares y_O_takeInterrupt) U ∧ va_Nw (.methodLinkNest R_J 32 y_X_sealByte R_X) U ∧ va_Nw (.declares y_O_takeInput) U ∧ va_Nw (.declares y_O_readClock) U ∧ va_Nw (.methodLinkNest R_M 85 y_X_mix R_X) U
theorem zk_N.same {u U : State} (h : u.vm = U.vm) (hN : zk_N u) : zk_N U := by
  obtain ⟨h0, h1, h2, h3, h4, h5, h6, h7, h8⟩ := hN
  exact ⟨va_Nw.same rfl h h0, va_Nw.same rfl h h1, va_Nw.same rfl h h2, va_Nw.same rfl h h3, va_Nw.same rfl h h4, va_Nw.same rfl h h5, va_Nw.same rfl h h6, va_Nw.same rfl h h7, va_Nw.same rfl h h8⟩
theorem zk_N.warm {s U : State} (hW : s.WarmedH U.vm) (hN : zk_N s) : zk_N U := by
  obtain ⟨h0, h1, h2, h3, h4, h5, h6, h7, h8⟩ := hN
  exact ⟨va_Nw.warmM hW h0, va_Nw.warmM hW h1, va_Nw.warmM hW h2, va_Nw.warmM hW h3, va_Nw.warmD hW h4, va_Nw.warmM hW h5, va_Nw.warmD hW h6, va_Nw.warmD hW h7, va_Nw.warmM hW h8⟩
end
section
theorem d_X_init_0 : decode b_X_init 0 = .ok (.aload_n 0, 1) := by decide +kernel
theorem d_X_init_1 : decode b_X_init 1 = .ok (.invokespecial 1, 3) := by decide +kernel
theorem d_X_init_4 : decode b_X_init 4 = .ok (.aload_n 0, 1) := by decide +kernel
theorem d_X_init_5 : decode b_X_init 5 = .ok (.iload_n 1, 1) := by decide +kernel
theorem d_X_init_6 : decode b_X_init 6 = .ok (.putfield 7, 3) := by decide +kernel
theorem d_X_init_9 : decode b_X_init 9 = .ok (.aload_n 0, 1) := by decide +kernel
theorem d_X_init_10 : decode b_X_init 10 = .ok (.new 13, 3) := by decide +kernel
theorem d_X_init_13 : decode b_X_init 13 = .ok (.dup, 1) := by decide +kernel
theorem d_X_init_14 : decode b_X_init 14 = .ok (.invokespecial 15, 3) := by decide +kernel
theorem d_X_init_17 : decode b_X_init 17 = .ok (.putfield 16, 3) := by decide +kernel
theorem d_X_init_20 : decode b_X_init 20 = .ok (.aload_n 0, 1) := by decide +kernel
theorem d_X_init_21 : decode b_X_init 21 = .ok (.new 20, 3) := by decide +kernel
theorem d_X_init_24 : decode b_X_init 24 = .ok (.dup, 1) := by decide +kernel
theorem d_X_init_25 : decode b_X_init 25 = .ok (.invokespecial 22, 3) := by decide +kernel
theorem d_X_init_28 : decode b_X_init 28 = .ok (.putfield 23, 3) := by decide +kernel
theorem d_X_init_31 : decode b_X_init 31 = .ok (.aload_n 0, 1) := by decide +kernel
theorem d_X_init_32 : decode b_X_init 32 = .ok (.new 27, 3) := by decide +kernel
theorem d_X_init_35 : decode b_X_init 35 = .ok (.dup, 1) := by decide +kernel
theorem d_X_init_36 : decode b_X_init 36 = .ok (.aload_n 0, 1) := by decide +kernel
theorem d_X_init_37 : decode b_X_init 37 = .ok (.getfield 23, 3) := by decide +kernel
theorem d_X_init_40 : decode b_X_init 40 = .ok (.invokespecial 29, 3) := by decide +kernel
theorem d_X_init_43 : decode b_X_init 43 = .ok (.putfield 32, 3) := by decide +kernel
theorem d_X_init_46 : decode b_X_init 46 = .ok (.aload_n 0, 1) := by decide +kernel
theorem d_X_init_47 : decode b_X_init 47 = .ok (.new 36, 3) := by decide +kernel
theorem d_X_init_50 : decode b_X_init 50 = .ok (.dup, 1) := by decide +kernel
theorem d_X_init_51 : decode b_X_init 51 = .ok (.new 38, 3) := by decide +kernel
theorem d_X_init_54 : decode b_X_init 54 = .ok (.dup, 1) := by decide +kernel
theorem d_X_init_55 : decode b_X_init 55 = .ok (.aload_n 0, 1) := by decide +kernel
theorem d_X_init_56 : decode b_X_init 56 = .ok (.getfield 23, 3) := by decide +kernel
theorem d_X_init_59 : decode b_X_init 59 = .ok (.invokespecial 40, 3) := by decide +kernel
theorem d_X_init_62 : decode b_X_init 62 = .ok (.invokespecial 41, 3) := by decide +kernel
theorem d_X_init_65 : decode b_X_init 65 = .ok (.putfield 44, 3) := by decide +kernel
theorem d_X_init_68 : decode b_X_init 68 = .ok (.aload_n 0, 1) := by decide +kernel
theorem d_X_init_69 : decode b_X_init 69 = .ok (.new 48, 3) := by decide +kernel
theorem d_X_init_72 : decode b_X_init 72 = .ok (.dup, 1) := by decide +kernel
theorem d_X_init_73 : decode b_X_init 73 = .ok (.iload_n 1, 1) := by decide +kernel
theorem d_X_init_74 : decode b_X_init 74 = .ok (.invokespecial 50, 3) := by decide +kernel
theorem d_X_init_77 : decode b_X_init 77 = .ok (.putfield 53, 3) := by decide +kernel
theorem d_X_init_80 : decode b_X_init 80 = .ok (.aload_n 0, 1) := by decide +kernel
theorem d_X_init_81 : decode b_X_init 81 = .ok (.new 48, 3) := by decide +kernel
theorem d_X_init_84 : decode b_X_init 84 = .ok (.dup, 1) := by decide +kernel
theorem d_X_init_85 : decode b_X_init 85 = .ok (.iload_n 1, 1) := by decide +kernel
theorem d_X_init_86 : decode b_X_init 86 = .ok (.invokespecial 50, 3) := by decide +kernel
theorem d_X_init_89 : decode b_X_init 89 = .ok (.putfield 57, 3) := by decide +kernel
theorem d_X_init_92 : decode b_X_init 92 = .ok (.aload_n 0, 1) := by decide +kernel
theorem d_X_init_93 : decode b_X_init 93 = .ok (.iconst 0, 1) := by decide +kernel
theorem d_X_init_94 : decode b_X_init 94 = .ok (.putfield 60, 3) := by decide +kernel
theorem d_X_init_97 : decode b_X_init 97 = .ok (.return_, 1) := by decide +kernel
theorem d_P_init_0 : decode b_P_init 0 = .ok (.aload_n 0, 1) := by decide +kernel
theorem d_P_init_1 : decode b_P_init 1 = .ok (.invokespecial 3, 3) := by decide +kernel
theorem d_P_init_4 : decode b_P_init 4 = .ok (.aload_n 0, 1) := by decide +kernel
theorem d_P_init_5 : decode b_P_init 5 = .ok (.bipush 24, 2) := by decide +kernel
theorem d_P_init_7 : decode b_P_init 7 = .ok (.newarray .int, 2) := by decide +kernel
theorem d_P_init_9 : decode b_P_init 9 = .ok (.putfield 9, 3) := by decide +kernel
theorem d_P_init_12 : decode b_P_init 12 = .ok (.aload_n 0, 1) := by decide +kernel
theorem d_P_init_13 : decode b_P_init 13 = .ok (.bipush 24, 2) := by decide +kernel
theorem d_P_init_15 : decode b_P_init 15 = .ok (.newarray .int, 2) := by decide +kernel
theorem d_P_init_17 : decode b_P_init 17 = .ok (.putfield 15, 3) := by decide +kernel
theorem d_P_init_20 : decode b_P_init 20 = .ok (.aload_n 0, 1) := by decide +kernel
theorem d_P_init_21 : decode b_P_init 21 = .ok (.bipush 24, 2) := by decide +kernel
theorem d_P_init_23 : decode b_P_init 23 = .ok (.newarray .int, 2) := by decide +kernel
theorem d_P_init_25 : decode b_P_init 25 = .ok (.putfield 18, 3) := by decide +kernel
theorem d_P_init_28 : decode b_P_init 28 = .ok (.return_, 1) := by decide +kernel
theorem d_J_init_0 : decode b_J_init 0 = .ok (.aload_n 0, 1) := by decide +kernel
theorem d_J_init_1 : decode b_J_init 1 = .ok (.invokespecial 3, 3) := by decide +kernel
theorem d_J_init_4 : decode b_J_init 4 = .ok (.aload_n 0, 1) := by decide +kernel
theorem d_J_init_5 : decode b_J_init 5 = .ok (.sipush 300, 3) := by decide +kernel
theorem d_J_init_8 : decode b_J_init 8 = .ok (.newarray .int, 2) := by decide +kernel
theorem d_J_init_10 : decode b_J_init 10 = .ok (.putfield 9, 3) := by decide +kernel
theorem d_J_init_13 : decode b_J_init 13 = .ok (.aload_n 0, 1) := by decide +kernel
theorem d_J_init_14 : decode b_J_init 14 = .ok (.iconst 1, 1) := by decide +kernel
theorem d_J_init_15 : decode b_J_init 15 = .ok (.putfield 15, 3) := by decide +kernel
theorem d_J_init_18 : decode b_J_init 18 = .ok (.return_, 1) := by decide +kernel
theorem d_R_init_0 : decode b_R_init 0 = .ok (.aload_n 0, 1) := by decide +kernel
theorem d_R_init_1 : decode b_R_init 1 = .ok (.invokespecial 3, 3) := by decide +kernel
theorem d_R_init_4 : decode b_R_init 4 = .ok (.aload_n 0, 1) := by decide +kernel
theorem d_R_init_5 : decode b_R_init 5 = .ok (.bipush 16, 2) := by decide +kernel
theorem d_R_init_7 : decode b_R_init 7 = .ok (.newarray .int, 2) := by decide +kernel
theorem d_R_init_9 : decode b_R_init 9 = .ok (.putfield 9, 3) := by decide +kernel
theorem d_R_init_12 : decode b_R_init 12 = .ok (.aload_n 0, 1) := by decide +kernel
theorem d_R_init_13 : decode b_R_init 13 = .ok (.aload_n 1, 1) := by decide +kernel
theorem d_R_init_14 : decode b_R_init 14 = .ok (.putfield 15, 3) := by decide +kernel
theorem d_R_init_17 : decode b_R_init 17 = .ok (.return_, 1) := by decide +kernel
theorem d_O_init_0 : decode b_O_init 0 = .ok (.aload_n 0, 1) := by decide +kernel
theorem d_O_init_1 : decode b_O_init 1 = .ok (.invokespecial 1, 3) := by decide +kernel
theorem d_O_init_4 : decode b_O_init 4 = .ok (.return_, 1) := by decide +kernel
theorem d_D_init_0 : decode b_D_init 0 = .ok (.aload_n 0, 1) := by decide +kernel
theorem d_D_init_1 : decode b_D_init 1 = .ok (.invokespecial 3, 3) := by decide +kernel
theorem d_D_init_4 : decode b_D_init 4 = .ok (.aload_n 0, 1) := by decide +kernel
theorem d_D_init_5 : decode b_D_init 5 = .ok (.aload_n 1, 1) := by decide +kernel
theorem d_D_init_6 : decode b_D_init 6 = .ok (.putfield 9, 3) := by decide +kernel
theorem d_D_init_9 : decode b_D_init 9 = .ok (.return_, 1) := by decide +kernel
theorem d_T_init_0 : decode b_T_init 0 = .ok (.aload_n 0, 1) := by decide +kernel
theorem d_T_init_1 : decode b_T_init 1 = .ok (.invokespecial 3, 3) := by decide +kernel
theorem d_T_init_4 : decode b_T_init 4 = .ok (.aload_n 0, 1) := by decide +kernel
theorem d_T_init_5 : decode b_T_init 5 = .ok (.aload_n 1, 1) := by decide +kernel
theorem d_T_init_6 : decode b_T_init 6 = .ok (.putfield 9, 3) := by decide +kernel
theorem d_T_init_9 : decode b_T_init 9 = .ok (.return_, 1) := by decide +kernel
theorem d_M_init_0 : decode b_M_init 0 = .ok (.aload_n 0, 1) := by decide +kernel
theorem d_M_init_1 : decode b_M_init 1 = .ok (.invokespecial 3, 3) := by decide +kernel
theorem d_M_init_4 : decode b_M_init 4 = .ok (.aload_n 0, 1) := by decide +kernel
theorem d_M_init_5 : decode b_M_init 5 = .ok (.iconst 4, 1) := by decide +kernel
theorem d_M_init_6 : decode b_M_init 6 = .ok (.newarray .int, 2) := by decide +kernel
theorem d_M_init_8 : decode b_M_init 8 = .ok (.putfield 9, 3) := by decide +kernel
theorem d_M_init_11 : decode b_M_init 11 = .ok (.aload_n 0, 1) := by decide +kernel
theorem d_M_init_12 : decode b_M_init 12 = .ok (.bipush 32, 2) := by decide +kernel
theorem d_M_init_14 : decode b_M_init 14 = .ok (.newarray .int, 2) := by decide +kernel
theorem d_M_init_16 : decode b_M_init 16 = .ok (.putfield 15, 3) := by decide +kernel
theorem d_M_init_19 : decode b_M_init 19 = .ok (.aload_n 0, 1) := by decide +kernel
theorem d_M_init_20 : decode b_M_init 20 = .ok (.iload_n 1, 1) := by decide +kernel
theorem d_M_init_21 : decode b_M_init 21 = .ok (.putfield 18, 3) := by decide +kernel
theorem d_M_init_24 : decode b_M_init 24 = .ok (.return_, 1) := by decide +kernel
theorem d_X_add_0 : decode b_X_add 0 = .ok (.aload_n 0, 1) := by decide +kernel
theorem d_X_add_1 : decode b_X_add 1 = .ok (.getfield 60, 3) := by decide +kernel
theorem d_X_add_4 : decode b_X_add 4 = .ok (.ifCond .ne 11, 3) := by decide +kernel
theorem d_X_add_7 : decode b_X_add 7 = .ok (.iload_n 1, 1) := by decide +kernel
theorem d_X_add_8 : decode b_X_add 8 = .ok (.iload_n 3, 1) := by decide +kernel
theorem d_X_add_9 : decode b_X_add 9 = .ok (.invokestatic 64, 3) := by decide +kernel
theorem d_X_add_12 : decode b_X_add 12 = .ok (.ifCond .ne 5, 3) := by decide +kernel
theorem d_X_add_15 : decode b_X_add 15 = .ok (.iconst (-1), 1) := by decide +kernel
theorem d_X_add_16 : decode b_X_add 16 = .ok (.ireturn, 1) := by decide +kernel
theorem d_X_add_17 : decode b_X_add 17 = .ok (.aload_n 0, 1) := by decide +kernel
theorem d_X_add_18 : decode b_X_add 18 = .ok (.getfield 16, 3) := by decide +kernel
theorem d_X_add_21 : decode b_X_add 21 = .ok (.iload_n 1, 1) := by decide +kernel
theorem d_X_add_22 : decode b_X_add 22 = .ok (.iload_n 2, 1) := by decide +kernel
theorem d_X_add_23 : decode b_X_add 23 = .ok (.iload_n 3, 1) := by decide +kernel
theorem d_X_add_24 : decode b_X_add 24 = .ok (.invokevirtual 68, 3) := by decide +kernel
theorem d_X_add_27 : decode b_X_add 27 = .ok (.ireturn, 1) := by decide +kernel
theorem d_X_isInstruction_0 : decode b_X_isInstruction 0 = .ok (.iload_n 0, 1) := by decide +kernel
theorem d_X_isInstruction_1 : decode b_X_isInstruction 1 = .ok (.ifCond .lt 9, 3) := by decide +kernel
theorem d_X_isInstruction_4 : decode b_X_isInstruction 4 = .ok (.iload_n 0, 1) := by decide +kernel
theorem d_X_isInstruction_5 : decode b_X_isInstruction 5 = .ok (.bipush 12, 2) := by decide +kernel
theorem d_X_isInstruction_7 : decode b_X_isInstruction 7 = .ok (.if_icmp .le 5, 3) := by decide +kernel
theorem d_X_isInstruction_10 : decode b_X_isInstruction 10 = .ok (.iconst 0, 1) := by decide +kernel
theorem d_X_isInstruction_11 : decode b_X_isInstruction 11 = .ok (.ireturn, 1) := by decide +kernel
theorem d_X_isInstruction_12 : decode b_X_isInstruction 12 = .ok (.iload_n 0, 1) := by decide +kernel
theorem d_X_isInstruction_13 : decode b_X_isInstruction 13 = .ok (.iconst 5, 1) := by decide +kernel
theorem d_X_isInstruction_14 : decode b_X_isInstruction 14 = .ok (.if_icmp .eq 9, 3) := by decide +kernel
theorem d_X_isInstruction_17 : decode b_X_isInstruction 17 = .ok (.iload_n 0, 1) := by decide +kernel
theorem d_X_isInstruction_18 : decode b_X_isInstruction 18 = .ok (.bipush 6, 2) := by decide +kernel
theorem d_X_isInstruction_20 : decode b_X_isInstruction 20 = .ok (.if_icmp .ne 7, 3) := by decide +kernel
theorem d_X_isInstruction_23 : decode b_X_isInstruction 23 = .ok (.iconst 1, 1) := by decide +kernel
theorem d_X_isInstruction_24 : decode b_X_isInstruction 24 = .ok (.goto 4, 3) := by decide +kernel
theorem d_X_isInstruction_27 : decode b_X_isInstruction 27 = .ok (.iconst 0, 1) := by decide +kernel
theorem d_X_isInstruction_28 : decode b_X_isInstruction 28 = .ok (.istore_n 2, 1) := by decide +kernel
theorem d_X_isInstruction_29 : decode b_X_isInstruction 29 = .ok (.iload_n 2, 1) := by decide +kernel
theorem d_X_isInstruction_30 : decode b_X_isInstruction 30 = .ok (.ifCond .eq 13, 3) := by decide +kernel
theorem d_X_isInstruction_33 : decode b_X_isInstruction 33 = .ok (.iload_n 1, 1) := by decide +kernel
theorem d_X_isInstruction_34 : decode b_X_isInstruction 34 = .ok (.ifCond .lt 13, 3) := by decide +kernel
theorem d_X_isInstruction_37 : decode b_X_isInstruction 37 = .ok (.iload_n 1, 1) := by decide +kernel
theorem d_X_isInstruction_38 : decode b_X_isInstruction 38 = .ok (.bipush 24, 2) := by decide +kernel
theorem d_X_isInstruction_40 : decode b_X_isInstruction 40 = .ok (.if_icmp .ge 7, 3) := by decide +kernel
theorem d_X_isInstruction_43 : decode b_X_isInstruction 43 = .ok (.iconst 1, 1) := by decide +kernel
theorem d_X_isInstruction_44 : decode b_X_isInstruction 44 = .ok (.goto 4, 3) := by decide +kernel
theorem d_X_isInstruction_47 : decode b_X_isInstruction 47 = .ok (.iconst 0, 1) := by decide +kernel
theorem d_X_isInstruction_48 : decode b_X_isInstruction 48 = .ok (.ireturn, 1) := by decide +kernel
theorem d_P_append_0 : decode b_P_append 0 = .ok (.aload_n 0, 1) := by decide +kernel
theorem d_P_append_1 : decode b_P_append 1 = .ok (.getfield 21, 3) := by decide +kernel
theorem d_P_append_4 : decode b_P_append 4 = .ok (.bipush 24, 2) := by decide +kernel
theorem d_P_append_6 : decode b_P_append 6 = .ok (.if_icmp .lt 5, 3) := by decide +kernel
theorem d_P_append_9 : decode b_P_append 9 = .ok (.iconst (-1), 1) := by decide +kernel
theorem d_P_append_10 : decode b_P_append 10 = .ok (.ireturn, 1) := by decide +kernel
theorem d_P_append_11 : decode b_P_append 11 = .ok (.aload_n 0, 1) := by decide +kernel
theorem d_P_append_12 : decode b_P_append 12 = .ok (.getfield 9, 3) := by decide +kernel
theorem d_P_append_15 : decode b_P_append 15 = .ok (.aload_n 0, 1) := by decide +kernel
theorem d_P_append_16 : decode b_P_append 16 = .ok (.getfield 21, 3) := by decide +kernel
theorem d_P_append_19 : decode b_P_append 19 = .ok (.iload_n 1, 1) := by decide +kernel
theorem d_P_append_20 : decode b_P_append 20 = .ok (.iastore, 1) := by decide +kernel
theorem d_P_append_21 : decode b_P_append 21 = .ok (.aload_n 0, 1) := by decide +kernel
theorem d_P_append_22 : decode b_P_append 22 = .ok (.getfield 15, 3) := by decide +kernel
theorem d_P_append_25 : decode b_P_append 25 = .ok (.aload_n 0, 1) := by decide +kernel
theorem d_P_append_26 : decode b_P_append 26 = .ok (.getfield 21, 3) := by decide +kernel
theorem d_P_append_29 : decode b_P_append 29 = .ok (.iload_n 2, 1) := by decide +kernel
theorem d_P_append_30 : decode b_P_append 30 = .ok (.iastore, 1) := by decide +kernel
theorem d_P_append_31 : decode b_P_append 31 = .ok (.aload_n 0, 1) := by decide +kernel
theorem d_P_append_32 : decode b_P_append 32 = .ok (.getfield 18, 3) := by decide +kernel
theorem d_P_append_35 : decode b_P_append 35 = .ok (.aload_n 0, 1) := by decide +kernel
theorem d_P_append_36 : decode b_P_append 36 = .ok (.getfield 21, 3) := by decide +kernel
theorem d_P_append_39 : decode b_P_append 39 = .ok (.iload_n 3, 1) := by decide +kernel
theorem d_P_append_40 : decode b_P_append 40 = .ok (.iastore, 1) := by decide +kernel
theorem d_P_append_41 : decode b_P_append 41 = .ok (.aload_n 0, 1) := by decide +kernel
theorem d_P_append_42 : decode b_P_append 42 = .ok (.dup, 1) := by decide +kernel
theorem d_P_append_43 : decode b_P_append 43 = .ok (.getfield 21, 3) := by decide +kernel
theorem d_P_append_46 : decode b_P_append 46 = .ok (.iconst 1, 1) := by decide +kernel
theorem d_P_append_47 : decode b_P_append 47 = .ok (.iadd, 1) := by decide +kernel
theorem d_P_append_48 : decode b_P_append 48 = .ok (.putfield 21, 3) := by decide +kernel
theorem d_P_append_51 : decode b_P_append 51 = .ok (.aload_n 0, 1) := by decide +kernel
theorem d_P_append_52 : decode b_P_append 52 = .ok (.getfield 21, 3) := by decide +kernel
theorem d_P_append_55 : decode b_P_append 55 = .ok (.iconst 1, 1) := by decide +kernel
theorem d_P_append_56 : decode b_P_append 56 = .ok (.isub, 1) := by decide +kernel
theorem d_P_append_57 : decode b_P_append 57 = .ok (.ireturn, 1) := by decide +kernel
theorem d_X_clear_0 : decode b_X_clear 0 = .ok (.aload_n 0, 1) := by decide +kernel
theorem d_X_clear_1 : decode b_X_clear 1 = .ok (.getfield 16, 3) := by decide +kernel
theorem d_X_clear_4 : decode b_X_clear 4 = .ok (.getfield 72, 3) := by decide +kernel
theorem d_X_clear_7 : decode b_X_clear 7 = .ok (.istore_n 1, 1) := by decide +kernel
theorem d_X_clear_8 : decode b_X_clear 8 = .ok (.aload_n 0, 1) := by decide +kernel
theorem d_X_clear_9 : decode b_X_clear 9 = .ok (.getfield 16, 3) := by decide +kernel
theorem d_X_clear_12 : decode b_X_clear 12 = .ok (.iconst 0, 1) := by decide +kernel
theorem d_X_clear_13 : decode b_X_clear 13 = .ok (.putfield 72, 3) := by decide +kernel
theorem d_X_clear_16 : decode b_X_clear 16 = .ok (.aload_n 0, 1) := by decide +kernel
theorem d_X_clear_17 : decode b_X_clear 17 = .ok (.getfield 53, 3) := by decide +kernel
theorem d_X_clear_20 : decode b_X_clear 20 = .ok (.aload_n 0, 1) := by decide +kernel
theorem d_X_clear_21 : decode b_X_clear 21 = .ok (.getfield 7, 3) := by decide +kernel
theorem d_X_clear_24 : decode b_X_clear 24 = .ok (.invokevirtual 75, 3) := by decide +kernel
theorem d_X_clear_27 : decode b_X_clear 27 = .ok (.aload_n 0, 1) := by decide +kernel
theorem d_X_clear_28 : decode b_X_clear 28 = .ok (.getfield 23, 3) := by decide +kernel
theorem d_X_clear_31 : decode b_X_clear 31 = .ok (.invokevirtual 78, 3) := by decide +kernel
theorem d_X_clear_34 : decode b_X_clear 34 = .ok (.aload_n 0, 1) := by decide +kernel
theorem d_X_clear_35 : decode b_X_clear 35 = .ok (.getfield 32, 3) := by decide +kernel
theorem d_X_clear_38 : decode b_X_clear 38 = .ok (.invokevirtual 80, 3) := by decide +kernel
theorem d_X_clear_41 : decode b_X_clear 41 = .ok (.aload_n 0, 1) := by decide +kernel
theorem d_X_clear_42 : decode b_X_clear 42 = .ok (.iconst 0, 1) := by decide +kernel
theorem d_X_clear_43 : decode b_X_clear 43 = .ok (.putfield 60, 3) := by decide +kernel
theorem d_X_clear_46 : decode b_X_clear 46 = .ok (.iload_n 1, 1) := by decide +kernel
theorem d_X_clear_47 : decode b_X_clear 47 = .ok (.ireturn, 1) := by decide +kernel
theorem d_M_restart_0 : decode b_M_restart 0 = .ok (.aload_n 0, 1) := by decide +kernel
theorem d_M_restart_1 : decode b_M_restart 1 = .ok (.getfield 9, 3) := by decide +kernel
theorem d_M_restart_4 : decode b_M_restart 4 = .ok (.iconst 0, 1) := by decide +kernel
theorem d_M_restart_5 : decode b_M_restart 5 = .ok (.invokestatic 22, 3) := by decide +kernel
theorem d_M_restart_8 : decode b_M_restart 8 = .ok (.aload_n 0, 1) := by decide +kernel
theorem d_M_restart_9 : decode b_M_restart 9 = .ok (.getfield 15, 3) := by decide +kernel
theorem d_M_restart_12 : decode b_M_restart 12 = .ok (.iconst 0, 1) := by decide +kernel
theorem d_M_restart_13 : decode b_M_restart 13 = .ok (.invokestatic 22, 3) := by decide +kernel
theorem d_M_restart_16 : decode b_M_restart 16 = .ok (.aload_n 0, 1) := by decide +kernel
theorem d_M_restart_17 : decode b_M_restart 17 = .ok (.iconst 0, 1) := by decide +kernel
theorem d_M_restart_18 : decode b_M_restart 18 = .ok (.putfield 28, 3) := by decide +kernel
theorem d_M_restart_21 : decode b_M_restart 21 = .ok (.aload_n 0, 1) := by decide +kernel
theorem d_M_restart_22 : decode b_M_restart 22 = .ok (.iconst 0, 1) := by decide +kernel
theorem d_M_restart_23 : decode b_M_restart 23 = .ok (.putfield 31, 3) := by decide +kernel
theorem d_M_restart_26 : decode b_M_restart 26 = .ok (.aload_n 0, 1) := by decide +kernel
theorem d_M_restart_27 : decode b_M_restart 27 = .ok (.iconst 0, 1) := by decide +kernel
theorem d_M_restart_28 : decode b_M_restart 28 = .ok (.putfield 34, 3) := by decide +kernel
theorem d_M_restart_31 : decode b_M_restart 31 = .ok (.aload_n 0, 1) := by decide +kernel
theorem d_M_restart_32 : decode b_M_restart 32 = .ok (.iconst 0, 1) := by decide +kernel
theorem d_M_restart_33 : decode b_M_restart 33 = .ok (.putfield 38, 3) := by decide +kernel
theorem d_M_restart_36 : decode b_M_restart 36 = .ok (.aload_n 0, 1) := by decide +kernel
theorem d_M_restart_37 : decode b_M_restart 37 = .ok (.iload_n 1, 1) := by decide +kernel
theorem d_M_restart_38 : decode b_M_restart 38 = .ok (.putfield 18, 3) := by decide +kernel
theorem d_M_restart_41 : decode b_M_restart 41 = .ok (.aload_n 0, 1) := by decide +kernel
theorem d_M_restart_42 : decode b_M_restart 42 = .ok (.iconst 0, 1) := by decide +kernel
theorem d_M_restart_43 : decode b_M_restart 43 = .ok (.putfield 41, 3) := by decide +kernel
theorem d_M_restart_46 : decode b_M_restart 46 = .ok (.aload_n 0, 1) := by decide +kernel
theorem d_M_restart_47 : decode b_M_restart 47 = .ok (.iconst 0, 1) := by decide +kernel
theorem d_M_restart_48 : decode b_M_restart 48 = .ok (.putfield 44, 3) := by decide +kernel
theorem d_M_restart_51 : decode b_M_restart 51 = .ok (.aload_n 0, 1) := by decide +kernel
theorem d_M_restart_52 : decode b_M_restart 52 = .ok (.iconst 0, 1) := by decide +kernel
theorem d_M_restart_53 : decode b_M_restart 53 = .ok (.putfield 47, 3) := by decide +kernel
theorem d_M_restart_56 : decode b_M_restart 56 = .ok (.return_, 1) := by decide +kernel
theorem d_A_fill_0 : decode b_A_fill 0 = .ok (.iconst 0, 1) := by decide +kernel
theorem d_A_fill_1 : decode b_A_fill 1 = .ok (.istore_n 2, 1) := by decide +kernel
theorem d_A_fill_2 : decode b_A_fill 2 = .ok (.aload_n 0, 1) := by decide +kernel
theorem d_A_fill_3 : decode b_A_fill 3 = .ok (.arraylength, 1) := by decide +kernel
theorem d_A_fill_4 : decode b_A_fill 4 = .ok (.istore_n 3, 1) := by decide +kernel
theorem d_A_fill_5 : decode b_A_fill 5 = .ok (.iload_n 2, 1) := by decide +kernel
theorem d_A_fill_6 : decode b_A_fill 6 = .ok (.iload_n 3, 1) := by decide +kernel
theorem d_A_fill_7 : decode b_A_fill 7 = .ok (.if_icmp .ge 13, 3) := by decide +kernel
theorem d_A_fill_10 : decode b_A_fill 10 = .ok (.aload_n 0, 1) := by decide +kernel
theorem d_A_fill_11 : decode b_A_fill 11 = .ok (.iload_n 2, 1) := by decide +kernel
theorem d_A_fill_12 : decode b_A_fill 12 = .ok (.iload_n 1, 1) := by decide +kernel
theorem d_A_fill_13 : decode b_A_fill 13 = .ok (.iastore, 1) := by decide +kernel
theorem d_A_fill_14 : decode b_A_fill 14 = .ok (.iinc 2 1, 3) := by decide +kernel
theorem d_A_fill_17 : decode b_A_fill 17 = .ok (.goto (-12), 3) := by decide +kernel
theorem d_A_fill_20 : decode b_A_fill 20 = .ok (.return_, 1) := by decide +kernel
theorem d_J_restart_0 : decode b_J_restart 0 = .ok (.aload_n 0, 1) := by decide +kernel
theorem d_J_restart_1 : decode b_J_restart 1 = .ok (.iconst 0, 1) := by decide +kernel
theorem d_J_restart_2 : decode b_J_restart 2 = .ok (.putfield 19, 3) := by decide +kernel
theorem d_J_restart_5 : decode b_J_restart 5 = .ok (.aload_n 0, 1) := by decide +kernel
theorem d_J_restart_6 : decode b_J_restart 6 = .ok (.iconst 0, 1) := by decide +kernel
theorem d_J_restart_7 : decode b_J_restart 7 = .ok (.putfield 22, 3) := by decide +kernel
theorem d_J_restart_10 : decode b_J_restart 10 = .ok (.aload_n 0, 1) := by decide +kernel
theorem d_J_restart_11 : decode b_J_restart 11 = .ok (.iconst 1, 1) := by decide +kernel
theorem d_J_restart_12 : decode b_J_restart 12 = .ok (.putfield 15, 3) := by decide +kernel
theorem d_J_restart_15 : decode b_J_restart 15 = .ok (.aload_n 0, 1) := by decide +kernel
theorem d_J_restart_16 : decode b_J_restart 16 = .ok (.iconst 0, 1) := by decide +kernel
theorem d_J_restart_17 : decode b_J_restart 17 = .ok (.putfield 25, 3) := by decide +kernel
theorem d_J_restart_20 : decode b_J_restart 20 = .ok (.return_, 1) := by decide +kernel
theorem d_R_restart_0 : decode b_R_restart 0 = .ok (.aload_n 0, 1) := by decide +kernel
theorem d_R_restart_1 : decode b_R_restart 1 = .ok (.iconst 0, 1) := by decide +kernel
theorem d_R_restart_2 : decode b_R_restart 2 = .ok (.putfield 19, 3) := by decide +kernel
theorem d_R_restart_5 : decode b_R_restart 5 = .ok (.aload_n 0, 1) := by decide +kernel
theorem d_R_restart_6 : decode b_R_restart 6 = .ok (.iconst 0, 1) := by decide +kernel
theorem d_R_restart_7 : decode b_R_restart 7 = .ok (.putfield 23, 3) := by decide +kernel
theorem d_R_restart_10 : decode b_R_restart 10 = .ok (.aload_n 0, 1) := by decide +kernel
theorem d_R_restart_11 : decode b_R_restart 11 = .ok (.iconst 0, 1) := by decide +kernel
theorem d_R_restart_12 : decode b_R_restart 12 = .ok (.putfield 26, 3) := by decide +kernel
theorem d_R_restart_15 : decode b_R_restart 15 = .ok (.aload_n 0, 1) := by decide +kernel
theorem d_R_restart_16 : decode b_R_restart 16 = .ok (.iconst 0, 1) := by decide +kernel
theorem d_R_restart_17 : decode b_R_restart 17 = .ok (.putfield 30, 3) := by decide +kernel
theorem d_R_restart_20 : decode b_R_restart 20 = .ok (.return_, 1) := by decide +kernel
theorem d_X_input_0 : decode b_X_input 0 = .ok (.aload_n 0, 1) := by decide +kernel
theorem d_X_input_1 : decode b_X_input 1 = .ok (.getfield 32, 3) := by decide +kernel
theorem d_X_input_4 : decode b_X_input 4 = .ok (.iload_n 1, 1) := by decide +kernel
theorem d_X_input_5 : decode b_X_input 5 = .ok (.invokevirtual 81, 3) := by decide +kernel
theorem d_X_input_8 : decode b_X_input 8 = .ok (.ireturn, 1) := by decide +kernel
theorem d_R_addInput_0 : decode b_R_addInput 0 = .ok (.aload_n 0, 1) := by decide +kernel
theorem d_R_addInput_1 : decode b_R_addInput 1 = .ok (.getfield 19, 3) := by decide +kernel
theorem d_R_addInput_4 : decode b_R_addInput 4 = .ok (.bipush 16, 2) := by decide +kernel
theorem d_R_addInput_6 : decode b_R_addInput 6 = .ok (.if_icmp .lt 5, 3) := by decide +kernel
theorem d_R_addInput_9 : decode b_R_addInput 9 = .ok (.iconst (-1), 1) := by decide +kernel
theorem d_R_addInput_10 : decode b_R_addInput 10 = .ok (.ireturn, 1) := by decide +kernel
theorem d_R_addInput_11 : decode b_R_addInput 11 = .ok (.aload_n 0, 1) := by decide +kernel
theorem d_R_addInput_12 : decode b_R_addInput 12 = .ok (.getfield 9, 3) := by decide +kernel
theorem d_R_addInput_15 : decode b_R_addInput 15 = .ok (.aload_n 0, 1) := by decide +kernel
theorem d_R_addInput_16 : decode b_R_addInput 16 = .ok (.getfield 19, 3) := by decide +kernel
theorem d_R_addInput_19 : decode b_R_addInput 19 = .ok (.iload_n 1, 1) := by decide +kernel
theorem d_R_addInput_20 : decode b_R_addInput 20 = .ok (.iastore, 1) := by decide +kernel
theorem d_R_addInput_21 : decode b_R_addInput 21 = .ok (.aload_n 0, 1) := by decide +kernel
theorem d_R_addInput_22 : decode b_R_addInput 22 = .ok (.dup, 1) := by decide +kernel
theorem d_R_addInput_23 : decode b_R_addInput 23 = .ok (.getfield 19, 3) := by decide +kernel
theorem d_R_addInput_26 : decode b_R_addInput 26 = .ok (.iconst 1, 1) := by decide +kernel
theorem d_R_addInput_27 : decode b_R_addInput 27 = .ok (.iadd, 1) := by decide +kernel
theorem d_R_addInput_28 : decode b_R_addInput 28 = .ok (.putfield 19, 3) := by decide +kernel
theorem d_R_addInput_31 : decode b_R_addInput 31 = .ok (.aload_n 0, 1) := by decide +kernel
theorem d_R_addInput_32 : decode b_R_addInput 32 = .ok (.getfield 19, 3) := by decide +kernel
theorem d_R_addInput_35 : decode b_R_addInput 35 = .ok (.ireturn, 1) := by decide +kernel
theorem d_X_request_0 : decode b_X_request 0 = .ok (.aload_n 0, 1) := by decide +kernel
theorem d_X_request_1 : decode b_X_request 1 = .ok (.getfield 32, 3) := by decide +kernel
theorem d_X_request_4 : decode b_X_request 4 = .ok (.getfield 85, 3) := by decide +kernel
theorem d_X_request_7 : decode b_X_request 7 = .ok (.ifCond .eq 5, 3) := by decide +kernel
theorem d_X_request_10 : decode b_X_request 10 = .ok (.iconst 0, 1) := by decide +kernel
theorem d_X_request_11 : decode b_X_request 11 = .ok (.ireturn, 1) := by decide +kernel
theorem d_X_request_12 : decode b_X_request 12 = .ok (.aload_n 0, 1) := by decide +kernel
theorem d_X_request_13 : decode b_X_request 13 = .ok (.getfield 32, 3) := by decide +kernel
theorem d_X_request_16 : decode b_X_request 16 = .ok (.iconst 1, 1) := by decide +kernel
theorem d_X_request_17 : decode b_X_request 17 = .ok (.putfield 85, 3) := by decide +kernel
theorem d_X_request_20 : decode b_X_request 20 = .ok (.iconst 1, 1) := by decide +kernel
theorem d_X_request_21 : decode b_X_request 21 = .ok (.ireturn, 1) := by decide +kernel
theorem d_X_pass_0 : decode b_X_pass 0 = .ok (.iload_n 1, 1) := by decide +kernel
theorem d_X_pass_1 : decode b_X_pass 1 = .ok (.iconst 1, 1) := by decide +kernel
theorem d_X_pass_2 : decode b_X_pass 2 = .ok (.if_icmp .lt 9, 3) := by decide +kernel
theorem d_X_pass_5 : decode b_X_pass 5 = .ok (.iload_n 1, 1) := by decide +kernel
theorem d_X_pass_6 : decode b_X_pass 6 = .ok (.ldc 88, 2) := by decide +kernel
theorem d_X_pass_8 : decode b_X_pass 8 = .ok (.if_icmp .le 5, 3) := by decide +kernel
theorem d_X_pass_11 : decode b_X_pass 11 = .ok (.iconst 0, 1) := by decide +kernel
theorem d_X_pass_12 : decode b_X_pass 12 = .ok (.ireturn, 1) := by decide +kernel
theorem d_X_pass_13 : decode b_X_pass 13 = .ok (.aload_n 0, 1) := by decide +kernel
theorem d_X_pass_14 : decode b_X_pass 14 = .ok (.getfield 32, 3) := by decide +kernel
theorem d_X_pass_17 : decode b_X_pass 17 = .ok (.dup, 1) := by decide +kernel
theorem d_X_pass_18 : decode b_X_pass 18 = .ok (.getfield 89, 3) := by decide +kernel
theorem d_X_pass_21 : decode b_X_pass 21 = .ok (.iload_n 1, 1) := by decide +kernel
theorem d_X_pass_22 : decode b_X_pass 22 = .ok (.iadd, 1) := by decide +kernel
theorem d_X_pass_23 : decode b_X_pass 23 = .ok (.putfield 89, 3) := by decide +kernel
theorem d_X_pass_26 : decode b_X_pass 26 = .ok (.iconst 1, 1) := by decide +kernel
theorem d_X_pass_27 : decode b_X_pass 27 = .ok (.ireturn, 1) := by decide +kernel
theorem d_X_run_0 : decode b_X_run 0 = .ok (.iload_n 1, 1) := by decide +kernel
theorem d_X_run_1 : decode b_X_run 1 = .ok (.iconst 1, 1) := by decide +kernel
theorem d_X_run_2 : decode b_X_run 2 = .ok (.if_icmp .lt 9, 3) := by decide +kernel
theorem d_X_run_5 : decode b_X_run 5 = .ok (.iload_n 1, 1) := by decide +kernel
theorem d_X_run_6 : decode b_X_run 6 = .ok (.bipush 100, 2) := by decide +kernel
theorem d_X_run_8 : decode b_X_run 8 = .ok (.if_icmp .le 5, 3) := by decide +kernel
theorem d_X_run_11 : decode b_X_run 11 = .ok (.iconst (-1), 1) := by decide +kernel
theorem d_X_run_12 : decode b_X_run 12 = .ok (.ireturn, 1) := by decide +kernel
theorem d_X_run_13 : decode b_X_run 13 = .ok (.aload_n 0, 1) := by decide +kernel
theorem d_X_run_14 : decode b_X_run 14 = .ok (.iconst 1, 1) := by decide +kernel
theorem d_X_run_15 : decode b_X_run 15 = .ok (.putfield 60, 3) := by decide +kernel
theorem d_X_run_18 : decode b_X_run 18 = .ok (.iconst 0, 1) := by decide +kernel
theorem d_X_run_19 : decode b_X_run 19 = .ok (.istore_n 2, 1) := by decide +kernel
theorem d_X_run_20 : decode b_X_run 20 = .ok (.iconst 0, 1) := by decide +kernel
theorem d_X_run_21 : decode b_X_run 21 = .ok (.istore_n 3, 1) := by decide +kernel
theorem d_X_run_22 : decode b_X_run 22 = .ok (.iload_n 3, 1) := by decide +kernel
theorem d_X_run_23 : decode b_X_run 23 = .ok (.iload_n 1, 1) := by decide +kernel
theorem d_X_run_24 : decode b_X_run 24 = .ok (.if_icmp .ge 46, 3) := by decide +kernel
theorem d_X_run_27 : decode b_X_run 27 = .ok (.aload_n 0, 1) := by decide +kernel
theorem d_X_run_28 : decode b_X_run 28 = .ok (.getfield 23, 3) := by decide +kernel
theorem d_X_run_31 : decode b_X_run 31 = .ok (.getfield 92, 3) := by decide +kernel
theorem d_X_run_34 : decode b_X_run 34 = .ok (.sipush 290, 3) := by decide +kernel
theorem d_X_run_37 : decode b_X_run 37 = .ok (.if_icmp .gt 33, 3) := by decide +kernel
theorem d_X_run_40 : decode b_X_run 40 = .ok (.aload_n 0, 1) := by decide +kernel
theorem d_X_run_41 : decode b_X_run 41 = .ok (.getfield 53, 3) := by decide +kernel
theorem d_X_run_44 : decode b_X_run 44 = .ok (.aload_n 0, 1) := by decide +kernel
theorem d_X_run_45 : decode b_X_run 45 = .ok (.getfield 16, 3) := by decide +kernel
theorem d_X_run_48 : decode b_X_run 48 = .ok (.aload_n 0, 1) := by decide +kernel
theorem d_X_run_49 : decode b_X_run 49 = .ok (.getfield 32, 3) := by decide +kernel
theorem d_X_run_52 : decode b_X_run 52 = .ok (.invokevirtual 93, 3) := by decide +kernel
theorem d_X_run_55 : decode b_X_run 55 = .ok (.ifCond .ne 6, 3) := by decide +kernel
theorem d_X_run_58 : decode b_X_run 58 = .ok (.goto 12, 3) := by decide +kernel
theorem d_X_run_61 : decode b_X_run 61 = .ok (.iinc 2 1, 3) := by decide +kernel
theorem d_X_run_64 : decode b_X_run 64 = .ok (.iinc 3 1, 3) := by decide +kernel
theorem d_X_run_67 : decode b_X_run 67 = .ok (.goto (-45), 3) := by decide +kernel
theorem d_X_run_70 : decode b_X_run 70 = .ok (.iload_n 2, 1) := by decide +kernel
theorem d_X_run_71 : decode b_X_run 71 = .ok (.ireturn, 1) := by decide +kernel
theorem d_M_step_0 : decode b_M_step 0 = .ok (.aload_n 0, 1) := by decide +kernel
theorem d_M_step_1 : decode b_M_step 1 = .ok (.getfield 38, 3) := by decide +kernel
theorem d_M_step_4 : decode b_M_step 4 = .ok (.ifCond .eq 5, 3) := by decide +kernel
theorem d_M_step_7 : decode b_M_step 7 = .ok (.iconst 0, 1) := by decide +kernel
theorem d_M_step_8 : decode b_M_step 8 = .ok (.ireturn, 1) := by decide +kernel
theorem d_M_step_9 : decode b_M_step 9 = .ok (.aload_n 0, 1) := by decide +kernel
theorem d_M_step_10 : decode b_M_step 10 = .ok (.dup, 1) := by decide +kernel
theorem d_M_step_11 : decode b_M_step 11 = .ok (.getfield 47, 3) := by decide +kernel
theorem d_M_step_14 : decode b_M_step 14 = .ok (.iconst 1, 1) := by decide +kernel
theorem d_M_step_15 : decode b_M_step 15 = .ok (.iadd, 1) := by decide +kernel
theorem d_M_step_16 : decode b_M_step 16 = .ok (.putfield 47, 3) := by decide +kernel
theorem d_M_step_19 : decode b_M_step 19 = .ok (.aload_n 0, 1) := by decide +kernel
theorem d_M_step_20 : decode b_M_step 20 = .ok (.getfield 34, 3) := by decide +kernel
theorem d_M_step_23 : decode b_M_step 23 = .ok (.ifCond .ne 45, 3) := by decide +kernel
theorem d_M_step_26 : decode b_M_step 26 = .ok (.aload_n 1, 1) := by decide +kernel
theorem d_M_step_27 : decode b_M_step 27 = .ok (.bipush 16, 2) := by decide +kernel
theorem d_M_step_29 : decode b_M_step 29 = .ok (.invokevirtual 50, 3) := by decide +kernel
theorem d_M_step_32 : decode b_M_step 32 = .ok (.ifCond .eq 36, 3) := by decide +kernel
theorem d_M_step_35 : decode b_M_step 35 = .ok (.aload_n 2, 1) := by decide +kernel
theorem d_M_step_36 : decode b_M_step 36 = .ok (.aload_n 0, 1) := by decide +kernel
theorem d_M_step_37 : decode b_M_step 37 = .ok (.getfield 47, 3) := by decide +kernel
theorem d_M_step_40 : decode b_M_step 40 = .ok (.invokevirtual 56, 3) := by decide +kernel
theorem d_M_step_43 : decode b_M_step 43 = .ok (.ifCond .eq 25, 3) := by decide +kernel
theorem d_M_step_46 : decode b_M_step 46 = .ok (.aload_n 0, 1) := by decide +kernel
theorem d_M_step_47 : decode b_M_step 47 = .ok (.aload_n 0, 1) := by decide +kernel
theorem d_M_step_48 : decode b_M_step 48 = .ok (.getfield 28, 3) := by decide +kernel
theorem d_M_step_51 : decode b_M_step 51 = .ok (.putfield 31, 3) := by decide +kernel
theorem d_M_step_54 : decode b_M_step 54 = .ok (.aload_n 0, 1) := by decide +kernel
theorem d_M_step_55 : decode b_M_step 55 = .ok (.bipush 16, 2) := by decide +kernel
theorem d_M_step_57 : decode b_M_step 57 = .ok (.putfield 28, 3) := by decide +kernel
theorem d_M_step_60 : decode b_M_step 60 = .ok (.aload_n 0, 1) := by decide +kernel
theorem d_M_step_61 : decode b_M_step 61 = .ok (.iconst 1, 1) := by decide +kernel
theorem d_M_step_62 : decode b_M_step 62 = .ok (.putfield 34, 3) := by decide +kernel
theorem d_M_step_65 : decode b_M_step 65 = .ok (.goto 60, 3) := by decide +kernel
theorem d_M_step_68 : decode b_M_step 68 = .ok (.aload_n 1, 1) := by decide +kernel
theorem d_M_step_69 : decode b_M_step 69 = .ok (.aload_n 0, 1) := by decide +kernel
theorem d_M_step_70 : decode b_M_step 70 = .ok (.getfield 28, 3) := by decide +kernel
theorem d_M_step_73 : decode b_M_step 73 = .ok (.invokevirtual 50, 3) := by decide +kernel
theorem d_M_step_76 : decode b_M_step 76 = .ok (.ifCond .eq 44, 3) := by decide +kernel
theorem d_M_step_79 : decode b_M_step 79 = .ok (.aload_n 0, 1) := by decide +kernel
theorem d_M_step_80 : decode b_M_step 80 = .ok (.getfield 28, 3) := by decide +kernel
theorem d_M_step_83 : decode b_M_step 83 = .ok (.istore_n 3, 1) := by decide +kernel
theorem d_M_step_84 : decode b_M_step 84 = .ok (.aload_n 0, 1) := by decide +kernel
theorem d_M_step_85 : decode b_M_step 85 = .ok (.dup, 1) := by decide +kernel
theorem d_M_step_86 : decode b_M_step 86 = .ok (.getfield 28, 3) := by decide +kernel
theorem d_M_step_89 : decode b_M_step 89 = .ok (.iconst 1, 1) := by decide +kernel
theorem d_M_step_90 : decode b_M_step 90 = .ok (.iadd, 1) := by decide +kernel
theorem d_M_step_91 : decode b_M_step 91 = .ok (.putfield 28, 3) := by decide +kernel
theorem d_M_step_94 : decode b_M_step 94 = .ok (.aload_n 0, 1) := by decide +kernel
theorem d_M_step_95 : decode b_M_step 95 = .ok (.aload_n 1, 1) := by decide +kernel
theorem d_M_step_96 : decode b_M_step 96 = .ok (.getfield 61, 3) := by decide +kernel
theorem d_M_step_99 : decode b_M_step 99 = .ok (.iload_n 3, 1) := by decide +kernel
theorem d_M_step_100 : decode b_M_step 100 = .ok (.iaload, 1) := by decide +kernel
theorem d_M_step_101 : decode b_M_step 101 = .ok (.aload_n 1, 1) := by decide +kernel
theorem d_M_step_102 : decode b_M_step 102 = .ok (.getfield 64, 3) := by decide +kernel
theorem d_M_step_105 : decode b_M_step 105 = .ok (.iload_n 3, 1) := by decide +kernel
theorem d_M_step_106 : decode b_M_step 106 = .ok (.iaload, 1) := by decide +kernel
theorem d_M_step_107 : decode b_M_step 107 = .ok (.aload_n 1, 1) := by decide +kernel
theorem d_M_step_108 : decode b_M_step 108 = .ok (.getfield 67, 3) := by decide +kernel
theorem d_M_step_111 : decode b_M_step 111 = .ok (.iload_n 3, 1) := by decide +kernel
theorem d_M_step_112 : decode b_M_step 112 = .ok (.iaload, 1) := by decide +kernel
theorem d_M_step_113 : decode b_M_step 113 = .ok (.aload_n 2, 1) := by decide +kernel
theorem d_M_step_114 : decode b_M_step 114 = .ok (.invokevirtual 70, 3) := by decide +kernel
theorem d_M_step_117 : decode b_M_step 117 = .ok (.goto 8, 3) := by decide +kernel
theorem d_M_step_120 : decode b_M_step 120 = .ok (.aload_n 0, 1) := by decide +kernel
theorem d_M_step_121 : decode b_M_step 121 = .ok (.iconst 1, 1) := by decide +kernel
theorem d_M_step_122 : decode b_M_step 122 = .ok (.putfield 38, 3) := by decide +kernel
theorem d_M_step_125 : decode b_M_step 125 = .ok (.aload_n 0, 1) := by decide +kernel
theorem d_M_step_126 : decode b_M_step 126 = .ok (.invokevirtual 74, 3) := by decide +kernel
theorem d_M_step_129 : decode b_M_step 129 = .ok (.iconst 1, 1) := by decide +kernel
theorem d_M_step_130 : decode b_M_step 130 = .ok (.ireturn, 1) := by decide +kernel
theorem d_P_has_0 : decode b_P_has 0 = .ok (.iload_n 1, 1) := by decide +kernel
theorem d_P_has_1 : decode b_P_has 1 = .ok (.ifCond .lt 15, 3) := by decide +kernel
theorem d_P_has_4 : decode b_P_has 4 = .ok (.iload_n 1, 1) := by decide +kernel
theorem d_P_has_5 : decode b_P_has 5 = .ok (.aload_n 0, 1) := by decide +kernel
theorem d_P_has_6 : decode b_P_has 6 = .ok (.getfield 21, 3) := by decide +kernel
theorem d_P_has_9 : decode b_P_has 9 = .ok (.if_icmp .ge 7, 3) := by decide +kernel
theorem d_P_has_12 : decode b_P_has 12 = .ok (.iconst 1, 1) := by decide +kernel
theorem d_P_has_13 : decode b_P_has 13 = .ok (.goto 4, 3) := by decide +kernel
theorem d_P_has_16 : decode b_P_has 16 = .ok (.iconst 0, 1) := by decide +kernel
theorem d_P_has_17 : decode b_P_has 17 = .ok (.ireturn, 1) := by decide +kernel
theorem d_R_takeInterrupt_0 : decode b_R_takeInterrupt 0 = .ok (.aload_n 0, 1) := by decide +kernel
theorem d_R_takeInterrupt_1 : decode b_R_takeInterrupt 1 = .ok (.getfield 26, 3) := by decide +kernel
theorem d_R_takeInterrupt_4 : decode b_R_takeInterrupt 4 = .ok (.ifCond .ne 5, 3) := by decide +kernel
theorem d_R_takeInterrupt_7 : decode b_R_takeInterrupt 7 = .ok (.iconst 0, 1) := by decide +kernel
theorem d_R_takeInterrupt_8 : decode b_R_takeInterrupt 8 = .ok (.ireturn, 1) := by decide +kernel
theorem d_R_takeInterrupt_9 : decode b_R_takeInterrupt 9 = .ok (.aload_n 0, 1) := by decide +kernel
theorem d_R_takeInterrupt_10 : decode b_R_takeInterrupt 10 = .ok (.iconst 0, 1) := by decide +kernel
theorem d_R_takeInterrupt_11 : decode b_R_takeInterrupt 11 = .ok (.putfield 26, 3) := by decide +kernel
theorem d_R_takeInterrupt_14 : decode b_R_takeInterrupt 14 = .ok (.aload_n 0, 1) := by decide +kernel
theorem d_R_takeInterrupt_15 : decode b_R_takeInterrupt 15 = .ok (.getfield 15, 3) := by decide +kernel
theorem d_R_takeInterrupt_18 : decode b_R_takeInterrupt 18 = .ok (.iload_n 1, 1) := by decide +kernel
theorem d_R_takeInterrupt_19 : decode b_R_takeInterrupt 19 = .ok (.iconst 3, 1) := by decide +kernel
theorem d_R_takeInterrupt_20 : decode b_R_takeInterrupt 20 = .ok (.invokevirtual 33, 3) := by decide +kernel
theorem d_R_takeInterrupt_23 : decode b_R_takeInterrupt 23 = .ok (.iconst 1, 1) := by decide +kernel
theorem d_R_takeInterrupt_24 : decode b_R_takeInterrupt 24 = .ok (.ireturn, 1) := by decide +kernel
theorem d_J_beginEntry_0 : decode b_J_beginEntry 0 = .ok (.aload_n 0, 1) := by decide +kernel
theorem d_J_beginEntry_1 : decode b_J_beginEntry 1 = .ok (.iconst 4, 1) := by decide +kernel
theorem d_J_beginEntry_2 : decode b_J_beginEntry 2 = .ok (.iload_n 1, 1) := by decide +kernel
theorem d_J_beginEntry_3 : decode b_J_beginEntry 3 = .ok (.aload_n 0, 1) := by decide +kernel
theorem d_J_beginEntry_4 : decode b_J_beginEntry 4 = .ok (.getfield 25, 3) := by decide +kernel
theorem d_J_beginEntry_7 : decode b_J_beginEntry 7 = .ok (.isub, 1) := by decide +kernel
theorem d_J_beginEntry_8 : decode b_J_beginEntry 8 = .ok (.imul, 1) := by decide +kernel
theorem d_J_beginEntry_9 : decode b_J_beginEntry 9 = .ok (.iload_n 2, 1) := by decide +kernel
theorem d_J_beginEntry_10 : decode b_J_beginEntry 10 = .ok (.iadd, 1) := by decide +kernel
theorem d_J_beginEntry_11 : decode b_J_beginEntry 11 = .ok (.invokevirtual 28, 3) := by decide +kernel
theorem d_J_beginEntry_14 : decode b_J_beginEntry 14 = .ok (.aload_n 0, 1) := by decide +kernel
theorem d_J_beginEntry_15 : decode b_J_beginEntry 15 = .ok (.iload_n 1, 1) := by decide +kernel
theorem d_J_beginEntry_16 : decode b_J_beginEntry 16 = .ok (.putfield 25, 3) := by decide +kernel
theorem d_J_beginEntry_19 : decode b_J_beginEntry 19 = .ok (.aload_n 0, 1) := by decide +kernel
theorem d_J_beginEntry_20 : decode b_J_beginEntry 20 = .ok (.dup, 1) := by decide +kernel
theorem d_J_beginEntry_21 : decode b_J_beginEntry 21 = .ok (.getfield 22, 3) := by decide +kernel
theorem d_J_beginEntry_24 : decode b_J_beginEntry 24 = .ok (.iconst 1, 1) := by decide +kernel
theorem d_J_beginEntry_25 : decode b_J_beginEntry 25 = .ok (.iadd, 1) := by decide +kernel
theorem d_J_beginEntry_26 : decode b_J_beginEntry 26 = .ok (.putfield 22, 3) := by decide +kernel
theorem d_J_beginEntry_29 : decode b_J_beginEntry 29 = .ok (.return_, 1) := by decide +kernel
theorem d_J_writeNumber_0 : decode b_J_writeNumber 0 = .ok (.iload_n 1, 1) := by decide +kernel
theorem d_J_writeNumber_1 : decode b_J_writeNumber 1 = .ok (.istore_n 2, 1) := by decide +kernel
theorem d_J_writeNumber_2 : decode b_J_writeNumber 2 = .ok (.iconst 0, 1) := by decide +kernel
theorem d_J_writeNumber_3 : decode b_J_writeNumber 3 = .ok (.istore_n 3, 1) := by decide +kernel
theorem d_J_writeNumber_4 : decode b_J_writeNumber 4 = .ok (.iload_n 3, 1) := by decide +kernel
theorem d_J_writeNumber_5 : decode b_J_writeNumber 5 = .ok (.iconst 5, 1) := by decide +kernel
theorem d_J_writeNumber_6 : decode b_J_writeNumber 6 = .ok (.if_icmp .ge 88, 3) := by decide +kernel
theorem d_J_writeNumber_9 : decode b_J_writeNumber 9 = .ok (.aload_n 0, 1) := by decide +kernel
theorem d_J_writeNumber_10 : decode b_J_writeNumber 10 = .ok (.getfield 19, 3) := by decide +kernel
theorem d_J_writeNumber_13 : decode b_J_writeNumber 13 = .ok (.sipush 300, 3) := by decide +kernel
theorem d_J_writeNumber_16 : decode b_J_writeNumber 16 = .ok (.if_icmp .ge 78, 3) := by decide +kernel
theorem d_J_writeNumber_19 : decode b_J_writeNumber 19 = .ok (.iload_n 2, 1) := by decide +kernel
theorem d_J_writeNumber_20 : decode b_J_writeNumber 20 = .ok (.bipush 127, 2) := by decide +kernel
theorem d_J_writeNumber_22 : decode b_J_writeNumber 22 = .ok (.iand, 1) := by decide +kernel
theorem d_J_writeNumber_23 : decode b_J_writeNumber 23 = .ok (.istore 4, 2) := by decide +kernel
theorem d_J_writeNumber_25 : decode b_J_writeNumber 25 = .ok (.iload_n 2, 1) := by decide +kernel
theorem d_J_writeNumber_26 : decode b_J_writeNumber 26 = .ok (.bipush 7, 2) := by decide +kernel
theorem d_J_writeNumber_28 : decode b_J_writeNumber 28 = .ok (.iushr, 1) := by decide +kernel
theorem d_J_writeNumber_29 : decode b_J_writeNumber 29 = .ok (.istore_n 2, 1) := by decide +kernel
theorem d_J_writeNumber_30 : decode b_J_writeNumber 30 = .ok (.iload_n 2, 1) := by decide +kernel
theorem d_J_writeNumber_31 : decode b_J_writeNumber 31 = .ok (.ifCond .ne 8, 3) := by decide +kernel
theorem d_J_writeNumber_34 : decode b_J_writeNumber 34 = .ok (.iload 4, 2) := by decide +kernel
theorem d_J_writeNumber_36 : decode b_J_writeNumber 36 = .ok (.goto 9, 3) := by decide +kernel
theorem d_J_writeNumber_39 : decode b_J_writeNumber 39 = .ok (.iload 4, 2) := by decide +kernel
theorem d_J_writeNumber_41 : decode b_J_writeNumber 41 = .ok (.sipush 128, 3) := by decide +kernel
theorem d_J_writeNumber_44 : decode b_J_writeNumber 44 = .ok (.ior, 1) := by decide +kernel
theorem d_J_writeNumber_45 : decode b_J_writeNumber 45 = .ok (.istore 5, 2) := by decide +kernel
theorem d_J_writeNumber_47 : decode b_J_writeNumber 47 = .ok (.aload_n 0, 1) := by decide +kernel
theorem d_J_writeNumber_48 : decode b_J_writeNumber 48 = .ok (.getfield 9, 3) := by decide +kernel
theorem d_J_writeNumber_51 : decode b_J_writeNumber 51 = .ok (.aload_n 0, 1) := by decide +kernel
theorem d_J_writeNumber_52 : decode b_J_writeNumber 52 = .ok (.getfield 19, 3) := by decide +kernel
theorem d_J_writeNumber_55 : decode b_J_writeNumber 55 = .ok (.iload 5, 2) := by decide +kernel
theorem d_J_writeNumber_57 : decode b_J_writeNumber 57 = .ok (.iastore, 1) := by decide +kernel
theorem d_J_writeNumber_58 : decode b_J_writeNumber 58 = .ok (.aload_n 0, 1) := by decide +kernel
theorem d_J_writeNumber_59 : decode b_J_writeNumber 59 = .ok (.dup, 1) := by decide +kernel
theorem d_J_writeNumber_60 : decode b_J_writeNumber 60 = .ok (.getfield 19, 3) := by decide +kernel
theorem d_J_writeNumber_63 : decode b_J_writeNumber 63 = .ok (.iconst 1, 1) := by decide +kernel
theorem d_J_writeNumber_64 : decode b_J_writeNumber 64 = .ok (.iadd, 1) := by decide +kernel
theorem d_J_writeNumber_65 : decode b_J_writeNumber 65 = .ok (.putfield 19, 3) := by decide +kernel
theorem d_J_writeNumber_68 : decode b_J_writeNumber 68 = .ok (.aload_n 0, 1) := by decide +kernel
theorem d_J_writeNumber_69 : decode b_J_writeNumber 69 = .ok (.aload_n 0, 1) := by decide +kernel
theorem d_J_writeNumber_70 : decode b_J_writeNumber 70 = .ok (.getfield 15, 3) := by decide +kernel
theorem d_J_writeNumber_73 : decode b_J_writeNumber 73 = .ok (.iload 5, 2) := by decide +kernel
theorem d_J_writeNumber_75 : decode b_J_writeNumber 75 = .ok (.invokestatic 32, 3) := by decide +kernel
theorem d_J_writeNumber_78 : decode b_J_writeNumber 78 = .ok (.putfield 15, 3) := by decide +kernel
theorem d_J_writeNumber_81 : decode b_J_writeNumber 81 = .ok (.iload_n 2, 1) := by decide +kernel
theorem d_J_writeNumber_82 : decode b_J_writeNumber 82 = .ok (.ifCond .ne 6, 3) := by decide +kernel
theorem d_J_writeNumber_85 : decode b_J_writeNumber 85 = .ok (.goto 9, 3) := by decide +kernel
theorem d_J_writeNumber_88 : decode b_J_writeNumber 88 = .ok (.iinc 3 1, 3) := by decide +kernel
theorem d_J_writeNumber_91 : decode b_J_writeNumber 91 = .ok (.goto (-87), 3) := by decide +kernel
theorem d_J_writeNumber_94 : decode b_J_writeNumber 94 = .ok (.return_, 1) := by decide +kernel
theorem d_X_sealByte_0 : decode b_X_sealByte 0 = .ok (.iload_n 0, 1) := by decide +kernel
theorem d_X_sealByte_1 : decode b_X_sealByte 1 = .ok (.iload_n 1, 1) := by decide +kernel
theorem d_X_sealByte_2 : decode b_X_sealByte 2 = .ok (.invokestatic 142, 3) := by decide +kernel
theorem d_X_sealByte_5 : decode b_X_sealByte 5 = .ok (.istore_n 2, 1) := by decide +kernel
theorem d_X_sealByte_6 : decode b_X_sealByte 6 = .ok (.iload_n 2, 1) := by decide +kernel
theorem d_X_sealByte_7 : decode b_X_sealByte 7 = .ok (.iload_n 2, 1) := by decide +kernel
theorem d_X_sealByte_8 : decode b_X_sealByte 8 = .ok (.bipush 13, 2) := by decide +kernel
theorem d_X_sealByte_10 : decode b_X_sealByte 10 = .ok (.iushr, 1) := by decide +kernel
theorem d_X_sealByte_11 : decode b_X_sealByte 11 = .ok (.ixor, 1) := by decide +kernel
theorem d_X_sealByte_12 : decode b_X_sealByte 12 = .ok (.ireturn, 1) := by decide +kernel
end
section
theorem d_X_mix_0 : decode b_X_mix 0 = .ok (.iload_n 0, 1) := by decide +kernel
theorem d_X_mix_1 : decode b_X_mix 1 = .ok (.iload_n 1, 1) := by decide +kernel
theorem d_X_mix_2 : decode b_X_mix 2 = .ok (.ixor, 1) := by decide +kernel
theorem d_X_mix_3 : decode b_X_mix 3 = .ok (.ldc 141, 2) := by decide +kernel
theorem d_X_mix_5 : decode b_X_mix 5 = .ok (.imul, 1) := by decide +kernel
theorem d_X_mix_6 : decode b_X_mix 6 = .ok (.ireturn, 1) := by decide +kernel
theorem d_T_takeInterrupt_0 : decode b_T_takeInterrupt 0 = .ok (.aload_n 0, 1) := by decide +kernel
theorem d_T_takeInterrupt_1 : decode b_T_takeInterrupt 1 = .ok (.iload_n 1, 1) := by decide +kernel
theorem d_T_takeInterrupt_2 : decode b_T_takeInterrupt 2 = .ok (.iconst 3, 1) := by decide +kernel
theorem d_T_takeInterrupt_3 : decode b_T_takeInterrupt 3 = .ok (.invokevirtual 34, 3) := by decide +kernel
theorem d_T_takeInterrupt_6 : decode b_T_takeInterrupt 6 = .ok (.ireturn, 1) := by decide +kernel
theorem d_T_hasEntry_0 : decode b_T_hasEntry 0 = .ok (.iconst 0, 1) := by decide +kernel
theorem d_T_hasEntry_1 : decode b_T_hasEntry 1 = .ok (.istore_n 3, 1) := by decide +kernel
theorem d_T_hasEntry_2 : decode b_T_hasEntry 2 = .ok (.iload_n 3, 1) := by decide +kernel
theorem d_T_hasEntry_3 : decode b_T_hasEntry 3 = .ok (.sipush 300, 3) := by decide +kernel
theorem d_T_hasEntry_6 : decode b_T_hasEntry 6 = .ok (.if_icmp .ge 39, 3) := by decide +kernel
theorem d_T_hasEntry_9 : decode b_T_hasEntry 9 = .ok (.aload_n 0, 1) := by decide +kernel
theorem d_T_hasEntry_10 : decode b_T_hasEntry 10 = .ok (.getfield 9, 3) := by decide +kernel
theorem d_T_hasEntry_13 : decode b_T_hasEntry 13 = .ok (.getfield 20, 3) := by decide +kernel
theorem d_T_hasEntry_16 : decode b_T_hasEntry 16 = .ok (.ifCond .eq 29, 3) := by decide +kernel
theorem d_T_hasEntry_19 : decode b_T_hasEntry 19 = .ok (.aload_n 0, 1) := by decide +kernel
theorem d_T_hasEntry_20 : decode b_T_hasEntry 20 = .ok (.getfield 9, 3) := by decide +kernel
theorem d_T_hasEntry_23 : decode b_T_hasEntry 23 = .ok (.getfield 41, 3) := by decide +kernel
theorem d_T_hasEntry_26 : decode b_T_hasEntry 26 = .ok (.iload_n 1, 1) := by decide +kernel
theorem d_T_hasEntry_27 : decode b_T_hasEntry 27 = .ok (.i2l, 1) := by decide +kernel
theorem d_T_hasEntry_28 : decode b_T_hasEntry 28 = .ok (.lcmp, 1) := by decide +kernel
theorem d_T_hasEntry_29 : decode b_T_hasEntry 29 = .ok (.ifCond .ge 16, 3) := by decide +kernel
theorem d_T_hasEntry_32 : decode b_T_hasEntry 32 = .ok (.aload_n 0, 1) := by decide +kernel
theorem d_T_hasEntry_33 : decode b_T_hasEntry 33 = .ok (.getfield 9, 3) := by decide +kernel
theorem d_T_hasEntry_36 : decode b_T_hasEntry 36 = .ok (.invokevirtual 24, 3) := by decide +kernel
theorem d_T_hasEntry_39 : decode b_T_hasEntry 39 = .ok (.iinc 3 1, 3) := by decide +kernel
theorem d_T_hasEntry_42 : decode b_T_hasEntry 42 = .ok (.goto (-40), 3) := by decide +kernel
theorem d_T_hasEntry_45 : decode b_T_hasEntry 45 = .ok (.aload_n 0, 1) := by decide +kernel
theorem d_T_hasEntry_46 : decode b_T_hasEntry 46 = .ok (.getfield 9, 3) := by decide +kernel
theorem d_T_hasEntry_49 : decode b_T_hasEntry 49 = .ok (.getfield 20, 3) := by decide +kernel
theorem d_T_hasEntry_52 : decode b_T_hasEntry 52 = .ok (.ifCond .eq 31, 3) := by decide +kernel
theorem d_T_hasEntry_55 : decode b_T_hasEntry 55 = .ok (.aload_n 0, 1) := by decide +kernel
theorem d_T_hasEntry_56 : decode b_T_hasEntry 56 = .ok (.getfield 9, 3) := by decide +kernel
theorem d_T_hasEntry_59 : decode b_T_hasEntry 59 = .ok (.getfield 41, 3) := by decide +kernel
theorem d_T_hasEntry_62 : decode b_T_hasEntry 62 = .ok (.iload_n 1, 1) := by decide +kernel
theorem d_T_hasEntry_63 : decode b_T_hasEntry 63 = .ok (.i2l, 1) := by decide +kernel
theorem d_T_hasEntry_64 : decode b_T_hasEntry 64 = .ok (.lcmp, 1) := by decide +kernel
theorem d_T_hasEntry_65 : decode b_T_hasEntry 65 = .ok (.ifCond .ne 18, 3) := by decide +kernel
theorem d_T_hasEntry_68 : decode b_T_hasEntry 68 = .ok (.aload_n 0, 1) := by decide +kernel
theorem d_T_hasEntry_69 : decode b_T_hasEntry 69 = .ok (.getfield 9, 3) := by decide +kernel
theorem d_T_hasEntry_72 : decode b_T_hasEntry 72 = .ok (.getfield 45, 3) := by decide +kernel
theorem d_T_hasEntry_75 : decode b_T_hasEntry 75 = .ok (.iload_n 2, 1) := by decide +kernel
theorem d_T_hasEntry_76 : decode b_T_hasEntry 76 = .ok (.if_icmp .ne 7, 3) := by decide +kernel
theorem d_T_hasEntry_79 : decode b_T_hasEntry 79 = .ok (.iconst 1, 1) := by decide +kernel
theorem d_T_hasEntry_80 : decode b_T_hasEntry 80 = .ok (.goto 4, 3) := by decide +kernel
theorem d_T_hasEntry_83 : decode b_T_hasEntry 83 = .ok (.iconst 0, 1) := by decide +kernel
theorem d_T_hasEntry_84 : decode b_T_hasEntry 84 = .ok (.ireturn, 1) := by decide +kernel
theorem d_D_readEntry_0 : decode b_D_readEntry 0 = .ok (.aload_n 0, 1) := by decide +kernel
theorem d_D_readEntry_1 : decode b_D_readEntry 1 = .ok (.iconst 0, 1) := by decide +kernel
theorem d_D_readEntry_2 : decode b_D_readEntry 2 = .ok (.putfield 30, 3) := by decide +kernel
theorem d_D_readEntry_5 : decode b_D_readEntry 5 = .ok (.aload_n 0, 1) := by decide +kernel
theorem d_D_readEntry_6 : decode b_D_readEntry 6 = .ok (.getfield 23, 3) := by decide +kernel
theorem d_D_readEntry_9 : decode b_D_readEntry 9 = .ok (.ifCond .ne 17, 3) := by decide +kernel
theorem d_D_readEntry_12 : decode b_D_readEntry 12 = .ok (.aload_n 0, 1) := by decide +kernel
theorem d_D_readEntry_13 : decode b_D_readEntry 13 = .ok (.getfield 9, 3) := by decide +kernel
theorem d_D_readEntry_16 : decode b_D_readEntry 16 = .ok (.aload_n 0, 1) := by decide +kernel
theorem d_D_readEntry_17 : decode b_D_readEntry 17 = .ok (.getfield 15, 3) := by decide +kernel
theorem d_D_readEntry_20 : decode b_D_readEntry 20 = .ok (.invokevirtual 33, 3) := by decide +kernel
theorem d_D_readEntry_23 : decode b_D_readEntry 23 = .ok (.ifCond .ne 4, 3) := by decide +kernel
theorem d_D_readEntry_26 : decode b_D_readEntry 26 = .ok (.return_, 1) := by decide +kernel
theorem d_D_readEntry_27 : decode b_D_readEntry 27 = .ok (.aload_n 0, 1) := by decide +kernel
theorem d_D_readEntry_28 : decode b_D_readEntry 28 = .ok (.invokevirtual 39, 3) := by decide +kernel
theorem d_D_readEntry_31 : decode b_D_readEntry 31 = .ok (.istore_n 1, 1) := by decide +kernel
theorem d_D_readEntry_32 : decode b_D_readEntry 32 = .ok (.iload_n 1, 1) := by decide +kernel
theorem d_D_readEntry_33 : decode b_D_readEntry 33 = .ok (.iconst 2, 1) := by decide +kernel
theorem d_D_readEntry_34 : decode b_D_readEntry 34 = .ok (.iushr, 1) := by decide +kernel
theorem d_D_readEntry_35 : decode b_D_readEntry 35 = .ok (.istore_n 2, 1) := by decide +kernel
theorem d_D_readEntry_36 : decode b_D_readEntry 36 = .ok (.aload_n 0, 1) := by decide +kernel
theorem d_D_readEntry_37 : decode b_D_readEntry 37 = .ok (.iload_n 1, 1) := by decide +kernel
theorem d_D_readEntry_38 : decode b_D_readEntry 38 = .ok (.iconst 3, 1) := by decide +kernel
theorem d_D_readEntry_39 : decode b_D_readEntry 39 = .ok (.iand, 1) := by decide +kernel
theorem d_D_readEntry_40 : decode b_D_readEntry 40 = .ok (.putfield 43, 3) := by decide +kernel
theorem d_D_readEntry_43 : decode b_D_readEntry 43 = .ok (.aload_n 0, 1) := by decide +kernel
theorem d_D_readEntry_44 : decode b_D_readEntry 44 = .ok (.aload_n 0, 1) := by decide +kernel
theorem d_D_readEntry_45 : decode b_D_readEntry 45 = .ok (.getfield 43, 3) := by decide +kernel
theorem d_D_readEntry_48 : decode b_D_readEntry 48 = .ok (.iconst 1, 1) := by decide +kernel
theorem d_D_readEntry_49 : decode b_D_readEntry 49 = .ok (.if_icmp .eq 11, 3) := by decide +kernel
theorem d_D_readEntry_52 : decode b_D_readEntry 52 = .ok (.aload_n 0, 1) := by decide +kernel
theorem d_D_readEntry_53 : decode b_D_readEntry 53 = .ok (.getfield 43, 3) := by decide +kernel
theorem d_D_readEntry_56 : decode b_D_readEntry 56 = .ok (.iconst 2, 1) := by decide +kernel
theorem d_D_readEntry_57 : decode b_D_readEntry 57 = .ok (.if_icmp .ne 10, 3) := by decide +kernel
theorem d_D_readEntry_60 : decode b_D_readEntry 60 = .ok (.aload_n 0, 1) := by decide +kernel
theorem d_D_readEntry_61 : decode b_D_readEntry 61 = .ok (.invokevirtual 39, 3) := by decide +kernel
theorem d_D_readEntry_64 : decode b_D_readEntry 64 = .ok (.goto 4, 3) := by decide +kernel
theorem d_D_readEntry_67 : decode b_D_readEntry 67 = .ok (.iconst 0, 1) := by decide +kernel
theorem d_D_readEntry_68 : decode b_D_readEntry 68 = .ok (.putfield 46, 3) := by decide +kernel
theorem d_D_readEntry_71 : decode b_D_readEntry 71 = .ok (.aload_n 0, 1) := by decide +kernel
theorem d_D_readEntry_72 : decode b_D_readEntry 72 = .ok (.dup, 1) := by decide +kernel
theorem d_D_readEntry_73 : decode b_D_readEntry 73 = .ok (.getfield 19, 3) := by decide +kernel
theorem d_D_readEntry_76 : decode b_D_readEntry 76 = .ok (.iload_n 2, 1) := by decide +kernel
theorem d_D_readEntry_77 : decode b_D_readEntry 77 = .ok (.i2l, 1) := by decide +kernel
theorem d_D_readEntry_78 : decode b_D_readEntry 78 = .ok (.ladd, 1) := by decide +kernel
theorem d_D_readEntry_79 : decode b_D_readEntry 79 = .ok (.putfield 19, 3) := by decide +kernel
theorem d_D_readEntry_82 : decode b_D_readEntry 82 = .ok (.aload_n 0, 1) := by decide +kernel
theorem d_D_readEntry_83 : decode b_D_readEntry 83 = .ok (.getfield 43, 3) := by decide +kernel
theorem d_D_readEntry_86 : decode b_D_readEntry 86 = .ok (.ifCond .eq 7, 3) := by decide +kernel
theorem d_D_readEntry_89 : decode b_D_readEntry 89 = .ok (.iload_n 2, 1) := by decide +kernel
theorem d_D_readEntry_90 : decode b_D_readEntry 90 = .ok (.ifCond .ne 8, 3) := by decide +kernel
theorem d_D_readEntry_93 : decode b_D_readEntry 93 = .ok (.aload_n 0, 1) := by decide +kernel
theorem d_D_readEntry_94 : decode b_D_readEntry 94 = .ok (.iconst 1, 1) := by decide +kernel
theorem d_D_readEntry_95 : decode b_D_readEntry 95 = .ok (.putfield 23, 3) := by decide +kernel
theorem d_D_readEntry_98 : decode b_D_readEntry 98 = .ok (.aload_n 0, 1) := by decide +kernel
theorem d_D_readEntry_99 : decode b_D_readEntry 99 = .ok (.aload_n 0, 1) := by decide +kernel
theorem d_D_readEntry_100 : decode b_D_readEntry 100 = .ok (.getfield 23, 3) := by decide +kernel
theorem d_D_readEntry_103 : decode b_D_readEntry 103 = .ok (.ifCond .ne 7, 3) := by decide +kernel
theorem d_D_readEntry_106 : decode b_D_readEntry 106 = .ok (.iconst 1, 1) := by decide +kernel
theorem d_D_readEntry_107 : decode b_D_readEntry 107 = .ok (.goto 4, 3) := by decide +kernel
theorem d_D_readEntry_110 : decode b_D_readEntry 110 = .ok (.iconst 0, 1) := by decide +kernel
theorem d_D_readEntry_111 : decode b_D_readEntry 111 = .ok (.putfield 30, 3) := by decide +kernel
theorem d_D_readEntry_114 : decode b_D_readEntry 114 = .ok (.return_, 1) := by decide +kernel
theorem d_J_has_0 : decode b_J_has 0 = .ok (.iload_n 1, 1) := by decide +kernel
theorem d_J_has_1 : decode b_J_has 1 = .ok (.ifCond .lt 15, 3) := by decide +kernel
theorem d_J_has_4 : decode b_J_has 4 = .ok (.iload_n 1, 1) := by decide +kernel
theorem d_J_has_5 : decode b_J_has 5 = .ok (.aload_n 0, 1) := by decide +kernel
theorem d_J_has_6 : decode b_J_has 6 = .ok (.getfield 19, 3) := by decide +kernel
theorem d_J_has_9 : decode b_J_has 9 = .ok (.if_icmp .ge 7, 3) := by decide +kernel
theorem d_J_has_12 : decode b_J_has 12 = .ok (.iconst 1, 1) := by decide +kernel
theorem d_J_has_13 : decode b_J_has 13 = .ok (.goto 4, 3) := by decide +kernel
theorem d_J_has_16 : decode b_J_has 16 = .ok (.iconst 0, 1) := by decide +kernel
theorem d_J_has_17 : decode b_J_has 17 = .ok (.ireturn, 1) := by decide +kernel
theorem d_D_readNumber_0 : decode b_D_readNumber 0 = .ok (.iconst 0, 1) := by decide +kernel
theorem d_D_readNumber_1 : decode b_D_readNumber 1 = .ok (.istore_n 1, 1) := by decide +kernel
theorem d_D_readNumber_2 : decode b_D_readNumber 2 = .ok (.iconst 0, 1) := by decide +kernel
theorem d_D_readNumber_3 : decode b_D_readNumber 3 = .ok (.istore_n 2, 1) := by decide +kernel
theorem d_D_readNumber_4 : decode b_D_readNumber 4 = .ok (.iload_n 2, 1) := by decide +kernel
theorem d_D_readNumber_5 : decode b_D_readNumber 5 = .ok (.iconst 5, 1) := by decide +kernel
theorem d_D_readNumber_6 : decode b_D_readNumber 6 = .ok (.if_icmp .ge 67, 3) := by decide +kernel
theorem d_D_readNumber_9 : decode b_D_readNumber 9 = .ok (.aload_n 0, 1) := by decide +kernel
theorem d_D_readNumber_10 : decode b_D_readNumber 10 = .ok (.getfield 9, 3) := by decide +kernel
theorem d_D_readNumber_13 : decode b_D_readNumber 13 = .ok (.aload_n 0, 1) := by decide +kernel
theorem d_D_readNumber_14 : decode b_D_readNumber 14 = .ok (.getfield 15, 3) := by decide +kernel
theorem d_D_readNumber_17 : decode b_D_readNumber 17 = .ok (.invokevirtual 33, 3) := by decide +kernel
theorem d_D_readNumber_20 : decode b_D_readNumber 20 = .ok (.ifCond .eq 53, 3) := by decide +kernel
theorem d_D_readNumber_23 : decode b_D_readNumber 23 = .ok (.aload_n 0, 1) := by decide +kernel
theorem d_D_readNumber_24 : decode b_D_readNumber 24 = .ok (.getfield 9, 3) := by decide +kernel
theorem d_D_readNumber_27 : decode b_D_readNumber 27 = .ok (.getfield 49, 3) := by decide +kernel
theorem d_D_readNumber_30 : decode b_D_readNumber 30 = .ok (.aload_n 0, 1) := by decide +kernel
theorem d_D_readNumber_31 : decode b_D_readNumber 31 = .ok (.getfield 15, 3) := by decide +kernel
theorem d_D_readNumber_34 : decode b_D_readNumber 34 = .ok (.iaload, 1) := by decide +kernel
theorem d_D_readNumber_35 : decode b_D_readNumber 35 = .ok (.istore_n 3, 1) := by decide +kernel
theorem d_D_readNumber_36 : decode b_D_readNumber 36 = .ok (.aload_n 0, 1) := by decide +kernel
theorem d_D_readNumber_37 : decode b_D_readNumber 37 = .ok (.dup, 1) := by decide +kernel
theorem d_D_readNumber_38 : decode b_D_readNumber 38 = .ok (.getfield 15, 3) := by decide +kernel
theorem d_D_readNumber_41 : decode b_D_readNumber 41 = .ok (.iconst 1, 1) := by decide +kernel
theorem d_D_readNumber_42 : decode b_D_readNumber 42 = .ok (.iadd, 1) := by decide +kernel
theorem d_D_readNumber_43 : decode b_D_readNumber 43 = .ok (.putfield 15, 3) := by decide +kernel
theorem d_D_readNumber_46 : decode b_D_readNumber 46 = .ok (.iload_n 1, 1) := by decide +kernel
theorem d_D_readNumber_47 : decode b_D_readNumber 47 = .ok (.iload_n 3, 1) := by decide +kernel
theorem d_D_readNumber_48 : decode b_D_readNumber 48 = .ok (.bipush 127, 2) := by decide +kernel
theorem d_D_readNumber_50 : decode b_D_readNumber 50 = .ok (.iand, 1) := by decide +kernel
theorem d_D_readNumber_51 : decode b_D_readNumber 51 = .ok (.bipush 7, 2) := by decide +kernel
theorem d_D_readNumber_53 : decode b_D_readNumber 53 = .ok (.iload_n 2, 1) := by decide +kernel
theorem d_D_readNumber_54 : decode b_D_readNumber 54 = .ok (.imul, 1) := by decide +kernel
theorem d_D_readNumber_55 : decode b_D_readNumber 55 = .ok (.ishl, 1) := by decide +kernel
theorem d_D_readNumber_56 : decode b_D_readNumber 56 = .ok (.ior, 1) := by decide +kernel
theorem d_D_readNumber_57 : decode b_D_readNumber 57 = .ok (.istore_n 1, 1) := by decide +kernel
theorem d_D_readNumber_58 : decode b_D_readNumber 58 = .ok (.iload_n 3, 1) := by decide +kernel
theorem d_D_readNumber_59 : decode b_D_readNumber 59 = .ok (.sipush 128, 3) := by decide +kernel
theorem d_D_readNumber_62 : decode b_D_readNumber 62 = .ok (.if_icmp .ge 5, 3) := by decide +kernel
theorem d_D_readNumber_65 : decode b_D_readNumber 65 = .ok (.iload_n 1, 1) := by decide +kernel
theorem d_D_readNumber_66 : decode b_D_readNumber 66 = .ok (.ireturn, 1) := by decide +kernel
theorem d_D_readNumber_67 : decode b_D_readNumber 67 = .ok (.iinc 2 1, 3) := by decide +kernel
theorem d_D_readNumber_70 : decode b_D_readNumber 70 = .ok (.goto (-66), 3) := by decide +kernel
theorem d_D_readNumber_73 : decode b_D_readNumber 73 = .ok (.aload_n 0, 1) := by decide +kernel
theorem d_D_readNumber_74 : decode b_D_readNumber 74 = .ok (.iconst 1, 1) := by decide +kernel
theorem d_D_readNumber_75 : decode b_D_readNumber 75 = .ok (.putfield 23, 3) := by decide +kernel
theorem d_D_readNumber_78 : decode b_D_readNumber 78 = .ok (.iconst 0, 1) := by decide +kernel
theorem d_D_readNumber_79 : decode b_D_readNumber 79 = .ok (.ireturn, 1) := by decide +kernel
theorem d_M_perform_0 : decode b_M_perform 0 = .ok (.iload_n 2, 1) := by decide +kernel
theorem d_M_perform_1 : decode b_M_perform 1 = .ok (.iconst 3, 1) := by decide +kernel
theorem d_M_perform_2 : decode b_M_perform 2 = .ok (.iand, 1) := by decide +kernel
theorem d_M_perform_3 : decode b_M_perform 3 = .ok (.istore 5, 2) := by decide +kernel
theorem d_M_perform_5 : decode b_M_perform 5 = .ok (.aload_n 0, 1) := by decide +kernel
theorem d_M_perform_6 : decode b_M_perform 6 = .ok (.getfield 9, 3) := by decide +kernel
theorem d_M_perform_9 : decode b_M_perform 9 = .ok (.iload_n 3, 1) := by decide +kernel
theorem d_M_perform_10 : decode b_M_perform 10 = .ok (.iconst 3, 1) := by decide +kernel
theorem d_M_perform_11 : decode b_M_perform 11 = .ok (.iand, 1) := by decide +kernel
theorem d_M_perform_12 : decode b_M_perform 12 = .ok (.iaload, 1) := by decide +kernel
theorem d_M_perform_13 : decode b_M_perform 13 = .ok (.istore 6, 2) := by decide +kernel
theorem d_M_perform_15 : decode b_M_perform 15 = .ok (.iload_n 1, 1) := by decide +kernel
theorem d_M_perform_16 : decode b_M_perform 16 = .ok (.tableswitch 232 0 10 #[60, 71, 86, 101, 121, 232, 232, 141, 160, 179, 211], 60) := by decide +kernel
theorem d_M_perform_76 : decode b_M_perform 76 = .ok (.aload_n 0, 1) := by decide +kernel
theorem d_M_perform_77 : decode b_M_perform 77 = .ok (.getfield 9, 3) := by decide +kernel
theorem d_M_perform_80 : decode b_M_perform 80 = .ok (.iload 5, 2) := by decide +kernel
theorem d_M_perform_82 : decode b_M_perform 82 = .ok (.iload_n 3, 1) := by decide +kernel
theorem d_M_perform_83 : decode b_M_perform 83 = .ok (.iastore, 1) := by decide +kernel
theorem d_M_perform_84 : decode b_M_perform 84 = .ok (.goto 177, 3) := by decide +kernel
theorem d_M_perform_87 : decode b_M_perform 87 = .ok (.aload_n 0, 1) := by decide +kernel
theorem d_M_perform_88 : decode b_M_perform 88 = .ok (.getfield 9, 3) := by decide +kernel
theorem d_M_perform_91 : decode b_M_perform 91 = .ok (.iload 5, 2) := by decide +kernel
theorem d_M_perform_93 : decode b_M_perform 93 = .ok (.dup2, 1) := by decide +kernel
theorem d_M_perform_94 : decode b_M_perform 94 = .ok (.iaload, 1) := by decide +kernel
theorem d_M_perform_95 : decode b_M_perform 95 = .ok (.iload 6, 2) := by decide +kernel
theorem d_M_perform_97 : decode b_M_perform 97 = .ok (.iadd, 1) := by decide +kernel
theorem d_M_perform_98 : decode b_M_perform 98 = .ok (.iastore, 1) := by decide +kernel
theorem d_M_perform_99 : decode b_M_perform 99 = .ok (.goto 162, 3) := by decide +kernel
theorem d_M_perform_102 : decode b_M_perform 102 = .ok (.aload_n 0, 1) := by decide +kernel
theorem d_M_perform_103 : decode b_M_perform 103 = .ok (.getfield 9, 3) := by decide +kernel
theorem d_M_perform_106 : decode b_M_perform 106 = .ok (.iload 5, 2) := by decide +kernel
theorem d_M_perform_108 : decode b_M_perform 108 = .ok (.dup2, 1) := by decide +kernel
theorem d_M_perform_109 : decode b_M_perform 109 = .ok (.iaload, 1) := by decide +kernel
theorem d_M_perform_110 : decode b_M_perform 110 = .ok (.iload 6, 2) := by decide +kernel
theorem d_M_perform_112 : decode b_M_perform 112 = .ok (.isub, 1) := by decide +kernel
theorem d_M_perform_113 : decode b_M_perform 113 = .ok (.iastore, 1) := by decide +kernel
theorem d_M_perform_114 : decode b_M_perform 114 = .ok (.goto 147, 3) := by decide +kernel
theorem d_M_perform_117 : decode b_M_perform 117 = .ok (.aload_n 0, 1) := by decide +kernel
theorem d_M_perform_118 : decode b_M_perform 118 = .ok (.getfield 9, 3) := by decide +kernel
theorem d_M_perform_121 : decode b_M_perform 121 = .ok (.iload 5, 2) := by decide +kernel
theorem d_M_perform_123 : decode b_M_perform 123 = .ok (.aload_n 0, 1) := by decide +kernel
theorem d_M_perform_124 : decode b_M_perform 124 = .ok (.getfield 15, 3) := by decide +kernel
theorem d_M_perform_127 : decode b_M_perform 127 = .ok (.iload 6, 2) := by decide +kernel
theorem d_M_perform_129 : decode b_M_perform 129 = .ok (.bipush 31, 2) := by decide +kernel
theorem d_M_perform_131 : decode b_M_perform 131 = .ok (.iand, 1) := by decide +kernel
theorem d_M_perform_132 : decode b_M_perform 132 = .ok (.iaload, 1) := by decide +kernel
theorem d_M_perform_133 : decode b_M_perform 133 = .ok (.iastore, 1) := by decide +kernel
theorem d_M_perform_134 : decode b_M_perform 134 = .ok (.goto 127, 3) := by decide +kernel
theorem d_M_perform_137 : decode b_M_perform 137 = .ok (.aload_n 0, 1) := by decide +kernel
theorem d_M_perform_138 : decode b_M_perform 138 = .ok (.getfield 15, 3) := by decide +kernel
theorem d_M_perform_141 : decode b_M_perform 141 = .ok (.iload 6, 2) := by decide +kernel
theorem d_M_perform_143 : decode b_M_perform 143 = .ok (.bipush 31, 2) := by decide +kernel
theorem d_M_perform_145 : decode b_M_perform 145 = .ok (.iand, 1) := by decide +kernel
theorem d_M_perform_146 : decode b_M_perform 146 = .ok (.aload_n 0, 1) := by decide +kernel
theorem d_M_perform_147 : decode b_M_perform 147 = .ok (.getfield 9, 3) := by decide +kernel
theorem d_M_perform_150 : decode b_M_perform 150 = .ok (.iload 5, 2) := by decide +kernel
theorem d_M_perform_152 : decode b_M_perform 152 = .ok (.iaload, 1) := by decide +kernel
theorem d_M_perform_153 : decode b_M_perform 153 = .ok (.iastore, 1) := by decide +kernel
theorem d_M_perform_154 : decode b_M_perform 154 = .ok (.goto 107, 3) := by decide +kernel
theorem d_M_perform_157 : decode b_M_perform 157 = .ok (.aload_n 0, 1) := by decide +kernel
theorem d_M_perform_158 : decode b_M_perform 158 = .ok (.getfield 9, 3) := by decide +kernel
theorem d_M_perform_161 : decode b_M_perform 161 = .ok (.iload 5, 2) := by decide +kernel
theorem d_M_perform_163 : decode b_M_perform 163 = .ok (.aload 4, 2) := by decide +kernel
theorem d_M_perform_165 : decode b_M_perform 165 = .ok (.aload_n 0, 1) := by decide +kernel
theorem d_M_perform_166 : decode b_M_perform 166 = .ok (.getfield 47, 3) := by decide +kernel
theorem d_M_perform_169 : decode b_M_perform 169 = .ok (.invokevirtual 77, 3) := by decide +kernel
theorem d_M_perform_172 : decode b_M_perform 172 = .ok (.iastore, 1) := by decide +kernel
theorem d_M_perform_173 : decode b_M_perform 173 = .ok (.goto 88, 3) := by decide +kernel
theorem d_M_perform_176 : decode b_M_perform 176 = .ok (.aload_n 0, 1) := by decide +kernel
theorem d_M_perform_177 : decode b_M_perform 177 = .ok (.getfield 9, 3) := by decide +kernel
theorem d_M_perform_180 : decode b_M_perform 180 = .ok (.iload 5, 2) := by decide +kernel
theorem d_M_perform_182 : decode b_M_perform 182 = .ok (.aload 4, 2) := by decide +kernel
theorem d_M_perform_184 : decode b_M_perform 184 = .ok (.aload_n 0, 1) := by decide +kernel
theorem d_M_perform_185 : decode b_M_perform 185 = .ok (.getfield 47, 3) := by decide +kernel
theorem d_M_perform_188 : decode b_M_perform 188 = .ok (.invokevirtual 81, 3) := by decide +kernel
theorem d_M_perform_191 : decode b_M_perform 191 = .ok (.iastore, 1) := by decide +kernel
theorem d_M_perform_192 : decode b_M_perform 192 = .ok (.goto 69, 3) := by decide +kernel
theorem d_M_perform_195 : decode b_M_perform 195 = .ok (.aload_n 0, 1) := by decide +kernel
theorem d_M_perform_196 : decode b_M_perform 196 = .ok (.aload_n 0, 1) := by decide +kernel
theorem d_M_perform_197 : decode b_M_perform 197 = .ok (.getfield 18, 3) := by decide +kernel
theorem d_M_perform_200 : decode b_M_perform 200 = .ok (.ldc 84, 2) := by decide +kernel
theorem d_M_perform_202 : decode b_M_perform 202 = .ok (.imul, 1) := by decide +kernel
theorem d_M_perform_203 : decode b_M_perform 203 = .ok (.sipush 12345, 3) := by decide +kernel
theorem d_M_perform_206 : decode b_M_perform 206 = .ok (.iadd, 1) := by decide +kernel
theorem d_M_perform_207 : decode b_M_perform 207 = .ok (.putfield 18, 3) := by decide +kernel
theorem d_M_perform_210 : decode b_M_perform 210 = .ok (.aload_n 0, 1) := by decide +kernel
theorem d_M_perform_211 : decode b_M_perform 211 = .ok (.getfield 9, 3) := by decide +kernel
theorem d_M_perform_214 : decode b_M_perform 214 = .ok (.iload 5, 2) := by decide +kernel
theorem d_M_perform_216 : decode b_M_perform 216 = .ok (.aload_n 0, 1) := by decide +kernel
theorem d_M_perform_217 : decode b_M_perform 217 = .ok (.getfield 18, 3) := by decide +kernel
theorem d_M_perform_220 : decode b_M_perform 220 = .ok (.bipush 16, 2) := by decide +kernel
theorem d_M_perform_222 : decode b_M_perform 222 = .ok (.iushr, 1) := by decide +kernel
theorem d_M_perform_223 : decode b_M_perform 223 = .ok (.iastore, 1) := by decide +kernel
theorem d_M_perform_224 : decode b_M_perform 224 = .ok (.goto 37, 3) := by decide +kernel
theorem d_M_perform_227 : decode b_M_perform 227 = .ok (.aload_n 0, 1) := by decide +kernel
theorem d_M_perform_228 : decode b_M_perform 228 = .ok (.aload_n 0, 1) := by decide +kernel
theorem d_M_perform_229 : decode b_M_perform 229 = .ok (.getfield 41, 3) := by decide +kernel
theorem d_M_perform_232 : decode b_M_perform 232 = .ok (.aload_n 0, 1) := by decide +kernel
theorem d_M_perform_233 : decode b_M_perform 233 = .ok (.getfield 9, 3) := by decide +kernel
theorem d_M_perform_236 : decode b_M_perform 236 = .ok (.iload 5, 2) := by decide +kernel
theorem d_M_perform_238 : decode b_M_perform 238 = .ok (.iaload, 1) := by decide +kernel
theorem d_M_perform_239 : decode b_M_perform 239 = .ok (.invokestatic 85, 3) := by decide +kernel
theorem d_M_perform_242 : decode b_M_perform 242 = .ok (.putfield 41, 3) := by decide +kernel
theorem d_M_perform_245 : decode b_M_perform 245 = .ok (.goto 16, 3) := by decide +kernel
theorem d_M_perform_248 : decode b_M_perform 248 = .ok (.aload_n 0, 1) := by decide +kernel
theorem d_M_perform_249 : decode b_M_perform 249 = .ok (.iload_n 1, 1) := by decide +kernel
theorem d_M_perform_250 : decode b_M_perform 250 = .ok (.aload_n 0, 1) := by decide +kernel
theorem d_M_perform_251 : decode b_M_perform 251 = .ok (.getfield 9, 3) := by decide +kernel
theorem d_M_perform_254 : decode b_M_perform 254 = .ok (.iload 5, 2) := by decide +kernel
theorem d_M_perform_256 : decode b_M_perform 256 = .ok (.iaload, 1) := by decide +kernel
theorem d_M_perform_257 : decode b_M_perform 257 = .ok (.iload_n 3, 1) := by decide +kernel
theorem d_M_perform_258 : decode b_M_perform 258 = .ok (.invokevirtual 89, 3) := by decide +kernel
theorem d_M_perform_261 : decode b_M_perform 261 = .ok (.return_, 1) := by decide +kernel
theorem d_R_takeInput_0 : decode b_R_takeInput 0 = .ok (.aload_n 0, 1) := by decide +kernel
theorem d_R_takeInput_1 : decode b_R_takeInput 1 = .ok (.getfield 19, 3) := by decide +kernel
theorem d_R_takeInput_4 : decode b_R_takeInput 4 = .ok (.ifCond .ne 5, 3) := by decide +kernel
theorem d_R_takeInput_7 : decode b_R_takeInput 7 = .ok (.iconst 0, 1) := by decide +kernel
theorem d_R_takeInput_8 : decode b_R_takeInput 8 = .ok (.ireturn, 1) := by decide +kernel
theorem d_R_takeInput_9 : decode b_R_takeInput 9 = .ok (.aload_n 0, 1) := by decide +kernel
theorem d_R_takeInput_10 : decode b_R_takeInput 10 = .ok (.getfield 9, 3) := by decide +kernel
theorem d_R_takeInput_13 : decode b_R_takeInput 13 = .ok (.iconst 0, 1) := by decide +kernel
theorem d_R_takeInput_14 : decode b_R_takeInput 14 = .ok (.iaload, 1) := by decide +kernel
theorem d_R_takeInput_15 : decode b_R_takeInput 15 = .ok (.istore_n 2, 1) := by decide +kernel
theorem d_R_takeInput_16 : decode b_R_takeInput 16 = .ok (.aload_n 0, 1) := by decide +kernel
theorem d_R_takeInput_17 : decode b_R_takeInput 17 = .ok (.dup, 1) := by decide +kernel
theorem d_R_takeInput_18 : decode b_R_takeInput 18 = .ok (.getfield 19, 3) := by decide +kernel
theorem d_R_takeInput_21 : decode b_R_takeInput 21 = .ok (.iconst 1, 1) := by decide +kernel
theorem d_R_takeInput_22 : decode b_R_takeInput 22 = .ok (.isub, 1) := by decide +kernel
theorem d_R_takeInput_23 : decode b_R_takeInput 23 = .ok (.putfield 19, 3) := by decide +kernel
theorem d_R_takeInput_26 : decode b_R_takeInput 26 = .ok (.aload_n 0, 1) := by decide +kernel
theorem d_R_takeInput_27 : decode b_R_takeInput 27 = .ok (.getfield 9, 3) := by decide +kernel
theorem d_R_takeInput_30 : decode b_R_takeInput 30 = .ok (.iconst 1, 1) := by decide +kernel
theorem d_R_takeInput_31 : decode b_R_takeInput 31 = .ok (.aload_n 0, 1) := by decide +kernel
theorem d_R_takeInput_32 : decode b_R_takeInput 32 = .ok (.getfield 9, 3) := by decide +kernel
theorem d_R_takeInput_35 : decode b_R_takeInput 35 = .ok (.iconst 0, 1) := by decide +kernel
theorem d_R_takeInput_36 : decode b_R_takeInput 36 = .ok (.aload_n 0, 1) := by decide +kernel
theorem d_R_takeInput_37 : decode b_R_takeInput 37 = .ok (.getfield 19, 3) := by decide +kernel
theorem d_R_takeInput_40 : decode b_R_takeInput 40 = .ok (.invokestatic 39, 3) := by decide +kernel
theorem d_R_takeInput_43 : decode b_R_takeInput 43 = .ok (.aload_n 0, 1) := by decide +kernel
theorem d_R_takeInput_44 : decode b_R_takeInput 44 = .ok (.getfield 15, 3) := by decide +kernel
theorem d_R_takeInput_47 : decode b_R_takeInput 47 = .ok (.iload_n 1, 1) := by decide +kernel
theorem d_R_takeInput_48 : decode b_R_takeInput 48 = .ok (.iconst 1, 1) := by decide +kernel
theorem d_R_takeInput_49 : decode b_R_takeInput 49 = .ok (.invokevirtual 33, 3) := by decide +kernel
theorem d_R_takeInput_52 : decode b_R_takeInput 52 = .ok (.aload_n 0, 1) := by decide +kernel
theorem d_R_takeInput_53 : decode b_R_takeInput 53 = .ok (.getfield 15, 3) := by decide +kernel
theorem d_R_takeInput_56 : decode b_R_takeInput 56 = .ok (.iload_n 2, 1) := by decide +kernel
theorem d_R_takeInput_57 : decode b_R_takeInput 57 = .ok (.ifCond .lt 9, 3) := by decide +kernel
theorem d_R_takeInput_60 : decode b_R_takeInput 60 = .ok (.iconst 2, 1) := by decide +kernel
theorem d_R_takeInput_61 : decode b_R_takeInput 61 = .ok (.iload_n 2, 1) := by decide +kernel
theorem d_R_takeInput_62 : decode b_R_takeInput 62 = .ok (.imul, 1) := by decide +kernel
theorem d_R_takeInput_63 : decode b_R_takeInput 63 = .ok (.goto 9, 3) := by decide +kernel
theorem d_R_takeInput_66 : decode b_R_takeInput 66 = .ok (.bipush (-2), 2) := by decide +kernel
theorem d_R_takeInput_68 : decode b_R_takeInput 68 = .ok (.iload_n 2, 1) := by decide +kernel
theorem d_R_takeInput_69 : decode b_R_takeInput 69 = .ok (.imul, 1) := by decide +kernel
theorem d_R_takeInput_70 : decode b_R_takeInput 70 = .ok (.iconst 1, 1) := by decide +kernel
theorem d_R_takeInput_71 : decode b_R_takeInput 71 = .ok (.isub, 1) := by decide +kernel
theorem d_R_takeInput_72 : decode b_R_takeInput 72 = .ok (.invokevirtual 45, 3) := by decide +kernel
theorem d_R_takeInput_75 : decode b_R_takeInput 75 = .ok (.iload_n 2, 1) := by decide +kernel
theorem d_R_takeInput_76 : decode b_R_takeInput 76 = .ok (.ireturn, 1) := by decide +kernel
theorem d_T_takeInput_0 : decode b_T_takeInput 0 = .ok (.aload_n 0, 1) := by decide +kernel
theorem d_T_takeInput_1 : decode b_T_takeInput 1 = .ok (.iload_n 1, 1) := by decide +kernel
theorem d_T_takeInput_2 : decode b_T_takeInput 2 = .ok (.iconst 1, 1) := by decide +kernel
theorem d_T_takeInput_3 : decode b_T_takeInput 3 = .ok (.invokevirtual 34, 3) := by decide +kernel
theorem d_T_takeInput_6 : decode b_T_takeInput 6 = .ok (.ifCond .ne 5, 3) := by decide +kernel
theorem d_T_takeInput_9 : decode b_T_takeInput 9 = .ok (.iconst 0, 1) := by decide +kernel
theorem d_T_takeInput_10 : decode b_T_takeInput 10 = .ok (.ireturn, 1) := by decide +kernel
theorem d_T_takeInput_11 : decode b_T_takeInput 11 = .ok (.aload_n 0, 1) := by decide +kernel
theorem d_T_takeInput_12 : decode b_T_takeInput 12 = .ok (.getfield 9, 3) := by decide +kernel
theorem d_T_takeInput_15 : decode b_T_takeInput 15 = .ok (.getfield 38, 3) := by decide +kernel
theorem d_T_takeInput_18 : decode b_T_takeInput 18 = .ok (.istore_n 2, 1) := by decide +kernel
theorem d_T_takeInput_19 : decode b_T_takeInput 19 = .ok (.iload_n 2, 1) := by decide +kernel
theorem d_T_takeInput_20 : decode b_T_takeInput 20 = .ok (.iconst 1, 1) := by decide +kernel
theorem d_T_takeInput_21 : decode b_T_takeInput 21 = .ok (.iand, 1) := by decide +kernel
theorem d_T_takeInput_22 : decode b_T_takeInput 22 = .ok (.ifCond .ne 9, 3) := by decide +kernel
theorem d_T_takeInput_25 : decode b_T_takeInput 25 = .ok (.iload_n 2, 1) := by decide +kernel
theorem d_T_takeInput_26 : decode b_T_takeInput 26 = .ok (.iconst 1, 1) := by decide +kernel
theorem d_T_takeInput_27 : decode b_T_takeInput 27 = .ok (.iushr, 1) := by decide +kernel
theorem d_T_takeInput_28 : decode b_T_takeInput 28 = .ok (.goto 9, 3) := by decide +kernel
theorem d_T_takeInput_31 : decode b_T_takeInput 31 = .ok (.iload_n 2, 1) := by decide +kernel
theorem d_T_takeInput_32 : decode b_T_takeInput 32 = .ok (.iconst 1, 1) := by decide +kernel
theorem d_T_takeInput_33 : decode b_T_takeInput 33 = .ok (.iushr, 1) := by decide +kernel
theorem d_T_takeInput_34 : decode b_T_takeInput 34 = .ok (.ineg, 1) := by decide +kernel
theorem d_T_takeInput_35 : decode b_T_takeInput 35 = .ok (.iconst 1, 1) := by decide +kernel
theorem d_T_takeInput_36 : decode b_T_takeInput 36 = .ok (.isub, 1) := by decide +kernel
theorem d_T_takeInput_37 : decode b_T_takeInput 37 = .ok (.ireturn, 1) := by decide +kernel
theorem d_R_readClock_0 : decode b_R_readClock 0 = .ok (.aload_n 0, 1) := by decide +kernel
theorem d_R_readClock_1 : decode b_R_readClock 1 = .ok (.getfield 30, 3) := by decide +kernel
theorem d_R_readClock_4 : decode b_R_readClock 4 = .ok (.aload_n 0, 1) := by decide +kernel
theorem d_R_readClock_5 : decode b_R_readClock 5 = .ok (.getfield 23, 3) := by decide +kernel
theorem d_R_readClock_8 : decode b_R_readClock 8 = .ok (.if_icmp .eq 36, 3) := by decide +kernel
theorem d_R_readClock_11 : decode b_R_readClock 11 = .ok (.aload_n 0, 1) := by decide +kernel
theorem d_R_readClock_12 : decode b_R_readClock 12 = .ok (.getfield 15, 3) := by decide +kernel
theorem d_R_readClock_15 : decode b_R_readClock 15 = .ok (.iload_n 1, 1) := by decide +kernel
theorem d_R_readClock_16 : decode b_R_readClock 16 = .ok (.iconst 2, 1) := by decide +kernel
theorem d_R_readClock_17 : decode b_R_readClock 17 = .ok (.invokevirtual 33, 3) := by decide +kernel
theorem d_R_readClock_20 : decode b_R_readClock 20 = .ok (.aload_n 0, 1) := by decide +kernel
theorem d_R_readClock_21 : decode b_R_readClock 21 = .ok (.getfield 15, 3) := by decide +kernel
theorem d_R_readClock_24 : decode b_R_readClock 24 = .ok (.aload_n 0, 1) := by decide +kernel
theorem d_R_readClock_25 : decode b_R_readClock 25 = .ok (.getfield 30, 3) := by decide +kernel
theorem d_R_readClock_28 : decode b_R_readClock 28 = .ok (.aload_n 0, 1) := by decide +kernel
theorem d_R_readClock_29 : decode b_R_readClock 29 = .ok (.getfield 23, 3) := by decide +kernel
theorem d_R_readClock_32 : decode b_R_readClock 32 = .ok (.isub, 1) := by decide +kernel
theorem d_R_readClock_33 : decode b_R_readClock 33 = .ok (.invokevirtual 45, 3) := by decide +kernel
theorem d_R_readClock_36 : decode b_R_readClock 36 = .ok (.aload_n 0, 1) := by decide +kernel
theorem d_R_readClock_37 : decode b_R_readClock 37 = .ok (.aload_n 0, 1) := by decide +kernel
theorem d_R_readClock_38 : decode b_R_readClock 38 = .ok (.getfield 30, 3) := by decide +kernel
theorem d_R_readClock_41 : decode b_R_readClock 41 = .ok (.putfield 23, 3) := by decide +kernel
theorem d_R_readClock_44 : decode b_R_readClock 44 = .ok (.aload_n 0, 1) := by decide +kernel
theorem d_R_readClock_45 : decode b_R_readClock 45 = .ok (.getfield 30, 3) := by decide +kernel
theorem d_R_readClock_48 : decode b_R_readClock 48 = .ok (.ireturn, 1) := by decide +kernel
theorem d_T_readClock_0 : decode b_T_readClock 0 = .ok (.aload_n 0, 1) := by decide +kernel
theorem d_T_readClock_1 : decode b_T_readClock 1 = .ok (.iload_n 1, 1) := by decide +kernel
theorem d_T_readClock_2 : decode b_T_readClock 2 = .ok (.iconst 2, 1) := by decide +kernel
theorem d_T_readClock_3 : decode b_T_readClock 3 = .ok (.invokevirtual 34, 3) := by decide +kernel
theorem d_T_readClock_6 : decode b_T_readClock 6 = .ok (.ifCond .eq 19, 3) := by decide +kernel
theorem d_T_readClock_9 : decode b_T_readClock 9 = .ok (.aload_n 0, 1) := by decide +kernel
theorem d_T_readClock_10 : decode b_T_readClock 10 = .ok (.dup, 1) := by decide +kernel
theorem d_T_readClock_11 : decode b_T_readClock 11 = .ok (.getfield 30, 3) := by decide +kernel
theorem d_T_readClock_14 : decode b_T_readClock 14 = .ok (.aload_n 0, 1) := by decide +kernel
theorem d_T_readClock_15 : decode b_T_readClock 15 = .ok (.getfield 9, 3) := by decide +kernel
theorem d_T_readClock_18 : decode b_T_readClock 18 = .ok (.getfield 38, 3) := by decide +kernel
theorem d_T_readClock_21 : decode b_T_readClock 21 = .ok (.iadd, 1) := by decide +kernel
theorem d_T_readClock_22 : decode b_T_readClock 22 = .ok (.putfield 30, 3) := by decide +kernel
theorem d_T_readClock_25 : decode b_T_readClock 25 = .ok (.aload_n 0, 1) := by decide +kernel
theorem d_T_readClock_26 : decode b_T_readClock 26 = .ok (.getfield 30, 3) := by decide +kernel
theorem d_T_readClock_29 : decode b_T_readClock 29 = .ok (.ireturn, 1) := by decide +kernel
theorem d_M_turn_0 : decode b_M_turn 0 = .ok (.iload_n 1, 1) := by decide +kernel
theorem d_M_turn_1 : decode b_M_turn 1 = .ok (.lookupswitch 78 #[(5, 35), (6, 43), (11, 55)], 35) := by decide +kernel
theorem d_M_turn_36 : decode b_M_turn 36 = .ok (.aload_n 0, 1) := by decide +kernel
theorem d_M_turn_37 : decode b_M_turn 37 = .ok (.iload_n 3, 1) := by decide +kernel
theorem d_M_turn_38 : decode b_M_turn 38 = .ok (.putfield 28, 3) := by decide +kernel
theorem d_M_turn_41 : decode b_M_turn 41 = .ok (.goto 43, 3) := by decide +kernel
theorem d_M_turn_44 : decode b_M_turn 44 = .ok (.iload_n 2, 1) := by decide +kernel
theorem d_M_turn_45 : decode b_M_turn 45 = .ok (.ifCond .ne 39, 3) := by decide +kernel
theorem d_M_turn_48 : decode b_M_turn 48 = .ok (.aload_n 0, 1) := by decide +kernel
theorem d_M_turn_49 : decode b_M_turn 49 = .ok (.iload_n 3, 1) := by decide +kernel
theorem d_M_turn_50 : decode b_M_turn 50 = .ok (.putfield 28, 3) := by decide +kernel
theorem d_M_turn_53 : decode b_M_turn 53 = .ok (.goto 31, 3) := by decide +kernel
theorem d_M_turn_56 : decode b_M_turn 56 = .ok (.aload_n 0, 1) := by decide +kernel
theorem d_M_turn_57 : decode b_M_turn 57 = .ok (.getfield 34, 3) := by decide +kernel
theorem d_M_turn_60 : decode b_M_turn 60 = .ok (.ifCond .eq 24, 3) := by decide +kernel
theorem d_M_turn_63 : decode b_M_turn 63 = .ok (.aload_n 0, 1) := by decide +kernel
theorem d_M_turn_64 : decode b_M_turn 64 = .ok (.aload_n 0, 1) := by decide +kernel
theorem d_M_turn_65 : decode b_M_turn 65 = .ok (.getfield 31, 3) := by decide +kernel
theorem d_M_turn_68 : decode b_M_turn 68 = .ok (.putfield 28, 3) := by decide +kernel
theorem d_M_turn_71 : decode b_M_turn 71 = .ok (.aload_n 0, 1) := by decide +kernel
theorem d_M_turn_72 : decode b_M_turn 72 = .ok (.iconst 0, 1) := by decide +kernel
theorem d_M_turn_73 : decode b_M_turn 73 = .ok (.putfield 34, 3) := by decide +kernel
theorem d_M_turn_76 : decode b_M_turn 76 = .ok (.goto 8, 3) := by decide +kernel
theorem d_M_turn_79 : decode b_M_turn 79 = .ok (.aload_n 0, 1) := by decide +kernel
theorem d_M_turn_80 : decode b_M_turn 80 = .ok (.iconst 1, 1) := by decide +kernel
theorem d_M_turn_81 : decode b_M_turn 81 = .ok (.putfield 38, 3) := by decide +kernel
theorem d_M_turn_84 : decode b_M_turn 84 = .ok (.return_, 1) := by decide +kernel
theorem d_M_followTrace_0 : decode b_M_followTrace 0 = .ok (.aload_n 0, 1) := by decide +kernel
theorem d_M_followTrace_1 : decode b_M_followTrace 1 = .ok (.getfield 44, 3) := by decide +kernel
theorem d_M_followTrace_4 : decode b_M_followTrace 4 = .ok (.aload_n 0, 1) := by decide +kernel
theorem d_M_followTrace_5 : decode b_M_followTrace 5 = .ok (.getfield 28, 3) := by decide +kernel
theorem d_M_followTrace_8 : decode b_M_followTrace 8 = .ok (.invokestatic 85, 3) := by decide +kernel
theorem d_M_followTrace_11 : decode b_M_followTrace 11 = .ok (.istore_n 1, 1) := by decide +kernel
theorem d_M_followTrace_12 : decode b_M_followTrace 12 = .ok (.iconst 0, 1) := by decide +kernel
theorem d_M_followTrace_13 : decode b_M_followTrace 13 = .ok (.istore_n 2, 1) := by decide +kernel
theorem d_M_followTrace_14 : decode b_M_followTrace 14 = .ok (.iload_n 2, 1) := by decide +kernel
theorem d_M_followTrace_15 : decode b_M_followTrace 15 = .ok (.iconst 4, 1) := by decide +kernel
theorem d_M_followTrace_16 : decode b_M_followTrace 16 = .ok (.if_icmp .ge 20, 3) := by decide +kernel
theorem d_M_followTrace_19 : decode b_M_followTrace 19 = .ok (.iload_n 1, 1) := by decide +kernel
theorem d_M_followTrace_20 : decode b_M_followTrace 20 = .ok (.aload_n 0, 1) := by decide +kernel
theorem d_M_followTrace_21 : decode b_M_followTrace 21 = .ok (.getfield 9, 3) := by decide +kernel
theorem d_M_followTrace_24 : decode b_M_followTrace 24 = .ok (.iload_n 2, 1) := by decide +kernel
theorem d_M_followTrace_25 : decode b_M_followTrace 25 = .ok (.iaload, 1) := by decide +kernel
theorem d_M_followTrace_26 : decode b_M_followTrace 26 = .ok (.invokestatic 85, 3) := by decide +kernel
theorem d_M_followTrace_29 : decode b_M_followTrace 29 = .ok (.istore_n 1, 1) := by decide +kernel
theorem d_M_followTrace_30 : decode b_M_followTrace 30 = .ok (.iinc 2 1, 3) := by decide +kernel
theorem d_M_followTrace_33 : decode b_M_followTrace 33 = .ok (.goto (-19), 3) := by decide +kernel
theorem d_M_followTrace_36 : decode b_M_followTrace 36 = .ok (.aload_n 0, 1) := by decide +kernel
theorem d_M_followTrace_37 : decode b_M_followTrace 37 = .ok (.iload_n 1, 1) := by decide +kernel
theorem d_M_followTrace_38 : decode b_M_followTrace 38 = .ok (.aload_n 0, 1) := by decide +kernel
theorem d_M_followTrace_39 : decode b_M_followTrace 39 = .ok (.getfield 41, 3) := by decide +kernel
theorem d_M_followTrace_42 : decode b_M_followTrace 42 = .ok (.invokestatic 85, 3) := by decide +kernel
theorem d_M_followTrace_45 : decode b_M_followTrace 45 = .ok (.putfield 44, 3) := by decide +kernel
theorem d_M_followTrace_48 : decode b_M_followTrace 48 = .ok (.return_, 1) := by decide +kernel
theorem d_X_log_0 : decode b_X_log 0 = .ok (.aload_n 0, 1) := by decide +kernel
theorem d_X_log_1 : decode b_X_log 1 = .ok (.getfield 23, 3) := by decide +kernel
theorem d_X_log_4 : decode b_X_log 4 = .ok (.getfield 92, 3) := by decide +kernel
theorem d_X_log_7 : decode b_X_log 7 = .ok (.ireturn, 1) := by decide +kernel
theorem d_X_at_0 : decode b_X_at 0 = .ok (.aload_n 0, 1) := by decide +kernel
theorem d_X_at_1 : decode b_X_at 1 = .ok (.getfield 23, 3) := by decide +kernel
theorem d_X_at_4 : decode b_X_at 4 = .ok (.iload_n 1, 1) := by decide +kernel
theorem d_X_at_5 : decode b_X_at 5 = .ok (.invokevirtual 97, 3) := by decide +kernel
theorem d_X_at_8 : decode b_X_at 8 = .ok (.ifCond .eq 15, 3) := by decide +kernel
theorem d_X_at_11 : decode b_X_at 11 = .ok (.aload_n 0, 1) := by decide +kernel
theorem d_X_at_12 : decode b_X_at 12 = .ok (.getfield 23, 3) := by decide +kernel
theorem d_X_at_15 : decode b_X_at 15 = .ok (.getfield 101, 3) := by decide +kernel
theorem d_X_at_18 : decode b_X_at 18 = .ok (.iload_n 1, 1) := by decide +kernel
theorem d_X_at_19 : decode b_X_at 19 = .ok (.iaload, 1) := by decide +kernel
theorem d_X_at_20 : decode b_X_at 20 = .ok (.goto 4, 3) := by decide +kernel
theorem d_X_at_23 : decode b_X_at 23 = .ok (.iconst (-1), 1) := by decide +kernel
theorem d_X_at_24 : decode b_X_at 24 = .ok (.ireturn, 1) := by decide +kernel
theorem d_X_entries_0 : decode b_X_entries 0 = .ok (.aload_n 0, 1) := by decide +kernel
theorem d_X_entries_1 : decode b_X_entries 1 = .ok (.getfield 23, 3) := by decide +kernel
theorem d_X_entries_4 : decode b_X_entries 4 = .ok (.getfield 105, 3) := by decide +kernel
theorem d_X_entries_7 : decode b_X_entries 7 = .ok (.ireturn, 1) := by decide +kernel
theorem d_X_seal_0 : decode b_X_seal 0 = .ok (.aload_n 0, 1) := by decide +kernel
theorem d_X_seal_1 : decode b_X_seal 1 = .ok (.getfield 23, 3) := by decide +kernel
theorem d_X_seal_4 : decode b_X_seal 4 = .ok (.getfield 108, 3) := by decide +kernel
theorem d_X_seal_7 : decode b_X_seal 7 = .ok (.ireturn, 1) := by decide +kernel
theorem d_X_change_0 : decode b_X_change 0 = .ok (.aload_n 0, 1) := by decide +kernel
theorem d_X_change_1 : decode b_X_change 1 = .ok (.getfield 23, 3) := by decide +kernel
theorem d_X_change_4 : decode b_X_change 4 = .ok (.iload_n 1, 1) := by decide +kernel
theorem d_X_change_5 : decode b_X_change 5 = .ok (.invokevirtual 97, 3) := by decide +kernel
theorem d_X_change_8 : decode b_X_change 8 = .ok (.ifCond .eq 14, 3) := by decide +kernel
theorem d_X_change_11 : decode b_X_change 11 = .ok (.iload_n 2, 1) := by decide +kernel
theorem d_X_change_12 : decode b_X_change 12 = .ok (.ifCond .lt 10, 3) := by decide +kernel
theorem d_X_change_15 : decode b_X_change 15 = .ok (.iload_n 2, 1) := by decide +kernel
theorem d_X_change_16 : decode b_X_change 16 = .ok (.sipush 255, 3) := by decide +kernel
theorem d_X_change_19 : decode b_X_change 19 = .ok (.if_icmp .le 5, 3) := by decide +kernel
theorem d_X_change_22 : decode b_X_change 22 = .ok (.iconst 0, 1) := by decide +kernel
theorem d_X_change_23 : decode b_X_change 23 = .ok (.ireturn, 1) := by decide +kernel
theorem d_X_change_24 : decode b_X_change 24 = .ok (.aload_n 0, 1) := by decide +kernel
theorem d_X_change_25 : decode b_X_change 25 = .ok (.getfield 23, 3) := by decide +kernel
theorem d_X_change_28 : decode b_X_change 28 = .ok (.getfield 101, 3) := by decide +kernel
theorem d_X_change_31 : decode b_X_change 31 = .ok (.iload_n 1, 1) := by decide +kernel
theorem d_X_change_32 : decode b_X_change 32 = .ok (.iload_n 2, 1) := by decide +kernel
theorem d_X_change_33 : decode b_X_change 33 = .ok (.iastore, 1) := by decide +kernel
theorem d_X_change_34 : decode b_X_change 34 = .ok (.iconst 1, 1) := by decide +kernel
theorem d_X_change_35 : decode b_X_change 35 = .ok (.ireturn, 1) := by decide +kernel
theorem d_X_tell_0 : decode b_X_tell 0 = .ok (.iload_n 2, 1) := by decide +kernel
theorem d_X_tell_1 : decode b_X_tell 1 = .ok (.aload_n 0, 1) := by decide +kernel
theorem d_X_tell_2 : decode b_X_tell 2 = .ok (.getfield 23, 3) := by decide +kernel
theorem d_X_tell_5 : decode b_X_tell 5 = .ok (.getfield 92, 3) := by decide +kernel
theorem d_X_tell_8 : decode b_X_tell 8 = .ok (.if_icmp .ne 14, 3) := by decide +kernel
theorem d_X_tell_11 : decode b_X_tell 11 = .ok (.iload_n 1, 1) := by decide +kernel
theorem d_X_tell_12 : decode b_X_tell 12 = .ok (.aload_n 0, 1) := by decide +kernel
theorem d_X_tell_13 : decode b_X_tell 13 = .ok (.getfield 23, 3) := by decide +kernel
theorem d_X_tell_16 : decode b_X_tell 16 = .ok (.invokevirtual 111, 3) := by decide +kernel
theorem d_X_tell_19 : decode b_X_tell 19 = .ok (.if_icmp .eq 5, 3) := by decide +kernel
theorem d_X_tell_22 : decode b_X_tell 22 = .ok (.iconst (-1), 1) := by decide +kernel
theorem d_X_tell_23 : decode b_X_tell 23 = .ok (.ireturn, 1) := by decide +kernel
theorem d_X_tell_24 : decode b_X_tell 24 = .ok (.aload_n 0, 1) := by decide +kernel
theorem d_X_tell_25 : decode b_X_tell 25 = .ok (.getfield 44, 3) := by decide +kernel
theorem d_X_tell_28 : decode b_X_tell 28 = .ok (.invokevirtual 115, 3) := by decide +kernel
theorem d_X_tell_31 : decode b_X_tell 31 = .ok (.ifCond .ne 6, 3) := by decide +kernel
theorem d_X_tell_34 : decode b_X_tell 34 = .ok (.bipush (-2), 2) := by decide +kernel
theorem d_X_tell_36 : decode b_X_tell 36 = .ok (.ireturn, 1) := by decide +kernel
theorem d_X_tell_37 : decode b_X_tell 37 = .ok (.aload_n 0, 1) := by decide +kernel
theorem d_X_tell_38 : decode b_X_tell 38 = .ok (.getfield 57, 3) := by decide +kernel
theorem d_X_tell_41 : decode b_X_tell 41 = .ok (.aload_n 0, 1) := by decide +kernel
theorem d_X_tell_42 : decode b_X_tell 42 = .ok (.getfield 7, 3) := by decide +kernel
theorem d_X_tell_45 : decode b_X_tell 45 = .ok (.invokevirtual 75, 3) := by decide +kernel
theorem d_X_tell_48 : decode b_X_tell 48 = .ok (.aload_n 0, 1) := by decide +kernel
theorem d_X_tell_49 : decode b_X_tell 49 = .ok (.getfield 44, 3) := by decide +kernel
theorem d_X_tell_52 : decode b_X_tell 52 = .ok (.invokevirtual 119, 3) := by decide +kernel
theorem d_X_tell_55 : decode b_X_tell 55 = .ok (.iconst 0, 1) := by decide +kernel
theorem d_X_tell_56 : decode b_X_tell 56 = .ok (.istore_n 3, 1) := by decide +kernel
theorem d_X_tell_57 : decode b_X_tell 57 = .ok (.iload_n 3, 1) := by decide +kernel
theorem d_X_tell_58 : decode b_X_tell 58 = .ok (.aload_n 0, 1) := by decide +kernel
theorem d_X_tell_59 : decode b_X_tell 59 = .ok (.getfield 53, 3) := by decide +kernel
theorem d_X_tell_62 : decode b_X_tell 62 = .ok (.getfield 120, 3) := by decide +kernel
theorem d_X_tell_65 : decode b_X_tell 65 = .ok (.if_icmp .ge 30, 3) := by decide +kernel
theorem d_X_tell_68 : decode b_X_tell 68 = .ok (.aload_n 0, 1) := by decide +kernel
theorem d_X_tell_69 : decode b_X_tell 69 = .ok (.getfield 57, 3) := by decide +kernel
theorem d_X_tell_72 : decode b_X_tell 72 = .ok (.aload_n 0, 1) := by decide +kernel
theorem d_X_tell_73 : decode b_X_tell 73 = .ok (.getfield 16, 3) := by decide +kernel
theorem d_X_tell_76 : decode b_X_tell 76 = .ok (.aload_n 0, 1) := by decide +kernel
theorem d_X_tell_77 : decode b_X_tell 77 = .ok (.getfield 44, 3) := by decide +kernel
theorem d_X_tell_80 : decode b_X_tell 80 = .ok (.invokevirtual 93, 3) := by decide +kernel
theorem d_X_tell_83 : decode b_X_tell 83 = .ok (.ifCond .ne 6, 3) := by decide +kernel
theorem d_X_tell_86 : decode b_X_tell 86 = .ok (.goto 9, 3) := by decide +kernel
theorem d_X_tell_89 : decode b_X_tell 89 = .ok (.iinc 3 1, 3) := by decide +kernel
theorem d_X_tell_92 : decode b_X_tell 92 = .ok (.goto (-35), 3) := by decide +kernel
theorem d_X_tell_95 : decode b_X_tell 95 = .ok (.aload_n 0, 1) := by decide +kernel
theorem d_X_tell_96 : decode b_X_tell 96 = .ok (.getfield 57, 3) := by decide +kernel
theorem d_X_tell_99 : decode b_X_tell 99 = .ok (.aload_n 0, 1) := by decide +kernel
theorem d_X_tell_100 : decode b_X_tell 100 = .ok (.getfield 53, 3) := by decide +kernel
theorem d_X_tell_103 : decode b_X_tell 103 = .ok (.invokevirtual 123, 3) := by decide +kernel
theorem d_X_tell_106 : decode b_X_tell 106 = .ok (.ifCond .eq 7, 3) := by decide +kernel
theorem d_X_tell_109 : decode b_X_tell 109 = .ok (.iconst 1, 1) := by decide +kernel
theorem d_X_tell_110 : decode b_X_tell 110 = .ok (.goto 4, 3) := by decide +kernel
theorem d_X_tell_113 : decode b_X_tell 113 = .ok (.iconst 0, 1) := by decide +kernel
theorem d_X_tell_114 : decode b_X_tell 114 = .ok (.ireturn, 1) := by decide +kernel
end
section
theorem d_J_sealNow_0 : decode b_J_sealNow 0 = .ok (.iconst 1, 1) := by decide +kernel
theorem d_J_sealNow_1 : decode b_J_sealNow 1 = .ok (.istore_n 1, 1) := by decide +kernel
theorem d_J_sealNow_2 : decode b_J_sealNow 2 = .ok (.iconst 0, 1) := by decide +kernel
theorem d_J_sealNow_3 : decode b_J_sealNow 3 = .ok (.istore_n 2, 1) := by decide +kernel
theorem d_J_sealNow_4 : decode b_J_sealNow 4 = .ok (.iload_n 2, 1) := by decide +kernel
theorem d_J_sealNow_5 : decode b_J_sealNow 5 = .ok (.aload_n 0, 1) := by decide +kernel
theorem d_J_sealNow_6 : decode b_J_sealNow 6 = .ok (.getfield 19, 3) := by decide +kernel
theorem d_J_sealNow_9 : decode b_J_sealNow 9 = .ok (.if_icmp .ge 20, 3) := by decide +kernel
theorem d_J_sealNow_12 : decode b_J_sealNow 12 = .ok (.iload_n 1, 1) := by decide +kernel
theorem d_J_sealNow_13 : decode b_J_sealNow 13 = .ok (.aload_n 0, 1) := by decide +kernel
theorem d_J_sealNow_14 : decode b_J_sealNow 14 = .ok (.getfield 9, 3) := by decide +kernel
theorem d_J_sealNow_17 : decode b_J_sealNow 17 = .ok (.iload_n 2, 1) := by decide +kernel
theorem d_J_sealNow_18 : decode b_J_sealNow 18 = .ok (.iaload, 1) := by decide +kernel
theorem d_J_sealNow_19 : decode b_J_sealNow 19 = .ok (.invokestatic 32, 3) := by decide +kernel
theorem d_J_sealNow_22 : decode b_J_sealNow 22 = .ok (.istore_n 1, 1) := by decide +kernel
theorem d_J_sealNow_23 : decode b_J_sealNow 23 = .ok (.iinc 2 1, 3) := by decide +kernel
theorem d_J_sealNow_26 : decode b_J_sealNow 26 = .ok (.goto (-22), 3) := by decide +kernel
theorem d_J_sealNow_29 : decode b_J_sealNow 29 = .ok (.iload_n 1, 1) := by decide +kernel
theorem d_J_sealNow_30 : decode b_J_sealNow 30 = .ok (.ireturn, 1) := by decide +kernel
theorem d_T_isReadable_0 : decode b_T_isReadable 0 = .ok (.aload_n 0, 1) := by decide +kernel
theorem d_T_isReadable_1 : decode b_T_isReadable 1 = .ok (.getfield 9, 3) := by decide +kernel
theorem d_T_isReadable_4 : decode b_T_isReadable 4 = .ok (.invokevirtual 15, 3) := by decide +kernel
theorem d_T_isReadable_7 : decode b_T_isReadable 7 = .ok (.iconst 0, 1) := by decide +kernel
theorem d_T_isReadable_8 : decode b_T_isReadable 8 = .ok (.istore_n 1, 1) := by decide +kernel
theorem d_T_isReadable_9 : decode b_T_isReadable 9 = .ok (.iload_n 1, 1) := by decide +kernel
theorem d_T_isReadable_10 : decode b_T_isReadable 10 = .ok (.sipush 300, 3) := by decide +kernel
theorem d_T_isReadable_13 : decode b_T_isReadable 13 = .ok (.if_icmp .ge 26, 3) := by decide +kernel
theorem d_T_isReadable_16 : decode b_T_isReadable 16 = .ok (.aload_n 0, 1) := by decide +kernel
theorem d_T_isReadable_17 : decode b_T_isReadable 17 = .ok (.getfield 9, 3) := by decide +kernel
theorem d_T_isReadable_20 : decode b_T_isReadable 20 = .ok (.getfield 20, 3) := by decide +kernel
theorem d_T_isReadable_23 : decode b_T_isReadable 23 = .ok (.ifCond .eq 16, 3) := by decide +kernel
theorem d_T_isReadable_26 : decode b_T_isReadable 26 = .ok (.aload_n 0, 1) := by decide +kernel
theorem d_T_isReadable_27 : decode b_T_isReadable 27 = .ok (.getfield 9, 3) := by decide +kernel
theorem d_T_isReadable_30 : decode b_T_isReadable 30 = .ok (.invokevirtual 24, 3) := by decide +kernel
theorem d_T_isReadable_33 : decode b_T_isReadable 33 = .ok (.iinc 1 1, 3) := by decide +kernel
theorem d_T_isReadable_36 : decode b_T_isReadable 36 = .ok (.goto (-27), 3) := by decide +kernel
theorem d_T_isReadable_39 : decode b_T_isReadable 39 = .ok (.aload_n 0, 1) := by decide +kernel
theorem d_T_isReadable_40 : decode b_T_isReadable 40 = .ok (.getfield 9, 3) := by decide +kernel
theorem d_T_isReadable_43 : decode b_T_isReadable 43 = .ok (.getfield 27, 3) := by decide +kernel
theorem d_T_isReadable_46 : decode b_T_isReadable 46 = .ok (.ifCond .ne 7, 3) := by decide +kernel
theorem d_T_isReadable_49 : decode b_T_isReadable 49 = .ok (.iconst 1, 1) := by decide +kernel
theorem d_T_isReadable_50 : decode b_T_isReadable 50 = .ok (.goto 4, 3) := by decide +kernel
theorem d_T_isReadable_53 : decode b_T_isReadable 53 = .ok (.iconst 0, 1) := by decide +kernel
theorem d_T_isReadable_54 : decode b_T_isReadable 54 = .ok (.ireturn, 1) := by decide +kernel
theorem d_D_rewind_0 : decode b_D_rewind 0 = .ok (.aload_n 0, 1) := by decide +kernel
theorem d_D_rewind_1 : decode b_D_rewind 1 = .ok (.iconst 0, 1) := by decide +kernel
theorem d_D_rewind_2 : decode b_D_rewind 2 = .ok (.putfield 15, 3) := by decide +kernel
theorem d_D_rewind_5 : decode b_D_rewind 5 = .ok (.aload_n 0, 1) := by decide +kernel
theorem d_D_rewind_6 : decode b_D_rewind 6 = .ok (.lconst 0, 1) := by decide +kernel
theorem d_D_rewind_7 : decode b_D_rewind 7 = .ok (.putfield 19, 3) := by decide +kernel
theorem d_D_rewind_10 : decode b_D_rewind 10 = .ok (.aload_n 0, 1) := by decide +kernel
theorem d_D_rewind_11 : decode b_D_rewind 11 = .ok (.iconst 0, 1) := by decide +kernel
theorem d_D_rewind_12 : decode b_D_rewind 12 = .ok (.putfield 23, 3) := by decide +kernel
theorem d_D_rewind_15 : decode b_D_rewind 15 = .ok (.aload_n 0, 1) := by decide +kernel
theorem d_D_rewind_16 : decode b_D_rewind 16 = .ok (.invokevirtual 27, 3) := by decide +kernel
theorem d_D_rewind_19 : decode b_D_rewind 19 = .ok (.return_, 1) := by decide +kernel
theorem d_T_restart_0 : decode b_T_restart 0 = .ok (.aload_n 0, 1) := by decide +kernel
theorem d_T_restart_1 : decode b_T_restart 1 = .ok (.iconst 0, 1) := by decide +kernel
theorem d_T_restart_2 : decode b_T_restart 2 = .ok (.putfield 30, 3) := by decide +kernel
theorem d_T_restart_5 : decode b_T_restart 5 = .ok (.aload_n 0, 1) := by decide +kernel
theorem d_T_restart_6 : decode b_T_restart 6 = .ok (.getfield 9, 3) := by decide +kernel
theorem d_T_restart_9 : decode b_T_restart 9 = .ok (.invokevirtual 15, 3) := by decide +kernel
theorem d_T_restart_12 : decode b_T_restart 12 = .ok (.return_, 1) := by decide +kernel
theorem d_M_looksLike_0 : decode b_M_looksLike 0 = .ok (.iconst 0, 1) := by decide +kernel
theorem d_M_looksLike_1 : decode b_M_looksLike 1 = .ok (.istore_n 2, 1) := by decide +kernel
theorem d_M_looksLike_2 : decode b_M_looksLike 2 = .ok (.iload_n 2, 1) := by decide +kernel
theorem d_M_looksLike_3 : decode b_M_looksLike 3 = .ok (.bipush 10, 2) := by decide +kernel
theorem d_M_looksLike_5 : decode b_M_looksLike 5 = .ok (.if_icmp .ge 24, 3) := by decide +kernel
theorem d_M_looksLike_8 : decode b_M_looksLike 8 = .ok (.aload_n 0, 1) := by decide +kernel
theorem d_M_looksLike_9 : decode b_M_looksLike 9 = .ok (.iload_n 2, 1) := by decide +kernel
theorem d_M_looksLike_10 : decode b_M_looksLike 10 = .ok (.invokevirtual 93, 3) := by decide +kernel
theorem d_M_looksLike_13 : decode b_M_looksLike 13 = .ok (.aload_n 1, 1) := by decide +kernel
theorem d_M_looksLike_14 : decode b_M_looksLike 14 = .ok (.iload_n 2, 1) := by decide +kernel
theorem d_M_looksLike_15 : decode b_M_looksLike 15 = .ok (.invokevirtual 93, 3) := by decide +kernel
theorem d_M_looksLike_18 : decode b_M_looksLike 18 = .ok (.if_icmp .eq 5, 3) := by decide +kernel
theorem d_M_looksLike_21 : decode b_M_looksLike 21 = .ok (.iconst 0, 1) := by decide +kernel
theorem d_M_looksLike_22 : decode b_M_looksLike 22 = .ok (.ireturn, 1) := by decide +kernel
theorem d_M_looksLike_23 : decode b_M_looksLike 23 = .ok (.iinc 2 1, 3) := by decide +kernel
theorem d_M_looksLike_26 : decode b_M_looksLike 26 = .ok (.goto (-24), 3) := by decide +kernel
theorem d_M_looksLike_29 : decode b_M_looksLike 29 = .ok (.iconst 0, 1) := by decide +kernel
theorem d_M_looksLike_30 : decode b_M_looksLike 30 = .ok (.istore_n 2, 1) := by decide +kernel
theorem d_M_looksLike_31 : decode b_M_looksLike 31 = .ok (.iload_n 2, 1) := by decide +kernel
theorem d_M_looksLike_32 : decode b_M_looksLike 32 = .ok (.bipush 32, 2) := by decide +kernel
theorem d_M_looksLike_34 : decode b_M_looksLike 34 = .ok (.if_icmp .ge 26, 3) := by decide +kernel
theorem d_M_looksLike_37 : decode b_M_looksLike 37 = .ok (.aload_n 0, 1) := by decide +kernel
theorem d_M_looksLike_38 : decode b_M_looksLike 38 = .ok (.getfield 15, 3) := by decide +kernel
theorem d_M_looksLike_41 : decode b_M_looksLike 41 = .ok (.iload_n 2, 1) := by decide +kernel
theorem d_M_looksLike_42 : decode b_M_looksLike 42 = .ok (.iaload, 1) := by decide +kernel
theorem d_M_looksLike_43 : decode b_M_looksLike 43 = .ok (.aload_n 1, 1) := by decide +kernel
theorem d_M_looksLike_44 : decode b_M_looksLike 44 = .ok (.getfield 15, 3) := by decide +kernel
theorem d_M_looksLike_47 : decode b_M_looksLike 47 = .ok (.iload_n 2, 1) := by decide +kernel
theorem d_M_looksLike_48 : decode b_M_looksLike 48 = .ok (.iaload, 1) := by decide +kernel
theorem d_M_looksLike_49 : decode b_M_looksLike 49 = .ok (.if_icmp .eq 5, 3) := by decide +kernel
theorem d_M_looksLike_52 : decode b_M_looksLike 52 = .ok (.iconst 0, 1) := by decide +kernel
theorem d_M_looksLike_53 : decode b_M_looksLike 53 = .ok (.ireturn, 1) := by decide +kernel
theorem d_M_looksLike_54 : decode b_M_looksLike 54 = .ok (.iinc 2 1, 3) := by decide +kernel
theorem d_M_looksLike_57 : decode b_M_looksLike 57 = .ok (.goto (-26), 3) := by decide +kernel
theorem d_M_looksLike_60 : decode b_M_looksLike 60 = .ok (.iconst 1, 1) := by decide +kernel
theorem d_M_looksLike_61 : decode b_M_looksLike 61 = .ok (.ireturn, 1) := by decide +kernel
theorem d_M_stateOf_0 : decode b_M_stateOf 0 = .ok (.iload_n 1, 1) := by decide +kernel
theorem d_M_stateOf_1 : decode b_M_stateOf 1 = .ok (.ifCond .lt 15, 3) := by decide +kernel
theorem d_M_stateOf_4 : decode b_M_stateOf 4 = .ok (.iload_n 1, 1) := by decide +kernel
theorem d_M_stateOf_5 : decode b_M_stateOf 5 = .ok (.iconst 4, 1) := by decide +kernel
theorem d_M_stateOf_6 : decode b_M_stateOf 6 = .ok (.if_icmp .ge 10, 3) := by decide +kernel
theorem d_M_stateOf_9 : decode b_M_stateOf 9 = .ok (.aload_n 0, 1) := by decide +kernel
theorem d_M_stateOf_10 : decode b_M_stateOf 10 = .ok (.getfield 9, 3) := by decide +kernel
theorem d_M_stateOf_13 : decode b_M_stateOf 13 = .ok (.iload_n 1, 1) := by decide +kernel
theorem d_M_stateOf_14 : decode b_M_stateOf 14 = .ok (.iaload, 1) := by decide +kernel
theorem d_M_stateOf_15 : decode b_M_stateOf 15 = .ok (.ireturn, 1) := by decide +kernel
theorem d_M_stateOf_16 : decode b_M_stateOf 16 = .ok (.iload_n 1, 1) := by decide +kernel
theorem d_M_stateOf_17 : decode b_M_stateOf 17 = .ok (.tableswitch 85 4 9 #[39, 44, 49, 54, 67, 80], 39) := by decide +kernel
theorem d_M_stateOf_56 : decode b_M_stateOf 56 = .ok (.aload_n 0, 1) := by decide +kernel
theorem d_M_stateOf_57 : decode b_M_stateOf 57 = .ok (.getfield 28, 3) := by decide +kernel
theorem d_M_stateOf_60 : decode b_M_stateOf 60 = .ok (.ireturn, 1) := by decide +kernel
theorem d_M_stateOf_61 : decode b_M_stateOf 61 = .ok (.aload_n 0, 1) := by decide +kernel
theorem d_M_stateOf_62 : decode b_M_stateOf 62 = .ok (.getfield 41, 3) := by decide +kernel
theorem d_M_stateOf_65 : decode b_M_stateOf 65 = .ok (.ireturn, 1) := by decide +kernel
theorem d_M_stateOf_66 : decode b_M_stateOf 66 = .ok (.aload_n 0, 1) := by decide +kernel
theorem d_M_stateOf_67 : decode b_M_stateOf 67 = .ok (.getfield 44, 3) := by decide +kernel
theorem d_M_stateOf_70 : decode b_M_stateOf 70 = .ok (.ireturn, 1) := by decide +kernel
theorem d_M_stateOf_71 : decode b_M_stateOf 71 = .ok (.aload_n 0, 1) := by decide +kernel
theorem d_M_stateOf_72 : decode b_M_stateOf 72 = .ok (.getfield 34, 3) := by decide +kernel
theorem d_M_stateOf_75 : decode b_M_stateOf 75 = .ok (.ifCond .eq 7, 3) := by decide +kernel
theorem d_M_stateOf_78 : decode b_M_stateOf 78 = .ok (.iconst 1, 1) := by decide +kernel
theorem d_M_stateOf_79 : decode b_M_stateOf 79 = .ok (.goto 4, 3) := by decide +kernel
theorem d_M_stateOf_82 : decode b_M_stateOf 82 = .ok (.iconst 0, 1) := by decide +kernel
theorem d_M_stateOf_83 : decode b_M_stateOf 83 = .ok (.ireturn, 1) := by decide +kernel
theorem d_M_stateOf_84 : decode b_M_stateOf 84 = .ok (.aload_n 0, 1) := by decide +kernel
theorem d_M_stateOf_85 : decode b_M_stateOf 85 = .ok (.getfield 38, 3) := by decide +kernel
theorem d_M_stateOf_88 : decode b_M_stateOf 88 = .ok (.ifCond .eq 7, 3) := by decide +kernel
theorem d_M_stateOf_91 : decode b_M_stateOf 91 = .ok (.iconst 1, 1) := by decide +kernel
theorem d_M_stateOf_92 : decode b_M_stateOf 92 = .ok (.goto 4, 3) := by decide +kernel
theorem d_M_stateOf_95 : decode b_M_stateOf 95 = .ok (.iconst 0, 1) := by decide +kernel
theorem d_M_stateOf_96 : decode b_M_stateOf 96 = .ok (.ireturn, 1) := by decide +kernel
theorem d_M_stateOf_97 : decode b_M_stateOf 97 = .ok (.aload_n 0, 1) := by decide +kernel
theorem d_M_stateOf_98 : decode b_M_stateOf 98 = .ok (.getfield 47, 3) := by decide +kernel
theorem d_M_stateOf_101 : decode b_M_stateOf 101 = .ok (.ireturn, 1) := by decide +kernel
theorem d_M_stateOf_102 : decode b_M_stateOf 102 = .ok (.iconst 0, 1) := by decide +kernel
theorem d_M_stateOf_103 : decode b_M_stateOf 103 = .ok (.ireturn, 1) := by decide +kernel
theorem d_X_state_0 : decode b_X_state 0 = .ok (.aload_n 0, 1) := by decide +kernel
theorem d_X_state_1 : decode b_X_state 1 = .ok (.iload_n 1, 1) := by decide +kernel
theorem d_X_state_2 : decode b_X_state 2 = .ok (.invokevirtual 127, 3) := by decide +kernel
theorem d_X_state_5 : decode b_X_state 5 = .ok (.astore_n 3, 1) := by decide +kernel
theorem d_X_state_6 : decode b_X_state 6 = .ok (.aload_n 3, 1) := by decide +kernel
theorem d_X_state_7 : decode b_X_state 7 = .ok (.ifnonnull 7, 3) := by decide +kernel
theorem d_X_state_10 : decode b_X_state 10 = .ok (.iconst 0, 1) := by decide +kernel
theorem d_X_state_11 : decode b_X_state 11 = .ok (.goto 8, 3) := by decide +kernel
theorem d_X_state_14 : decode b_X_state 14 = .ok (.aload_n 3, 1) := by decide +kernel
theorem d_X_state_15 : decode b_X_state 15 = .ok (.iload_n 2, 1) := by decide +kernel
theorem d_X_state_16 : decode b_X_state 16 = .ok (.invokevirtual 131, 3) := by decide +kernel
theorem d_X_state_19 : decode b_X_state 19 = .ok (.ireturn, 1) := by decide +kernel
theorem d_X_machineOf_0 : decode b_X_machineOf 0 = .ok (.iload_n 1, 1) := by decide +kernel
theorem d_X_machineOf_1 : decode b_X_machineOf 1 = .ok (.ifCond .ne 8, 3) := by decide +kernel
theorem d_X_machineOf_4 : decode b_X_machineOf 4 = .ok (.aload_n 0, 1) := by decide +kernel
theorem d_X_machineOf_5 : decode b_X_machineOf 5 = .ok (.getfield 53, 3) := by decide +kernel
theorem d_X_machineOf_8 : decode b_X_machineOf 8 = .ok (.areturn, 1) := by decide +kernel
theorem d_X_machineOf_9 : decode b_X_machineOf 9 = .ok (.iload_n 1, 1) := by decide +kernel
theorem d_X_machineOf_10 : decode b_X_machineOf 10 = .ok (.iconst 1, 1) := by decide +kernel
theorem d_X_machineOf_11 : decode b_X_machineOf 11 = .ok (.if_icmp .ne 10, 3) := by decide +kernel
theorem d_X_machineOf_14 : decode b_X_machineOf 14 = .ok (.aload_n 0, 1) := by decide +kernel
theorem d_X_machineOf_15 : decode b_X_machineOf 15 = .ok (.getfield 57, 3) := by decide +kernel
theorem d_X_machineOf_18 : decode b_X_machineOf 18 = .ok (.goto 4, 3) := by decide +kernel
theorem d_X_machineOf_21 : decode b_X_machineOf 21 = .ok (.aconst_null, 1) := by decide +kernel
theorem d_X_machineOf_22 : decode b_X_machineOf 22 = .ok (.areturn, 1) := by decide +kernel
theorem d_X_cell_0 : decode b_X_cell 0 = .ok (.aload_n 0, 1) := by decide +kernel
theorem d_X_cell_1 : decode b_X_cell 1 = .ok (.iload_n 1, 1) := by decide +kernel
theorem d_X_cell_2 : decode b_X_cell 2 = .ok (.invokevirtual 127, 3) := by decide +kernel
theorem d_X_cell_5 : decode b_X_cell 5 = .ok (.astore_n 3, 1) := by decide +kernel
theorem d_X_cell_6 : decode b_X_cell 6 = .ok (.aload_n 3, 1) := by decide +kernel
theorem d_X_cell_7 : decode b_X_cell 7 = .ok (.ifnonnull 7, 3) := by decide +kernel
theorem d_X_cell_10 : decode b_X_cell 10 = .ok (.iconst 0, 1) := by decide +kernel
theorem d_X_cell_11 : decode b_X_cell 11 = .ok (.goto 8, 3) := by decide +kernel
theorem d_X_cell_14 : decode b_X_cell 14 = .ok (.aload_n 3, 1) := by decide +kernel
theorem d_X_cell_15 : decode b_X_cell 15 = .ok (.iload_n 2, 1) := by decide +kernel
theorem d_X_cell_16 : decode b_X_cell 16 = .ok (.invokevirtual 134, 3) := by decide +kernel
theorem d_X_cell_19 : decode b_X_cell 19 = .ok (.ireturn, 1) := by decide +kernel
theorem d_M_cellOf_0 : decode b_M_cellOf 0 = .ok (.iload_n 1, 1) := by decide +kernel
theorem d_M_cellOf_1 : decode b_M_cellOf 1 = .ok (.ifCond .lt 18, 3) := by decide +kernel
theorem d_M_cellOf_4 : decode b_M_cellOf 4 = .ok (.iload_n 1, 1) := by decide +kernel
theorem d_M_cellOf_5 : decode b_M_cellOf 5 = .ok (.bipush 32, 2) := by decide +kernel
theorem d_M_cellOf_7 : decode b_M_cellOf 7 = .ok (.if_icmp .ge 12, 3) := by decide +kernel
theorem d_M_cellOf_10 : decode b_M_cellOf 10 = .ok (.aload_n 0, 1) := by decide +kernel
theorem d_M_cellOf_11 : decode b_M_cellOf 11 = .ok (.getfield 15, 3) := by decide +kernel
theorem d_M_cellOf_14 : decode b_M_cellOf 14 = .ok (.iload_n 1, 1) := by decide +kernel
theorem d_M_cellOf_15 : decode b_M_cellOf 15 = .ok (.iaload, 1) := by decide +kernel
theorem d_M_cellOf_16 : decode b_M_cellOf 16 = .ok (.goto 4, 3) := by decide +kernel
theorem d_M_cellOf_19 : decode b_M_cellOf 19 = .ok (.iconst 0, 1) := by decide +kernel
theorem d_M_cellOf_20 : decode b_M_cellOf 20 = .ok (.ireturn, 1) := by decide +kernel
theorem d_X_sealed_0 : decode b_X_sealed 0 = .ok (.iload_n 3, 1) := by decide +kernel
theorem d_X_sealed_1 : decode b_X_sealed 1 = .ok (.iconst 1, 1) := by decide +kernel
theorem d_X_sealed_2 : decode b_X_sealed 2 = .ok (.if_icmp .lt 8, 3) := by decide +kernel
theorem d_X_sealed_5 : decode b_X_sealed 5 = .ok (.iload_n 3, 1) := by decide +kernel
theorem d_X_sealed_6 : decode b_X_sealed 6 = .ok (.iconst 4, 1) := by decide +kernel
theorem d_X_sealed_7 : decode b_X_sealed 7 = .ok (.if_icmp .le 5, 3) := by decide +kernel
theorem d_X_sealed_10 : decode b_X_sealed 10 = .ok (.iconst 0, 1) := by decide +kernel
theorem d_X_sealed_11 : decode b_X_sealed 11 = .ok (.ireturn, 1) := by decide +kernel
theorem d_X_sealed_12 : decode b_X_sealed 12 = .ok (.iload_n 1, 1) := by decide +kernel
theorem d_X_sealed_13 : decode b_X_sealed 13 = .ok (.istore 4, 2) := by decide +kernel
theorem d_X_sealed_15 : decode b_X_sealed 15 = .ok (.iload_n 3, 1) := by decide +kernel
theorem d_X_sealed_16 : decode b_X_sealed 16 = .ok (.iconst 1, 1) := by decide +kernel
theorem d_X_sealed_17 : decode b_X_sealed 17 = .ok (.isub, 1) := by decide +kernel
theorem d_X_sealed_18 : decode b_X_sealed 18 = .ok (.istore 5, 2) := by decide +kernel
theorem d_X_sealed_20 : decode b_X_sealed 20 = .ok (.iload 5, 2) := by decide +kernel
theorem d_X_sealed_22 : decode b_X_sealed 22 = .ok (.ifCond .lt 27, 3) := by decide +kernel
theorem d_X_sealed_25 : decode b_X_sealed 25 = .ok (.iload 4, 2) := by decide +kernel
theorem d_X_sealed_27 : decode b_X_sealed 27 = .ok (.iload_n 2, 1) := by decide +kernel
theorem d_X_sealed_28 : decode b_X_sealed 28 = .ok (.bipush 8, 2) := by decide +kernel
theorem d_X_sealed_30 : decode b_X_sealed 30 = .ok (.iload 5, 2) := by decide +kernel
theorem d_X_sealed_32 : decode b_X_sealed 32 = .ok (.imul, 1) := by decide +kernel
theorem d_X_sealed_33 : decode b_X_sealed 33 = .ok (.iushr, 1) := by decide +kernel
theorem d_X_sealed_34 : decode b_X_sealed 34 = .ok (.sipush 255, 3) := by decide +kernel
theorem d_X_sealed_37 : decode b_X_sealed 37 = .ok (.iand, 1) := by decide +kernel
theorem d_X_sealed_38 : decode b_X_sealed 38 = .ok (.invokestatic 137, 3) := by decide +kernel
theorem d_X_sealed_41 : decode b_X_sealed 41 = .ok (.istore 4, 2) := by decide +kernel
theorem d_X_sealed_43 : decode b_X_sealed 43 = .ok (.iinc 5 (-1), 3) := by decide +kernel
theorem d_X_sealed_46 : decode b_X_sealed 46 = .ok (.goto (-26), 3) := by decide +kernel
theorem d_X_sealed_49 : decode b_X_sealed 49 = .ok (.iload 4, 2) := by decide +kernel
theorem d_X_sealed_51 : decode b_X_sealed 51 = .ok (.ireturn, 1) := by decide +kernel
theorem d_L_cell_0 : decode b_L_cell 0 = .ok (.iload_n 1, 1) := by decide +kernel
theorem d_L_cell_1 : decode b_L_cell 1 = .ok (.aload_n 0, 1) := by decide +kernel
theorem d_L_cell_2 : decode b_L_cell 2 = .ok (.arraylength, 1) := by decide +kernel
theorem d_L_cell_3 : decode b_L_cell 3 = .ok (.if_icmp .ge 9, 3) := by decide +kernel
theorem d_L_cell_6 : decode b_L_cell 6 = .ok (.aload_n 0, 1) := by decide +kernel
theorem d_L_cell_7 : decode b_L_cell 7 = .ok (.iload_n 1, 1) := by decide +kernel
theorem d_L_cell_8 : decode b_L_cell 8 = .ok (.iaload, 1) := by decide +kernel
theorem d_L_cell_9 : decode b_L_cell 9 = .ok (.goto 4, 3) := by decide +kernel
theorem d_L_cell_12 : decode b_L_cell 12 = .ok (.iconst 0, 1) := by decide +kernel
theorem d_L_cell_13 : decode b_L_cell 13 = .ok (.ireturn, 1) := by decide +kernel
theorem d_Y_init_0 : decode b_Y_init 0 = .ok (.aload_n 0, 1) := by decide +kernel
theorem d_Y_init_1 : decode b_Y_init 1 = .ok (.invokespecial 1, 3) := by decide +kernel
theorem d_Y_init_4 : decode b_Y_init 4 = .ok (.aload_n 0, 1) := by decide +kernel
theorem d_Y_init_5 : decode b_Y_init 5 = .ok (.bipush 24, 2) := by decide +kernel
theorem d_Y_init_7 : decode b_Y_init 7 = .ok (.newarray .int, 2) := by decide +kernel
theorem d_Y_init_9 : decode b_Y_init 9 = .ok (.putfield 7, 3) := by decide +kernel
theorem d_Y_init_12 : decode b_Y_init 12 = .ok (.aload_n 0, 1) := by decide +kernel
theorem d_Y_init_13 : decode b_Y_init 13 = .ok (.bipush 24, 2) := by decide +kernel
theorem d_Y_init_15 : decode b_Y_init 15 = .ok (.newarray .int, 2) := by decide +kernel
theorem d_Y_init_17 : decode b_Y_init 17 = .ok (.putfield 13, 3) := by decide +kernel
theorem d_Y_init_20 : decode b_Y_init 20 = .ok (.aload_n 0, 1) := by decide +kernel
theorem d_Y_init_21 : decode b_Y_init 21 = .ok (.bipush 24, 2) := by decide +kernel
theorem d_Y_init_23 : decode b_Y_init 23 = .ok (.newarray .int, 2) := by decide +kernel
theorem d_Y_init_25 : decode b_Y_init 25 = .ok (.putfield 16, 3) := by decide +kernel
theorem d_Y_init_28 : decode b_Y_init 28 = .ok (.aload_n 0, 1) := by decide +kernel
theorem d_Y_init_29 : decode b_Y_init 29 = .ok (.bipush 96, 2) := by decide +kernel
theorem d_Y_init_31 : decode b_Y_init 31 = .ok (.newarray .int, 2) := by decide +kernel
theorem d_Y_init_33 : decode b_Y_init 33 = .ok (.putfield 19, 3) := by decide +kernel
theorem d_Y_init_36 : decode b_Y_init 36 = .ok (.aload_n 0, 1) := by decide +kernel
theorem d_Y_init_37 : decode b_Y_init 37 = .ok (.bipush 16, 2) := by decide +kernel
theorem d_Y_init_39 : decode b_Y_init 39 = .ok (.newarray .int, 2) := by decide +kernel
theorem d_Y_init_41 : decode b_Y_init 41 = .ok (.putfield 22, 3) := by decide +kernel
theorem d_Y_init_44 : decode b_Y_init 44 = .ok (.aload_n 0, 1) := by decide +kernel
theorem d_Y_init_45 : decode b_Y_init 45 = .ok (.sipush 320, 3) := by decide +kernel
theorem d_Y_init_48 : decode b_Y_init 48 = .ok (.newarray .int, 2) := by decide +kernel
theorem d_Y_init_50 : decode b_Y_init 50 = .ok (.putfield 25, 3) := by decide +kernel
theorem d_Y_init_53 : decode b_Y_init 53 = .ok (.aload_n 0, 1) := by decide +kernel
theorem d_Y_init_54 : decode b_Y_init 54 = .ok (.iconst 1, 1) := by decide +kernel
theorem d_Y_init_55 : decode b_Y_init 55 = .ok (.putfield 28, 3) := by decide +kernel
theorem d_Y_init_58 : decode b_Y_init 58 = .ok (.aload_n 0, 1) := by decide +kernel
theorem d_Y_init_59 : decode b_Y_init 59 = .ok (.sipush 320, 3) := by decide +kernel
theorem d_Y_init_62 : decode b_Y_init 62 = .ok (.newarray .long, 2) := by decide +kernel
theorem d_Y_init_64 : decode b_Y_init 64 = .ok (.putfield 32, 3) := by decide +kernel
theorem d_Y_init_67 : decode b_Y_init 67 = .ok (.aload_n 0, 1) := by decide +kernel
theorem d_Y_init_68 : decode b_Y_init 68 = .ok (.sipush 320, 3) := by decide +kernel
theorem d_Y_init_71 : decode b_Y_init 71 = .ok (.newarray .int, 2) := by decide +kernel
theorem d_Y_init_73 : decode b_Y_init 73 = .ok (.putfield 36, 3) := by decide +kernel
theorem d_Y_init_76 : decode b_Y_init 76 = .ok (.aload_n 0, 1) := by decide +kernel
theorem d_Y_init_77 : decode b_Y_init 77 = .ok (.sipush 320, 3) := by decide +kernel
theorem d_Y_init_80 : decode b_Y_init 80 = .ok (.newarray .int, 2) := by decide +kernel
theorem d_Y_init_82 : decode b_Y_init 82 = .ok (.putfield 39, 3) := by decide +kernel
theorem d_Y_init_85 : decode b_Y_init 85 = .ok (.aload_n 0, 1) := by decide +kernel
theorem d_Y_init_86 : decode b_Y_init 86 = .ok (.iload_n 1, 1) := by decide +kernel
theorem d_Y_init_87 : decode b_Y_init 87 = .ok (.putfield 42, 3) := by decide +kernel
theorem d_Y_init_90 : decode b_Y_init 90 = .ok (.aload_n 0, 1) := by decide +kernel
theorem d_Y_init_91 : decode b_Y_init 91 = .ok (.getfield 19, 3) := by decide +kernel
theorem d_Y_init_94 : decode b_Y_init 94 = .ok (.bipush 11, 2) := by decide +kernel
theorem d_Y_init_96 : decode b_Y_init 96 = .ok (.iload_n 1, 1) := by decide +kernel
theorem d_Y_init_97 : decode b_Y_init 97 = .ok (.iastore, 1) := by decide +kernel
theorem d_Y_init_98 : decode b_Y_init 98 = .ok (.return_, 1) := by decide +kernel
theorem d_Y_add_0 : decode b_Y_add 0 = .ok (.iload_n 1, 1) := by decide +kernel
theorem d_Y_add_1 : decode b_Y_add 1 = .ok (.iconst 0, 1) := by decide +kernel
theorem d_Y_add_2 : decode b_Y_add 2 = .ok (.bipush 12, 2) := by decide +kernel
theorem d_Y_add_4 : decode b_Y_add 4 = .ok (.invokestatic 45, 3) := by decide +kernel
theorem d_Y_add_7 : decode b_Y_add 7 = .ok (.ifCond .eq 44, 3) := by decide +kernel
theorem d_Y_add_10 : decode b_Y_add 10 = .ok (.aload_n 0, 1) := by decide +kernel
theorem d_Y_add_11 : decode b_Y_add 11 = .ok (.getfield 49, 3) := by decide +kernel
theorem d_Y_add_14 : decode b_Y_add 14 = .ok (.bipush 24, 2) := by decide +kernel
theorem d_Y_add_16 : decode b_Y_add 16 = .ok (.if_icmp .ge 35, 3) := by decide +kernel
theorem d_Y_add_19 : decode b_Y_add 19 = .ok (.aload_n 0, 1) := by decide +kernel
theorem d_Y_add_20 : decode b_Y_add 20 = .ok (.getfield 52, 3) := by decide +kernel
theorem d_Y_add_23 : decode b_Y_add 23 = .ok (.ifCond .ne 28, 3) := by decide +kernel
theorem d_Y_add_26 : decode b_Y_add 26 = .ok (.iload_n 1, 1) := by decide +kernel
theorem d_Y_add_27 : decode b_Y_add 27 = .ok (.iconst 5, 1) := by decide +kernel
theorem d_Y_add_28 : decode b_Y_add 28 = .ok (.if_icmp .eq 9, 3) := by decide +kernel
theorem d_Y_add_31 : decode b_Y_add 31 = .ok (.iload_n 1, 1) := by decide +kernel
theorem d_Y_add_32 : decode b_Y_add 32 = .ok (.bipush 6, 2) := by decide +kernel
theorem d_Y_add_34 : decode b_Y_add 34 = .ok (.if_icmp .ne 13, 3) := by decide +kernel
theorem d_Y_add_37 : decode b_Y_add 37 = .ok (.iload_n 3, 1) := by decide +kernel
theorem d_Y_add_38 : decode b_Y_add 38 = .ok (.iconst 0, 1) := by decide +kernel
theorem d_Y_add_39 : decode b_Y_add 39 = .ok (.bipush 23, 2) := by decide +kernel
theorem d_Y_add_41 : decode b_Y_add 41 = .ok (.invokestatic 45, 3) := by decide +kernel
theorem d_Y_add_44 : decode b_Y_add 44 = .ok (.ifCond .eq 7, 3) := by decide +kernel
theorem d_Y_add_47 : decode b_Y_add 47 = .ok (.iconst 1, 1) := by decide +kernel
theorem d_Y_add_48 : decode b_Y_add 48 = .ok (.goto 4, 3) := by decide +kernel
theorem d_Y_add_51 : decode b_Y_add 51 = .ok (.iconst 0, 1) := by decide +kernel
theorem d_Y_add_52 : decode b_Y_add 52 = .ok (.istore 4, 2) := by decide +kernel
theorem d_Y_add_54 : decode b_Y_add 54 = .ok (.iload 4, 2) := by decide +kernel
theorem d_Y_add_56 : decode b_Y_add 56 = .ok (.ifCond .ne 5, 3) := by decide +kernel
theorem d_Y_add_59 : decode b_Y_add 59 = .ok (.iconst (-1), 1) := by decide +kernel
theorem d_Y_add_60 : decode b_Y_add 60 = .ok (.ireturn, 1) := by decide +kernel
theorem d_Y_add_61 : decode b_Y_add 61 = .ok (.aload_n 0, 1) := by decide +kernel
theorem d_Y_add_62 : decode b_Y_add 62 = .ok (.getfield 7, 3) := by decide +kernel
theorem d_Y_add_65 : decode b_Y_add 65 = .ok (.aload_n 0, 1) := by decide +kernel
theorem d_Y_add_66 : decode b_Y_add 66 = .ok (.getfield 49, 3) := by decide +kernel
theorem d_Y_add_69 : decode b_Y_add 69 = .ok (.iload_n 1, 1) := by decide +kernel
theorem d_Y_add_70 : decode b_Y_add 70 = .ok (.iastore, 1) := by decide +kernel
theorem d_Y_add_71 : decode b_Y_add 71 = .ok (.aload_n 0, 1) := by decide +kernel
theorem d_Y_add_72 : decode b_Y_add 72 = .ok (.getfield 13, 3) := by decide +kernel
theorem d_Y_add_75 : decode b_Y_add 75 = .ok (.aload_n 0, 1) := by decide +kernel
theorem d_Y_add_76 : decode b_Y_add 76 = .ok (.getfield 49, 3) := by decide +kernel
theorem d_Y_add_79 : decode b_Y_add 79 = .ok (.iload_n 2, 1) := by decide +kernel
theorem d_Y_add_80 : decode b_Y_add 80 = .ok (.iastore, 1) := by decide +kernel
theorem d_Y_add_81 : decode b_Y_add 81 = .ok (.aload_n 0, 1) := by decide +kernel
theorem d_Y_add_82 : decode b_Y_add 82 = .ok (.getfield 16, 3) := by decide +kernel
theorem d_Y_add_85 : decode b_Y_add 85 = .ok (.aload_n 0, 1) := by decide +kernel
theorem d_Y_add_86 : decode b_Y_add 86 = .ok (.getfield 49, 3) := by decide +kernel
theorem d_Y_add_89 : decode b_Y_add 89 = .ok (.iload_n 3, 1) := by decide +kernel
theorem d_Y_add_90 : decode b_Y_add 90 = .ok (.iastore, 1) := by decide +kernel
theorem d_Y_add_91 : decode b_Y_add 91 = .ok (.aload_n 0, 1) := by decide +kernel
theorem d_Y_add_92 : decode b_Y_add 92 = .ok (.aload_n 0, 1) := by decide +kernel
theorem d_Y_add_93 : decode b_Y_add 93 = .ok (.getfield 49, 3) := by decide +kernel
theorem d_Y_add_96 : decode b_Y_add 96 = .ok (.iconst 1, 1) := by decide +kernel
theorem d_Y_add_97 : decode b_Y_add 97 = .ok (.iadd, 1) := by decide +kernel
theorem d_Y_add_98 : decode b_Y_add 98 = .ok (.putfield 49, 3) := by decide +kernel
theorem d_Y_add_101 : decode b_Y_add 101 = .ok (.aload_n 0, 1) := by decide +kernel
theorem d_Y_add_102 : decode b_Y_add 102 = .ok (.getfield 49, 3) := by decide +kernel
theorem d_Y_add_105 : decode b_Y_add 105 = .ok (.iconst 1, 1) := by decide +kernel
theorem d_Y_add_106 : decode b_Y_add 106 = .ok (.isub, 1) := by decide +kernel
theorem d_Y_add_107 : decode b_Y_add 107 = .ok (.ireturn, 1) := by decide +kernel
theorem d_Y_in_0 : decode b_Y_in 0 = .ok (.iload_n 0, 1) := by decide +kernel
theorem d_Y_in_1 : decode b_Y_in 1 = .ok (.iload_n 1, 1) := by decide +kernel
theorem d_Y_in_2 : decode b_Y_in 2 = .ok (.if_icmp .lt 12, 3) := by decide +kernel
theorem d_Y_in_5 : decode b_Y_in 5 = .ok (.iload_n 0, 1) := by decide +kernel
theorem d_Y_in_6 : decode b_Y_in 6 = .ok (.iload_n 2, 1) := by decide +kernel
theorem d_Y_in_7 : decode b_Y_in 7 = .ok (.if_icmp .gt 7, 3) := by decide +kernel
theorem d_Y_in_10 : decode b_Y_in 10 = .ok (.iconst 1, 1) := by decide +kernel
theorem d_Y_in_11 : decode b_Y_in 11 = .ok (.goto 4, 3) := by decide +kernel
theorem d_Y_in_14 : decode b_Y_in 14 = .ok (.iconst 0, 1) := by decide +kernel
theorem d_Y_in_15 : decode b_Y_in 15 = .ok (.ireturn, 1) := by decide +kernel
theorem d_Y_clear_0 : decode b_Y_clear 0 = .ok (.aload_n 0, 1) := by decide +kernel
theorem d_Y_clear_1 : decode b_Y_clear 1 = .ok (.getfield 49, 3) := by decide +kernel
theorem d_Y_clear_4 : decode b_Y_clear 4 = .ok (.istore_n 1, 1) := by decide +kernel
theorem d_Y_clear_5 : decode b_Y_clear 5 = .ok (.aload_n 0, 1) := by decide +kernel
theorem d_Y_clear_6 : decode b_Y_clear 6 = .ok (.iconst 0, 1) := by decide +kernel
theorem d_Y_clear_7 : decode b_Y_clear 7 = .ok (.putfield 49, 3) := by decide +kernel
theorem d_Y_clear_10 : decode b_Y_clear 10 = .ok (.aload_n 0, 1) := by decide +kernel
theorem d_Y_clear_11 : decode b_Y_clear 11 = .ok (.iconst 0, 1) := by decide +kernel
theorem d_Y_clear_12 : decode b_Y_clear 12 = .ok (.putfield 52, 3) := by decide +kernel
theorem d_Y_clear_15 : decode b_Y_clear 15 = .ok (.aload_n 0, 1) := by decide +kernel
theorem d_Y_clear_16 : decode b_Y_clear 16 = .ok (.iconst 0, 1) := by decide +kernel
theorem d_Y_clear_17 : decode b_Y_clear 17 = .ok (.invokevirtual 56, 3) := by decide +kernel
theorem d_Y_clear_20 : decode b_Y_clear 20 = .ok (.aload_n 0, 1) := by decide +kernel
theorem d_Y_clear_21 : decode b_Y_clear 21 = .ok (.iconst 0, 1) := by decide +kernel
theorem d_Y_clear_22 : decode b_Y_clear 22 = .ok (.putfield 60, 3) := by decide +kernel
theorem d_Y_clear_25 : decode b_Y_clear 25 = .ok (.aload_n 0, 1) := by decide +kernel
theorem d_Y_clear_26 : decode b_Y_clear 26 = .ok (.iconst 0, 1) := by decide +kernel
theorem d_Y_clear_27 : decode b_Y_clear 27 = .ok (.putfield 63, 3) := by decide +kernel
theorem d_Y_clear_30 : decode b_Y_clear 30 = .ok (.aload_n 0, 1) := by decide +kernel
theorem d_Y_clear_31 : decode b_Y_clear 31 = .ok (.iconst 0, 1) := by decide +kernel
theorem d_Y_clear_32 : decode b_Y_clear 32 = .ok (.putfield 66, 3) := by decide +kernel
theorem d_Y_clear_35 : decode b_Y_clear 35 = .ok (.aload_n 0, 1) := by decide +kernel
theorem d_Y_clear_36 : decode b_Y_clear 36 = .ok (.iconst 0, 1) := by decide +kernel
theorem d_Y_clear_37 : decode b_Y_clear 37 = .ok (.putfield 69, 3) := by decide +kernel
theorem d_Y_clear_40 : decode b_Y_clear 40 = .ok (.aload_n 0, 1) := by decide +kernel
theorem d_Y_clear_41 : decode b_Y_clear 41 = .ok (.iconst 0, 1) := by decide +kernel
theorem d_Y_clear_42 : decode b_Y_clear 42 = .ok (.putfield 72, 3) := by decide +kernel
theorem d_Y_clear_45 : decode b_Y_clear 45 = .ok (.aload_n 0, 1) := by decide +kernel
theorem d_Y_clear_46 : decode b_Y_clear 46 = .ok (.iconst 0, 1) := by decide +kernel
theorem d_Y_clear_47 : decode b_Y_clear 47 = .ok (.putfield 75, 3) := by decide +kernel
theorem d_Y_clear_50 : decode b_Y_clear 50 = .ok (.aload_n 0, 1) := by decide +kernel
theorem d_Y_clear_51 : decode b_Y_clear 51 = .ok (.iconst 1, 1) := by decide +kernel
theorem d_Y_clear_52 : decode b_Y_clear 52 = .ok (.putfield 28, 3) := by decide +kernel
theorem d_Y_clear_55 : decode b_Y_clear 55 = .ok (.iload_n 1, 1) := by decide +kernel
theorem d_Y_clear_56 : decode b_Y_clear 56 = .ok (.ireturn, 1) := by decide +kernel
theorem d_Y_anew_0 : decode b_Y_anew 0 = .ok (.iconst 0, 1) := by decide +kernel
theorem d_Y_anew_1 : decode b_Y_anew 1 = .ok (.istore_n 2, 1) := by decide +kernel
theorem d_Y_anew_2 : decode b_Y_anew 2 = .ok (.iload_n 2, 1) := by decide +kernel
theorem d_Y_anew_3 : decode b_Y_anew 3 = .ok (.bipush 48, 2) := by decide +kernel
theorem d_Y_anew_5 : decode b_Y_anew 5 = .ok (.if_icmp .ge 18, 3) := by decide +kernel
theorem d_Y_anew_8 : decode b_Y_anew 8 = .ok (.aload_n 0, 1) := by decide +kernel
theorem d_Y_anew_9 : decode b_Y_anew 9 = .ok (.getfield 19, 3) := by decide +kernel
theorem d_Y_anew_12 : decode b_Y_anew 12 = .ok (.iload_n 1, 1) := by decide +kernel
theorem d_Y_anew_13 : decode b_Y_anew 13 = .ok (.iload_n 2, 1) := by decide +kernel
theorem d_Y_anew_14 : decode b_Y_anew 14 = .ok (.iadd, 1) := by decide +kernel
theorem d_Y_anew_15 : decode b_Y_anew 15 = .ok (.iconst 0, 1) := by decide +kernel
theorem d_Y_anew_16 : decode b_Y_anew 16 = .ok (.iastore, 1) := by decide +kernel
theorem d_Y_anew_17 : decode b_Y_anew 17 = .ok (.iinc 2 1, 3) := by decide +kernel
theorem d_Y_anew_20 : decode b_Y_anew 20 = .ok (.goto (-18), 3) := by decide +kernel
theorem d_Y_anew_23 : decode b_Y_anew 23 = .ok (.aload_n 0, 1) := by decide +kernel
theorem d_Y_anew_24 : decode b_Y_anew 24 = .ok (.getfield 19, 3) := by decide +kernel
theorem d_Y_anew_27 : decode b_Y_anew 27 = .ok (.iload_n 1, 1) := by decide +kernel
theorem d_Y_anew_28 : decode b_Y_anew 28 = .ok (.bipush 11, 2) := by decide +kernel
theorem d_Y_anew_30 : decode b_Y_anew 30 = .ok (.iadd, 1) := by decide +kernel
theorem d_Y_anew_31 : decode b_Y_anew 31 = .ok (.aload_n 0, 1) := by decide +kernel
theorem d_Y_anew_32 : decode b_Y_anew 32 = .ok (.getfield 42, 3) := by decide +kernel
theorem d_Y_anew_35 : decode b_Y_anew 35 = .ok (.iastore, 1) := by decide +kernel
theorem d_Y_anew_36 : decode b_Y_anew 36 = .ok (.return_, 1) := by decide +kernel
theorem d_Y_input_0 : decode b_Y_input 0 = .ok (.aload_n 0, 1) := by decide +kernel
theorem d_Y_input_1 : decode b_Y_input 1 = .ok (.getfield 63, 3) := by decide +kernel
theorem d_Y_input_4 : decode b_Y_input 4 = .ok (.bipush 16, 2) := by decide +kernel
theorem d_Y_input_6 : decode b_Y_input 6 = .ok (.if_icmp .lt 5, 3) := by decide +kernel
theorem d_Y_input_9 : decode b_Y_input 9 = .ok (.iconst (-1), 1) := by decide +kernel
theorem d_Y_input_10 : decode b_Y_input 10 = .ok (.ireturn, 1) := by decide +kernel
theorem d_Y_input_11 : decode b_Y_input 11 = .ok (.aload_n 0, 1) := by decide +kernel
theorem d_Y_input_12 : decode b_Y_input 12 = .ok (.getfield 22, 3) := by decide +kernel
theorem d_Y_input_15 : decode b_Y_input 15 = .ok (.aload_n 0, 1) := by decide +kernel
theorem d_Y_input_16 : decode b_Y_input 16 = .ok (.getfield 63, 3) := by decide +kernel
theorem d_Y_input_19 : decode b_Y_input 19 = .ok (.iload_n 1, 1) := by decide +kernel
theorem d_Y_input_20 : decode b_Y_input 20 = .ok (.iastore, 1) := by decide +kernel
theorem d_Y_input_21 : decode b_Y_input 21 = .ok (.aload_n 0, 1) := by decide +kernel
theorem d_Y_input_22 : decode b_Y_input 22 = .ok (.aload_n 0, 1) := by decide +kernel
theorem d_Y_input_23 : decode b_Y_input 23 = .ok (.getfield 63, 3) := by decide +kernel
theorem d_Y_input_26 : decode b_Y_input 26 = .ok (.iconst 1, 1) := by decide +kernel
theorem d_Y_input_27 : decode b_Y_input 27 = .ok (.iadd, 1) := by decide +kernel
theorem d_Y_input_28 : decode b_Y_input 28 = .ok (.putfield 63, 3) := by decide +kernel
theorem d_Y_input_31 : decode b_Y_input 31 = .ok (.aload_n 0, 1) := by decide +kernel
theorem d_Y_input_32 : decode b_Y_input 32 = .ok (.getfield 63, 3) := by decide +kernel
theorem d_Y_input_35 : decode b_Y_input 35 = .ok (.ireturn, 1) := by decide +kernel
theorem d_Y_request_0 : decode b_Y_request 0 = .ok (.aload_n 0, 1) := by decide +kernel
theorem d_Y_request_1 : decode b_Y_request 1 = .ok (.getfield 66, 3) := by decide +kernel
theorem d_Y_request_4 : decode b_Y_request 4 = .ok (.istore_n 1, 1) := by decide +kernel
theorem d_Y_request_5 : decode b_Y_request 5 = .ok (.aload_n 0, 1) := by decide +kernel
theorem d_Y_request_6 : decode b_Y_request 6 = .ok (.iconst 1, 1) := by decide +kernel
theorem d_Y_request_7 : decode b_Y_request 7 = .ok (.putfield 66, 3) := by decide +kernel
theorem d_Y_request_10 : decode b_Y_request 10 = .ok (.iload_n 1, 1) := by decide +kernel
theorem d_Y_request_11 : decode b_Y_request 11 = .ok (.ifCond .ne 7, 3) := by decide +kernel
theorem d_Y_request_14 : decode b_Y_request 14 = .ok (.iconst 1, 1) := by decide +kernel
theorem d_Y_request_15 : decode b_Y_request 15 = .ok (.goto 4, 3) := by decide +kernel
theorem d_Y_request_18 : decode b_Y_request 18 = .ok (.iconst 0, 1) := by decide +kernel
theorem d_Y_request_19 : decode b_Y_request 19 = .ok (.ireturn, 1) := by decide +kernel
theorem d_Y_pass_0 : decode b_Y_pass 0 = .ok (.iload_n 1, 1) := by decide +kernel
theorem d_Y_pass_1 : decode b_Y_pass 1 = .ok (.iconst 1, 1) := by decide +kernel
theorem d_Y_pass_2 : decode b_Y_pass 2 = .ok (.ldc 78, 2) := by decide +kernel
theorem d_Y_pass_4 : decode b_Y_pass 4 = .ok (.invokestatic 45, 3) := by decide +kernel
theorem d_Y_pass_7 : decode b_Y_pass 7 = .ok (.ifCond .ne 5, 3) := by decide +kernel
theorem d_Y_pass_10 : decode b_Y_pass 10 = .ok (.iconst 0, 1) := by decide +kernel
theorem d_Y_pass_11 : decode b_Y_pass 11 = .ok (.ireturn, 1) := by decide +kernel
theorem d_Y_pass_12 : decode b_Y_pass 12 = .ok (.aload_n 0, 1) := by decide +kernel
theorem d_Y_pass_13 : decode b_Y_pass 13 = .ok (.aload_n 0, 1) := by decide +kernel
theorem d_Y_pass_14 : decode b_Y_pass 14 = .ok (.getfield 60, 3) := by decide +kernel
theorem d_Y_pass_17 : decode b_Y_pass 17 = .ok (.iload_n 1, 1) := by decide +kernel
theorem d_Y_pass_18 : decode b_Y_pass 18 = .ok (.iadd, 1) := by decide +kernel
theorem d_Y_pass_19 : decode b_Y_pass 19 = .ok (.putfield 60, 3) := by decide +kernel
theorem d_Y_pass_22 : decode b_Y_pass 22 = .ok (.iconst 1, 1) := by decide +kernel
theorem d_Y_pass_23 : decode b_Y_pass 23 = .ok (.ireturn, 1) := by decide +kernel
theorem d_Y_run_0 : decode b_Y_run 0 = .ok (.iload_n 1, 1) := by decide +kernel
theorem d_Y_run_1 : decode b_Y_run 1 = .ok (.iconst 1, 1) := by decide +kernel
theorem d_Y_run_2 : decode b_Y_run 2 = .ok (.bipush 100, 2) := by decide +kernel
theorem d_Y_run_4 : decode b_Y_run 4 = .ok (.invokestatic 45, 3) := by decide +kernel
theorem d_Y_run_7 : decode b_Y_run 7 = .ok (.ifCond .ne 5, 3) := by decide +kernel
theorem d_Y_run_10 : decode b_Y_run 10 = .ok (.iconst (-1), 1) := by decide +kernel
theorem d_Y_run_11 : decode b_Y_run 11 = .ok (.ireturn, 1) := by decide +kernel
theorem d_Y_run_12 : decode b_Y_run 12 = .ok (.aload_n 0, 1) := by decide +kernel
theorem d_Y_run_13 : decode b_Y_run 13 = .ok (.iconst 1, 1) := by decide +kernel
theorem d_Y_run_14 : decode b_Y_run 14 = .ok (.putfield 52, 3) := by decide +kernel
theorem d_Y_run_17 : decode b_Y_run 17 = .ok (.iconst 0, 1) := by decide +kernel
theorem d_Y_run_18 : decode b_Y_run 18 = .ok (.istore_n 2, 1) := by decide +kernel
theorem d_Y_run_19 : decode b_Y_run 19 = .ok (.iload_n 2, 1) := by decide +kernel
theorem d_Y_run_20 : decode b_Y_run 20 = .ok (.iload_n 1, 1) := by decide +kernel
theorem d_Y_run_21 : decode b_Y_run 21 = .ok (.if_icmp .ge 35, 3) := by decide +kernel
theorem d_Y_run_24 : decode b_Y_run 24 = .ok (.aload_n 0, 1) := by decide +kernel
theorem d_Y_run_25 : decode b_Y_run 25 = .ok (.getfield 69, 3) := by decide +kernel
theorem d_Y_run_28 : decode b_Y_run 28 = .ok (.sipush 290, 3) := by decide +kernel
theorem d_Y_run_31 : decode b_Y_run 31 = .ok (.if_icmp .gt 25, 3) := by decide +kernel
theorem d_Y_run_34 : decode b_Y_run 34 = .ok (.aload_n 0, 1) := by decide +kernel
theorem d_Y_run_35 : decode b_Y_run 35 = .ok (.getfield 19, 3) := by decide +kernel
theorem d_Y_run_38 : decode b_Y_run 38 = .ok (.bipush 8, 2) := by decide +kernel
theorem d_Y_run_40 : decode b_Y_run 40 = .ok (.iaload, 1) := by decide +kernel
theorem d_Y_run_41 : decode b_Y_run 41 = .ok (.ifCond .ne 15, 3) := by decide +kernel
theorem d_Y_run_44 : decode b_Y_run 44 = .ok (.aload_n 0, 1) := by decide +kernel
theorem d_Y_run_45 : decode b_Y_run 45 = .ok (.iconst 0, 1) := by decide +kernel
theorem d_Y_run_46 : decode b_Y_run 46 = .ok (.invokevirtual 131, 3) := by decide +kernel
theorem d_Y_run_49 : decode b_Y_run 49 = .ok (.iload_n 2, 1) := by decide +kernel
theorem d_Y_run_50 : decode b_Y_run 50 = .ok (.iconst 1, 1) := by decide +kernel
theorem d_Y_run_51 : decode b_Y_run 51 = .ok (.iadd, 1) := by decide +kernel
theorem d_Y_run_52 : decode b_Y_run 52 = .ok (.istore_n 2, 1) := by decide +kernel
theorem d_Y_run_53 : decode b_Y_run 53 = .ok (.goto (-34), 3) := by decide +kernel
theorem d_Y_run_56 : decode b_Y_run 56 = .ok (.iload_n 2, 1) := by decide +kernel
theorem d_Y_run_57 : decode b_Y_run 57 = .ok (.ireturn, 1) := by decide +kernel
theorem d_Y_step_0 : decode b_Y_step 0 = .ok (.aload_n 0, 1) := by decide +kernel
theorem d_Y_step_1 : decode b_Y_step 1 = .ok (.getfield 19, 3) := by decide +kernel
theorem d_Y_step_4 : decode b_Y_step 4 = .ok (.iload_n 1, 1) := by decide +kernel
theorem d_Y_step_5 : decode b_Y_step 5 = .ok (.bipush 9, 2) := by decide +kernel
theorem d_Y_step_7 : decode b_Y_step 7 = .ok (.iadd, 1) := by decide +kernel
theorem d_Y_step_8 : decode b_Y_step 8 = .ok (.aload_n 0, 1) := by decide +kernel
theorem d_Y_step_9 : decode b_Y_step 9 = .ok (.getfield 19, 3) := by decide +kernel
theorem d_Y_step_12 : decode b_Y_step 12 = .ok (.iload_n 1, 1) := by decide +kernel
theorem d_Y_step_13 : decode b_Y_step 13 = .ok (.bipush 9, 2) := by decide +kernel
theorem d_Y_step_15 : decode b_Y_step 15 = .ok (.iadd, 1) := by decide +kernel
theorem d_Y_step_16 : decode b_Y_step 16 = .ok (.iaload, 1) := by decide +kernel
theorem d_Y_step_17 : decode b_Y_step 17 = .ok (.iconst 1, 1) := by decide +kernel
theorem d_Y_step_18 : decode b_Y_step 18 = .ok (.iadd, 1) := by decide +kernel
theorem d_Y_step_19 : decode b_Y_step 19 = .ok (.iastore, 1) := by decide +kernel
theorem d_Y_step_20 : decode b_Y_step 20 = .ok (.aload_n 0, 1) := by decide +kernel
theorem d_Y_step_21 : decode b_Y_step 21 = .ok (.getfield 19, 3) := by decide +kernel
theorem d_Y_step_24 : decode b_Y_step 24 = .ok (.iload_n 1, 1) := by decide +kernel
theorem d_Y_step_25 : decode b_Y_step 25 = .ok (.iconst 4, 1) := by decide +kernel
theorem d_Y_step_26 : decode b_Y_step 26 = .ok (.iadd, 1) := by decide +kernel
theorem d_Y_step_27 : decode b_Y_step 27 = .ok (.iaload, 1) := by decide +kernel
theorem d_Y_step_28 : decode b_Y_step 28 = .ok (.istore_n 2, 1) := by decide +kernel
theorem d_Y_step_29 : decode b_Y_step 29 = .ok (.aload_n 0, 1) := by decide +kernel
theorem d_Y_step_30 : decode b_Y_step 30 = .ok (.iload_n 1, 1) := by decide +kernel
theorem d_Y_step_31 : decode b_Y_step 31 = .ok (.invokevirtual 119, 3) := by decide +kernel
theorem d_Y_step_34 : decode b_Y_step 34 = .ok (.ifCond .eq 36, 3) := by decide +kernel
theorem d_Y_step_37 : decode b_Y_step 37 = .ok (.aload_n 0, 1) := by decide +kernel
theorem d_Y_step_38 : decode b_Y_step 38 = .ok (.getfield 19, 3) := by decide +kernel
theorem d_Y_step_41 : decode b_Y_step 41 = .ok (.iload_n 1, 1) := by decide +kernel
theorem d_Y_step_42 : decode b_Y_step 42 = .ok (.bipush 10, 2) := by decide +kernel
theorem d_Y_step_44 : decode b_Y_step 44 = .ok (.iadd, 1) := by decide +kernel
theorem d_Y_step_45 : decode b_Y_step 45 = .ok (.iload_n 2, 1) := by decide +kernel
theorem d_Y_step_46 : decode b_Y_step 46 = .ok (.iastore, 1) := by decide +kernel
theorem d_Y_step_47 : decode b_Y_step 47 = .ok (.aload_n 0, 1) := by decide +kernel
theorem d_Y_step_48 : decode b_Y_step 48 = .ok (.getfield 19, 3) := by decide +kernel
theorem d_Y_step_51 : decode b_Y_step 51 = .ok (.iload_n 1, 1) := by decide +kernel
theorem d_Y_step_52 : decode b_Y_step 52 = .ok (.iconst 4, 1) := by decide +kernel
theorem d_Y_step_53 : decode b_Y_step 53 = .ok (.iadd, 1) := by decide +kernel
theorem d_Y_step_54 : decode b_Y_step 54 = .ok (.bipush 16, 2) := by decide +kernel
theorem d_Y_step_56 : decode b_Y_step 56 = .ok (.iastore, 1) := by decide +kernel
theorem d_Y_step_57 : decode b_Y_step 57 = .ok (.aload_n 0, 1) := by decide +kernel
theorem d_Y_step_58 : decode b_Y_step 58 = .ok (.getfield 19, 3) := by decide +kernel
theorem d_Y_step_61 : decode b_Y_step 61 = .ok (.iload_n 1, 1) := by decide +kernel
theorem d_Y_step_62 : decode b_Y_step 62 = .ok (.bipush 7, 2) := by decide +kernel
theorem d_Y_step_64 : decode b_Y_step 64 = .ok (.iadd, 1) := by decide +kernel
theorem d_Y_step_65 : decode b_Y_step 65 = .ok (.iconst 1, 1) := by decide +kernel
theorem d_Y_step_66 : decode b_Y_step 66 = .ok (.iastore, 1) := by decide +kernel
theorem d_Y_step_67 : decode b_Y_step 67 = .ok (.goto 47, 3) := by decide +kernel
theorem d_Y_step_70 : decode b_Y_step 70 = .ok (.iload_n 2, 1) := by decide +kernel
theorem d_Y_step_71 : decode b_Y_step 71 = .ok (.aload_n 0, 1) := by decide +kernel
theorem d_Y_step_72 : decode b_Y_step 72 = .ok (.getfield 49, 3) := by decide +kernel
theorem d_Y_step_75 : decode b_Y_step 75 = .ok (.if_icmp .lt 16, 3) := by decide +kernel
theorem d_Y_step_78 : decode b_Y_step 78 = .ok (.aload_n 0, 1) := by decide +kernel
theorem d_Y_step_79 : decode b_Y_step 79 = .ok (.getfield 19, 3) := by decide +kernel
theorem d_Y_step_82 : decode b_Y_step 82 = .ok (.iload_n 1, 1) := by decide +kernel
theorem d_Y_step_83 : decode b_Y_step 83 = .ok (.bipush 8, 2) := by decide +kernel
theorem d_Y_step_85 : decode b_Y_step 85 = .ok (.iadd, 1) := by decide +kernel
theorem d_Y_step_86 : decode b_Y_step 86 = .ok (.iconst 1, 1) := by decide +kernel
theorem d_Y_step_87 : decode b_Y_step 87 = .ok (.iastore, 1) := by decide +kernel
theorem d_Y_step_88 : decode b_Y_step 88 = .ok (.goto 26, 3) := by decide +kernel
theorem d_Y_step_91 : decode b_Y_step 91 = .ok (.aload_n 0, 1) := by decide +kernel
theorem d_Y_step_92 : decode b_Y_step 92 = .ok (.iload_n 1, 1) := by decide +kernel
theorem d_Y_step_93 : decode b_Y_step 93 = .ok (.aload_n 0, 1) := by decide +kernel
theorem d_Y_step_94 : decode b_Y_step 94 = .ok (.getfield 7, 3) := by decide +kernel
theorem d_Y_step_97 : decode b_Y_step 97 = .ok (.iload_n 2, 1) := by decide +kernel
theorem d_Y_step_98 : decode b_Y_step 98 = .ok (.iaload, 1) := by decide +kernel
theorem d_Y_step_99 : decode b_Y_step 99 = .ok (.aload_n 0, 1) := by decide +kernel
theorem d_Y_step_100 : decode b_Y_step 100 = .ok (.getfield 13, 3) := by decide +kernel
theorem d_Y_step_103 : decode b_Y_step 103 = .ok (.iload_n 2, 1) := by decide +kernel
theorem d_Y_step_104 : decode b_Y_step 104 = .ok (.iaload, 1) := by decide +kernel
theorem d_Y_step_105 : decode b_Y_step 105 = .ok (.aload_n 0, 1) := by decide +kernel
theorem d_Y_step_106 : decode b_Y_step 106 = .ok (.getfield 16, 3) := by decide +kernel
theorem d_Y_step_109 : decode b_Y_step 109 = .ok (.iload_n 2, 1) := by decide +kernel
theorem d_Y_step_110 : decode b_Y_step 110 = .ok (.iaload, 1) := by decide +kernel
theorem d_Y_step_111 : decode b_Y_step 111 = .ok (.invokevirtual 123, 3) := by decide +kernel
theorem d_Y_step_114 : decode b_Y_step 114 = .ok (.aload_n 0, 1) := by decide +kernel
theorem d_Y_step_115 : decode b_Y_step 115 = .ok (.iload_n 1, 1) := by decide +kernel
theorem d_Y_step_116 : decode b_Y_step 116 = .ok (.aload_n 0, 1) := by decide +kernel
theorem d_Y_step_117 : decode b_Y_step 117 = .ok (.getfield 19, 3) := by decide +kernel
theorem d_Y_step_120 : decode b_Y_step 120 = .ok (.iload_n 1, 1) := by decide +kernel
theorem d_Y_step_121 : decode b_Y_step 121 = .ok (.iconst 4, 1) := by decide +kernel
theorem d_Y_step_122 : decode b_Y_step 122 = .ok (.iadd, 1) := by decide +kernel
theorem d_Y_step_123 : decode b_Y_step 123 = .ok (.iaload, 1) := by decide +kernel
theorem d_Y_step_124 : decode b_Y_step 124 = .ok (.invokevirtual 127, 3) := by decide +kernel
theorem d_Y_step_127 : decode b_Y_step 127 = .ok (.iconst 0, 1) := by decide +kernel
theorem d_Y_step_128 : decode b_Y_step 128 = .ok (.istore_n 3, 1) := by decide +kernel
theorem d_Y_step_129 : decode b_Y_step 129 = .ok (.iload_n 3, 1) := by decide +kernel
theorem d_Y_step_130 : decode b_Y_step 130 = .ok (.iconst 4, 1) := by decide +kernel
theorem d_Y_step_131 : decode b_Y_step 131 = .ok (.if_icmp .ge 22, 3) := by decide +kernel
theorem d_Y_step_134 : decode b_Y_step 134 = .ok (.aload_n 0, 1) := by decide +kernel
theorem d_Y_step_135 : decode b_Y_step 135 = .ok (.iload_n 1, 1) := by decide +kernel
theorem d_Y_step_136 : decode b_Y_step 136 = .ok (.aload_n 0, 1) := by decide +kernel
theorem d_Y_step_137 : decode b_Y_step 137 = .ok (.getfield 19, 3) := by decide +kernel
theorem d_Y_step_140 : decode b_Y_step 140 = .ok (.iload_n 1, 1) := by decide +kernel
theorem d_Y_step_141 : decode b_Y_step 141 = .ok (.iload_n 3, 1) := by decide +kernel
theorem d_Y_step_142 : decode b_Y_step 142 = .ok (.iadd, 1) := by decide +kernel
theorem d_Y_step_143 : decode b_Y_step 143 = .ok (.iaload, 1) := by decide +kernel
theorem d_Y_step_144 : decode b_Y_step 144 = .ok (.invokevirtual 127, 3) := by decide +kernel
theorem d_Y_step_147 : decode b_Y_step 147 = .ok (.iinc 3 1, 3) := by decide +kernel
theorem d_Y_step_150 : decode b_Y_step 150 = .ok (.goto (-21), 3) := by decide +kernel
theorem d_Y_step_153 : decode b_Y_step 153 = .ok (.aload_n 0, 1) := by decide +kernel
theorem d_Y_step_154 : decode b_Y_step 154 = .ok (.iload_n 1, 1) := by decide +kernel
theorem d_Y_step_155 : decode b_Y_step 155 = .ok (.aload_n 0, 1) := by decide +kernel
theorem d_Y_step_156 : decode b_Y_step 156 = .ok (.getfield 19, 3) := by decide +kernel
theorem d_Y_step_159 : decode b_Y_step 159 = .ok (.iload_n 1, 1) := by decide +kernel
theorem d_Y_step_160 : decode b_Y_step 160 = .ok (.iconst 5, 1) := by decide +kernel
theorem d_Y_step_161 : decode b_Y_step 161 = .ok (.iadd, 1) := by decide +kernel
theorem d_Y_step_162 : decode b_Y_step 162 = .ok (.iaload, 1) := by decide +kernel
theorem d_Y_step_163 : decode b_Y_step 163 = .ok (.invokevirtual 127, 3) := by decide +kernel
theorem d_Y_step_166 : decode b_Y_step 166 = .ok (.return_, 1) := by decide +kernel
end
section
theorem d_Y_interrupts_0 : decode b_Y_interrupts 0 = .ok (.aload_n 0, 1) := by decide +kernel
theorem d_Y_interrupts_1 : decode b_Y_interrupts 1 = .ok (.getfield 19, 3) := by decide +kernel
theorem d_Y_interrupts_4 : decode b_Y_interrupts 4 = .ok (.iload_n 1, 1) := by decide +kernel
theorem d_Y_interrupts_5 : decode b_Y_interrupts 5 = .ok (.bipush 7, 2) := by decide +kernel
theorem d_Y_interrupts_7 : decode b_Y_interrupts 7 = .ok (.iadd, 1) := by decide +kernel
theorem d_Y_interrupts_8 : decode b_Y_interrupts 8 = .ok (.iaload, 1) := by decide +kernel
theorem d_Y_interrupts_9 : decode b_Y_interrupts 9 = .ok (.ifCond .ne 16, 3) := by decide +kernel
theorem d_Y_interrupts_12 : decode b_Y_interrupts 12 = .ok (.aload_n 0, 1) := by decide +kernel
theorem d_Y_interrupts_13 : decode b_Y_interrupts 13 = .ok (.getfield 49, 3) := by decide +kernel
theorem d_Y_interrupts_16 : decode b_Y_interrupts 16 = .ok (.bipush 16, 2) := by decide +kernel
theorem d_Y_interrupts_18 : decode b_Y_interrupts 18 = .ok (.if_icmp .le 7, 3) := by decide +kernel
theorem d_Y_interrupts_21 : decode b_Y_interrupts 21 = .ok (.iconst 1, 1) := by decide +kernel
theorem d_Y_interrupts_22 : decode b_Y_interrupts 22 = .ok (.goto 4, 3) := by decide +kernel
theorem d_Y_interrupts_25 : decode b_Y_interrupts 25 = .ok (.iconst 0, 1) := by decide +kernel
theorem d_Y_interrupts_26 : decode b_Y_interrupts 26 = .ok (.istore_n 2, 1) := by decide +kernel
theorem d_Y_interrupts_27 : decode b_Y_interrupts 27 = .ok (.iload_n 1, 1) := by decide +kernel
theorem d_Y_interrupts_28 : decode b_Y_interrupts 28 = .ok (.ifCond .le 22, 3) := by decide +kernel
theorem d_Y_interrupts_31 : decode b_Y_interrupts 31 = .ok (.iload_n 2, 1) := by decide +kernel
theorem d_Y_interrupts_32 : decode b_Y_interrupts 32 = .ok (.ifCond .eq 16, 3) := by decide +kernel
theorem d_Y_interrupts_35 : decode b_Y_interrupts 35 = .ok (.aload_n 0, 1) := by decide +kernel
theorem d_Y_interrupts_36 : decode b_Y_interrupts 36 = .ok (.iload_n 1, 1) := by decide +kernel
theorem d_Y_interrupts_37 : decode b_Y_interrupts 37 = .ok (.iconst 3, 1) := by decide +kernel
theorem d_Y_interrupts_38 : decode b_Y_interrupts 38 = .ok (.invokevirtual 98, 3) := by decide +kernel
theorem d_Y_interrupts_41 : decode b_Y_interrupts 41 = .ok (.ifCond .lt 7, 3) := by decide +kernel
theorem d_Y_interrupts_44 : decode b_Y_interrupts 44 = .ok (.iconst 1, 1) := by decide +kernel
theorem d_Y_interrupts_45 : decode b_Y_interrupts 45 = .ok (.goto 4, 3) := by decide +kernel
theorem d_Y_interrupts_48 : decode b_Y_interrupts 48 = .ok (.iconst 0, 1) := by decide +kernel
theorem d_Y_interrupts_49 : decode b_Y_interrupts 49 = .ok (.ireturn, 1) := by decide +kernel
theorem d_Y_interrupts_50 : decode b_Y_interrupts 50 = .ok (.iload_n 2, 1) := by decide +kernel
theorem d_Y_interrupts_51 : decode b_Y_interrupts 51 = .ok (.ifCond .eq 10, 3) := by decide +kernel
theorem d_Y_interrupts_54 : decode b_Y_interrupts 54 = .ok (.aload_n 0, 1) := by decide +kernel
theorem d_Y_interrupts_55 : decode b_Y_interrupts 55 = .ok (.getfield 66, 3) := by decide +kernel
theorem d_Y_interrupts_58 : decode b_Y_interrupts 58 = .ok (.ifCond .ne 5, 3) := by decide +kernel
theorem d_Y_interrupts_61 : decode b_Y_interrupts 61 = .ok (.iconst 0, 1) := by decide +kernel
theorem d_Y_interrupts_62 : decode b_Y_interrupts 62 = .ok (.ireturn, 1) := by decide +kernel
theorem d_Y_interrupts_63 : decode b_Y_interrupts 63 = .ok (.aload_n 0, 1) := by decide +kernel
theorem d_Y_interrupts_64 : decode b_Y_interrupts 64 = .ok (.iconst 0, 1) := by decide +kernel
theorem d_Y_interrupts_65 : decode b_Y_interrupts 65 = .ok (.putfield 66, 3) := by decide +kernel
theorem d_Y_interrupts_68 : decode b_Y_interrupts 68 = .ok (.aload_n 0, 1) := by decide +kernel
theorem d_Y_interrupts_69 : decode b_Y_interrupts 69 = .ok (.iconst 3, 1) := by decide +kernel
theorem d_Y_interrupts_70 : decode b_Y_interrupts 70 = .ok (.invokevirtual 101, 3) := by decide +kernel
theorem d_Y_interrupts_73 : decode b_Y_interrupts 73 = .ok (.iconst 1, 1) := by decide +kernel
theorem d_Y_interrupts_74 : decode b_Y_interrupts 74 = .ok (.ireturn, 1) := by decide +kernel
theorem d_Y_found_0 : decode b_Y_found 0 = .ok (.iconst (-1), 1) := by decide +kernel
theorem d_Y_found_1 : decode b_Y_found 1 = .ok (.istore_n 3, 1) := by decide +kernel
theorem d_Y_found_2 : decode b_Y_found 2 = .ok (.iconst 0, 1) := by decide +kernel
theorem d_Y_found_3 : decode b_Y_found 3 = .ok (.istore 4, 2) := by decide +kernel
theorem d_Y_found_5 : decode b_Y_found 5 = .ok (.iload 4, 2) := by decide +kernel
theorem d_Y_found_7 : decode b_Y_found 7 = .ok (.aload_n 0, 1) := by decide +kernel
theorem d_Y_found_8 : decode b_Y_found 8 = .ok (.getfield 95, 3) := by decide +kernel
theorem d_Y_found_11 : decode b_Y_found 11 = .ok (.if_icmp .ge 48, 3) := by decide +kernel
theorem d_Y_found_14 : decode b_Y_found 14 = .ok (.aload_n 0, 1) := by decide +kernel
theorem d_Y_found_15 : decode b_Y_found 15 = .ok (.getfield 32, 3) := by decide +kernel
theorem d_Y_found_18 : decode b_Y_found 18 = .ok (.iload 4, 2) := by decide +kernel
theorem d_Y_found_20 : decode b_Y_found 20 = .ok (.laload, 1) := by decide +kernel
theorem d_Y_found_21 : decode b_Y_found 21 = .ok (.aload_n 0, 1) := by decide +kernel
theorem d_Y_found_22 : decode b_Y_found 22 = .ok (.getfield 19, 3) := by decide +kernel
theorem d_Y_found_25 : decode b_Y_found 25 = .ok (.iload_n 1, 1) := by decide +kernel
theorem d_Y_found_26 : decode b_Y_found 26 = .ok (.bipush 9, 2) := by decide +kernel
theorem d_Y_found_28 : decode b_Y_found 28 = .ok (.iadd, 1) := by decide +kernel
theorem d_Y_found_29 : decode b_Y_found 29 = .ok (.iaload, 1) := by decide +kernel
theorem d_Y_found_30 : decode b_Y_found 30 = .ok (.i2l, 1) := by decide +kernel
theorem d_Y_found_31 : decode b_Y_found 31 = .ok (.lcmp, 1) := by decide +kernel
theorem d_Y_found_32 : decode b_Y_found 32 = .ok (.ifCond .ne 19, 3) := by decide +kernel
theorem d_Y_found_35 : decode b_Y_found 35 = .ok (.aload_n 0, 1) := by decide +kernel
theorem d_Y_found_36 : decode b_Y_found 36 = .ok (.getfield 36, 3) := by decide +kernel
theorem d_Y_found_39 : decode b_Y_found 39 = .ok (.iload 4, 2) := by decide +kernel
theorem d_Y_found_41 : decode b_Y_found 41 = .ok (.iaload, 1) := by decide +kernel
theorem d_Y_found_42 : decode b_Y_found 42 = .ok (.iload_n 2, 1) := by decide +kernel
theorem d_Y_found_43 : decode b_Y_found 43 = .ok (.if_icmp .ne 8, 3) := by decide +kernel
theorem d_Y_found_46 : decode b_Y_found 46 = .ok (.iload 4, 2) := by decide +kernel
theorem d_Y_found_48 : decode b_Y_found 48 = .ok (.goto 4, 3) := by decide +kernel
theorem d_Y_found_51 : decode b_Y_found 51 = .ok (.iload_n 3, 1) := by decide +kernel
theorem d_Y_found_52 : decode b_Y_found 52 = .ok (.istore_n 3, 1) := by decide +kernel
theorem d_Y_found_53 : decode b_Y_found 53 = .ok (.iinc 4 1, 3) := by decide +kernel
theorem d_Y_found_56 : decode b_Y_found 56 = .ok (.goto (-51), 3) := by decide +kernel
theorem d_Y_found_59 : decode b_Y_found 59 = .ok (.iload_n 3, 1) := by decide +kernel
theorem d_Y_found_60 : decode b_Y_found 60 = .ok (.ireturn, 1) := by decide +kernel
theorem d_Y_writeEntry_0 : decode b_Y_writeEntry 0 = .ok (.aload_n 0, 1) := by decide +kernel
theorem d_Y_writeEntry_1 : decode b_Y_writeEntry 1 = .ok (.getfield 19, 3) := by decide +kernel
theorem d_Y_writeEntry_4 : decode b_Y_writeEntry 4 = .ok (.bipush 9, 2) := by decide +kernel
theorem d_Y_writeEntry_6 : decode b_Y_writeEntry 6 = .ok (.iaload, 1) := by decide +kernel
theorem d_Y_writeEntry_7 : decode b_Y_writeEntry 7 = .ok (.istore_n 2, 1) := by decide +kernel
theorem d_Y_writeEntry_8 : decode b_Y_writeEntry 8 = .ok (.aload_n 0, 1) := by decide +kernel
theorem d_Y_writeEntry_9 : decode b_Y_writeEntry 9 = .ok (.ldc2_w 89, 3) := by decide +kernel
theorem d_Y_writeEntry_12 : decode b_Y_writeEntry 12 = .ok (.iload_n 2, 1) := by decide +kernel
theorem d_Y_writeEntry_13 : decode b_Y_writeEntry 13 = .ok (.aload_n 0, 1) := by decide +kernel
theorem d_Y_writeEntry_14 : decode b_Y_writeEntry 14 = .ok (.getfield 75, 3) := by decide +kernel
theorem d_Y_writeEntry_17 : decode b_Y_writeEntry 17 = .ok (.isub, 1) := by decide +kernel
theorem d_Y_writeEntry_18 : decode b_Y_writeEntry 18 = .ok (.i2l, 1) := by decide +kernel
theorem d_Y_writeEntry_19 : decode b_Y_writeEntry 19 = .ok (.lmul, 1) := by decide +kernel
theorem d_Y_writeEntry_20 : decode b_Y_writeEntry 20 = .ok (.iload_n 1, 1) := by decide +kernel
theorem d_Y_writeEntry_21 : decode b_Y_writeEntry 21 = .ok (.i2l, 1) := by decide +kernel
theorem d_Y_writeEntry_22 : decode b_Y_writeEntry 22 = .ok (.ladd, 1) := by decide +kernel
theorem d_Y_writeEntry_23 : decode b_Y_writeEntry 23 = .ok (.invokevirtual 91, 3) := by decide +kernel
theorem d_Y_writeEntry_26 : decode b_Y_writeEntry 26 = .ok (.aload_n 0, 1) := by decide +kernel
theorem d_Y_writeEntry_27 : decode b_Y_writeEntry 27 = .ok (.iload_n 2, 1) := by decide +kernel
theorem d_Y_writeEntry_28 : decode b_Y_writeEntry 28 = .ok (.putfield 75, 3) := by decide +kernel
theorem d_Y_writeEntry_31 : decode b_Y_writeEntry 31 = .ok (.aload_n 0, 1) := by decide +kernel
theorem d_Y_writeEntry_32 : decode b_Y_writeEntry 32 = .ok (.aload_n 0, 1) := by decide +kernel
theorem d_Y_writeEntry_33 : decode b_Y_writeEntry 33 = .ok (.getfield 72, 3) := by decide +kernel
theorem d_Y_writeEntry_36 : decode b_Y_writeEntry 36 = .ok (.iconst 1, 1) := by decide +kernel
theorem d_Y_writeEntry_37 : decode b_Y_writeEntry 37 = .ok (.iadd, 1) := by decide +kernel
theorem d_Y_writeEntry_38 : decode b_Y_writeEntry 38 = .ok (.putfield 72, 3) := by decide +kernel
theorem d_Y_writeEntry_41 : decode b_Y_writeEntry 41 = .ok (.return_, 1) := by decide +kernel
theorem d_Y_writeNumber_0 : decode b_Y_writeNumber 0 = .ok (.lload_n 1, 1) := by decide +kernel
theorem d_Y_writeNumber_1 : decode b_Y_writeNumber 1 = .ok (.lstore_n 3, 1) := by decide +kernel
theorem d_Y_writeNumber_2 : decode b_Y_writeNumber 2 = .ok (.lload_n 3, 1) := by decide +kernel
theorem d_Y_writeNumber_3 : decode b_Y_writeNumber 3 = .ok (.ldc2_w 84, 3) := by decide +kernel
theorem d_Y_writeNumber_6 : decode b_Y_writeNumber 6 = .ok (.lcmp, 1) := by decide +kernel
theorem d_Y_writeNumber_7 : decode b_Y_writeNumber 7 = .ok (.ifCond .lt 26, 3) := by decide +kernel
theorem d_Y_writeNumber_10 : decode b_Y_writeNumber 10 = .ok (.aload_n 0, 1) := by decide +kernel
theorem d_Y_writeNumber_11 : decode b_Y_writeNumber 11 = .ok (.lload_n 3, 1) := by decide +kernel
theorem d_Y_writeNumber_12 : decode b_Y_writeNumber 12 = .ok (.ldc2_w 84, 3) := by decide +kernel
theorem d_Y_writeNumber_15 : decode b_Y_writeNumber 15 = .ok (.lrem, 1) := by decide +kernel
theorem d_Y_writeNumber_16 : decode b_Y_writeNumber 16 = .ok (.l2i, 1) := by decide +kernel
theorem d_Y_writeNumber_17 : decode b_Y_writeNumber 17 = .ok (.sipush 128, 3) := by decide +kernel
theorem d_Y_writeNumber_20 : decode b_Y_writeNumber 20 = .ok (.iadd, 1) := by decide +kernel
theorem d_Y_writeNumber_21 : decode b_Y_writeNumber 21 = .ok (.invokevirtual 86, 3) := by decide +kernel
theorem d_Y_writeNumber_24 : decode b_Y_writeNumber 24 = .ok (.lload_n 3, 1) := by decide +kernel
theorem d_Y_writeNumber_25 : decode b_Y_writeNumber 25 = .ok (.ldc2_w 84, 3) := by decide +kernel
theorem d_Y_writeNumber_28 : decode b_Y_writeNumber 28 = .ok (.ldiv, 1) := by decide +kernel
theorem d_Y_writeNumber_29 : decode b_Y_writeNumber 29 = .ok (.lstore_n 3, 1) := by decide +kernel
theorem d_Y_writeNumber_30 : decode b_Y_writeNumber 30 = .ok (.goto (-28), 3) := by decide +kernel
theorem d_Y_writeNumber_33 : decode b_Y_writeNumber 33 = .ok (.aload_n 0, 1) := by decide +kernel
theorem d_Y_writeNumber_34 : decode b_Y_writeNumber 34 = .ok (.lload_n 3, 1) := by decide +kernel
theorem d_Y_writeNumber_35 : decode b_Y_writeNumber 35 = .ok (.l2i, 1) := by decide +kernel
theorem d_Y_writeNumber_36 : decode b_Y_writeNumber 36 = .ok (.invokevirtual 86, 3) := by decide +kernel
theorem d_Y_writeNumber_39 : decode b_Y_writeNumber 39 = .ok (.return_, 1) := by decide +kernel
theorem d_Y_writeByte_0 : decode b_Y_writeByte 0 = .ok (.aload_n 0, 1) := by decide +kernel
theorem d_Y_writeByte_1 : decode b_Y_writeByte 1 = .ok (.getfield 25, 3) := by decide +kernel
theorem d_Y_writeByte_4 : decode b_Y_writeByte 4 = .ok (.aload_n 0, 1) := by decide +kernel
theorem d_Y_writeByte_5 : decode b_Y_writeByte 5 = .ok (.getfield 69, 3) := by decide +kernel
theorem d_Y_writeByte_8 : decode b_Y_writeByte 8 = .ok (.iload_n 1, 1) := by decide +kernel
theorem d_Y_writeByte_9 : decode b_Y_writeByte 9 = .ok (.iastore, 1) := by decide +kernel
theorem d_Y_writeByte_10 : decode b_Y_writeByte 10 = .ok (.aload_n 0, 1) := by decide +kernel
theorem d_Y_writeByte_11 : decode b_Y_writeByte 11 = .ok (.aload_n 0, 1) := by decide +kernel
theorem d_Y_writeByte_12 : decode b_Y_writeByte 12 = .ok (.getfield 69, 3) := by decide +kernel
theorem d_Y_writeByte_15 : decode b_Y_writeByte 15 = .ok (.iconst 1, 1) := by decide +kernel
theorem d_Y_writeByte_16 : decode b_Y_writeByte 16 = .ok (.iadd, 1) := by decide +kernel
theorem d_Y_writeByte_17 : decode b_Y_writeByte 17 = .ok (.putfield 69, 3) := by decide +kernel
theorem d_Y_writeByte_20 : decode b_Y_writeByte 20 = .ok (.aload_n 0, 1) := by decide +kernel
theorem d_Y_writeByte_21 : decode b_Y_writeByte 21 = .ok (.aload_n 0, 1) := by decide +kernel
theorem d_Y_writeByte_22 : decode b_Y_writeByte 22 = .ok (.getfield 28, 3) := by decide +kernel
theorem d_Y_writeByte_25 : decode b_Y_writeByte 25 = .ok (.iload_n 1, 1) := by decide +kernel
theorem d_Y_writeByte_26 : decode b_Y_writeByte 26 = .ok (.invokestatic 80, 3) := by decide +kernel
theorem d_Y_writeByte_29 : decode b_Y_writeByte 29 = .ok (.putfield 28, 3) := by decide +kernel
theorem d_Y_writeByte_32 : decode b_Y_writeByte 32 = .ok (.return_, 1) := by decide +kernel
theorem d_Y_mix_0 : decode b_Y_mix 0 = .ok (.iload_n 0, 1) := by decide +kernel
theorem d_Y_mix_1 : decode b_Y_mix 1 = .ok (.iload_n 1, 1) := by decide +kernel
theorem d_Y_mix_2 : decode b_Y_mix 2 = .ok (.ixor, 1) := by decide +kernel
theorem d_Y_mix_3 : decode b_Y_mix 3 = .ok (.ldc 79, 2) := by decide +kernel
theorem d_Y_mix_5 : decode b_Y_mix 5 = .ok (.imul, 1) := by decide +kernel
theorem d_Y_mix_6 : decode b_Y_mix 6 = .ok (.istore_n 2, 1) := by decide +kernel
theorem d_Y_mix_7 : decode b_Y_mix 7 = .ok (.iload_n 2, 1) := by decide +kernel
theorem d_Y_mix_8 : decode b_Y_mix 8 = .ok (.iload_n 2, 1) := by decide +kernel
theorem d_Y_mix_9 : decode b_Y_mix 9 = .ok (.bipush 13, 2) := by decide +kernel
theorem d_Y_mix_11 : decode b_Y_mix 11 = .ok (.iushr, 1) := by decide +kernel
theorem d_Y_mix_12 : decode b_Y_mix 12 = .ok (.ixor, 1) := by decide +kernel
theorem d_Y_mix_13 : decode b_Y_mix 13 = .ok (.ireturn, 1) := by decide +kernel
theorem d_Y_perform_0 : decode b_Y_perform 0 = .ok (.iload_n 1, 1) := by decide +kernel
theorem d_Y_perform_1 : decode b_Y_perform 1 = .ok (.iload_n 3, 1) := by decide +kernel
theorem d_Y_perform_2 : decode b_Y_perform 2 = .ok (.iconst 4, 1) := by decide +kernel
theorem d_Y_perform_3 : decode b_Y_perform 3 = .ok (.invokestatic 108, 3) := by decide +kernel
theorem d_Y_perform_6 : decode b_Y_perform 6 = .ok (.iadd, 1) := by decide +kernel
theorem d_Y_perform_7 : decode b_Y_perform 7 = .ok (.istore 5, 2) := by decide +kernel
theorem d_Y_perform_9 : decode b_Y_perform 9 = .ok (.aload_n 0, 1) := by decide +kernel
theorem d_Y_perform_10 : decode b_Y_perform 10 = .ok (.getfield 19, 3) := by decide +kernel
theorem d_Y_perform_13 : decode b_Y_perform 13 = .ok (.iload_n 1, 1) := by decide +kernel
theorem d_Y_perform_14 : decode b_Y_perform 14 = .ok (.iload 4, 2) := by decide +kernel
theorem d_Y_perform_16 : decode b_Y_perform 16 = .ok (.iconst 4, 1) := by decide +kernel
theorem d_Y_perform_17 : decode b_Y_perform 17 = .ok (.invokestatic 108, 3) := by decide +kernel
theorem d_Y_perform_20 : decode b_Y_perform 20 = .ok (.iadd, 1) := by decide +kernel
theorem d_Y_perform_21 : decode b_Y_perform 21 = .ok (.iaload, 1) := by decide +kernel
theorem d_Y_perform_22 : decode b_Y_perform 22 = .ok (.istore 6, 2) := by decide +kernel
theorem d_Y_perform_24 : decode b_Y_perform 24 = .ok (.iload_n 1, 1) := by decide +kernel
theorem d_Y_perform_25 : decode b_Y_perform 25 = .ok (.bipush 16, 2) := by decide +kernel
theorem d_Y_perform_27 : decode b_Y_perform 27 = .ok (.iadd, 1) := by decide +kernel
theorem d_Y_perform_28 : decode b_Y_perform 28 = .ok (.iload 6, 2) := by decide +kernel
theorem d_Y_perform_30 : decode b_Y_perform 30 = .ok (.bipush 32, 2) := by decide +kernel
theorem d_Y_perform_32 : decode b_Y_perform 32 = .ok (.invokestatic 108, 3) := by decide +kernel
theorem d_Y_perform_35 : decode b_Y_perform 35 = .ok (.iadd, 1) := by decide +kernel
theorem d_Y_perform_36 : decode b_Y_perform 36 = .ok (.istore 7, 2) := by decide +kernel
theorem d_Y_perform_38 : decode b_Y_perform 38 = .ok (.aload_n 0, 1) := by decide +kernel
theorem d_Y_perform_39 : decode b_Y_perform 39 = .ok (.getfield 19, 3) := by decide +kernel
theorem d_Y_perform_42 : decode b_Y_perform 42 = .ok (.iload_n 1, 1) := by decide +kernel
theorem d_Y_perform_43 : decode b_Y_perform 43 = .ok (.iconst 4, 1) := by decide +kernel
theorem d_Y_perform_44 : decode b_Y_perform 44 = .ok (.iadd, 1) := by decide +kernel
theorem d_Y_perform_45 : decode b_Y_perform 45 = .ok (.aload_n 0, 1) := by decide +kernel
theorem d_Y_perform_46 : decode b_Y_perform 46 = .ok (.getfield 19, 3) := by decide +kernel
theorem d_Y_perform_49 : decode b_Y_perform 49 = .ok (.iload_n 1, 1) := by decide +kernel
theorem d_Y_perform_50 : decode b_Y_perform 50 = .ok (.iconst 4, 1) := by decide +kernel
theorem d_Y_perform_51 : decode b_Y_perform 51 = .ok (.iadd, 1) := by decide +kernel
theorem d_Y_perform_52 : decode b_Y_perform 52 = .ok (.iaload, 1) := by decide +kernel
theorem d_Y_perform_53 : decode b_Y_perform 53 = .ok (.iconst 1, 1) := by decide +kernel
theorem d_Y_perform_54 : decode b_Y_perform 54 = .ok (.iadd, 1) := by decide +kernel
theorem d_Y_perform_55 : decode b_Y_perform 55 = .ok (.iastore, 1) := by decide +kernel
theorem d_Y_perform_56 : decode b_Y_perform 56 = .ok (.iload_n 2, 1) := by decide +kernel
theorem d_Y_perform_57 : decode b_Y_perform 57 = .ok (.ifCond .ne 12, 3) := by decide +kernel
theorem d_Y_perform_60 : decode b_Y_perform 60 = .ok (.aload_n 0, 1) := by decide +kernel
theorem d_Y_perform_61 : decode b_Y_perform 61 = .ok (.getfield 19, 3) := by decide +kernel
theorem d_Y_perform_64 : decode b_Y_perform 64 = .ok (.iload 5, 2) := by decide +kernel
theorem d_Y_perform_66 : decode b_Y_perform 66 = .ok (.iload 4, 2) := by decide +kernel
theorem d_Y_perform_68 : decode b_Y_perform 68 = .ok (.iastore, 1) := by decide +kernel
theorem d_Y_perform_69 : decode b_Y_perform 69 = .ok (.iload_n 2, 1) := by decide +kernel
theorem d_Y_perform_70 : decode b_Y_perform 70 = .ok (.iconst 1, 1) := by decide +kernel
theorem d_Y_perform_71 : decode b_Y_perform 71 = .ok (.if_icmp .ne 20, 3) := by decide +kernel
theorem d_Y_perform_74 : decode b_Y_perform 74 = .ok (.aload_n 0, 1) := by decide +kernel
theorem d_Y_perform_75 : decode b_Y_perform 75 = .ok (.getfield 19, 3) := by decide +kernel
theorem d_Y_perform_78 : decode b_Y_perform 78 = .ok (.iload 5, 2) := by decide +kernel
theorem d_Y_perform_80 : decode b_Y_perform 80 = .ok (.aload_n 0, 1) := by decide +kernel
theorem d_Y_perform_81 : decode b_Y_perform 81 = .ok (.getfield 19, 3) := by decide +kernel
theorem d_Y_perform_84 : decode b_Y_perform 84 = .ok (.iload 5, 2) := by decide +kernel
theorem d_Y_perform_86 : decode b_Y_perform 86 = .ok (.iaload, 1) := by decide +kernel
theorem d_Y_perform_87 : decode b_Y_perform 87 = .ok (.iload 6, 2) := by decide +kernel
theorem d_Y_perform_89 : decode b_Y_perform 89 = .ok (.iadd, 1) := by decide +kernel
theorem d_Y_perform_90 : decode b_Y_perform 90 = .ok (.iastore, 1) := by decide +kernel
theorem d_Y_perform_91 : decode b_Y_perform 91 = .ok (.iload_n 2, 1) := by decide +kernel
theorem d_Y_perform_92 : decode b_Y_perform 92 = .ok (.iconst 2, 1) := by decide +kernel
theorem d_Y_perform_93 : decode b_Y_perform 93 = .ok (.if_icmp .ne 20, 3) := by decide +kernel
theorem d_Y_perform_96 : decode b_Y_perform 96 = .ok (.aload_n 0, 1) := by decide +kernel
theorem d_Y_perform_97 : decode b_Y_perform 97 = .ok (.getfield 19, 3) := by decide +kernel
theorem d_Y_perform_100 : decode b_Y_perform 100 = .ok (.iload 5, 2) := by decide +kernel
theorem d_Y_perform_102 : decode b_Y_perform 102 = .ok (.aload_n 0, 1) := by decide +kernel
theorem d_Y_perform_103 : decode b_Y_perform 103 = .ok (.getfield 19, 3) := by decide +kernel
theorem d_Y_perform_106 : decode b_Y_perform 106 = .ok (.iload 5, 2) := by decide +kernel
theorem d_Y_perform_108 : decode b_Y_perform 108 = .ok (.iaload, 1) := by decide +kernel
theorem d_Y_perform_109 : decode b_Y_perform 109 = .ok (.iload 6, 2) := by decide +kernel
theorem d_Y_perform_111 : decode b_Y_perform 111 = .ok (.isub, 1) := by decide +kernel
theorem d_Y_perform_112 : decode b_Y_perform 112 = .ok (.iastore, 1) := by decide +kernel
theorem d_Y_perform_113 : decode b_Y_perform 113 = .ok (.iload_n 2, 1) := by decide +kernel
theorem d_Y_perform_114 : decode b_Y_perform 114 = .ok (.iconst 3, 1) := by decide +kernel
theorem d_Y_perform_115 : decode b_Y_perform 115 = .ok (.if_icmp .ne 17, 3) := by decide +kernel
theorem d_Y_perform_118 : decode b_Y_perform 118 = .ok (.aload_n 0, 1) := by decide +kernel
theorem d_Y_perform_119 : decode b_Y_perform 119 = .ok (.getfield 19, 3) := by decide +kernel
theorem d_Y_perform_122 : decode b_Y_perform 122 = .ok (.iload 5, 2) := by decide +kernel
theorem d_Y_perform_124 : decode b_Y_perform 124 = .ok (.aload_n 0, 1) := by decide +kernel
theorem d_Y_perform_125 : decode b_Y_perform 125 = .ok (.getfield 19, 3) := by decide +kernel
theorem d_Y_perform_128 : decode b_Y_perform 128 = .ok (.iload 7, 2) := by decide +kernel
theorem d_Y_perform_130 : decode b_Y_perform 130 = .ok (.iaload, 1) := by decide +kernel
theorem d_Y_perform_131 : decode b_Y_perform 131 = .ok (.iastore, 1) := by decide +kernel
theorem d_Y_perform_132 : decode b_Y_perform 132 = .ok (.iload_n 2, 1) := by decide +kernel
theorem d_Y_perform_133 : decode b_Y_perform 133 = .ok (.iconst 4, 1) := by decide +kernel
theorem d_Y_perform_134 : decode b_Y_perform 134 = .ok (.if_icmp .ne 17, 3) := by decide +kernel
theorem d_Y_perform_137 : decode b_Y_perform 137 = .ok (.aload_n 0, 1) := by decide +kernel
theorem d_Y_perform_138 : decode b_Y_perform 138 = .ok (.getfield 19, 3) := by decide +kernel
theorem d_Y_perform_141 : decode b_Y_perform 141 = .ok (.iload 7, 2) := by decide +kernel
theorem d_Y_perform_143 : decode b_Y_perform 143 = .ok (.aload_n 0, 1) := by decide +kernel
theorem d_Y_perform_144 : decode b_Y_perform 144 = .ok (.getfield 19, 3) := by decide +kernel
theorem d_Y_perform_147 : decode b_Y_perform 147 = .ok (.iload 5, 2) := by decide +kernel
theorem d_Y_perform_149 : decode b_Y_perform 149 = .ok (.iaload, 1) := by decide +kernel
theorem d_Y_perform_150 : decode b_Y_perform 150 = .ok (.iastore, 1) := by decide +kernel
theorem d_Y_perform_151 : decode b_Y_perform 151 = .ok (.iload_n 2, 1) := by decide +kernel
theorem d_Y_perform_152 : decode b_Y_perform 152 = .ok (.iconst 5, 1) := by decide +kernel
theorem d_Y_perform_153 : decode b_Y_perform 153 = .ok (.if_icmp .eq 19, 3) := by decide +kernel
theorem d_Y_perform_156 : decode b_Y_perform 156 = .ok (.iload_n 2, 1) := by decide +kernel
theorem d_Y_perform_157 : decode b_Y_perform 157 = .ok (.bipush 6, 2) := by decide +kernel
theorem d_Y_perform_159 : decode b_Y_perform 159 = .ok (.if_icmp .ne 23, 3) := by decide +kernel
theorem d_Y_perform_162 : decode b_Y_perform 162 = .ok (.aload_n 0, 1) := by decide +kernel
theorem d_Y_perform_163 : decode b_Y_perform 163 = .ok (.getfield 19, 3) := by decide +kernel
theorem d_Y_perform_166 : decode b_Y_perform 166 = .ok (.iload 5, 2) := by decide +kernel
theorem d_Y_perform_168 : decode b_Y_perform 168 = .ok (.iaload, 1) := by decide +kernel
theorem d_Y_perform_169 : decode b_Y_perform 169 = .ok (.ifCond .ne 13, 3) := by decide +kernel
theorem d_Y_perform_172 : decode b_Y_perform 172 = .ok (.aload_n 0, 1) := by decide +kernel
theorem d_Y_perform_173 : decode b_Y_perform 173 = .ok (.getfield 19, 3) := by decide +kernel
theorem d_Y_perform_176 : decode b_Y_perform 176 = .ok (.iload_n 1, 1) := by decide +kernel
theorem d_Y_perform_177 : decode b_Y_perform 177 = .ok (.iconst 4, 1) := by decide +kernel
theorem d_Y_perform_178 : decode b_Y_perform 178 = .ok (.iadd, 1) := by decide +kernel
theorem d_Y_perform_179 : decode b_Y_perform 179 = .ok (.iload 4, 2) := by decide +kernel
theorem d_Y_perform_181 : decode b_Y_perform 181 = .ok (.iastore, 1) := by decide +kernel
theorem d_Y_perform_182 : decode b_Y_perform 182 = .ok (.iload_n 2, 1) := by decide +kernel
theorem d_Y_perform_183 : decode b_Y_perform 183 = .ok (.bipush 7, 2) := by decide +kernel
theorem d_Y_perform_185 : decode b_Y_perform 185 = .ok (.if_icmp .ne 15, 3) := by decide +kernel
theorem d_Y_perform_188 : decode b_Y_perform 188 = .ok (.aload_n 0, 1) := by decide +kernel
theorem d_Y_perform_189 : decode b_Y_perform 189 = .ok (.getfield 19, 3) := by decide +kernel
theorem d_Y_perform_192 : decode b_Y_perform 192 = .ok (.iload 5, 2) := by decide +kernel
theorem d_Y_perform_194 : decode b_Y_perform 194 = .ok (.aload_n 0, 1) := by decide +kernel
theorem d_Y_perform_195 : decode b_Y_perform 195 = .ok (.iload_n 1, 1) := by decide +kernel
theorem d_Y_perform_196 : decode b_Y_perform 196 = .ok (.invokevirtual 111, 3) := by decide +kernel
theorem d_Y_perform_199 : decode b_Y_perform 199 = .ok (.iastore, 1) := by decide +kernel
theorem d_Y_perform_200 : decode b_Y_perform 200 = .ok (.iload_n 2, 1) := by decide +kernel
theorem d_Y_perform_201 : decode b_Y_perform 201 = .ok (.bipush 8, 2) := by decide +kernel
theorem d_Y_perform_203 : decode b_Y_perform 203 = .ok (.if_icmp .ne 15, 3) := by decide +kernel
theorem d_Y_perform_206 : decode b_Y_perform 206 = .ok (.aload_n 0, 1) := by decide +kernel
theorem d_Y_perform_207 : decode b_Y_perform 207 = .ok (.getfield 19, 3) := by decide +kernel
theorem d_Y_perform_210 : decode b_Y_perform 210 = .ok (.iload 5, 2) := by decide +kernel
theorem d_Y_perform_212 : decode b_Y_perform 212 = .ok (.aload_n 0, 1) := by decide +kernel
theorem d_Y_perform_213 : decode b_Y_perform 213 = .ok (.iload_n 1, 1) := by decide +kernel
theorem d_Y_perform_214 : decode b_Y_perform 214 = .ok (.invokevirtual 115, 3) := by decide +kernel
theorem d_Y_perform_217 : decode b_Y_perform 217 = .ok (.iastore, 1) := by decide +kernel
theorem d_Y_perform_218 : decode b_Y_perform 218 = .ok (.iload_n 2, 1) := by decide +kernel
theorem d_Y_perform_219 : decode b_Y_perform 219 = .ok (.bipush 9, 2) := by decide +kernel
theorem d_Y_perform_221 : decode b_Y_perform 221 = .ok (.if_icmp .ne 47, 3) := by decide +kernel
theorem d_Y_perform_224 : decode b_Y_perform 224 = .ok (.aload_n 0, 1) := by decide +kernel
theorem d_Y_perform_225 : decode b_Y_perform 225 = .ok (.getfield 19, 3) := by decide +kernel
theorem d_Y_perform_228 : decode b_Y_perform 228 = .ok (.iload_n 1, 1) := by decide +kernel
theorem d_Y_perform_229 : decode b_Y_perform 229 = .ok (.bipush 11, 2) := by decide +kernel
theorem d_Y_perform_231 : decode b_Y_perform 231 = .ok (.iadd, 1) := by decide +kernel
theorem d_Y_perform_232 : decode b_Y_perform 232 = .ok (.aload_n 0, 1) := by decide +kernel
theorem d_Y_perform_233 : decode b_Y_perform 233 = .ok (.getfield 19, 3) := by decide +kernel
theorem d_Y_perform_236 : decode b_Y_perform 236 = .ok (.iload_n 1, 1) := by decide +kernel
theorem d_Y_perform_237 : decode b_Y_perform 237 = .ok (.bipush 11, 2) := by decide +kernel
theorem d_Y_perform_239 : decode b_Y_perform 239 = .ok (.iadd, 1) := by decide +kernel
theorem d_Y_perform_240 : decode b_Y_perform 240 = .ok (.iaload, 1) := by decide +kernel
theorem d_Y_perform_241 : decode b_Y_perform 241 = .ok (.ldc 118, 2) := by decide +kernel
theorem d_Y_perform_243 : decode b_Y_perform 243 = .ok (.imul, 1) := by decide +kernel
theorem d_Y_perform_244 : decode b_Y_perform 244 = .ok (.sipush 12345, 3) := by decide +kernel
theorem d_Y_perform_247 : decode b_Y_perform 247 = .ok (.iadd, 1) := by decide +kernel
theorem d_Y_perform_248 : decode b_Y_perform 248 = .ok (.iastore, 1) := by decide +kernel
theorem d_Y_perform_249 : decode b_Y_perform 249 = .ok (.aload_n 0, 1) := by decide +kernel
theorem d_Y_perform_250 : decode b_Y_perform 250 = .ok (.getfield 19, 3) := by decide +kernel
theorem d_Y_perform_253 : decode b_Y_perform 253 = .ok (.iload 5, 2) := by decide +kernel
theorem d_Y_perform_255 : decode b_Y_perform 255 = .ok (.aload_n 0, 1) := by decide +kernel
theorem d_Y_perform_256 : decode b_Y_perform 256 = .ok (.getfield 19, 3) := by decide +kernel
theorem d_Y_perform_259 : decode b_Y_perform 259 = .ok (.iload_n 1, 1) := by decide +kernel
theorem d_Y_perform_260 : decode b_Y_perform 260 = .ok (.bipush 11, 2) := by decide +kernel
theorem d_Y_perform_262 : decode b_Y_perform 262 = .ok (.iadd, 1) := by decide +kernel
theorem d_Y_perform_263 : decode b_Y_perform 263 = .ok (.iaload, 1) := by decide +kernel
theorem d_Y_perform_264 : decode b_Y_perform 264 = .ok (.bipush 16, 2) := by decide +kernel
theorem d_Y_perform_266 : decode b_Y_perform 266 = .ok (.iushr, 1) := by decide +kernel
theorem d_Y_perform_267 : decode b_Y_perform 267 = .ok (.iastore, 1) := by decide +kernel
theorem d_Y_perform_268 : decode b_Y_perform 268 = .ok (.iload_n 2, 1) := by decide +kernel
theorem d_Y_perform_269 : decode b_Y_perform 269 = .ok (.bipush 10, 2) := by decide +kernel
theorem d_Y_perform_271 : decode b_Y_perform 271 = .ok (.if_icmp .ne 30, 3) := by decide +kernel
theorem d_Y_perform_274 : decode b_Y_perform 274 = .ok (.aload_n 0, 1) := by decide +kernel
theorem d_Y_perform_275 : decode b_Y_perform 275 = .ok (.getfield 19, 3) := by decide +kernel
theorem d_Y_perform_278 : decode b_Y_perform 278 = .ok (.iload_n 1, 1) := by decide +kernel
theorem d_Y_perform_279 : decode b_Y_perform 279 = .ok (.iconst 5, 1) := by decide +kernel
theorem d_Y_perform_280 : decode b_Y_perform 280 = .ok (.iadd, 1) := by decide +kernel
theorem d_Y_perform_281 : decode b_Y_perform 281 = .ok (.aload_n 0, 1) := by decide +kernel
theorem d_Y_perform_282 : decode b_Y_perform 282 = .ok (.getfield 19, 3) := by decide +kernel
theorem d_Y_perform_285 : decode b_Y_perform 285 = .ok (.iload_n 1, 1) := by decide +kernel
theorem d_Y_perform_286 : decode b_Y_perform 286 = .ok (.iconst 5, 1) := by decide +kernel
theorem d_Y_perform_287 : decode b_Y_perform 287 = .ok (.iadd, 1) := by decide +kernel
theorem d_Y_perform_288 : decode b_Y_perform 288 = .ok (.iaload, 1) := by decide +kernel
theorem d_Y_perform_289 : decode b_Y_perform 289 = .ok (.aload_n 0, 1) := by decide +kernel
theorem d_Y_perform_290 : decode b_Y_perform 290 = .ok (.getfield 19, 3) := by decide +kernel
theorem d_Y_perform_293 : decode b_Y_perform 293 = .ok (.iload 5, 2) := by decide +kernel
theorem d_Y_perform_295 : decode b_Y_perform 295 = .ok (.iaload, 1) := by decide +kernel
theorem d_Y_perform_296 : decode b_Y_perform 296 = .ok (.ixor, 1) := by decide +kernel
theorem d_Y_perform_297 : decode b_Y_perform 297 = .ok (.ldc 79, 2) := by decide +kernel
theorem d_Y_perform_299 : decode b_Y_perform 299 = .ok (.imul, 1) := by decide +kernel
theorem d_Y_perform_300 : decode b_Y_perform 300 = .ok (.iastore, 1) := by decide +kernel
theorem d_Y_perform_301 : decode b_Y_perform 301 = .ok (.iload_n 2, 1) := by decide +kernel
theorem d_Y_perform_302 : decode b_Y_perform 302 = .ok (.bipush 11, 2) := by decide +kernel
theorem d_Y_perform_304 : decode b_Y_perform 304 = .ok (.if_icmp .ne 43, 3) := by decide +kernel
theorem d_Y_perform_307 : decode b_Y_perform 307 = .ok (.aload_n 0, 1) := by decide +kernel
theorem d_Y_perform_308 : decode b_Y_perform 308 = .ok (.getfield 19, 3) := by decide +kernel
theorem d_Y_perform_311 : decode b_Y_perform 311 = .ok (.iload_n 1, 1) := by decide +kernel
theorem d_Y_perform_312 : decode b_Y_perform 312 = .ok (.bipush 7, 2) := by decide +kernel
theorem d_Y_perform_314 : decode b_Y_perform 314 = .ok (.iadd, 1) := by decide +kernel
theorem d_Y_perform_315 : decode b_Y_perform 315 = .ok (.iaload, 1) := by decide +kernel
theorem d_Y_perform_316 : decode b_Y_perform 316 = .ok (.iconst 1, 1) := by decide +kernel
theorem d_Y_perform_317 : decode b_Y_perform 317 = .ok (.if_icmp .ne 30, 3) := by decide +kernel
theorem d_Y_perform_320 : decode b_Y_perform 320 = .ok (.aload_n 0, 1) := by decide +kernel
theorem d_Y_perform_321 : decode b_Y_perform 321 = .ok (.getfield 19, 3) := by decide +kernel
theorem d_Y_perform_324 : decode b_Y_perform 324 = .ok (.iload_n 1, 1) := by decide +kernel
theorem d_Y_perform_325 : decode b_Y_perform 325 = .ok (.iconst 4, 1) := by decide +kernel
theorem d_Y_perform_326 : decode b_Y_perform 326 = .ok (.iadd, 1) := by decide +kernel
theorem d_Y_perform_327 : decode b_Y_perform 327 = .ok (.aload_n 0, 1) := by decide +kernel
theorem d_Y_perform_328 : decode b_Y_perform 328 = .ok (.getfield 19, 3) := by decide +kernel
theorem d_Y_perform_331 : decode b_Y_perform 331 = .ok (.iload_n 1, 1) := by decide +kernel
theorem d_Y_perform_332 : decode b_Y_perform 332 = .ok (.bipush 10, 2) := by decide +kernel
theorem d_Y_perform_334 : decode b_Y_perform 334 = .ok (.iadd, 1) := by decide +kernel
theorem d_Y_perform_335 : decode b_Y_perform 335 = .ok (.iaload, 1) := by decide +kernel
theorem d_Y_perform_336 : decode b_Y_perform 336 = .ok (.iastore, 1) := by decide +kernel
theorem d_Y_perform_337 : decode b_Y_perform 337 = .ok (.aload_n 0, 1) := by decide +kernel
theorem d_Y_perform_338 : decode b_Y_perform 338 = .ok (.getfield 19, 3) := by decide +kernel
theorem d_Y_perform_341 : decode b_Y_perform 341 = .ok (.iload_n 1, 1) := by decide +kernel
theorem d_Y_perform_342 : decode b_Y_perform 342 = .ok (.bipush 7, 2) := by decide +kernel
theorem d_Y_perform_344 : decode b_Y_perform 344 = .ok (.iadd, 1) := by decide +kernel
theorem d_Y_perform_345 : decode b_Y_perform 345 = .ok (.iconst 0, 1) := by decide +kernel
theorem d_Y_perform_346 : decode b_Y_perform 346 = .ok (.iastore, 1) := by decide +kernel
theorem d_Y_perform_347 : decode b_Y_perform 347 = .ok (.iload_n 2, 1) := by decide +kernel
theorem d_Y_perform_348 : decode b_Y_perform 348 = .ok (.bipush 12, 2) := by decide +kernel
theorem d_Y_perform_350 : decode b_Y_perform 350 = .ok (.if_icmp .ne 13, 3) := by decide +kernel
theorem d_Y_perform_353 : decode b_Y_perform 353 = .ok (.aload_n 0, 1) := by decide +kernel
theorem d_Y_perform_354 : decode b_Y_perform 354 = .ok (.getfield 19, 3) := by decide +kernel
theorem d_Y_perform_357 : decode b_Y_perform 357 = .ok (.iload_n 1, 1) := by decide +kernel
theorem d_Y_perform_358 : decode b_Y_perform 358 = .ok (.bipush 8, 2) := by decide +kernel
theorem d_Y_perform_360 : decode b_Y_perform 360 = .ok (.iadd, 1) := by decide +kernel
theorem d_Y_perform_361 : decode b_Y_perform 361 = .ok (.iconst 1, 1) := by decide +kernel
theorem d_Y_perform_362 : decode b_Y_perform 362 = .ok (.iastore, 1) := by decide +kernel
theorem d_Y_perform_363 : decode b_Y_perform 363 = .ok (.return_, 1) := by decide +kernel
theorem d_Y_mod_0 : decode b_Y_mod 0 = .ok (.iload_n 0, 1) := by decide +kernel
theorem d_Y_mod_1 : decode b_Y_mod 1 = .ok (.iload_n 1, 1) := by decide +kernel
theorem d_Y_mod_2 : decode b_Y_mod 2 = .ok (.irem, 1) := by decide +kernel
theorem d_Y_mod_3 : decode b_Y_mod 3 = .ok (.istore_n 2, 1) := by decide +kernel
theorem d_Y_mod_4 : decode b_Y_mod 4 = .ok (.iload_n 2, 1) := by decide +kernel
theorem d_Y_mod_5 : decode b_Y_mod 5 = .ok (.ifCond .ge 9, 3) := by decide +kernel
theorem d_Y_mod_8 : decode b_Y_mod 8 = .ok (.iload_n 2, 1) := by decide +kernel
theorem d_Y_mod_9 : decode b_Y_mod 9 = .ok (.iload_n 1, 1) := by decide +kernel
theorem d_Y_mod_10 : decode b_Y_mod 10 = .ok (.iadd, 1) := by decide +kernel
theorem d_Y_mod_11 : decode b_Y_mod 11 = .ok (.goto 4, 3) := by decide +kernel
theorem d_Y_mod_14 : decode b_Y_mod 14 = .ok (.iload_n 2, 1) := by decide +kernel
theorem d_Y_mod_15 : decode b_Y_mod 15 = .ok (.ireturn, 1) := by decide +kernel
theorem d_Y_inputFor_0 : decode b_Y_inputFor 0 = .ok (.iload_n 1, 1) := by decide +kernel
theorem d_Y_inputFor_1 : decode b_Y_inputFor 1 = .ok (.ifCond .le 28, 3) := by decide +kernel
theorem d_Y_inputFor_4 : decode b_Y_inputFor 4 = .ok (.aload_n 0, 1) := by decide +kernel
theorem d_Y_inputFor_5 : decode b_Y_inputFor 5 = .ok (.iload_n 1, 1) := by decide +kernel
theorem d_Y_inputFor_6 : decode b_Y_inputFor 6 = .ok (.iconst 1, 1) := by decide +kernel
theorem d_Y_inputFor_7 : decode b_Y_inputFor 7 = .ok (.invokevirtual 98, 3) := by decide +kernel
theorem d_Y_inputFor_10 : decode b_Y_inputFor 10 = .ok (.ifCond .lt 17, 3) := by decide +kernel
theorem d_Y_inputFor_13 : decode b_Y_inputFor 13 = .ok (.aload_n 0, 1) := by decide +kernel
theorem d_Y_inputFor_14 : decode b_Y_inputFor 14 = .ok (.getfield 39, 3) := by decide +kernel
theorem d_Y_inputFor_17 : decode b_Y_inputFor 17 = .ok (.aload_n 0, 1) := by decide +kernel
theorem d_Y_inputFor_18 : decode b_Y_inputFor 18 = .ok (.iload_n 1, 1) := by decide +kernel
theorem d_Y_inputFor_19 : decode b_Y_inputFor 19 = .ok (.iconst 1, 1) := by decide +kernel
theorem d_Y_inputFor_20 : decode b_Y_inputFor 20 = .ok (.invokevirtual 98, 3) := by decide +kernel
theorem d_Y_inputFor_23 : decode b_Y_inputFor 23 = .ok (.iaload, 1) := by decide +kernel
theorem d_Y_inputFor_24 : decode b_Y_inputFor 24 = .ok (.goto 4, 3) := by decide +kernel
theorem d_Y_inputFor_27 : decode b_Y_inputFor 27 = .ok (.iconst 0, 1) := by decide +kernel
theorem d_Y_inputFor_28 : decode b_Y_inputFor 28 = .ok (.ireturn, 1) := by decide +kernel
theorem d_Y_inputFor_29 : decode b_Y_inputFor 29 = .ok (.aload_n 0, 1) := by decide +kernel
theorem d_Y_inputFor_30 : decode b_Y_inputFor 30 = .ok (.getfield 63, 3) := by decide +kernel
theorem d_Y_inputFor_33 : decode b_Y_inputFor 33 = .ok (.ifCond .ne 5, 3) := by decide +kernel
theorem d_Y_inputFor_36 : decode b_Y_inputFor 36 = .ok (.iconst 0, 1) := by decide +kernel
theorem d_Y_inputFor_37 : decode b_Y_inputFor 37 = .ok (.ireturn, 1) := by decide +kernel
theorem d_Y_inputFor_38 : decode b_Y_inputFor 38 = .ok (.aload_n 0, 1) := by decide +kernel
theorem d_Y_inputFor_39 : decode b_Y_inputFor 39 = .ok (.getfield 22, 3) := by decide +kernel
theorem d_Y_inputFor_42 : decode b_Y_inputFor 42 = .ok (.iconst 0, 1) := by decide +kernel
theorem d_Y_inputFor_43 : decode b_Y_inputFor 43 = .ok (.iaload, 1) := by decide +kernel
theorem d_Y_inputFor_44 : decode b_Y_inputFor 44 = .ok (.istore_n 2, 1) := by decide +kernel
theorem d_Y_inputFor_45 : decode b_Y_inputFor 45 = .ok (.aload_n 0, 1) := by decide +kernel
theorem d_Y_inputFor_46 : decode b_Y_inputFor 46 = .ok (.aload_n 0, 1) := by decide +kernel
theorem d_Y_inputFor_47 : decode b_Y_inputFor 47 = .ok (.getfield 63, 3) := by decide +kernel
theorem d_Y_inputFor_50 : decode b_Y_inputFor 50 = .ok (.iconst 1, 1) := by decide +kernel
theorem d_Y_inputFor_51 : decode b_Y_inputFor 51 = .ok (.isub, 1) := by decide +kernel
theorem d_Y_inputFor_52 : decode b_Y_inputFor 52 = .ok (.putfield 63, 3) := by decide +kernel
theorem d_Y_inputFor_55 : decode b_Y_inputFor 55 = .ok (.iconst 0, 1) := by decide +kernel
theorem d_Y_inputFor_56 : decode b_Y_inputFor 56 = .ok (.istore_n 3, 1) := by decide +kernel
theorem d_Y_inputFor_57 : decode b_Y_inputFor 57 = .ok (.iload_n 3, 1) := by decide +kernel
theorem d_Y_inputFor_58 : decode b_Y_inputFor 58 = .ok (.aload_n 0, 1) := by decide +kernel
theorem d_Y_inputFor_59 : decode b_Y_inputFor 59 = .ok (.getfield 63, 3) := by decide +kernel
theorem d_Y_inputFor_62 : decode b_Y_inputFor 62 = .ok (.if_icmp .ge 23, 3) := by decide +kernel
theorem d_Y_inputFor_65 : decode b_Y_inputFor 65 = .ok (.aload_n 0, 1) := by decide +kernel
theorem d_Y_inputFor_66 : decode b_Y_inputFor 66 = .ok (.getfield 22, 3) := by decide +kernel
theorem d_Y_inputFor_69 : decode b_Y_inputFor 69 = .ok (.iload_n 3, 1) := by decide +kernel
theorem d_Y_inputFor_70 : decode b_Y_inputFor 70 = .ok (.aload_n 0, 1) := by decide +kernel
theorem d_Y_inputFor_71 : decode b_Y_inputFor 71 = .ok (.getfield 22, 3) := by decide +kernel
theorem d_Y_inputFor_74 : decode b_Y_inputFor 74 = .ok (.iload_n 3, 1) := by decide +kernel
theorem d_Y_inputFor_75 : decode b_Y_inputFor 75 = .ok (.iconst 1, 1) := by decide +kernel
theorem d_Y_inputFor_76 : decode b_Y_inputFor 76 = .ok (.iadd, 1) := by decide +kernel
theorem d_Y_inputFor_77 : decode b_Y_inputFor 77 = .ok (.iaload, 1) := by decide +kernel
theorem d_Y_inputFor_78 : decode b_Y_inputFor 78 = .ok (.iastore, 1) := by decide +kernel
theorem d_Y_inputFor_79 : decode b_Y_inputFor 79 = .ok (.iinc 3 1, 3) := by decide +kernel
theorem d_Y_inputFor_82 : decode b_Y_inputFor 82 = .ok (.goto (-25), 3) := by decide +kernel
theorem d_Y_inputFor_85 : decode b_Y_inputFor 85 = .ok (.aload_n 0, 1) := by decide +kernel
theorem d_Y_inputFor_86 : decode b_Y_inputFor 86 = .ok (.iconst 1, 1) := by decide +kernel
theorem d_Y_inputFor_87 : decode b_Y_inputFor 87 = .ok (.invokevirtual 101, 3) := by decide +kernel
theorem d_Y_inputFor_90 : decode b_Y_inputFor 90 = .ok (.aload_n 0, 1) := by decide +kernel
theorem d_Y_inputFor_91 : decode b_Y_inputFor 91 = .ok (.iload_n 2, 1) := by decide +kernel
theorem d_Y_inputFor_92 : decode b_Y_inputFor 92 = .ok (.ifCond .lt 12, 3) := by decide +kernel
theorem d_Y_inputFor_95 : decode b_Y_inputFor 95 = .ok (.ldc2_w 104, 3) := by decide +kernel
theorem d_Y_inputFor_98 : decode b_Y_inputFor 98 = .ok (.iload_n 2, 1) := by decide +kernel
theorem d_Y_inputFor_99 : decode b_Y_inputFor 99 = .ok (.i2l, 1) := by decide +kernel
theorem d_Y_inputFor_100 : decode b_Y_inputFor 100 = .ok (.lmul, 1) := by decide +kernel
theorem d_Y_inputFor_101 : decode b_Y_inputFor 101 = .ok (.goto 11, 3) := by decide +kernel
theorem d_Y_inputFor_104 : decode b_Y_inputFor 104 = .ok (.ldc2_w 106, 3) := by decide +kernel
theorem d_Y_inputFor_107 : decode b_Y_inputFor 107 = .ok (.iload_n 2, 1) := by decide +kernel
theorem d_Y_inputFor_108 : decode b_Y_inputFor 108 = .ok (.i2l, 1) := by decide +kernel
theorem d_Y_inputFor_109 : decode b_Y_inputFor 109 = .ok (.lmul, 1) := by decide +kernel
theorem d_Y_inputFor_110 : decode b_Y_inputFor 110 = .ok (.lconst 1, 1) := by decide +kernel
theorem d_Y_inputFor_111 : decode b_Y_inputFor 111 = .ok (.lsub, 1) := by decide +kernel
theorem d_Y_inputFor_112 : decode b_Y_inputFor 112 = .ok (.invokevirtual 91, 3) := by decide +kernel
theorem d_Y_inputFor_115 : decode b_Y_inputFor 115 = .ok (.iload_n 2, 1) := by decide +kernel
theorem d_Y_inputFor_116 : decode b_Y_inputFor 116 = .ok (.ireturn, 1) := by decide +kernel
theorem d_Y_timeFor_0 : decode b_Y_timeFor 0 = .ok (.aload_n 0, 1) := by decide +kernel
theorem d_Y_timeFor_1 : decode b_Y_timeFor 1 = .ok (.getfield 19, 3) := by decide +kernel
theorem d_Y_timeFor_4 : decode b_Y_timeFor 4 = .ok (.iload_n 1, 1) := by decide +kernel
theorem d_Y_timeFor_5 : decode b_Y_timeFor 5 = .ok (.bipush 12, 2) := by decide +kernel
theorem d_Y_timeFor_7 : decode b_Y_timeFor 7 = .ok (.iadd, 1) := by decide +kernel
theorem d_Y_timeFor_8 : decode b_Y_timeFor 8 = .ok (.iaload, 1) := by decide +kernel
theorem d_Y_timeFor_9 : decode b_Y_timeFor 9 = .ok (.istore_n 2, 1) := by decide +kernel
theorem d_Y_timeFor_10 : decode b_Y_timeFor 10 = .ok (.iload_n 1, 1) := by decide +kernel
theorem d_Y_timeFor_11 : decode b_Y_timeFor 11 = .ok (.ifCond .ne 10, 3) := by decide +kernel
theorem d_Y_timeFor_14 : decode b_Y_timeFor 14 = .ok (.aload_n 0, 1) := by decide +kernel
theorem d_Y_timeFor_15 : decode b_Y_timeFor 15 = .ok (.getfield 60, 3) := by decide +kernel
theorem d_Y_timeFor_18 : decode b_Y_timeFor 18 = .ok (.goto 29, 3) := by decide +kernel
theorem d_Y_timeFor_21 : decode b_Y_timeFor 21 = .ok (.aload_n 0, 1) := by decide +kernel
theorem d_Y_timeFor_22 : decode b_Y_timeFor 22 = .ok (.iload_n 1, 1) := by decide +kernel
theorem d_Y_timeFor_23 : decode b_Y_timeFor 23 = .ok (.iconst 2, 1) := by decide +kernel
theorem d_Y_timeFor_24 : decode b_Y_timeFor 24 = .ok (.invokevirtual 98, 3) := by decide +kernel
theorem d_Y_timeFor_27 : decode b_Y_timeFor 27 = .ok (.ifCond .lt 19, 3) := by decide +kernel
theorem d_Y_timeFor_30 : decode b_Y_timeFor 30 = .ok (.iload_n 2, 1) := by decide +kernel
theorem d_Y_timeFor_31 : decode b_Y_timeFor 31 = .ok (.aload_n 0, 1) := by decide +kernel
theorem d_Y_timeFor_32 : decode b_Y_timeFor 32 = .ok (.getfield 39, 3) := by decide +kernel
theorem d_Y_timeFor_35 : decode b_Y_timeFor 35 = .ok (.aload_n 0, 1) := by decide +kernel
theorem d_Y_timeFor_36 : decode b_Y_timeFor 36 = .ok (.iload_n 1, 1) := by decide +kernel
theorem d_Y_timeFor_37 : decode b_Y_timeFor 37 = .ok (.iconst 2, 1) := by decide +kernel
theorem d_Y_timeFor_38 : decode b_Y_timeFor 38 = .ok (.invokevirtual 98, 3) := by decide +kernel
theorem d_Y_timeFor_41 : decode b_Y_timeFor 41 = .ok (.iaload, 1) := by decide +kernel
theorem d_Y_timeFor_42 : decode b_Y_timeFor 42 = .ok (.iadd, 1) := by decide +kernel
theorem d_Y_timeFor_43 : decode b_Y_timeFor 43 = .ok (.goto 4, 3) := by decide +kernel
theorem d_Y_timeFor_46 : decode b_Y_timeFor 46 = .ok (.iload_n 2, 1) := by decide +kernel
theorem d_Y_timeFor_47 : decode b_Y_timeFor 47 = .ok (.istore_n 3, 1) := by decide +kernel
theorem d_Y_timeFor_48 : decode b_Y_timeFor 48 = .ok (.iload_n 1, 1) := by decide +kernel
theorem d_Y_timeFor_49 : decode b_Y_timeFor 49 = .ok (.ifCond .ne 21, 3) := by decide +kernel
theorem d_Y_timeFor_52 : decode b_Y_timeFor 52 = .ok (.iload_n 3, 1) := by decide +kernel
theorem d_Y_timeFor_53 : decode b_Y_timeFor 53 = .ok (.iload_n 2, 1) := by decide +kernel
theorem d_Y_timeFor_54 : decode b_Y_timeFor 54 = .ok (.if_icmp .eq 16, 3) := by decide +kernel
theorem d_Y_timeFor_57 : decode b_Y_timeFor 57 = .ok (.aload_n 0, 1) := by decide +kernel
theorem d_Y_timeFor_58 : decode b_Y_timeFor 58 = .ok (.iconst 2, 1) := by decide +kernel
theorem d_Y_timeFor_59 : decode b_Y_timeFor 59 = .ok (.invokevirtual 101, 3) := by decide +kernel
theorem d_Y_timeFor_62 : decode b_Y_timeFor 62 = .ok (.aload_n 0, 1) := by decide +kernel
theorem d_Y_timeFor_63 : decode b_Y_timeFor 63 = .ok (.iload_n 3, 1) := by decide +kernel
theorem d_Y_timeFor_64 : decode b_Y_timeFor 64 = .ok (.iload_n 2, 1) := by decide +kernel
theorem d_Y_timeFor_65 : decode b_Y_timeFor 65 = .ok (.isub, 1) := by decide +kernel
theorem d_Y_timeFor_66 : decode b_Y_timeFor 66 = .ok (.i2l, 1) := by decide +kernel
theorem d_Y_timeFor_67 : decode b_Y_timeFor 67 = .ok (.invokevirtual 91, 3) := by decide +kernel
theorem d_Y_timeFor_70 : decode b_Y_timeFor 70 = .ok (.aload_n 0, 1) := by decide +kernel
theorem d_Y_timeFor_71 : decode b_Y_timeFor 71 = .ok (.getfield 19, 3) := by decide +kernel
theorem d_Y_timeFor_74 : decode b_Y_timeFor 74 = .ok (.iload_n 1, 1) := by decide +kernel
theorem d_Y_timeFor_75 : decode b_Y_timeFor 75 = .ok (.bipush 12, 2) := by decide +kernel
theorem d_Y_timeFor_77 : decode b_Y_timeFor 77 = .ok (.iadd, 1) := by decide +kernel
theorem d_Y_timeFor_78 : decode b_Y_timeFor 78 = .ok (.iload_n 3, 1) := by decide +kernel
theorem d_Y_timeFor_79 : decode b_Y_timeFor 79 = .ok (.iastore, 1) := by decide +kernel
theorem d_Y_timeFor_80 : decode b_Y_timeFor 80 = .ok (.iload_n 3, 1) := by decide +kernel
theorem d_Y_timeFor_81 : decode b_Y_timeFor 81 = .ok (.ireturn, 1) := by decide +kernel
theorem d_Y_trace_0 : decode b_Y_trace 0 = .ok (.aload_n 0, 1) := by decide +kernel
theorem d_Y_trace_1 : decode b_Y_trace 1 = .ok (.getfield 19, 3) := by decide +kernel
theorem d_Y_trace_4 : decode b_Y_trace 4 = .ok (.iload_n 1, 1) := by decide +kernel
theorem d_Y_trace_5 : decode b_Y_trace 5 = .ok (.bipush 6, 2) := by decide +kernel
theorem d_Y_trace_7 : decode b_Y_trace 7 = .ok (.iadd, 1) := by decide +kernel
theorem d_Y_trace_8 : decode b_Y_trace 8 = .ok (.aload_n 0, 1) := by decide +kernel
theorem d_Y_trace_9 : decode b_Y_trace 9 = .ok (.getfield 19, 3) := by decide +kernel
theorem d_Y_trace_12 : decode b_Y_trace 12 = .ok (.iload_n 1, 1) := by decide +kernel
theorem d_Y_trace_13 : decode b_Y_trace 13 = .ok (.bipush 6, 2) := by decide +kernel
theorem d_Y_trace_15 : decode b_Y_trace 15 = .ok (.iadd, 1) := by decide +kernel
theorem d_Y_trace_16 : decode b_Y_trace 16 = .ok (.iaload, 1) := by decide +kernel
theorem d_Y_trace_17 : decode b_Y_trace 17 = .ok (.iload_n 2, 1) := by decide +kernel
theorem d_Y_trace_18 : decode b_Y_trace 18 = .ok (.ixor, 1) := by decide +kernel
theorem d_Y_trace_19 : decode b_Y_trace 19 = .ok (.ldc 79, 2) := by decide +kernel
theorem d_Y_trace_21 : decode b_Y_trace 21 = .ok (.imul, 1) := by decide +kernel
theorem d_Y_trace_22 : decode b_Y_trace 22 = .ok (.iastore, 1) := by decide +kernel
theorem d_Y_trace_23 : decode b_Y_trace 23 = .ok (.return_, 1) := by decide +kernel
theorem d_Y_tell_0 : decode b_Y_tell 0 = .ok (.iload_n 2, 1) := by decide +kernel
theorem d_Y_tell_1 : decode b_Y_tell 1 = .ok (.aload_n 0, 1) := by decide +kernel
theorem d_Y_tell_2 : decode b_Y_tell 2 = .ok (.getfield 69, 3) := by decide +kernel
theorem d_Y_tell_5 : decode b_Y_tell 5 = .ok (.if_icmp .ne 11, 3) := by decide +kernel
theorem d_Y_tell_8 : decode b_Y_tell 8 = .ok (.iload_n 1, 1) := by decide +kernel
theorem d_Y_tell_9 : decode b_Y_tell 9 = .ok (.aload_n 0, 1) := by decide +kernel
theorem d_Y_tell_10 : decode b_Y_tell 10 = .ok (.invokevirtual 147, 3) := by decide +kernel
theorem d_Y_tell_13 : decode b_Y_tell 13 = .ok (.if_icmp .eq 5, 3) := by decide +kernel
theorem d_Y_tell_16 : decode b_Y_tell 16 = .ok (.iconst (-1), 1) := by decide +kernel
theorem d_Y_tell_17 : decode b_Y_tell 17 = .ok (.ireturn, 1) := by decide +kernel
theorem d_Y_tell_18 : decode b_Y_tell 18 = .ok (.aload_n 0, 1) := by decide +kernel
theorem d_Y_tell_19 : decode b_Y_tell 19 = .ok (.invokevirtual 151, 3) := by decide +kernel
theorem d_Y_tell_22 : decode b_Y_tell 22 = .ok (.ifCond .ne 6, 3) := by decide +kernel
theorem d_Y_tell_25 : decode b_Y_tell 25 = .ok (.bipush (-2), 2) := by decide +kernel
theorem d_Y_tell_27 : decode b_Y_tell 27 = .ok (.ireturn, 1) := by decide +kernel
theorem d_Y_tell_28 : decode b_Y_tell 28 = .ok (.aload_n 0, 1) := by decide +kernel
theorem d_Y_tell_29 : decode b_Y_tell 29 = .ok (.bipush 48, 2) := by decide +kernel
theorem d_Y_tell_31 : decode b_Y_tell 31 = .ok (.invokevirtual 56, 3) := by decide +kernel
theorem d_Y_tell_34 : decode b_Y_tell 34 = .ok (.aload_n 0, 1) := by decide +kernel
theorem d_Y_tell_35 : decode b_Y_tell 35 = .ok (.getfield 19, 3) := by decide +kernel
theorem d_Y_tell_38 : decode b_Y_tell 38 = .ok (.bipush 57, 2) := by decide +kernel
theorem d_Y_tell_40 : decode b_Y_tell 40 = .ok (.iaload, 1) := by decide +kernel
theorem d_Y_tell_41 : decode b_Y_tell 41 = .ok (.aload_n 0, 1) := by decide +kernel
theorem d_Y_tell_42 : decode b_Y_tell 42 = .ok (.getfield 19, 3) := by decide +kernel
theorem d_Y_tell_45 : decode b_Y_tell 45 = .ok (.bipush 9, 2) := by decide +kernel
theorem d_Y_tell_47 : decode b_Y_tell 47 = .ok (.iaload, 1) := by decide +kernel
theorem d_Y_tell_48 : decode b_Y_tell 48 = .ok (.if_icmp .ge 22, 3) := by decide +kernel
theorem d_Y_tell_51 : decode b_Y_tell 51 = .ok (.aload_n 0, 1) := by decide +kernel
theorem d_Y_tell_52 : decode b_Y_tell 52 = .ok (.getfield 19, 3) := by decide +kernel
theorem d_Y_tell_55 : decode b_Y_tell 55 = .ok (.bipush 56, 2) := by decide +kernel
theorem d_Y_tell_57 : decode b_Y_tell 57 = .ok (.iaload, 1) := by decide +kernel
theorem d_Y_tell_58 : decode b_Y_tell 58 = .ok (.ifCond .ne 12, 3) := by decide +kernel
theorem d_Y_tell_61 : decode b_Y_tell 61 = .ok (.aload_n 0, 1) := by decide +kernel
theorem d_Y_tell_62 : decode b_Y_tell 62 = .ok (.bipush 48, 2) := by decide +kernel
theorem d_Y_tell_64 : decode b_Y_tell 64 = .ok (.invokevirtual 131, 3) := by decide +kernel
theorem d_Y_tell_67 : decode b_Y_tell 67 = .ok (.goto (-33), 3) := by decide +kernel
theorem d_Y_tell_70 : decode b_Y_tell 70 = .ok (.iconst 1, 1) := by decide +kernel
theorem d_Y_tell_71 : decode b_Y_tell 71 = .ok (.istore_n 3, 1) := by decide +kernel
theorem d_Y_tell_72 : decode b_Y_tell 72 = .ok (.iconst 0, 1) := by decide +kernel
theorem d_Y_tell_73 : decode b_Y_tell 73 = .ok (.istore 4, 2) := by decide +kernel
theorem d_Y_tell_75 : decode b_Y_tell 75 = .ok (.iload 4, 2) := by decide +kernel
theorem d_Y_tell_77 : decode b_Y_tell 77 = .ok (.bipush 48, 2) := by decide +kernel
theorem d_Y_tell_79 : decode b_Y_tell 79 = .ok (.if_icmp .ge 65, 3) := by decide +kernel
theorem d_Y_tell_82 : decode b_Y_tell 82 = .ok (.iload 4, 2) := by decide +kernel
theorem d_Y_tell_84 : decode b_Y_tell 84 = .ok (.bipush 9, 2) := by decide +kernel
theorem d_Y_tell_86 : decode b_Y_tell 86 = .ok (.if_icmp .le 10, 3) := by decide +kernel
theorem d_Y_tell_89 : decode b_Y_tell 89 = .ok (.iload 4, 2) := by decide +kernel
theorem d_Y_tell_91 : decode b_Y_tell 91 = .ok (.bipush 16, 2) := by decide +kernel
theorem d_Y_tell_93 : decode b_Y_tell 93 = .ok (.if_icmp .lt 7, 3) := by decide +kernel
theorem d_Y_tell_96 : decode b_Y_tell 96 = .ok (.iconst 1, 1) := by decide +kernel
theorem d_Y_tell_97 : decode b_Y_tell 97 = .ok (.goto 4, 3) := by decide +kernel
theorem d_Y_tell_100 : decode b_Y_tell 100 = .ok (.iconst 0, 1) := by decide +kernel
theorem d_Y_tell_101 : decode b_Y_tell 101 = .ok (.istore 5, 2) := by decide +kernel
theorem d_Y_tell_103 : decode b_Y_tell 103 = .ok (.iload_n 3, 1) := by decide +kernel
theorem d_Y_tell_104 : decode b_Y_tell 104 = .ok (.ifCond .eq 32, 3) := by decide +kernel
theorem d_Y_tell_107 : decode b_Y_tell 107 = .ok (.iload 5, 2) := by decide +kernel
theorem d_Y_tell_109 : decode b_Y_tell 109 = .ok (.ifCond .eq 23, 3) := by decide +kernel
theorem d_Y_tell_112 : decode b_Y_tell 112 = .ok (.aload_n 0, 1) := by decide +kernel
theorem d_Y_tell_113 : decode b_Y_tell 113 = .ok (.getfield 19, 3) := by decide +kernel
theorem d_Y_tell_116 : decode b_Y_tell 116 = .ok (.iload 4, 2) := by decide +kernel
theorem d_Y_tell_118 : decode b_Y_tell 118 = .ok (.iaload, 1) := by decide +kernel
theorem d_Y_tell_119 : decode b_Y_tell 119 = .ok (.aload_n 0, 1) := by decide +kernel
theorem d_Y_tell_120 : decode b_Y_tell 120 = .ok (.getfield 19, 3) := by decide +kernel
theorem d_Y_tell_123 : decode b_Y_tell 123 = .ok (.bipush 48, 2) := by decide +kernel
theorem d_Y_tell_125 : decode b_Y_tell 125 = .ok (.iload 4, 2) := by decide +kernel
theorem d_Y_tell_127 : decode b_Y_tell 127 = .ok (.iadd, 1) := by decide +kernel
theorem d_Y_tell_128 : decode b_Y_tell 128 = .ok (.iaload, 1) := by decide +kernel
theorem d_Y_tell_129 : decode b_Y_tell 129 = .ok (.if_icmp .ne 7, 3) := by decide +kernel
theorem d_Y_tell_132 : decode b_Y_tell 132 = .ok (.iconst 1, 1) := by decide +kernel
theorem d_Y_tell_133 : decode b_Y_tell 133 = .ok (.goto 4, 3) := by decide +kernel
theorem d_Y_tell_136 : decode b_Y_tell 136 = .ok (.iconst 0, 1) := by decide +kernel
theorem d_Y_tell_137 : decode b_Y_tell 137 = .ok (.istore_n 3, 1) := by decide +kernel
theorem d_Y_tell_138 : decode b_Y_tell 138 = .ok (.iinc 4 1, 3) := by decide +kernel
theorem d_Y_tell_141 : decode b_Y_tell 141 = .ok (.goto (-66), 3) := by decide +kernel
theorem d_Y_tell_144 : decode b_Y_tell 144 = .ok (.iload_n 3, 1) := by decide +kernel
theorem d_Y_tell_145 : decode b_Y_tell 145 = .ok (.ifCond .eq 7, 3) := by decide +kernel
theorem d_Y_tell_148 : decode b_Y_tell 148 = .ok (.iconst 1, 1) := by decide +kernel
theorem d_Y_tell_149 : decode b_Y_tell 149 = .ok (.goto 4, 3) := by decide +kernel
theorem d_Y_tell_152 : decode b_Y_tell 152 = .ok (.iconst 0, 1) := by decide +kernel
theorem d_Y_tell_153 : decode b_Y_tell 153 = .ok (.ireturn, 1) := by decide +kernel
end
section
theorem d_Y_sealNow_0 : decode b_Y_sealNow 0 = .ok (.iconst 1, 1) := by decide +kernel
theorem d_Y_sealNow_1 : decode b_Y_sealNow 1 = .ok (.istore_n 1, 1) := by decide +kernel
theorem d_Y_sealNow_2 : decode b_Y_sealNow 2 = .ok (.iconst 0, 1) := by decide +kernel
theorem d_Y_sealNow_3 : decode b_Y_sealNow 3 = .ok (.istore_n 2, 1) := by decide +kernel
theorem d_Y_sealNow_4 : decode b_Y_sealNow 4 = .ok (.iload_n 2, 1) := by decide +kernel
theorem d_Y_sealNow_5 : decode b_Y_sealNow 5 = .ok (.aload_n 0, 1) := by decide +kernel
theorem d_Y_sealNow_6 : decode b_Y_sealNow 6 = .ok (.getfield 69, 3) := by decide +kernel
theorem d_Y_sealNow_9 : decode b_Y_sealNow 9 = .ok (.if_icmp .ge 20, 3) := by decide +kernel
theorem d_Y_sealNow_12 : decode b_Y_sealNow 12 = .ok (.iload_n 1, 1) := by decide +kernel
theorem d_Y_sealNow_13 : decode b_Y_sealNow 13 = .ok (.aload_n 0, 1) := by decide +kernel
theorem d_Y_sealNow_14 : decode b_Y_sealNow 14 = .ok (.getfield 25, 3) := by decide +kernel
theorem d_Y_sealNow_17 : decode b_Y_sealNow 17 = .ok (.iload_n 2, 1) := by decide +kernel
theorem d_Y_sealNow_18 : decode b_Y_sealNow 18 = .ok (.iaload, 1) := by decide +kernel
theorem d_Y_sealNow_19 : decode b_Y_sealNow 19 = .ok (.invokestatic 80, 3) := by decide +kernel
theorem d_Y_sealNow_22 : decode b_Y_sealNow 22 = .ok (.istore_n 1, 1) := by decide +kernel
theorem d_Y_sealNow_23 : decode b_Y_sealNow 23 = .ok (.iinc 2 1, 3) := by decide +kernel
theorem d_Y_sealNow_26 : decode b_Y_sealNow 26 = .ok (.goto (-22), 3) := by decide +kernel
theorem d_Y_sealNow_29 : decode b_Y_sealNow 29 = .ok (.iload_n 1, 1) := by decide +kernel
theorem d_Y_sealNow_30 : decode b_Y_sealNow 30 = .ok (.ireturn, 1) := by decide +kernel
theorem d_Y_readAll_0 : decode b_Y_readAll 0 = .ok (.aload_n 0, 1) := by decide +kernel
theorem d_Y_readAll_1 : decode b_Y_readAll 1 = .ok (.iconst 0, 1) := by decide +kernel
theorem d_Y_readAll_2 : decode b_Y_readAll 2 = .ok (.putfield 95, 3) := by decide +kernel
theorem d_Y_readAll_5 : decode b_Y_readAll 5 = .ok (.aload_n 0, 1) := by decide +kernel
theorem d_Y_readAll_6 : decode b_Y_readAll 6 = .ok (.iconst 0, 1) := by decide +kernel
theorem d_Y_readAll_7 : decode b_Y_readAll 7 = .ok (.putfield 134, 3) := by decide +kernel
theorem d_Y_readAll_10 : decode b_Y_readAll 10 = .ok (.lconst 0, 1) := by decide +kernel
theorem d_Y_readAll_11 : decode b_Y_readAll 11 = .ok (.lstore_n 1, 1) := by decide +kernel
theorem d_Y_readAll_12 : decode b_Y_readAll 12 = .ok (.aload_n 0, 1) := by decide +kernel
theorem d_Y_readAll_13 : decode b_Y_readAll 13 = .ok (.getfield 134, 3) := by decide +kernel
theorem d_Y_readAll_16 : decode b_Y_readAll 16 = .ok (.aload_n 0, 1) := by decide +kernel
theorem d_Y_readAll_17 : decode b_Y_readAll 17 = .ok (.getfield 69, 3) := by decide +kernel
theorem d_Y_readAll_20 : decode b_Y_readAll 20 = .ok (.if_icmp .ge 151, 3) := by decide +kernel
theorem d_Y_readAll_23 : decode b_Y_readAll 23 = .ok (.aload_n 0, 1) := by decide +kernel
theorem d_Y_readAll_24 : decode b_Y_readAll 24 = .ok (.invokevirtual 141, 3) := by decide +kernel
theorem d_Y_readAll_27 : decode b_Y_readAll 27 = .ok (.lstore_n 3, 1) := by decide +kernel
theorem d_Y_readAll_28 : decode b_Y_readAll 28 = .ok (.lload_n 3, 1) := by decide +kernel
theorem d_Y_readAll_29 : decode b_Y_readAll 29 = .ok (.ldc2_w 145, 3) := by decide +kernel
theorem d_Y_readAll_32 : decode b_Y_readAll 32 = .ok (.land, 1) := by decide +kernel
theorem d_Y_readAll_33 : decode b_Y_readAll 33 = .ok (.l2i, 1) := by decide +kernel
theorem d_Y_readAll_34 : decode b_Y_readAll 34 = .ok (.istore 5, 2) := by decide +kernel
theorem d_Y_readAll_36 : decode b_Y_readAll 36 = .ok (.lload_n 3, 1) := by decide +kernel
theorem d_Y_readAll_37 : decode b_Y_readAll 37 = .ok (.ldc2_w 89, 3) := by decide +kernel
theorem d_Y_readAll_40 : decode b_Y_readAll 40 = .ok (.lcmp, 1) := by decide +kernel
theorem d_Y_readAll_41 : decode b_Y_readAll 41 = .ok (.ifCond .lt 8, 3) := by decide +kernel
theorem d_Y_readAll_44 : decode b_Y_readAll 44 = .ok (.iload 5, 2) := by decide +kernel
theorem d_Y_readAll_46 : decode b_Y_readAll 46 = .ok (.ifCond .ne 5, 3) := by decide +kernel
theorem d_Y_readAll_49 : decode b_Y_readAll 49 = .ok (.iconst 0, 1) := by decide +kernel
theorem d_Y_readAll_50 : decode b_Y_readAll 50 = .ok (.ireturn, 1) := by decide +kernel
theorem d_Y_readAll_51 : decode b_Y_readAll 51 = .ok (.lload_n 1, 1) := by decide +kernel
theorem d_Y_readAll_52 : decode b_Y_readAll 52 = .ok (.lload_n 3, 1) := by decide +kernel
theorem d_Y_readAll_53 : decode b_Y_readAll 53 = .ok (.ldc2_w 89, 3) := by decide +kernel
theorem d_Y_readAll_56 : decode b_Y_readAll 56 = .ok (.ldiv, 1) := by decide +kernel
theorem d_Y_readAll_57 : decode b_Y_readAll 57 = .ok (.ladd, 1) := by decide +kernel
theorem d_Y_readAll_58 : decode b_Y_readAll 58 = .ok (.lstore_n 1, 1) := by decide +kernel
theorem d_Y_readAll_59 : decode b_Y_readAll 59 = .ok (.iload 5, 2) := by decide +kernel
theorem d_Y_readAll_61 : decode b_Y_readAll 61 = .ok (.iconst 3, 1) := by decide +kernel
theorem d_Y_readAll_62 : decode b_Y_readAll 62 = .ok (.if_icmp .ne 7, 3) := by decide +kernel
theorem d_Y_readAll_65 : decode b_Y_readAll 65 = .ok (.lconst 0, 1) := by decide +kernel
theorem d_Y_readAll_66 : decode b_Y_readAll 66 = .ok (.goto 7, 3) := by decide +kernel
theorem d_Y_readAll_69 : decode b_Y_readAll 69 = .ok (.aload_n 0, 1) := by decide +kernel
theorem d_Y_readAll_70 : decode b_Y_readAll 70 = .ok (.invokevirtual 141, 3) := by decide +kernel
theorem d_Y_readAll_73 : decode b_Y_readAll 73 = .ok (.lstore 6, 2) := by decide +kernel
theorem d_Y_readAll_75 : decode b_Y_readAll 75 = .ok (.lload 6, 2) := by decide +kernel
theorem d_Y_readAll_77 : decode b_Y_readAll 77 = .ok (.lconst 0, 1) := by decide +kernel
theorem d_Y_readAll_78 : decode b_Y_readAll 78 = .ok (.lcmp, 1) := by decide +kernel
theorem d_Y_readAll_79 : decode b_Y_readAll 79 = .ok (.ifCond .ge 5, 3) := by decide +kernel
theorem d_Y_readAll_82 : decode b_Y_readAll 82 = .ok (.iconst 0, 1) := by decide +kernel
theorem d_Y_readAll_83 : decode b_Y_readAll 83 = .ok (.ireturn, 1) := by decide +kernel
theorem d_Y_readAll_84 : decode b_Y_readAll 84 = .ok (.aload_n 0, 1) := by decide +kernel
theorem d_Y_readAll_85 : decode b_Y_readAll 85 = .ok (.getfield 32, 3) := by decide +kernel
theorem d_Y_readAll_88 : decode b_Y_readAll 88 = .ok (.aload_n 0, 1) := by decide +kernel
theorem d_Y_readAll_89 : decode b_Y_readAll 89 = .ok (.getfield 95, 3) := by decide +kernel
theorem d_Y_readAll_92 : decode b_Y_readAll 92 = .ok (.lload_n 1, 1) := by decide +kernel
theorem d_Y_readAll_93 : decode b_Y_readAll 93 = .ok (.lastore, 1) := by decide +kernel
theorem d_Y_readAll_94 : decode b_Y_readAll 94 = .ok (.aload_n 0, 1) := by decide +kernel
theorem d_Y_readAll_95 : decode b_Y_readAll 95 = .ok (.getfield 36, 3) := by decide +kernel
theorem d_Y_readAll_98 : decode b_Y_readAll 98 = .ok (.aload_n 0, 1) := by decide +kernel
theorem d_Y_readAll_99 : decode b_Y_readAll 99 = .ok (.getfield 95, 3) := by decide +kernel
theorem d_Y_readAll_102 : decode b_Y_readAll 102 = .ok (.iload 5, 2) := by decide +kernel
theorem d_Y_readAll_104 : decode b_Y_readAll 104 = .ok (.iastore, 1) := by decide +kernel
theorem d_Y_readAll_105 : decode b_Y_readAll 105 = .ok (.aload_n 0, 1) := by decide +kernel
theorem d_Y_readAll_106 : decode b_Y_readAll 106 = .ok (.getfield 39, 3) := by decide +kernel
theorem d_Y_readAll_109 : decode b_Y_readAll 109 = .ok (.aload_n 0, 1) := by decide +kernel
theorem d_Y_readAll_110 : decode b_Y_readAll 110 = .ok (.getfield 95, 3) := by decide +kernel
theorem d_Y_readAll_113 : decode b_Y_readAll 113 = .ok (.iload 5, 2) := by decide +kernel
theorem d_Y_readAll_115 : decode b_Y_readAll 115 = .ok (.iconst 2, 1) := by decide +kernel
theorem d_Y_readAll_116 : decode b_Y_readAll 116 = .ok (.if_icmp .ne 9, 3) := by decide +kernel
theorem d_Y_readAll_119 : decode b_Y_readAll 119 = .ok (.lload 6, 2) := by decide +kernel
theorem d_Y_readAll_121 : decode b_Y_readAll 121 = .ok (.l2i, 1) := by decide +kernel
theorem d_Y_readAll_122 : decode b_Y_readAll 122 = .ok (.goto 35, 3) := by decide +kernel
theorem d_Y_readAll_125 : decode b_Y_readAll 125 = .ok (.lload 6, 2) := by decide +kernel
theorem d_Y_readAll_127 : decode b_Y_readAll 127 = .ok (.ldc2_w 104, 3) := by decide +kernel
theorem d_Y_readAll_130 : decode b_Y_readAll 130 = .ok (.lrem, 1) := by decide +kernel
theorem d_Y_readAll_131 : decode b_Y_readAll 131 = .ok (.lconst 0, 1) := by decide +kernel
theorem d_Y_readAll_132 : decode b_Y_readAll 132 = .ok (.lcmp, 1) := by decide +kernel
theorem d_Y_readAll_133 : decode b_Y_readAll 133 = .ok (.ifCond .ne 13, 3) := by decide +kernel
theorem d_Y_readAll_136 : decode b_Y_readAll 136 = .ok (.lload 6, 2) := by decide +kernel
theorem d_Y_readAll_138 : decode b_Y_readAll 138 = .ok (.ldc2_w 104, 3) := by decide +kernel
theorem d_Y_readAll_141 : decode b_Y_readAll 141 = .ok (.ldiv, 1) := by decide +kernel
theorem d_Y_readAll_142 : decode b_Y_readAll 142 = .ok (.l2i, 1) := by decide +kernel
theorem d_Y_readAll_143 : decode b_Y_readAll 143 = .ok (.goto 14, 3) := by decide +kernel
theorem d_Y_readAll_146 : decode b_Y_readAll 146 = .ok (.ldc2_w 137, 3) := by decide +kernel
theorem d_Y_readAll_149 : decode b_Y_readAll 149 = .ok (.lload 6, 2) := by decide +kernel
theorem d_Y_readAll_151 : decode b_Y_readAll 151 = .ok (.ldc2_w 104, 3) := by decide +kernel
theorem d_Y_readAll_154 : decode b_Y_readAll 154 = .ok (.ldiv, 1) := by decide +kernel
theorem d_Y_readAll_155 : decode b_Y_readAll 155 = .ok (.lsub, 1) := by decide +kernel
theorem d_Y_readAll_156 : decode b_Y_readAll 156 = .ok (.l2i, 1) := by decide +kernel
theorem d_Y_readAll_157 : decode b_Y_readAll 157 = .ok (.iastore, 1) := by decide +kernel
theorem d_Y_readAll_158 : decode b_Y_readAll 158 = .ok (.aload_n 0, 1) := by decide +kernel
theorem d_Y_readAll_159 : decode b_Y_readAll 159 = .ok (.aload_n 0, 1) := by decide +kernel
theorem d_Y_readAll_160 : decode b_Y_readAll 160 = .ok (.getfield 95, 3) := by decide +kernel
theorem d_Y_readAll_163 : decode b_Y_readAll 163 = .ok (.iconst 1, 1) := by decide +kernel
theorem d_Y_readAll_164 : decode b_Y_readAll 164 = .ok (.iadd, 1) := by decide +kernel
theorem d_Y_readAll_165 : decode b_Y_readAll 165 = .ok (.putfield 95, 3) := by decide +kernel
theorem d_Y_readAll_168 : decode b_Y_readAll 168 = .ok (.goto (-156), 3) := by decide +kernel
theorem d_Y_readAll_171 : decode b_Y_readAll 171 = .ok (.iconst 1, 1) := by decide +kernel
theorem d_Y_readAll_172 : decode b_Y_readAll 172 = .ok (.ireturn, 1) := by decide +kernel
theorem d_Y_readNumber_0 : decode b_Y_readNumber 0 = .ok (.lconst 0, 1) := by decide +kernel
theorem d_Y_readNumber_1 : decode b_Y_readNumber 1 = .ok (.lstore_n 1, 1) := by decide +kernel
theorem d_Y_readNumber_2 : decode b_Y_readNumber 2 = .ok (.iconst 0, 1) := by decide +kernel
theorem d_Y_readNumber_3 : decode b_Y_readNumber 3 = .ok (.istore_n 3, 1) := by decide +kernel
theorem d_Y_readNumber_4 : decode b_Y_readNumber 4 = .ok (.iload_n 3, 1) := by decide +kernel
theorem d_Y_readNumber_5 : decode b_Y_readNumber 5 = .ok (.iconst 5, 1) := by decide +kernel
theorem d_Y_readNumber_6 : decode b_Y_readNumber 6 = .ok (.if_icmp .ge 73, 3) := by decide +kernel
theorem d_Y_readNumber_9 : decode b_Y_readNumber 9 = .ok (.aload_n 0, 1) := by decide +kernel
theorem d_Y_readNumber_10 : decode b_Y_readNumber 10 = .ok (.getfield 134, 3) := by decide +kernel
theorem d_Y_readNumber_13 : decode b_Y_readNumber 13 = .ok (.aload_n 0, 1) := by decide +kernel
theorem d_Y_readNumber_14 : decode b_Y_readNumber 14 = .ok (.getfield 69, 3) := by decide +kernel
theorem d_Y_readNumber_17 : decode b_Y_readNumber 17 = .ok (.if_icmp .lt 7, 3) := by decide +kernel
theorem d_Y_readNumber_20 : decode b_Y_readNumber 20 = .ok (.ldc2_w 137, 3) := by decide +kernel
theorem d_Y_readNumber_23 : decode b_Y_readNumber 23 = .ok (.lreturn, 1) := by decide +kernel
theorem d_Y_readNumber_24 : decode b_Y_readNumber 24 = .ok (.aload_n 0, 1) := by decide +kernel
theorem d_Y_readNumber_25 : decode b_Y_readNumber 25 = .ok (.getfield 25, 3) := by decide +kernel
theorem d_Y_readNumber_28 : decode b_Y_readNumber 28 = .ok (.aload_n 0, 1) := by decide +kernel
theorem d_Y_readNumber_29 : decode b_Y_readNumber 29 = .ok (.getfield 134, 3) := by decide +kernel
theorem d_Y_readNumber_32 : decode b_Y_readNumber 32 = .ok (.iaload, 1) := by decide +kernel
theorem d_Y_readNumber_33 : decode b_Y_readNumber 33 = .ok (.istore 4, 2) := by decide +kernel
theorem d_Y_readNumber_35 : decode b_Y_readNumber 35 = .ok (.aload_n 0, 1) := by decide +kernel
theorem d_Y_readNumber_36 : decode b_Y_readNumber 36 = .ok (.aload_n 0, 1) := by decide +kernel
theorem d_Y_readNumber_37 : decode b_Y_readNumber 37 = .ok (.getfield 134, 3) := by decide +kernel
theorem d_Y_readNumber_40 : decode b_Y_readNumber 40 = .ok (.iconst 1, 1) := by decide +kernel
theorem d_Y_readNumber_41 : decode b_Y_readNumber 41 = .ok (.iadd, 1) := by decide +kernel
theorem d_Y_readNumber_42 : decode b_Y_readNumber 42 = .ok (.putfield 134, 3) := by decide +kernel
theorem d_Y_readNumber_45 : decode b_Y_readNumber 45 = .ok (.lload_n 1, 1) := by decide +kernel
theorem d_Y_readNumber_46 : decode b_Y_readNumber 46 = .ok (.iload 4, 2) := by decide +kernel
theorem d_Y_readNumber_48 : decode b_Y_readNumber 48 = .ok (.bipush 127, 2) := by decide +kernel
theorem d_Y_readNumber_50 : decode b_Y_readNumber 50 = .ok (.iand, 1) := by decide +kernel
theorem d_Y_readNumber_51 : decode b_Y_readNumber 51 = .ok (.i2l, 1) := by decide +kernel
theorem d_Y_readNumber_52 : decode b_Y_readNumber 52 = .ok (.bipush 7, 2) := by decide +kernel
theorem d_Y_readNumber_54 : decode b_Y_readNumber 54 = .ok (.iload_n 3, 1) := by decide +kernel
theorem d_Y_readNumber_55 : decode b_Y_readNumber 55 = .ok (.imul, 1) := by decide +kernel
theorem d_Y_readNumber_56 : decode b_Y_readNumber 56 = .ok (.lshl, 1) := by decide +kernel
theorem d_Y_readNumber_57 : decode b_Y_readNumber 57 = .ok (.lor, 1) := by decide +kernel
theorem d_Y_readNumber_58 : decode b_Y_readNumber 58 = .ok (.lstore_n 1, 1) := by decide +kernel
theorem d_Y_readNumber_59 : decode b_Y_readNumber 59 = .ok (.iload 4, 2) := by decide +kernel
theorem d_Y_readNumber_61 : decode b_Y_readNumber 61 = .ok (.sipush 128, 3) := by decide +kernel
theorem d_Y_readNumber_64 : decode b_Y_readNumber 64 = .ok (.if_icmp .ge 9, 3) := by decide +kernel
theorem d_Y_readNumber_67 : decode b_Y_readNumber 67 = .ok (.lload_n 1, 1) := by decide +kernel
theorem d_Y_readNumber_68 : decode b_Y_readNumber 68 = .ok (.ldc2_w 139, 3) := by decide +kernel
theorem d_Y_readNumber_71 : decode b_Y_readNumber 71 = .ok (.land, 1) := by decide +kernel
theorem d_Y_readNumber_72 : decode b_Y_readNumber 72 = .ok (.lreturn, 1) := by decide +kernel
theorem d_Y_readNumber_73 : decode b_Y_readNumber 73 = .ok (.iinc 3 1, 3) := by decide +kernel
theorem d_Y_readNumber_76 : decode b_Y_readNumber 76 = .ok (.goto (-72), 3) := by decide +kernel
theorem d_Y_readNumber_79 : decode b_Y_readNumber 79 = .ok (.ldc2_w 137, 3) := by decide +kernel
theorem d_Y_readNumber_82 : decode b_Y_readNumber 82 = .ok (.lreturn, 1) := by decide +kernel
theorem d_Y_log_0 : decode b_Y_log 0 = .ok (.aload_n 0, 1) := by decide +kernel
theorem d_Y_log_1 : decode b_Y_log 1 = .ok (.getfield 69, 3) := by decide +kernel
theorem d_Y_log_4 : decode b_Y_log 4 = .ok (.ireturn, 1) := by decide +kernel
theorem d_Y_at_0 : decode b_Y_at 0 = .ok (.iload_n 1, 1) := by decide +kernel
theorem d_Y_at_1 : decode b_Y_at 1 = .ok (.iconst 0, 1) := by decide +kernel
theorem d_Y_at_2 : decode b_Y_at 2 = .ok (.aload_n 0, 1) := by decide +kernel
theorem d_Y_at_3 : decode b_Y_at 3 = .ok (.getfield 69, 3) := by decide +kernel
theorem d_Y_at_6 : decode b_Y_at 6 = .ok (.iconst 1, 1) := by decide +kernel
theorem d_Y_at_7 : decode b_Y_at 7 = .ok (.isub, 1) := by decide +kernel
theorem d_Y_at_8 : decode b_Y_at 8 = .ok (.invokestatic 45, 3) := by decide +kernel
theorem d_Y_at_11 : decode b_Y_at 11 = .ok (.ifCond .eq 12, 3) := by decide +kernel
theorem d_Y_at_14 : decode b_Y_at 14 = .ok (.aload_n 0, 1) := by decide +kernel
theorem d_Y_at_15 : decode b_Y_at 15 = .ok (.getfield 25, 3) := by decide +kernel
theorem d_Y_at_18 : decode b_Y_at 18 = .ok (.iload_n 1, 1) := by decide +kernel
theorem d_Y_at_19 : decode b_Y_at 19 = .ok (.iaload, 1) := by decide +kernel
theorem d_Y_at_20 : decode b_Y_at 20 = .ok (.goto 4, 3) := by decide +kernel
theorem d_Y_at_23 : decode b_Y_at 23 = .ok (.iconst (-1), 1) := by decide +kernel
theorem d_Y_at_24 : decode b_Y_at 24 = .ok (.ireturn, 1) := by decide +kernel
theorem d_Y_entries_0 : decode b_Y_entries 0 = .ok (.aload_n 0, 1) := by decide +kernel
theorem d_Y_entries_1 : decode b_Y_entries 1 = .ok (.getfield 72, 3) := by decide +kernel
theorem d_Y_entries_4 : decode b_Y_entries 4 = .ok (.ireturn, 1) := by decide +kernel
theorem d_Y_seal_0 : decode b_Y_seal 0 = .ok (.aload_n 0, 1) := by decide +kernel
theorem d_Y_seal_1 : decode b_Y_seal 1 = .ok (.getfield 28, 3) := by decide +kernel
theorem d_Y_seal_4 : decode b_Y_seal 4 = .ok (.ireturn, 1) := by decide +kernel
theorem d_Y_change_0 : decode b_Y_change 0 = .ok (.iload_n 1, 1) := by decide +kernel
theorem d_Y_change_1 : decode b_Y_change 1 = .ok (.iconst 0, 1) := by decide +kernel
theorem d_Y_change_2 : decode b_Y_change 2 = .ok (.aload_n 0, 1) := by decide +kernel
theorem d_Y_change_3 : decode b_Y_change 3 = .ok (.getfield 69, 3) := by decide +kernel
theorem d_Y_change_6 : decode b_Y_change 6 = .ok (.iconst 1, 1) := by decide +kernel
theorem d_Y_change_7 : decode b_Y_change 7 = .ok (.isub, 1) := by decide +kernel
theorem d_Y_change_8 : decode b_Y_change 8 = .ok (.invokestatic 45, 3) := by decide +kernel
theorem d_Y_change_11 : decode b_Y_change 11 = .ok (.ifCond .eq 14, 3) := by decide +kernel
theorem d_Y_change_14 : decode b_Y_change 14 = .ok (.iload_n 2, 1) := by decide +kernel
theorem d_Y_change_15 : decode b_Y_change 15 = .ok (.iconst 0, 1) := by decide +kernel
theorem d_Y_change_16 : decode b_Y_change 16 = .ok (.sipush 255, 3) := by decide +kernel
theorem d_Y_change_19 : decode b_Y_change 19 = .ok (.invokestatic 45, 3) := by decide +kernel
theorem d_Y_change_22 : decode b_Y_change 22 = .ok (.ifCond .ne 5, 3) := by decide +kernel
theorem d_Y_change_25 : decode b_Y_change 25 = .ok (.iconst 0, 1) := by decide +kernel
theorem d_Y_change_26 : decode b_Y_change 26 = .ok (.ireturn, 1) := by decide +kernel
theorem d_Y_change_27 : decode b_Y_change 27 = .ok (.aload_n 0, 1) := by decide +kernel
theorem d_Y_change_28 : decode b_Y_change 28 = .ok (.getfield 25, 3) := by decide +kernel
theorem d_Y_change_31 : decode b_Y_change 31 = .ok (.iload_n 1, 1) := by decide +kernel
theorem d_Y_change_32 : decode b_Y_change 32 = .ok (.iload_n 2, 1) := by decide +kernel
theorem d_Y_change_33 : decode b_Y_change 33 = .ok (.iastore, 1) := by decide +kernel
theorem d_Y_change_34 : decode b_Y_change 34 = .ok (.iconst 1, 1) := by decide +kernel
theorem d_Y_change_35 : decode b_Y_change 35 = .ok (.ireturn, 1) := by decide +kernel
theorem d_Y_state_0 : decode b_Y_state 0 = .ok (.iload_n 1, 1) := by decide +kernel
theorem d_Y_state_1 : decode b_Y_state 1 = .ok (.iconst 0, 1) := by decide +kernel
theorem d_Y_state_2 : decode b_Y_state 2 = .ok (.iconst 1, 1) := by decide +kernel
theorem d_Y_state_3 : decode b_Y_state 3 = .ok (.invokestatic 45, 3) := by decide +kernel
theorem d_Y_state_6 : decode b_Y_state 6 = .ok (.ifCond .eq 27, 3) := by decide +kernel
theorem d_Y_state_9 : decode b_Y_state 9 = .ok (.iload_n 2, 1) := by decide +kernel
theorem d_Y_state_10 : decode b_Y_state 10 = .ok (.iconst 0, 1) := by decide +kernel
theorem d_Y_state_11 : decode b_Y_state 11 = .ok (.bipush 9, 2) := by decide +kernel
theorem d_Y_state_13 : decode b_Y_state 13 = .ok (.invokestatic 45, 3) := by decide +kernel
theorem d_Y_state_16 : decode b_Y_state 16 = .ok (.ifCond .eq 17, 3) := by decide +kernel
theorem d_Y_state_19 : decode b_Y_state 19 = .ok (.aload_n 0, 1) := by decide +kernel
theorem d_Y_state_20 : decode b_Y_state 20 = .ok (.getfield 19, 3) := by decide +kernel
theorem d_Y_state_23 : decode b_Y_state 23 = .ok (.bipush 48, 2) := by decide +kernel
theorem d_Y_state_25 : decode b_Y_state 25 = .ok (.iload_n 1, 1) := by decide +kernel
theorem d_Y_state_26 : decode b_Y_state 26 = .ok (.imul, 1) := by decide +kernel
theorem d_Y_state_27 : decode b_Y_state 27 = .ok (.iload_n 2, 1) := by decide +kernel
theorem d_Y_state_28 : decode b_Y_state 28 = .ok (.iadd, 1) := by decide +kernel
theorem d_Y_state_29 : decode b_Y_state 29 = .ok (.iaload, 1) := by decide +kernel
theorem d_Y_state_30 : decode b_Y_state 30 = .ok (.goto 4, 3) := by decide +kernel
theorem d_Y_state_33 : decode b_Y_state 33 = .ok (.iconst 0, 1) := by decide +kernel
theorem d_Y_state_34 : decode b_Y_state 34 = .ok (.ireturn, 1) := by decide +kernel
theorem d_Y_cell_0 : decode b_Y_cell 0 = .ok (.iload_n 1, 1) := by decide +kernel
theorem d_Y_cell_1 : decode b_Y_cell 1 = .ok (.iconst 0, 1) := by decide +kernel
theorem d_Y_cell_2 : decode b_Y_cell 2 = .ok (.iconst 1, 1) := by decide +kernel
theorem d_Y_cell_3 : decode b_Y_cell 3 = .ok (.invokestatic 45, 3) := by decide +kernel
theorem d_Y_cell_6 : decode b_Y_cell 6 = .ok (.ifCond .eq 30, 3) := by decide +kernel
theorem d_Y_cell_9 : decode b_Y_cell 9 = .ok (.iload_n 2, 1) := by decide +kernel
theorem d_Y_cell_10 : decode b_Y_cell 10 = .ok (.iconst 0, 1) := by decide +kernel
theorem d_Y_cell_11 : decode b_Y_cell 11 = .ok (.bipush 31, 2) := by decide +kernel
theorem d_Y_cell_13 : decode b_Y_cell 13 = .ok (.invokestatic 45, 3) := by decide +kernel
theorem d_Y_cell_16 : decode b_Y_cell 16 = .ok (.ifCond .eq 20, 3) := by decide +kernel
theorem d_Y_cell_19 : decode b_Y_cell 19 = .ok (.aload_n 0, 1) := by decide +kernel
theorem d_Y_cell_20 : decode b_Y_cell 20 = .ok (.getfield 19, 3) := by decide +kernel
theorem d_Y_cell_23 : decode b_Y_cell 23 = .ok (.bipush 48, 2) := by decide +kernel
theorem d_Y_cell_25 : decode b_Y_cell 25 = .ok (.iload_n 1, 1) := by decide +kernel
theorem d_Y_cell_26 : decode b_Y_cell 26 = .ok (.imul, 1) := by decide +kernel
theorem d_Y_cell_27 : decode b_Y_cell 27 = .ok (.bipush 16, 2) := by decide +kernel
theorem d_Y_cell_29 : decode b_Y_cell 29 = .ok (.iadd, 1) := by decide +kernel
theorem d_Y_cell_30 : decode b_Y_cell 30 = .ok (.iload_n 2, 1) := by decide +kernel
theorem d_Y_cell_31 : decode b_Y_cell 31 = .ok (.iadd, 1) := by decide +kernel
theorem d_Y_cell_32 : decode b_Y_cell 32 = .ok (.iaload, 1) := by decide +kernel
theorem d_Y_cell_33 : decode b_Y_cell 33 = .ok (.goto 4, 3) := by decide +kernel
theorem d_Y_cell_36 : decode b_Y_cell 36 = .ok (.iconst 0, 1) := by decide +kernel
theorem d_Y_cell_37 : decode b_Y_cell 37 = .ok (.ireturn, 1) := by decide +kernel
theorem d_Y_sealed_0 : decode b_Y_sealed 0 = .ok (.iload_n 3, 1) := by decide +kernel
theorem d_Y_sealed_1 : decode b_Y_sealed 1 = .ok (.iconst 1, 1) := by decide +kernel
theorem d_Y_sealed_2 : decode b_Y_sealed 2 = .ok (.iconst 4, 1) := by decide +kernel
theorem d_Y_sealed_3 : decode b_Y_sealed 3 = .ok (.invokestatic 45, 3) := by decide +kernel
theorem d_Y_sealed_6 : decode b_Y_sealed 6 = .ok (.ifCond .ne 5, 3) := by decide +kernel
theorem d_Y_sealed_9 : decode b_Y_sealed 9 = .ok (.iconst 0, 1) := by decide +kernel
theorem d_Y_sealed_10 : decode b_Y_sealed 10 = .ok (.ireturn, 1) := by decide +kernel
theorem d_Y_sealed_11 : decode b_Y_sealed 11 = .ok (.iload_n 1, 1) := by decide +kernel
theorem d_Y_sealed_12 : decode b_Y_sealed 12 = .ok (.istore 4, 2) := by decide +kernel
theorem d_Y_sealed_14 : decode b_Y_sealed 14 = .ok (.iload_n 3, 1) := by decide +kernel
theorem d_Y_sealed_15 : decode b_Y_sealed 15 = .ok (.iconst 1, 1) := by decide +kernel
theorem d_Y_sealed_16 : decode b_Y_sealed 16 = .ok (.isub, 1) := by decide +kernel
theorem d_Y_sealed_17 : decode b_Y_sealed 17 = .ok (.istore 5, 2) := by decide +kernel
theorem d_Y_sealed_19 : decode b_Y_sealed 19 = .ok (.iload 5, 2) := by decide +kernel
theorem d_Y_sealed_21 : decode b_Y_sealed 21 = .ok (.ifCond .lt 27, 3) := by decide +kernel
theorem d_Y_sealed_24 : decode b_Y_sealed 24 = .ok (.iload 4, 2) := by decide +kernel
theorem d_Y_sealed_26 : decode b_Y_sealed 26 = .ok (.iload_n 2, 1) := by decide +kernel
theorem d_Y_sealed_27 : decode b_Y_sealed 27 = .ok (.bipush 8, 2) := by decide +kernel
theorem d_Y_sealed_29 : decode b_Y_sealed 29 = .ok (.iload 5, 2) := by decide +kernel
theorem d_Y_sealed_31 : decode b_Y_sealed 31 = .ok (.imul, 1) := by decide +kernel
theorem d_Y_sealed_32 : decode b_Y_sealed 32 = .ok (.ishr, 1) := by decide +kernel
theorem d_Y_sealed_33 : decode b_Y_sealed 33 = .ok (.sipush 255, 3) := by decide +kernel
theorem d_Y_sealed_36 : decode b_Y_sealed 36 = .ok (.iand, 1) := by decide +kernel
theorem d_Y_sealed_37 : decode b_Y_sealed 37 = .ok (.invokestatic 80, 3) := by decide +kernel
theorem d_Y_sealed_40 : decode b_Y_sealed 40 = .ok (.istore 4, 2) := by decide +kernel
theorem d_Y_sealed_42 : decode b_Y_sealed 42 = .ok (.iinc 5 (-1), 3) := by decide +kernel
theorem d_Y_sealed_45 : decode b_Y_sealed 45 = .ok (.goto (-26), 3) := by decide +kernel
theorem d_Y_sealed_48 : decode b_Y_sealed 48 = .ok (.iload 4, 2) := by decide +kernel
theorem d_Y_sealed_50 : decode b_Y_sealed 50 = .ok (.ireturn, 1) := by decide +kernel
theorem d_L_law_0 : decode b_L_law 0 = .ok (.new 7, 3) := by decide +kernel
theorem d_L_law_3 : decode b_L_law 3 = .ok (.dup, 1) := by decide +kernel
theorem d_L_law_4 : decode b_L_law 4 = .ok (.aload_n 0, 1) := by decide +kernel
theorem d_L_law_5 : decode b_L_law 5 = .ok (.iconst 0, 1) := by decide +kernel
theorem d_L_law_6 : decode b_L_law 6 = .ok (.invokestatic 9, 3) := by decide +kernel
theorem d_L_law_9 : decode b_L_law 9 = .ok (.invokespecial 15, 3) := by decide +kernel
theorem d_L_law_12 : decode b_L_law 12 = .ok (.astore_n 1, 1) := by decide +kernel
theorem d_L_law_13 : decode b_L_law 13 = .ok (.new 18, 3) := by decide +kernel
theorem d_L_law_16 : decode b_L_law 16 = .ok (.dup, 1) := by decide +kernel
theorem d_L_law_17 : decode b_L_law 17 = .ok (.aload_n 0, 1) := by decide +kernel
theorem d_L_law_18 : decode b_L_law 18 = .ok (.iconst 0, 1) := by decide +kernel
theorem d_L_law_19 : decode b_L_law 19 = .ok (.invokestatic 9, 3) := by decide +kernel
theorem d_L_law_22 : decode b_L_law 22 = .ok (.invokespecial 20, 3) := by decide +kernel
theorem d_L_law_25 : decode b_L_law 25 = .ok (.astore_n 2, 1) := by decide +kernel
theorem d_L_law_26 : decode b_L_law 26 = .ok (.iconst 1, 1) := by decide +kernel
theorem d_L_law_27 : decode b_L_law 27 = .ok (.istore_n 3, 1) := by decide +kernel
theorem d_L_law_28 : decode b_L_law 28 = .ok (.iload_n 3, 1) := by decide +kernel
theorem d_L_law_29 : decode b_L_law 29 = .ok (.aload_n 0, 1) := by decide +kernel
theorem d_L_law_30 : decode b_L_law 30 = .ok (.arraylength, 1) := by decide +kernel
theorem d_L_law_31 : decode b_L_law 31 = .ok (.iconst 4, 1) := by decide +kernel
theorem d_L_law_32 : decode b_L_law 32 = .ok (.isub, 1) := by decide +kernel
theorem d_L_law_33 : decode b_L_law 33 = .ok (.if_icmp .gt 464, 3) := by decide +kernel
theorem d_L_law_36 : decode b_L_law 36 = .ok (.aload_n 0, 1) := by decide +kernel
theorem d_L_law_37 : decode b_L_law 37 = .ok (.iload_n 3, 1) := by decide +kernel
theorem d_L_law_38 : decode b_L_law 38 = .ok (.iaload, 1) := by decide +kernel
theorem d_L_law_39 : decode b_L_law 39 = .ok (.bipush 15, 2) := by decide +kernel
theorem d_L_law_41 : decode b_L_law 41 = .ok (.iand, 1) := by decide +kernel
theorem d_L_law_42 : decode b_L_law 42 = .ok (.tableswitch 449 0 14 #[74, 117, 130, 153, 166, 189, 212, 225, 248, 261, 274, 307, 340, 373, 406], 74) := by decide +kernel
theorem d_L_law_116 : decode b_L_law 116 = .ok (.aload_n 1, 1) := by decide +kernel
theorem d_L_law_117 : decode b_L_law 117 = .ok (.aload_n 0, 1) := by decide +kernel
theorem d_L_law_118 : decode b_L_law 118 = .ok (.iload_n 3, 1) := by decide +kernel
theorem d_L_law_119 : decode b_L_law 119 = .ok (.iconst 1, 1) := by decide +kernel
theorem d_L_law_120 : decode b_L_law 120 = .ok (.iadd, 1) := by decide +kernel
theorem d_L_law_121 : decode b_L_law 121 = .ok (.iaload, 1) := by decide +kernel
theorem d_L_law_122 : decode b_L_law 122 = .ok (.aload_n 0, 1) := by decide +kernel
theorem d_L_law_123 : decode b_L_law 123 = .ok (.iload_n 3, 1) := by decide +kernel
theorem d_L_law_124 : decode b_L_law 124 = .ok (.iconst 2, 1) := by decide +kernel
theorem d_L_law_125 : decode b_L_law 125 = .ok (.iadd, 1) := by decide +kernel
theorem d_L_law_126 : decode b_L_law 126 = .ok (.iaload, 1) := by decide +kernel
theorem d_L_law_127 : decode b_L_law 127 = .ok (.aload_n 0, 1) := by decide +kernel
theorem d_L_law_128 : decode b_L_law 128 = .ok (.iload_n 3, 1) := by decide +kernel
theorem d_L_law_129 : decode b_L_law 129 = .ok (.iconst 3, 1) := by decide +kernel
theorem d_L_law_130 : decode b_L_law 130 = .ok (.iadd, 1) := by decide +kernel
theorem d_L_law_131 : decode b_L_law 131 = .ok (.iaload, 1) := by decide +kernel
theorem d_L_law_132 : decode b_L_law 132 = .ok (.invokevirtual 21, 3) := by decide +kernel
theorem d_L_law_135 : decode b_L_law 135 = .ok (.aload_n 2, 1) := by decide +kernel
theorem d_L_law_136 : decode b_L_law 136 = .ok (.aload_n 0, 1) := by decide +kernel
theorem d_L_law_137 : decode b_L_law 137 = .ok (.iload_n 3, 1) := by decide +kernel
theorem d_L_law_138 : decode b_L_law 138 = .ok (.iconst 1, 1) := by decide +kernel
theorem d_L_law_139 : decode b_L_law 139 = .ok (.iadd, 1) := by decide +kernel
theorem d_L_law_140 : decode b_L_law 140 = .ok (.iaload, 1) := by decide +kernel
theorem d_L_law_141 : decode b_L_law 141 = .ok (.aload_n 0, 1) := by decide +kernel
theorem d_L_law_142 : decode b_L_law 142 = .ok (.iload_n 3, 1) := by decide +kernel
theorem d_L_law_143 : decode b_L_law 143 = .ok (.iconst 2, 1) := by decide +kernel
theorem d_L_law_144 : decode b_L_law 144 = .ok (.iadd, 1) := by decide +kernel
theorem d_L_law_145 : decode b_L_law 145 = .ok (.iaload, 1) := by decide +kernel
theorem d_L_law_146 : decode b_L_law 146 = .ok (.aload_n 0, 1) := by decide +kernel
theorem d_L_law_147 : decode b_L_law 147 = .ok (.iload_n 3, 1) := by decide +kernel
theorem d_L_law_148 : decode b_L_law 148 = .ok (.iconst 3, 1) := by decide +kernel
theorem d_L_law_149 : decode b_L_law 149 = .ok (.iadd, 1) := by decide +kernel
theorem d_L_law_150 : decode b_L_law 150 = .ok (.iaload, 1) := by decide +kernel
theorem d_L_law_151 : decode b_L_law 151 = .ok (.invokevirtual 25, 3) := by decide +kernel
theorem d_L_law_154 : decode b_L_law 154 = .ok (.if_icmp .eq 337, 3) := by decide +kernel
theorem d_L_law_157 : decode b_L_law 157 = .ok (.iconst 0, 1) := by decide +kernel
theorem d_L_law_158 : decode b_L_law 158 = .ok (.ireturn, 1) := by decide +kernel
theorem d_L_law_159 : decode b_L_law 159 = .ok (.aload_n 1, 1) := by decide +kernel
theorem d_L_law_160 : decode b_L_law 160 = .ok (.invokevirtual 26, 3) := by decide +kernel
theorem d_L_law_163 : decode b_L_law 163 = .ok (.aload_n 2, 1) := by decide +kernel
theorem d_L_law_164 : decode b_L_law 164 = .ok (.invokevirtual 30, 3) := by decide +kernel
theorem d_L_law_167 : decode b_L_law 167 = .ok (.if_icmp .eq 324, 3) := by decide +kernel
theorem d_L_law_170 : decode b_L_law 170 = .ok (.iconst 0, 1) := by decide +kernel
theorem d_L_law_171 : decode b_L_law 171 = .ok (.ireturn, 1) := by decide +kernel
theorem d_L_law_172 : decode b_L_law 172 = .ok (.aload_n 1, 1) := by decide +kernel
theorem d_L_law_173 : decode b_L_law 173 = .ok (.aload_n 0, 1) := by decide +kernel
theorem d_L_law_174 : decode b_L_law 174 = .ok (.iload_n 3, 1) := by decide +kernel
theorem d_L_law_175 : decode b_L_law 175 = .ok (.iconst 1, 1) := by decide +kernel
theorem d_L_law_176 : decode b_L_law 176 = .ok (.iadd, 1) := by decide +kernel
theorem d_L_law_177 : decode b_L_law 177 = .ok (.iaload, 1) := by decide +kernel
theorem d_L_law_178 : decode b_L_law 178 = .ok (.invokevirtual 31, 3) := by decide +kernel
theorem d_L_law_181 : decode b_L_law 181 = .ok (.aload_n 2, 1) := by decide +kernel
theorem d_L_law_182 : decode b_L_law 182 = .ok (.aload_n 0, 1) := by decide +kernel
theorem d_L_law_183 : decode b_L_law 183 = .ok (.iload_n 3, 1) := by decide +kernel
theorem d_L_law_184 : decode b_L_law 184 = .ok (.iconst 1, 1) := by decide +kernel
theorem d_L_law_185 : decode b_L_law 185 = .ok (.iadd, 1) := by decide +kernel
theorem d_L_law_186 : decode b_L_law 186 = .ok (.iaload, 1) := by decide +kernel
theorem d_L_law_187 : decode b_L_law 187 = .ok (.invokevirtual 35, 3) := by decide +kernel
theorem d_L_law_190 : decode b_L_law 190 = .ok (.if_icmp .eq 301, 3) := by decide +kernel
theorem d_L_law_193 : decode b_L_law 193 = .ok (.iconst 0, 1) := by decide +kernel
theorem d_L_law_194 : decode b_L_law 194 = .ok (.ireturn, 1) := by decide +kernel
theorem d_L_law_195 : decode b_L_law 195 = .ok (.aload_n 1, 1) := by decide +kernel
theorem d_L_law_196 : decode b_L_law 196 = .ok (.invokevirtual 36, 3) := by decide +kernel
theorem d_L_law_199 : decode b_L_law 199 = .ok (.aload_n 2, 1) := by decide +kernel
theorem d_L_law_200 : decode b_L_law 200 = .ok (.invokevirtual 40, 3) := by decide +kernel
theorem d_L_law_203 : decode b_L_law 203 = .ok (.if_icmp .eq 288, 3) := by decide +kernel
theorem d_L_law_206 : decode b_L_law 206 = .ok (.iconst 0, 1) := by decide +kernel
theorem d_L_law_207 : decode b_L_law 207 = .ok (.ireturn, 1) := by decide +kernel
theorem d_L_law_208 : decode b_L_law 208 = .ok (.aload_n 1, 1) := by decide +kernel
theorem d_L_law_209 : decode b_L_law 209 = .ok (.aload_n 0, 1) := by decide +kernel
theorem d_L_law_210 : decode b_L_law 210 = .ok (.iload_n 3, 1) := by decide +kernel
theorem d_L_law_211 : decode b_L_law 211 = .ok (.iconst 1, 1) := by decide +kernel
theorem d_L_law_212 : decode b_L_law 212 = .ok (.iadd, 1) := by decide +kernel
theorem d_L_law_213 : decode b_L_law 213 = .ok (.iaload, 1) := by decide +kernel
theorem d_L_law_214 : decode b_L_law 214 = .ok (.invokevirtual 41, 3) := by decide +kernel
theorem d_L_law_217 : decode b_L_law 217 = .ok (.aload_n 2, 1) := by decide +kernel
theorem d_L_law_218 : decode b_L_law 218 = .ok (.aload_n 0, 1) := by decide +kernel
theorem d_L_law_219 : decode b_L_law 219 = .ok (.iload_n 3, 1) := by decide +kernel
theorem d_L_law_220 : decode b_L_law 220 = .ok (.iconst 1, 1) := by decide +kernel
theorem d_L_law_221 : decode b_L_law 221 = .ok (.iadd, 1) := by decide +kernel
theorem d_L_law_222 : decode b_L_law 222 = .ok (.iaload, 1) := by decide +kernel
theorem d_L_law_223 : decode b_L_law 223 = .ok (.invokevirtual 45, 3) := by decide +kernel
theorem d_L_law_226 : decode b_L_law 226 = .ok (.if_icmp .eq 265, 3) := by decide +kernel
theorem d_L_law_229 : decode b_L_law 229 = .ok (.iconst 0, 1) := by decide +kernel
theorem d_L_law_230 : decode b_L_law 230 = .ok (.ireturn, 1) := by decide +kernel
theorem d_L_law_231 : decode b_L_law 231 = .ok (.aload_n 1, 1) := by decide +kernel
theorem d_L_law_232 : decode b_L_law 232 = .ok (.aload_n 0, 1) := by decide +kernel
theorem d_L_law_233 : decode b_L_law 233 = .ok (.iload_n 3, 1) := by decide +kernel
theorem d_L_law_234 : decode b_L_law 234 = .ok (.iconst 1, 1) := by decide +kernel
theorem d_L_law_235 : decode b_L_law 235 = .ok (.iadd, 1) := by decide +kernel
theorem d_L_law_236 : decode b_L_law 236 = .ok (.iaload, 1) := by decide +kernel
theorem d_L_law_237 : decode b_L_law 237 = .ok (.invokevirtual 46, 3) := by decide +kernel
theorem d_L_law_240 : decode b_L_law 240 = .ok (.aload_n 2, 1) := by decide +kernel
theorem d_L_law_241 : decode b_L_law 241 = .ok (.aload_n 0, 1) := by decide +kernel
theorem d_L_law_242 : decode b_L_law 242 = .ok (.iload_n 3, 1) := by decide +kernel
theorem d_L_law_243 : decode b_L_law 243 = .ok (.iconst 1, 1) := by decide +kernel
theorem d_L_law_244 : decode b_L_law 244 = .ok (.iadd, 1) := by decide +kernel
theorem d_L_law_245 : decode b_L_law 245 = .ok (.iaload, 1) := by decide +kernel
theorem d_L_law_246 : decode b_L_law 246 = .ok (.invokevirtual 49, 3) := by decide +kernel
theorem d_L_law_249 : decode b_L_law 249 = .ok (.if_icmp .eq 242, 3) := by decide +kernel
theorem d_L_law_252 : decode b_L_law 252 = .ok (.iconst 0, 1) := by decide +kernel
theorem d_L_law_253 : decode b_L_law 253 = .ok (.ireturn, 1) := by decide +kernel
theorem d_L_law_254 : decode b_L_law 254 = .ok (.aload_n 1, 1) := by decide +kernel
theorem d_L_law_255 : decode b_L_law 255 = .ok (.invokevirtual 50, 3) := by decide +kernel
theorem d_L_law_258 : decode b_L_law 258 = .ok (.aload_n 2, 1) := by decide +kernel
theorem d_L_law_259 : decode b_L_law 259 = .ok (.invokevirtual 53, 3) := by decide +kernel
theorem d_L_law_262 : decode b_L_law 262 = .ok (.if_icmp .eq 229, 3) := by decide +kernel
theorem d_L_law_265 : decode b_L_law 265 = .ok (.iconst 0, 1) := by decide +kernel
theorem d_L_law_266 : decode b_L_law 266 = .ok (.ireturn, 1) := by decide +kernel
theorem d_L_law_267 : decode b_L_law 267 = .ok (.aload_n 1, 1) := by decide +kernel
theorem d_L_law_268 : decode b_L_law 268 = .ok (.aload_n 0, 1) := by decide +kernel
theorem d_L_law_269 : decode b_L_law 269 = .ok (.iload_n 3, 1) := by decide +kernel
theorem d_L_law_270 : decode b_L_law 270 = .ok (.iconst 1, 1) := by decide +kernel
theorem d_L_law_271 : decode b_L_law 271 = .ok (.iadd, 1) := by decide +kernel
theorem d_L_law_272 : decode b_L_law 272 = .ok (.iaload, 1) := by decide +kernel
theorem d_L_law_273 : decode b_L_law 273 = .ok (.invokevirtual 54, 3) := by decide +kernel
theorem d_L_law_276 : decode b_L_law 276 = .ok (.aload_n 2, 1) := by decide +kernel
theorem d_L_law_277 : decode b_L_law 277 = .ok (.aload_n 0, 1) := by decide +kernel
theorem d_L_law_278 : decode b_L_law 278 = .ok (.iload_n 3, 1) := by decide +kernel
theorem d_L_law_279 : decode b_L_law 279 = .ok (.iconst 1, 1) := by decide +kernel
theorem d_L_law_280 : decode b_L_law 280 = .ok (.iadd, 1) := by decide +kernel
theorem d_L_law_281 : decode b_L_law 281 = .ok (.iaload, 1) := by decide +kernel
theorem d_L_law_282 : decode b_L_law 282 = .ok (.invokevirtual 57, 3) := by decide +kernel
theorem d_L_law_285 : decode b_L_law 285 = .ok (.if_icmp .eq 206, 3) := by decide +kernel
theorem d_L_law_288 : decode b_L_law 288 = .ok (.iconst 0, 1) := by decide +kernel
theorem d_L_law_289 : decode b_L_law 289 = .ok (.ireturn, 1) := by decide +kernel
theorem d_L_law_290 : decode b_L_law 290 = .ok (.aload_n 1, 1) := by decide +kernel
theorem d_L_law_291 : decode b_L_law 291 = .ok (.invokevirtual 58, 3) := by decide +kernel
theorem d_L_law_294 : decode b_L_law 294 = .ok (.aload_n 2, 1) := by decide +kernel
theorem d_L_law_295 : decode b_L_law 295 = .ok (.invokevirtual 61, 3) := by decide +kernel
theorem d_L_law_298 : decode b_L_law 298 = .ok (.if_icmp .eq 193, 3) := by decide +kernel
theorem d_L_law_301 : decode b_L_law 301 = .ok (.iconst 0, 1) := by decide +kernel
theorem d_L_law_302 : decode b_L_law 302 = .ok (.ireturn, 1) := by decide +kernel
theorem d_L_law_303 : decode b_L_law 303 = .ok (.aload_n 1, 1) := by decide +kernel
theorem d_L_law_304 : decode b_L_law 304 = .ok (.invokevirtual 62, 3) := by decide +kernel
theorem d_L_law_307 : decode b_L_law 307 = .ok (.aload_n 2, 1) := by decide +kernel
theorem d_L_law_308 : decode b_L_law 308 = .ok (.invokevirtual 65, 3) := by decide +kernel
theorem d_L_law_311 : decode b_L_law 311 = .ok (.if_icmp .eq 180, 3) := by decide +kernel
theorem d_L_law_314 : decode b_L_law 314 = .ok (.iconst 0, 1) := by decide +kernel
theorem d_L_law_315 : decode b_L_law 315 = .ok (.ireturn, 1) := by decide +kernel
theorem d_L_law_316 : decode b_L_law 316 = .ok (.aload_n 1, 1) := by decide +kernel
theorem d_L_law_317 : decode b_L_law 317 = .ok (.aload_n 0, 1) := by decide +kernel
theorem d_L_law_318 : decode b_L_law 318 = .ok (.iload_n 3, 1) := by decide +kernel
theorem d_L_law_319 : decode b_L_law 319 = .ok (.iconst 1, 1) := by decide +kernel
theorem d_L_law_320 : decode b_L_law 320 = .ok (.iadd, 1) := by decide +kernel
theorem d_L_law_321 : decode b_L_law 321 = .ok (.iaload, 1) := by decide +kernel
theorem d_L_law_322 : decode b_L_law 322 = .ok (.aload_n 0, 1) := by decide +kernel
theorem d_L_law_323 : decode b_L_law 323 = .ok (.iload_n 3, 1) := by decide +kernel
theorem d_L_law_324 : decode b_L_law 324 = .ok (.iconst 2, 1) := by decide +kernel
theorem d_L_law_325 : decode b_L_law 325 = .ok (.iadd, 1) := by decide +kernel
theorem d_L_law_326 : decode b_L_law 326 = .ok (.iaload, 1) := by decide +kernel
theorem d_L_law_327 : decode b_L_law 327 = .ok (.invokevirtual 66, 3) := by decide +kernel
theorem d_L_law_330 : decode b_L_law 330 = .ok (.aload_n 2, 1) := by decide +kernel
theorem d_L_law_331 : decode b_L_law 331 = .ok (.aload_n 0, 1) := by decide +kernel
theorem d_L_law_332 : decode b_L_law 332 = .ok (.iload_n 3, 1) := by decide +kernel
theorem d_L_law_333 : decode b_L_law 333 = .ok (.iconst 1, 1) := by decide +kernel
theorem d_L_law_334 : decode b_L_law 334 = .ok (.iadd, 1) := by decide +kernel
theorem d_L_law_335 : decode b_L_law 335 = .ok (.iaload, 1) := by decide +kernel
theorem d_L_law_336 : decode b_L_law 336 = .ok (.aload_n 0, 1) := by decide +kernel
theorem d_L_law_337 : decode b_L_law 337 = .ok (.iload_n 3, 1) := by decide +kernel
theorem d_L_law_338 : decode b_L_law 338 = .ok (.iconst 2, 1) := by decide +kernel
theorem d_L_law_339 : decode b_L_law 339 = .ok (.iadd, 1) := by decide +kernel
theorem d_L_law_340 : decode b_L_law 340 = .ok (.iaload, 1) := by decide +kernel
theorem d_L_law_341 : decode b_L_law 341 = .ok (.invokevirtual 70, 3) := by decide +kernel
theorem d_L_law_344 : decode b_L_law 344 = .ok (.if_icmp .eq 147, 3) := by decide +kernel
theorem d_L_law_347 : decode b_L_law 347 = .ok (.iconst 0, 1) := by decide +kernel
theorem d_L_law_348 : decode b_L_law 348 = .ok (.ireturn, 1) := by decide +kernel
theorem d_L_law_349 : decode b_L_law 349 = .ok (.aload_n 1, 1) := by decide +kernel
theorem d_L_law_350 : decode b_L_law 350 = .ok (.aload_n 0, 1) := by decide +kernel
theorem d_L_law_351 : decode b_L_law 351 = .ok (.iload_n 3, 1) := by decide +kernel
theorem d_L_law_352 : decode b_L_law 352 = .ok (.iconst 1, 1) := by decide +kernel
theorem d_L_law_353 : decode b_L_law 353 = .ok (.iadd, 1) := by decide +kernel
theorem d_L_law_354 : decode b_L_law 354 = .ok (.iaload, 1) := by decide +kernel
theorem d_L_law_355 : decode b_L_law 355 = .ok (.aload_n 0, 1) := by decide +kernel
theorem d_L_law_356 : decode b_L_law 356 = .ok (.iload_n 3, 1) := by decide +kernel
theorem d_L_law_357 : decode b_L_law 357 = .ok (.iconst 2, 1) := by decide +kernel
theorem d_L_law_358 : decode b_L_law 358 = .ok (.iadd, 1) := by decide +kernel
theorem d_L_law_359 : decode b_L_law 359 = .ok (.iaload, 1) := by decide +kernel
theorem d_L_law_360 : decode b_L_law 360 = .ok (.invokevirtual 71, 3) := by decide +kernel
theorem d_L_law_363 : decode b_L_law 363 = .ok (.aload_n 2, 1) := by decide +kernel
theorem d_L_law_364 : decode b_L_law 364 = .ok (.aload_n 0, 1) := by decide +kernel
theorem d_L_law_365 : decode b_L_law 365 = .ok (.iload_n 3, 1) := by decide +kernel
theorem d_L_law_366 : decode b_L_law 366 = .ok (.iconst 1, 1) := by decide +kernel
theorem d_L_law_367 : decode b_L_law 367 = .ok (.iadd, 1) := by decide +kernel
theorem d_L_law_368 : decode b_L_law 368 = .ok (.iaload, 1) := by decide +kernel
theorem d_L_law_369 : decode b_L_law 369 = .ok (.aload_n 0, 1) := by decide +kernel
theorem d_L_law_370 : decode b_L_law 370 = .ok (.iload_n 3, 1) := by decide +kernel
theorem d_L_law_371 : decode b_L_law 371 = .ok (.iconst 2, 1) := by decide +kernel
theorem d_L_law_372 : decode b_L_law 372 = .ok (.iadd, 1) := by decide +kernel
theorem d_L_law_373 : decode b_L_law 373 = .ok (.iaload, 1) := by decide +kernel
theorem d_L_law_374 : decode b_L_law 374 = .ok (.invokevirtual 75, 3) := by decide +kernel
theorem d_L_law_377 : decode b_L_law 377 = .ok (.if_icmp .eq 114, 3) := by decide +kernel
theorem d_L_law_380 : decode b_L_law 380 = .ok (.iconst 0, 1) := by decide +kernel
theorem d_L_law_381 : decode b_L_law 381 = .ok (.ireturn, 1) := by decide +kernel
theorem d_L_law_382 : decode b_L_law 382 = .ok (.aload_n 1, 1) := by decide +kernel
theorem d_L_law_383 : decode b_L_law 383 = .ok (.aload_n 0, 1) := by decide +kernel
theorem d_L_law_384 : decode b_L_law 384 = .ok (.iload_n 3, 1) := by decide +kernel
theorem d_L_law_385 : decode b_L_law 385 = .ok (.iconst 1, 1) := by decide +kernel
theorem d_L_law_386 : decode b_L_law 386 = .ok (.iadd, 1) := by decide +kernel
theorem d_L_law_387 : decode b_L_law 387 = .ok (.iaload, 1) := by decide +kernel
theorem d_L_law_388 : decode b_L_law 388 = .ok (.aload_n 0, 1) := by decide +kernel
theorem d_L_law_389 : decode b_L_law 389 = .ok (.iload_n 3, 1) := by decide +kernel
theorem d_L_law_390 : decode b_L_law 390 = .ok (.iconst 2, 1) := by decide +kernel
theorem d_L_law_391 : decode b_L_law 391 = .ok (.iadd, 1) := by decide +kernel
theorem d_L_law_392 : decode b_L_law 392 = .ok (.iaload, 1) := by decide +kernel
theorem d_L_law_393 : decode b_L_law 393 = .ok (.invokevirtual 76, 3) := by decide +kernel
theorem d_L_law_396 : decode b_L_law 396 = .ok (.aload_n 2, 1) := by decide +kernel
theorem d_L_law_397 : decode b_L_law 397 = .ok (.aload_n 0, 1) := by decide +kernel
theorem d_L_law_398 : decode b_L_law 398 = .ok (.iload_n 3, 1) := by decide +kernel
theorem d_L_law_399 : decode b_L_law 399 = .ok (.iconst 1, 1) := by decide +kernel
theorem d_L_law_400 : decode b_L_law 400 = .ok (.iadd, 1) := by decide +kernel
theorem d_L_law_401 : decode b_L_law 401 = .ok (.iaload, 1) := by decide +kernel
theorem d_L_law_402 : decode b_L_law 402 = .ok (.aload_n 0, 1) := by decide +kernel
theorem d_L_law_403 : decode b_L_law 403 = .ok (.iload_n 3, 1) := by decide +kernel
theorem d_L_law_404 : decode b_L_law 404 = .ok (.iconst 2, 1) := by decide +kernel
theorem d_L_law_405 : decode b_L_law 405 = .ok (.iadd, 1) := by decide +kernel
theorem d_L_law_406 : decode b_L_law 406 = .ok (.iaload, 1) := by decide +kernel
theorem d_L_law_407 : decode b_L_law 407 = .ok (.invokevirtual 79, 3) := by decide +kernel
theorem d_L_law_410 : decode b_L_law 410 = .ok (.if_icmp .eq 81, 3) := by decide +kernel
theorem d_L_law_413 : decode b_L_law 413 = .ok (.iconst 0, 1) := by decide +kernel
theorem d_L_law_414 : decode b_L_law 414 = .ok (.ireturn, 1) := by decide +kernel
theorem d_L_law_415 : decode b_L_law 415 = .ok (.aload_n 1, 1) := by decide +kernel
theorem d_L_law_416 : decode b_L_law 416 = .ok (.aload_n 0, 1) := by decide +kernel
theorem d_L_law_417 : decode b_L_law 417 = .ok (.iload_n 3, 1) := by decide +kernel
theorem d_L_law_418 : decode b_L_law 418 = .ok (.iconst 1, 1) := by decide +kernel
theorem d_L_law_419 : decode b_L_law 419 = .ok (.iadd, 1) := by decide +kernel
theorem d_L_law_420 : decode b_L_law 420 = .ok (.iaload, 1) := by decide +kernel
theorem d_L_law_421 : decode b_L_law 421 = .ok (.aload_n 0, 1) := by decide +kernel
theorem d_L_law_422 : decode b_L_law 422 = .ok (.iload_n 3, 1) := by decide +kernel
theorem d_L_law_423 : decode b_L_law 423 = .ok (.iconst 2, 1) := by decide +kernel
theorem d_L_law_424 : decode b_L_law 424 = .ok (.iadd, 1) := by decide +kernel
theorem d_L_law_425 : decode b_L_law 425 = .ok (.iaload, 1) := by decide +kernel
theorem d_L_law_426 : decode b_L_law 426 = .ok (.invokevirtual 80, 3) := by decide +kernel
theorem d_L_law_429 : decode b_L_law 429 = .ok (.aload_n 2, 1) := by decide +kernel
theorem d_L_law_430 : decode b_L_law 430 = .ok (.aload_n 0, 1) := by decide +kernel
theorem d_L_law_431 : decode b_L_law 431 = .ok (.iload_n 3, 1) := by decide +kernel
theorem d_L_law_432 : decode b_L_law 432 = .ok (.iconst 1, 1) := by decide +kernel
theorem d_L_law_433 : decode b_L_law 433 = .ok (.iadd, 1) := by decide +kernel
theorem d_L_law_434 : decode b_L_law 434 = .ok (.iaload, 1) := by decide +kernel
theorem d_L_law_435 : decode b_L_law 435 = .ok (.aload_n 0, 1) := by decide +kernel
theorem d_L_law_436 : decode b_L_law 436 = .ok (.iload_n 3, 1) := by decide +kernel
theorem d_L_law_437 : decode b_L_law 437 = .ok (.iconst 2, 1) := by decide +kernel
theorem d_L_law_438 : decode b_L_law 438 = .ok (.iadd, 1) := by decide +kernel
theorem d_L_law_439 : decode b_L_law 439 = .ok (.iaload, 1) := by decide +kernel
theorem d_L_law_440 : decode b_L_law 440 = .ok (.invokevirtual 82, 3) := by decide +kernel
theorem d_L_law_443 : decode b_L_law 443 = .ok (.if_icmp .eq 48, 3) := by decide +kernel
theorem d_L_law_446 : decode b_L_law 446 = .ok (.iconst 0, 1) := by decide +kernel
theorem d_L_law_447 : decode b_L_law 447 = .ok (.ireturn, 1) := by decide +kernel
theorem d_L_law_448 : decode b_L_law 448 = .ok (.aload_n 1, 1) := by decide +kernel
theorem d_L_law_449 : decode b_L_law 449 = .ok (.aload_n 0, 1) := by decide +kernel
theorem d_L_law_450 : decode b_L_law 450 = .ok (.iload_n 3, 1) := by decide +kernel
theorem d_L_law_451 : decode b_L_law 451 = .ok (.iconst 1, 1) := by decide +kernel
theorem d_L_law_452 : decode b_L_law 452 = .ok (.iadd, 1) := by decide +kernel
theorem d_L_law_453 : decode b_L_law 453 = .ok (.iaload, 1) := by decide +kernel
theorem d_L_law_454 : decode b_L_law 454 = .ok (.aload_n 0, 1) := by decide +kernel
theorem d_L_law_455 : decode b_L_law 455 = .ok (.iload_n 3, 1) := by decide +kernel
theorem d_L_law_456 : decode b_L_law 456 = .ok (.iconst 2, 1) := by decide +kernel
theorem d_L_law_457 : decode b_L_law 457 = .ok (.iadd, 1) := by decide +kernel
theorem d_L_law_458 : decode b_L_law 458 = .ok (.iaload, 1) := by decide +kernel
theorem d_L_law_459 : decode b_L_law 459 = .ok (.aload_n 0, 1) := by decide +kernel
theorem d_L_law_460 : decode b_L_law 460 = .ok (.iload_n 3, 1) := by decide +kernel
theorem d_L_law_461 : decode b_L_law 461 = .ok (.iconst 3, 1) := by decide +kernel
theorem d_L_law_462 : decode b_L_law 462 = .ok (.iadd, 1) := by decide +kernel
theorem d_L_law_463 : decode b_L_law 463 = .ok (.iaload, 1) := by decide +kernel
theorem d_L_law_464 : decode b_L_law 464 = .ok (.invokevirtual 83, 3) := by decide +kernel
theorem d_L_law_467 : decode b_L_law 467 = .ok (.aload_n 2, 1) := by decide +kernel
theorem d_L_law_468 : decode b_L_law 468 = .ok (.aload_n 0, 1) := by decide +kernel
theorem d_L_law_469 : decode b_L_law 469 = .ok (.iload_n 3, 1) := by decide +kernel
theorem d_L_law_470 : decode b_L_law 470 = .ok (.iconst 1, 1) := by decide +kernel
theorem d_L_law_471 : decode b_L_law 471 = .ok (.iadd, 1) := by decide +kernel
theorem d_L_law_472 : decode b_L_law 472 = .ok (.iaload, 1) := by decide +kernel
theorem d_L_law_473 : decode b_L_law 473 = .ok (.aload_n 0, 1) := by decide +kernel
theorem d_L_law_474 : decode b_L_law 474 = .ok (.iload_n 3, 1) := by decide +kernel
theorem d_L_law_475 : decode b_L_law 475 = .ok (.iconst 2, 1) := by decide +kernel
theorem d_L_law_476 : decode b_L_law 476 = .ok (.iadd, 1) := by decide +kernel
theorem d_L_law_477 : decode b_L_law 477 = .ok (.iaload, 1) := by decide +kernel
theorem d_L_law_478 : decode b_L_law 478 = .ok (.aload_n 0, 1) := by decide +kernel
theorem d_L_law_479 : decode b_L_law 479 = .ok (.iload_n 3, 1) := by decide +kernel
theorem d_L_law_480 : decode b_L_law 480 = .ok (.iconst 3, 1) := by decide +kernel
theorem d_L_law_481 : decode b_L_law 481 = .ok (.iadd, 1) := by decide +kernel
theorem d_L_law_482 : decode b_L_law 482 = .ok (.iaload, 1) := by decide +kernel
theorem d_L_law_483 : decode b_L_law 483 = .ok (.invokevirtual 86, 3) := by decide +kernel
theorem d_L_law_486 : decode b_L_law 486 = .ok (.if_icmp .eq 5, 3) := by decide +kernel
theorem d_L_law_489 : decode b_L_law 489 = .ok (.iconst 0, 1) := by decide +kernel
theorem d_L_law_490 : decode b_L_law 490 = .ok (.ireturn, 1) := by decide +kernel
theorem d_L_law_491 : decode b_L_law 491 = .ok (.iinc 3 4, 3) := by decide +kernel
theorem d_L_law_494 : decode b_L_law 494 = .ok (.goto (-466), 3) := by decide +kernel
theorem d_L_law_497 : decode b_L_law 497 = .ok (.iconst 1, 1) := by decide +kernel
theorem d_L_law_498 : decode b_L_law 498 = .ok (.ireturn, 1) := by decide +kernel
end
section
/-! shifts and remainders under names; indices; what 'has' says -/
def zf_ushr (x y : Int32) : Int32 := (x.toUInt32 >>> (y.toUInt32 &&& Int32.toUInt32 31)).toInt32
def zf_shl (x y : Int32) : Int32 := x <<< (y &&& 31)
def zf_shr (x y : Int32) : Int32 := x >>> (y &&& 31)
def zf_rem (x y : Int32) : Int32 := x - x / y * y
def zf_lrem (x y : Int64) : Int64 := x - x / y * y
def zf_lshl (x : Int64) (y : Int32) : Int64 := x <<< (y.toInt64 &&& 63)
def zk_ix3 (x : Int32) : Nat := x.toBitVec.toNat % 2 ^ 2
theorem zk_ix3_eq (x : Int32) : x &&& 3 = nI (zk_ix3 x) := pk_and x 2 (by decide)
theorem zk_ix3_lt (x : Int32) : zk_ix3 x < 4 := Nat.mod_lt _ (by decide)
def zk_ix31 (x : Int32) : Nat := x.toBitVec.toNat % 2 ^ 5
theorem zk_ix31_eq (x : Int32) : x &&& 31 = nI (zk_ix31 x) := pk_and x 5 (by decide)
theorem zk_ix31_lt (x : Int32) : zk_ix31 x < 32 := Nat.mod_lt _ (by decide)
theorem zk_nsub (a k : Nat) : nI (a + k) - nI k = nI a := by rw [pk_sub (Nat.le_add_left k a), Nat.add_sub_cancel]
def zk_hs (r i : Int32) (n : Nat) : Prop := r = 0 ∨ (¬ i < 0 ∧ ¬ nI n ≤ i)
theorem zk_hasN {r : Int32} {q n : Nat} (hf : zk_hs r (nI q) n) (hr : ¬ r = 0) (hq : q < 2 ^ 31) (_hn : n < 2 ^ 31) : q < n := by
  rcases hf with h | ⟨_, h⟩
  · exact absurd h hr
  · exact Nat.lt_of_not_le (fun g => h (nI_le g hq))
theorem zk_hasI {r i : Int32} {n : Nat} (hf : zk_hs r i n) (hr : ¬ r = 0) : i = nI i.toNatClampNeg ∧ i.toNatClampNeg < n := by
  rcases hf with h | ⟨h1, h2⟩
  · exact absurd h hr
  · obtain ⟨j, hj, rfl⟩ := nI_of h1
    rw [nI_clamp hj]
    exact ⟨rfl, Nat.lt_of_not_le (fun g => h2 (nI_le g hj))⟩
theorem zk_hasL {r i : Int32} {n N : Nat} (hf : zk_hs r i n) (hr : ¬ r = 0) (hn : n ≤ N) : i.toNatClampNeg < N := Nat.lt_of_lt_of_le (zk_hasI hf hr).2 hn
theorem zk_iI {i : Int32} (h : ¬ i < 0) : i = nI i.toNatClampNeg := by
  obtain ⟨j, hj, rfl⟩ := nI_of h
  rw [nI_clamp hj]
theorem zk_iLt {i : Int32} (K : Nat) (h : ¬ i < 0) (h2 : ¬ nI K ≤ i) : i.toNatClampNeg < K := by
  obtain ⟨j, hj, rfl⟩ := nI_of h
  rw [nI_clamp hj]
  exact Nat.lt_of_not_le (fun g => h2 (nI_le g hj))
theorem zk_iL {i : Int32} (h : ¬ i < 0) (h2 : ¬ (4 : Int32) ≤ i) : i.toNatClampNeg < 4 := zk_iLt 4 h h2
theorem zk_iL32 {i : Int32} (h : ¬ i < 0) (h2 : ¬ (32 : Int32) ≤ i) : i.toNatClampNeg < 32 := zk_iLt 32 h h2
def zk_b01 (r : Int32) : Prop := r = 0 ∨ r = 1
theorem zk_narB {r : Int32} (h : zk_b01 r) : narrow .boolean (.int r) = .int r := by
  rcases h with rfl | rfl <;> rfl
theorem zk_lt100 {n : Int32} {j : Nat} (h : ¬ (100 : Int32) < n) (h2 : ¬ n ≤ nI j) (hj : j ≤ 100) : j < 100 := by
  rcases Nat.lt_or_eq_of_le hj with g | g
  · exact g
  · subst g
    exact absurd (Int32.not_lt.mp h) h2
theorem zk_dec {i : Int32} (h : ¬ i < 0) : (i + (-1)).toInt = i.toInt - 1 ∧ 0 ≤ i.toInt := by
  obtain ⟨j, hj, rfl⟩ := nI_of h
  rcases j with _ | k
  · decide
  · rw [pk_m1, nI_toInt hj, nI_toInt (by omega)]
    omega
theorem zk_n1 {n : Int32} (h1 : ¬ n < 1) (h2 : n ≤ 4) : (n - 1).toInt < 4 ∧ -1 ≤ (n - 1).toInt ∧ ((n - 1).toInt + 1).toNat < 5 := by
  have e1 : n.toInt ≤ 4 := Int32.le_iff_toInt_le.mp h2
  have e2 : 1 ≤ n.toInt := by
    have := Int32.not_lt.mp h1
    exact Int32.le_iff_toInt_le.mp this
  have : n = 1 ∨ n = 2 ∨ n = 3 ∨ n = 4 := by
    have h : n.toInt = 1 ∨ n.toInt = 2 ∨ n.toInt = 3 ∨ n.toInt = 4 := by omega
    rcases h with h | h | h | h
    · exact Or.inl (Int32.toInt_inj.mp h)
    · exact Or.inr (Or.inl (Int32.toInt_inj.mp h))
    · exact Or.inr (Or.inr (Or.inl (Int32.toInt_inj.mp h)))
    · exact Or.inr (Or.inr (Or.inr (Int32.toInt_inj.mp h)))
  rcases this with rfl | rfl | rfl | rfl <;> decide
theorem zk_fm {ws ws' : va_W} {is : List Nat} (h : is.map (fun i => ws[i]?) = ws'.map some) : is.filterMap (fun i => ws[i]?) = ws' := by
  have h2 : (is.map (fun i => ws[i]?)).filterMap id = (ws'.map some).filterMap id := by rw [h]
  rw [List.filterMap_map, List.filterMap_map] at h2
  simpa using h2
section ZKL
variable {p : Program} {l : Launch} {e : Env} {R : Room} {s : State} {m : MethodId} {args : Array Value} {below : List Frame} {meth : Method} {c : Code} {Q : State → Prop} {A : Nat → Prop} {D : va_G} {cl : List vw_C} {tys : List (ClassId × FieldType)} {nL cells slots pc : Nat} {cc : ByteArray} {Ts : List Cond} {own : String} {ws : va_W} {lv : List (Nat × Value)} {st : List Value}
/-- from every heap that holds the world ws and every locals that hold lv: the machine at pc with the stack st comes to Q -/
def zk_Z (p : Program) (l : Launch) (e : Env) (R : Room) (s : State) (m : MethodId) (args : Array Value) (below : List Frame) (meth : Method) (c : Code) (Q : State → Prop) (A : Nat → Prop) (D : va_G) (cl : List vw_C) (nL cells slots : Nat) (ws : va_W) (lv : List (Nat × Value)) (st : List Value) (pc : Nat) : Prop :=
  ∀ (H : Heap) (locs : List Loc) (ls : Array Slot), va_P D cl ws H → va_D A ws → va_S A s.heap H locs → lv_has ls nL lv → W p l e R s m args below meth c H locs cells slots Q (F0 m pc ls st)
def zk_X (p : Program) (s : State) (m : MethodId) (args : Array Value) (c : Code) (cc : ByteArray) (nL : Nat) (own : String) (Ts : List Cond) (D : va_G) (cl : List vw_C) (tys : List (ClassId × FieldType)) (A : Nat → Prop) : Prop :=
  CallFix p m c cc nL s args Ts own ∧ va_K D cl tys s ∧ (∀ q : Nat, s.heap.size ≤ q → A q) ∧ zk_N s
theorem zk_iconst (X : zk_X p s m args c cc nL own Ts D cl tys A) {n : Int} {v : Int32} (hdg : decode cc pc = .ok (.iconst n, 1)) (hv : Int32.ofInt n = v) (k : zk_Z p l e R s m args below meth c Q A D cl nL cells slots ws lv (.int v :: st) (pc + 1)) : zk_Z p l e R s m args below meth c Q A D cl nL cells slots ws lv st pc := by
  exact fun H locs ls hP hD hS hl => lv_iconst X.1.1 X.1.2.1 hdg hv (k H locs ls hP hD hS hl)
theorem zk_bipush (X : zk_X p s m args c cc nL own Ts D cl tys A) {n : Int} {v : Int32} (hdg : decode cc pc = .ok (.bipush n, 2)) (hv : (Int8.ofInt n).toInt32 = v) (k : zk_Z p l e R s m args below meth c Q A D cl nL cells slots ws lv (.int v :: st) (pc + 2)) : zk_Z p l e R s m args below meth c Q A D cl nL cells slots ws lv st pc := by
  exact fun H locs ls hP hD hS hl => lv_bipush X.1.1 X.1.2.1 hdg hv (k H locs ls hP hD hS hl)
theorem zk_sipush (X : zk_X p s m args c cc nL own Ts D cl tys A) {n : Int} {v : Int32} (hdg : decode cc pc = .ok (.sipush n, 3)) (hv : (Int16.ofInt n).toInt32 = v) (k : zk_Z p l e R s m args below meth c Q A D cl nL cells slots ws lv (.int v :: st) (pc + 3)) : zk_Z p l e R s m args below meth c Q A D cl nL cells slots ws lv st pc := by
  exact fun H locs ls hP hD hS hl => lv_sipush X.1.1 X.1.2.1 hdg hv (k H locs ls hP hD hS hl)
theorem zk_lconst (X : zk_X p s m args c cc nL own Ts D cl tys A) {n : Fin 2} {v : Int64} (hdg : decode cc pc = .ok (.lconst n, 1)) (hv : Int64.ofNat (n : Nat) = v) (k : zk_Z p l e R s m args below meth c Q A D cl nL cells slots ws lv (.long v :: st) (pc + 1)) : zk_Z p l e R s m args below meth c Q A D cl nL cells slots ws lv st pc := by
  exact fun H locs ls hP hD hS hl => lv_lconst X.1.1 X.1.2.1 hdg hv (k H locs ls hP hD hS hl)
theorem zk_iload_n (X : zk_X p s m args c cc nL own Ts D cl tys A) {k0 : Fin 4} {i q : Nat} {x : Int32} (hdg : decode cc pc = .ok (.iload_n k0, 1)) (hi : (k0 : Nat) = i) (hq : lv[q]? = some (i, .int x)) (k : zk_Z p l e R s m args below meth c Q A D cl nL cells slots ws lv (.int x :: st) (pc + 1)) : zk_Z p l e R s m args below meth c Q A D cl nL cells slots ws lv st pc := by
  exact fun H locs ls hP hD hS hl => lv_iload_n X.1.1 X.1.2.1 hdg hi (lv_at hl q hq) (k H locs ls hP hD hS hl)
theorem zk_iload (X : zk_X p s m args c cc nL own Ts D cl tys A) {i q : Nat} {x : Int32} (hdg : decode cc pc = .ok (.iload i, 2)) (hq : lv[q]? = some (i, .int x)) (k : zk_Z p l e R s m args below meth c Q A D cl nL cells slots ws lv (.int x :: st) (pc + 2)) : zk_Z p l e R s m args below meth c Q A D cl nL cells slots ws lv st pc := by
  exact fun H locs ls hP hD hS hl => lv_iload X.1.1 X.1.2.1 hdg (lv_at hl q hq) (k H locs ls hP hD hS hl)
theorem zk_lload_n (X : zk_X p s m args c cc nL own Ts D cl tys A) {k0 : Fin 4} {i q : Nat} {x : Int64} (hdg : decode cc pc = .ok (.lload_n k0, 1)) (hi : (k0 : Nat) = i) (hq : lv[q]? = some (i, .long x)) (k : zk_Z p l e R s m args below meth c Q A D cl nL cells slots ws lv (.long x :: st) (pc + 1)) : zk_Z p l e R s m args below meth c Q A D cl nL cells slots ws lv st pc := by
  exact fun H locs ls hP hD hS hl => lv_lload_n X.1.1 X.1.2.1 hdg hi (lv_at hl q hq) (k H locs ls hP hD hS hl)
theorem zk_lload (X : zk_X p s m args c cc nL own Ts D cl tys A) {i q : Nat} {x : Int64} (hdg : decode cc pc = .ok (.lload i, 2)) (hq : lv[q]? = some (i, .long x)) (k : zk_Z p l e R s m args below meth c Q A D cl nL cells slots ws lv (.long x :: st) (pc + 2)) : zk_Z p l e R s m args below meth c Q A D cl nL cells slots ws lv st pc := by
  exact fun H locs ls hP hD hS hl => lv_lload X.1.1 X.1.2.1 hdg (lv_at hl q hq) (k H locs ls hP hD hS hl)
theorem zk_aload_n (X : zk_X p s m args c cc nL own Ts D cl tys A) {k0 : Fin 4} {i q : Nat} {x : Nat} (hdg : decode cc pc = .ok (.aload_n k0, 1)) (hi : (k0 : Nat) = i) (hq : lv[q]? = some (i, .ref x)) (k : zk_Z p l e R s m args below meth c Q A D cl nL cells slots ws lv (.ref x :: st) (pc + 1)) : zk_Z p l e R s m args below meth c Q A D cl nL cells slots ws lv st pc := by
  exact fun H locs ls hP hD hS hl => lv_aload_n X.1.1 X.1.2.1 hdg hi (lv_at hl q hq) (k H locs ls hP hD hS hl)
theorem zk_aload (X : zk_X p s m args c cc nL own Ts D cl tys A) {i q : Nat} {x : Nat} (hdg : decode cc pc = .ok (.aload i, 2)) (hq : lv[q]? = some (i, .ref x)) (k : zk_Z p l e R s m args below meth c Q A D cl nL cells slots ws lv (.ref x :: st) (pc + 2)) : zk_Z p l e R s m args below meth c Q A D cl nL cells slots ws lv st pc := by
  exact fun H locs ls hP hD hS hl => lv_aload X.1.1 X.1.2.1 hdg (lv_at hl q hq) (k H locs ls hP hD hS hl)
theorem zk_iadd (X : zk_X p s m args c cc nL own Ts D cl tys A) {x y v : Int32} (hdg : decode cc pc = .ok (.iadd, 1)) (hv : x + y = v) (k : zk_Z p l e R s m args below meth c Q A D cl nL cells slots ws lv (.int v :: st) (pc + 1)) : zk_Z p l e R s m args below meth c Q A D cl nL cells slots ws lv (.int y :: .int x :: st) pc := by
  subst hv; exact fun H locs ls hP hD hS hl => lv_iadd X.1.1 X.1.2.1 hdg (k H locs ls hP hD hS hl)
theorem zk_isub (X : zk_X p s m args c cc nL own Ts D cl tys A) {x y v : Int32} (hdg : decode cc pc = .ok (.isub, 1)) (hv : x - y = v) (k : zk_Z p l e R s m args below meth c Q A D cl nL cells slots ws lv (.int v :: st) (pc + 1)) : zk_Z p l e R s m args below meth c Q A D cl nL cells slots ws lv (.int y :: .int x :: st) pc := by
  subst hv; exact fun H locs ls hP hD hS hl => lv_isub X.1.1 X.1.2.1 hdg (k H locs ls hP hD hS hl)
theorem zk_imul (X : zk_X p s m args c cc nL own Ts D cl tys A) {x y v : Int32} (hdg : decode cc pc = .ok (.imul, 1)) (hv : x * y = v) (k : zk_Z p l e R s m args below meth c Q A D cl nL cells slots ws lv (.int v :: st) (pc + 1)) : zk_Z p l e R s m args below meth c Q A D cl nL cells slots ws lv (.int y :: .int x :: st) pc := by
  subst hv; exact fun H locs ls hP hD hS hl => lv_imul X.1.1 X.1.2.1 hdg (k H locs ls hP hD hS hl)
theorem zk_iand (X : zk_X p s m args c cc nL own Ts D cl tys A) {x y v : Int32} (hdg : decode cc pc = .ok (.iand, 1)) (hv : x &&& y = v) (k : zk_Z p l e R s m args below meth c Q A D cl nL cells slots ws lv (.int v :: st) (pc + 1)) : zk_Z p l e R s m args below meth c Q A D cl nL cells slots ws lv (.int y :: .int x :: st) pc := by
  subst hv; exact fun H locs ls hP hD hS hl => lv_iand X.1.1 X.1.2.1 hdg (k H locs ls hP hD hS hl)
theorem zk_ior (X : zk_X p s m args c cc nL own Ts D cl tys A) {x y v : Int32} (hdg : decode cc pc = .ok (.ior, 1)) (hv : x ||| y = v) (k : zk_Z p l e R s m args below meth c Q A D cl nL cells slots ws lv (.int v :: st) (pc + 1)) : zk_Z p l e R s m args below meth c Q A D cl nL cells slots ws lv (.int y :: .int x :: st) pc := by
  subst hv; exact fun H locs ls hP hD hS hl => lv_ior X.1.1 X.1.2.1 hdg (k H locs ls hP hD hS hl)
theorem zk_ixor (X : zk_X p s m args c cc nL own Ts D cl tys A) {x y v : Int32} (hdg : decode cc pc = .ok (.ixor, 1)) (hv : x ^^^ y = v) (k : zk_Z p l e R s m args below meth c Q A D cl nL cells slots ws lv (.int v :: st) (pc + 1)) : zk_Z p l e R s m args below meth c Q A D cl nL cells slots ws lv (.int y :: .int x :: st) pc := by
  subst hv; exact fun H locs ls hP hD hS hl => lv_ixor X.1.1 X.1.2.1 hdg (k H locs ls hP hD hS hl)
theorem zk_ishl (X : zk_X p s m args c cc nL own Ts D cl tys A) {x y v : Int32} (hdg : decode cc pc = .ok (.ishl, 1)) (hv : x <<< (y &&& 31) = v) (k : zk_Z p l e R s m args below meth c Q A D cl nL cells slots ws lv (.int v :: st) (pc + 1)) : zk_Z p l e R s m args below meth c Q A D cl nL cells slots ws lv (.int y :: .int x :: st) pc := by
  subst hv; exact fun H locs ls hP hD hS hl => lv_ishl X.1.1 X.1.2.1 hdg (k H locs ls hP hD hS hl)
theorem zk_ishr (X : zk_X p s m args c cc nL own Ts D cl tys A) {x y v : Int32} (hdg : decode cc pc = .ok (.ishr, 1)) (hv : x >>> (y &&& 31) = v) (k : zk_Z p l e R s m args below meth c Q A D cl nL cells slots ws lv (.int v :: st) (pc + 1)) : zk_Z p l e R s m args below meth c Q A D cl nL cells slots ws lv (.int y :: .int x :: st) pc := by
  subst hv; exact fun H locs ls hP hD hS hl => lv_ishr X.1.1 X.1.2.1 hdg (k H locs ls hP hD hS hl)
theorem zk_iushr (X : zk_X p s m args c cc nL own Ts D cl tys A) {x y v : Int32} (hdg : decode cc pc = .ok (.iushr, 1)) (hv : (x.toUInt32 >>> (y.toUInt32 &&& Int32.toUInt32 31)).toInt32 = v) (k : zk_Z p l e R s m args below meth c Q A D cl nL cells slots ws lv (.int v :: st) (pc + 1)) : zk_Z p l e R s m args below meth c Q A D cl nL cells slots ws lv (.int y :: .int x :: st) pc := by
  exact fun H locs ls hP hD hS hl => lv_iushr X.1.1 X.1.2.1 hdg hv (k H locs ls hP hD hS hl)
theorem zk_irem (X : zk_X p s m args c cc nL own Ts D cl tys A) {x y v : Int32} (hdg : decode cc pc = .ok (.irem, 1)) (hne : ¬ y = 0) (hv : x - x / y * y = v) (k : zk_Z p l e R s m args below meth c Q A D cl nL cells slots ws lv (.int v :: st) (pc + 1)) : zk_Z p l e R s m args below meth c Q A D cl nL cells slots ws lv (.int y :: .int x :: st) pc := by
  subst hv; exact fun H locs ls hP hD hS hl => lv_irem X.1.1 X.1.2.1 hdg hne (k H locs ls hP hD hS hl)
theorem zk_ineg (X : zk_X p s m args c cc nL own Ts D cl tys A) {x v : Int32} (hdg : decode cc pc = .ok (.ineg, 1)) (hv : -x = v) (k : zk_Z p l e R s m args below meth c Q A D cl nL cells slots ws lv (.int v :: st) (pc + 1)) : zk_Z p l e R s m args below meth c Q A D cl nL cells slots ws lv (.int x :: st) pc := by
  subst hv; exact fun H locs ls hP hD hS hl => lv_ineg X.1.1 X.1.2.1 hdg (k H locs ls hP hD hS hl)
theorem zk_ladd (X : zk_X p s m args c cc nL own Ts D cl tys A) {x y v : Int64} (hdg : decode cc pc = .ok (.ladd, 1)) (hv : x + y = v) (k : zk_Z p l e R s m args below meth c Q A D cl nL cells slots ws lv (.long v :: st) (pc + 1)) : zk_Z p l e R s m args below meth c Q A D cl nL cells slots ws lv (.long y :: .long x :: st) pc := by
  subst hv; exact fun H locs ls hP hD hS hl => lv_ladd X.1.1 X.1.2.1 hdg (k H locs ls hP hD hS hl)
theorem zk_lsub (X : zk_X p s m args c cc nL own Ts D cl tys A) {x y v : Int64} (hdg : decode cc pc = .ok (.lsub, 1)) (hv : x - y = v) (k : zk_Z p l e R s m args below meth c Q A D cl nL cells slots ws lv (.long v :: st) (pc + 1)) : zk_Z p l e R s m args below meth c Q A D cl nL cells slots ws lv (.long y :: .long x :: st) pc := by
  subst hv; exact fun H locs ls hP hD hS hl => lv_lsub X.1.1 X.1.2.1 hdg (k H locs ls hP hD hS hl)
theorem zk_lmul (X : zk_X p s m args c cc nL own Ts D cl tys A) {x y v : Int64} (hdg : decode cc pc = .ok (.lmul, 1)) (hv : x * y = v) (k : zk_Z p l e R s m args below meth c Q A D cl nL cells slots ws lv (.long v :: st) (pc + 1)) : zk_Z p l e R s m args below meth c Q A D cl nL cells slots ws lv (.long y :: .long x :: st) pc := by
  subst hv; exact fun H locs ls hP hD hS hl => lv_lmul X.1.1 X.1.2.1 hdg (k H locs ls hP hD hS hl)
theorem zk_land (X : zk_X p s m args c cc nL own Ts D cl tys A) {x y v : Int64} (hdg : decode cc pc = .ok (.land, 1)) (hv : x &&& y = v) (k : zk_Z p l e R s m args below meth c Q A D cl nL cells slots ws lv (.long v :: st) (pc + 1)) : zk_Z p l e R s m args below meth c Q A D cl nL cells slots ws lv (.long y :: .long x :: st) pc := by
  subst hv; exact fun H locs ls hP hD hS hl => lv_land X.1.1 X.1.2.1 hdg (k H locs ls hP hD hS hl)
theorem zk_lor (X : zk_X p s m args c cc nL own Ts D cl tys A) {x y v : Int64} (hdg : decode cc pc = .ok (.lor, 1)) (hv : x ||| y = v) (k : zk_Z p l e R s m args below meth c Q A D cl nL cells slots ws lv (.long v :: st) (pc + 1)) : zk_Z p l e R s m args below meth c Q A D cl nL cells slots ws lv (.long y :: .long x :: st) pc := by
  subst hv; exact fun H locs ls hP hD hS hl => lv_lor X.1.1 X.1.2.1 hdg (k H locs ls hP hD hS hl)
theorem zk_ldiv (X : zk_X p s m args c cc nL own Ts D cl tys A) {x y v : Int64} (hdg : decode cc pc = .ok (.ldiv, 1)) (hne : ¬ y = 0) (hv : x / y = v) (k : zk_Z p l e R s m args below meth c Q A D cl nL cells slots ws lv (.long v :: st) (pc + 1)) : zk_Z p l e R s m args below meth c Q A D cl nL cells slots ws lv (.long y :: .long x :: st) pc := by
  subst hv; exact fun H locs ls hP hD hS hl => lv_ldiv X.1.1 X.1.2.1 hdg hne (k H locs ls hP hD hS hl)
theorem zk_lrem (X : zk_X p s m args c cc nL own Ts D cl tys A) {x y v : Int64} (hdg : decode cc pc = .ok (.lrem, 1)) (hne : ¬ y = 0) (hv : x - x / y * y = v) (k : zk_Z p l e R s m args below meth c Q A D cl nL cells slots ws lv (.long v :: st) (pc + 1)) : zk_Z p l e R s m args below meth c Q A D cl nL cells slots ws lv (.long y :: .long x :: st) pc := by
  subst hv; exact fun H locs ls hP hD hS hl => lv_lrem X.1.1 X.1.2.1 hdg hne (k H locs ls hP hD hS hl)
theorem zk_lshl (X : zk_X p s m args c cc nL own Ts D cl tys A) {x v : Int64} {y : Int32} (hdg : decode cc pc = .ok (.lshl, 1)) (hv : x <<< (y.toInt64 &&& 63) = v) (k : zk_Z p l e R s m args below meth c Q A D cl nL cells slots ws lv (.long v :: st) (pc + 1)) : zk_Z p l e R s m args below meth c Q A D cl nL cells slots ws lv (.int y :: .long x :: st) pc := by
  exact fun H locs ls hP hD hS hl => lv_lshl X.1.1 X.1.2.1 hdg hv (k H locs ls hP hD hS hl)
theorem zk_i2l (X : zk_X p s m args c cc nL own Ts D cl tys A) {x : Int32} {v : Int64} (hdg : decode cc pc = .ok (.i2l, 1)) (hv : x.toInt64 = v) (k : zk_Z p l e R s m args below meth c Q A D cl nL cells slots ws lv (.long v :: st) (pc + 1)) : zk_Z p l e R s m args below meth c Q A D cl nL cells slots ws lv (.int x :: st) pc := by
  exact fun H locs ls hP hD hS hl => lv_i2l X.1.1 X.1.2.1 hdg hv (k H locs ls hP hD hS hl)
theorem zk_l2i (X : zk_X p s m args c cc nL own Ts D cl tys A) {x : Int64} {v : Int32} (hdg : decode cc pc = .ok (.l2i, 1)) (hv : x.toInt32 = v) (k : zk_Z p l e R s m args below meth c Q A D cl nL cells slots ws lv (.int v :: st) (pc + 1)) : zk_Z p l e R s m args below meth c Q A D cl nL cells slots ws lv (.long x :: st) pc := by
  exact fun H locs ls hP hD hS hl => lv_l2i X.1.1 X.1.2.1 hdg hv (k H locs ls hP hD hS hl)
theorem zk_lcmp (X : zk_X p s m args c cc nL own Ts D cl tys A) {x y : Int64} {v : Int32} (hdg : decode cc pc = .ok (.lcmp, 1)) (hv : lg_cmp x y = v) (k : zk_Z p l e R s m args below meth c Q A D cl nL cells slots ws lv (.int v :: st) (pc + 1)) : zk_Z p l e R s m args below meth c Q A D cl nL cells slots ws lv (.long y :: .long x :: st) pc := by
  subst hv; exact fun H locs ls hP hD hS hl => W.lcmp X.1.1 X.1.2.1 hdg (k H locs ls hP hD hS hl)
theorem zk_dup (X : zk_X p s m args c cc nL own Ts D cl tys A) {va : Value} (hdg : decode cc pc = .ok (.dup, 1)) (hc : va.category = 1) (k : zk_Z p l e R s m args below meth c Q A D cl nL cells slots ws lv (va :: va :: st) (pc + 1)) : zk_Z p l e R s m args below meth c Q A D cl nL cells slots ws lv (va :: st) pc := by
  exact fun H locs ls hP hD hS hl => lv_dup X.1.1 X.1.2.1 hdg hc (k H locs ls hP hD hS hl)
theorem zk_pop (X : zk_X p s m args c cc nL own Ts D cl tys A) {va : Value} (hdg : decode cc pc = .ok (.pop, 1)) (hc : va.category = 1) (k : zk_Z p l e R s m args below meth c Q A D cl nL cells slots ws lv st (pc + 1)) : zk_Z p l e R s m args below meth c Q A D cl nL cells slots ws lv (va :: st) pc := by
  exact fun H locs ls hP hD hS hl => lv_pop X.1.1 X.1.2.1 hdg hc (k H locs ls hP hD hS hl)
theorem zk_dup_x1 (X : zk_X p s m args c cc nL own Ts D cl tys A) {va vb : Value} (hdg : decode cc pc = .ok (.dup_x1, 1)) (hc : va.category = 1) (hd : vb.category = 1) (k : zk_Z p l e R s m args below meth c Q A D cl nL cells slots ws lv (va :: vb :: va :: st) (pc + 1)) : zk_Z p l e R s m args below meth c Q A D cl nL cells slots ws lv (va :: vb :: st) pc := by
  exact fun H locs ls hP hD hS hl => lv_dup_x1 X.1.1 X.1.2.1 hdg hc hd (k H locs ls hP hD hS hl)
theorem zk_dup2 (X : zk_X p s m args c cc nL own Ts D cl tys A) {va vb : Value} (hdg : decode cc pc = .ok (.dup2, 1)) (hc : va.category = 1) (hd : vb.category = 1) (k : zk_Z p l e R s m args below meth c Q A D cl nL cells slots ws lv (va :: vb :: va :: vb :: st) (pc + 1)) : zk_Z p l e R s m args below meth c Q A D cl nL cells slots ws lv (va :: vb :: st) pc := by
  exact fun H locs ls hP hD hS hl => lv_dup2_11 X.1.1 X.1.2.1 hdg hc hd (k H locs ls hP hD hS hl)
theorem zk_ldc (X : zk_X p s m args c cc nL own Ts D cl tys A) {index : Nat} {v : Int32} (hdg : decode cc pc = .ok (.ldc index, 2)) (hw : Cond.constant own index v ∈ Ts) (k : zk_Z p l e R s m args below meth c Q A D cl nL cells slots ws lv (.int v :: st) (pc + 2)) : zk_Z p l e R s m args below meth c Q A D cl nL cells slots ws lv st pc := by
  exact fun H locs ls hP hD hS hl => lv_ldc X.1.1 X.1.2.1 X.1.2.2.2.1 (X.1.2.2.2.2 _ hw) hdg (k H locs ls hP hD hS hl)
theorem zk_ldc2 (X : zk_X p s m args c cc nL own Ts D cl tys A) {index : Nat} {v : Int64} (hdg : decode cc pc = .ok (.ldc2_w index, 3)) (hw : Cond.constantLong own index v ∈ Ts) (k : zk_Z p l e R s m args below meth c Q A D cl nL cells slots ws lv (.long v :: st) (pc + 3)) : zk_Z p l e R s m args below meth c Q A D cl nL cells slots ws lv st pc := by
  exact fun H locs ls hP hD hS hl => lv_ldc2 X.1.1 X.1.2.1 X.1.2.2.2.1 (X.1.2.2.2.2 _ hw) hdg (k H locs ls hP hD hS hl)
theorem zk_null (X : zk_X p s m args c cc nL own Ts D cl tys A)  (hdg : decode cc pc = .ok (.aconst_null, 1))  (k : zk_Z p l e R s m args below meth c Q A D cl nL cells slots ws lv (.null :: st) (pc + 1)) : zk_Z p l e R s m args below meth c Q A D cl nL cells slots ws lv st pc := by
  exact fun H locs ls hP hD hS hl => lv_null X.1.1 X.1.2.1 hdg (k H locs ls hP hD hS hl)
theorem zk_aload_nN (X : zk_X p s m args c cc nL own Ts D cl tys A) {k0 : Fin 4} {i q : Nat} (hdg : decode cc pc = .ok (.aload_n k0, 1)) (hi : (k0 : Nat) = i) (hq : lv[q]? = some (i, .null)) (k : zk_Z p l e R s m args below meth c Q A D cl nL cells slots ws lv (.null :: st) (pc + 1)) : zk_Z p l e R s m args below meth c Q A D cl nL cells slots ws lv st pc := by
  exact fun H locs ls hP hD hS hl => lv_aload_nN X.1.1 X.1.2.1 hdg hi (lv_at hl q hq) (k H locs ls hP hD hS hl)
theorem zk_istore_n (X : zk_X p s m args c cc nL own Ts D cl tys A) {k0 : Fin 4} {i : Nat} {x : Int32} {lv' : List (Nat × Value)} (hdg : decode cc pc = .ok (.istore_n k0, 1)) (hi : (k0 : Nat) = i) (hn : i < nL) (hl : (i, Value.int x) :: lv.filter (fun q => !(q.1 == i) && !(q.1 + 1 == i && q.2.category == 2)) = lv') (k : zk_Z p l e R s m args below meth c Q A D cl nL cells slots ws lv' st (pc + 1)) : zk_Z p l e R s m args below meth c Q A D cl nL cells slots ws lv (Value.int x :: st) pc :=
  fun H locs ls hP hD hS hl0 => lv_istore_n X.1.1 X.1.2.1 hdg hi hl0 hn hl (fun ls' h => k H locs ls' hP hD hS h)
theorem zk_istore (X : zk_X p s m args c cc nL own Ts D cl tys A)  {i : Nat} {x : Int32} {lv' : List (Nat × Value)} (hdg : decode cc pc = .ok (.istore i, 2))  (hn : i < nL) (hl : (i, Value.int x) :: lv.filter (fun q => !(q.1 == i) && !(q.1 + 1 == i && q.2.category == 2)) = lv') (k : zk_Z p l e R s m args below meth c Q A D cl nL cells slots ws lv' st (pc + 2)) : zk_Z p l e R s m args below meth c Q A D cl nL cells slots ws lv (Value.int x :: st) pc :=
  fun H locs ls hP hD hS hl0 => lv_istore X.1.1 X.1.2.1 hdg  hl0 hn hl (fun ls' h => k H locs ls' hP hD hS h)
theorem zk_lstore_n (X : zk_X p s m args c cc nL own Ts D cl tys A) {k0 : Fin 4} {i : Nat} {x : Int64} {lv' : List (Nat × Value)} (hdg : decode cc pc = .ok (.lstore_n k0, 1)) (hi : (k0 : Nat) = i) (hn : i + 1 < nL) (hl : (i, Value.long x) :: lv.filter (fun q => !(q.1 == i) && (!(q.1 == i + 1) && !(q.1 + 1 == i && q.2.category == 2))) = lv') (k : zk_Z p l e R s m args below meth c Q A D cl nL cells slots ws lv' st (pc + 1)) : zk_Z p l e R s m args below meth c Q A D cl nL cells slots ws lv (Value.long x :: st) pc :=
  fun H locs ls hP hD hS hl0 => lv_lstore_n X.1.1 X.1.2.1 hdg hi hl0 hn hl (fun ls' h => k H locs ls' hP hD hS h)
theorem zk_lstore (X : zk_X p s m args c cc nL own Ts D cl tys A)  {i : Nat} {x : Int64} {lv' : List (Nat × Value)} (hdg : decode cc pc = .ok (.lstore i, 2))  (hn : i + 1 < nL) (hl : (i, Value.long x) :: lv.filter (fun q => !(q.1 == i) && (!(q.1 == i + 1) && !(q.1 + 1 == i && q.2.category == 2))) = lv') (k : zk_Z p l e R s m args below meth c Q A D cl nL cells slots ws lv' st (pc + 2)) : zk_Z p l e R s m args below meth c Q A D cl nL cells slots ws lv (Value.long x :: st) pc :=
  fun H locs ls hP hD hS hl0 => lv_lstore X.1.1 X.1.2.1 hdg  hl0 hn hl (fun ls' h => k H locs ls' hP hD hS h)
theorem zk_astore_n (X : zk_X p s m args c cc nL own Ts D cl tys A) {k0 : Fin 4} {i : Nat} {x : Nat} {lv' : List (Nat × Value)} (hdg : decode cc pc = .ok (.astore_n k0, 1)) (hi : (k0 : Nat) = i) (hn : i < nL) (hl : (i, Value.ref x) :: lv.filter (fun q => !(q.1 == i) && !(q.1 + 1 == i && q.2.category == 2)) = lv') (k : zk_Z p l e R s m args below meth c Q A D cl nL cells slots ws lv' st (pc + 1)) : zk_Z p l e R s m args below meth c Q A D cl nL cells slots ws lv (Value.ref x :: st) pc :=
  fun H locs ls hP hD hS hl0 => lv_astore_n X.1.1 X.1.2.1 hdg hi hl0 hn hl (fun ls' h => k H locs ls' hP hD hS h)
theorem zk_astore (X : zk_X p s m args c cc nL own Ts D cl tys A)  {i : Nat} {x : Nat} {lv' : List (Nat × Value)} (hdg : decode cc pc = .ok (.astore i, 2))  (hn : i < nL) (hl : (i, Value.ref x) :: lv.filter (fun q => !(q.1 == i) && !(q.1 + 1 == i && q.2.category == 2)) = lv') (k : zk_Z p l e R s m args below meth c Q A D cl nL cells slots ws lv' st (pc + 2)) : zk_Z p l e R s m args below meth c Q A D cl nL cells slots ws lv (Value.ref x :: st) pc :=
  fun H locs ls hP hD hS hl0 => lv_astore X.1.1 X.1.2.1 hdg  hl0 hn hl (fun ls' h => k H locs ls' hP hD hS h)
theorem zk_astore_nN (X : zk_X p s m args c cc nL own Ts D cl tys A) {k0 : Fin 4} {i : Nat} {lv' : List (Nat × Value)} (hdg : decode cc pc = .ok (.astore_n k0, 1)) (hi : (k0 : Nat) = i) (hn : i < nL) (hl : (i, Value.null) :: lv.filter (fun q => !(q.1 == i) && !(q.1 + 1 == i && q.2.category == 2)) = lv') (k : zk_Z p l e R s m args below meth c Q A D cl nL cells slots ws lv' st (pc + 1)) : zk_Z p l e R s m args below meth c Q A D cl nL cells slots ws lv (.null :: st) pc :=
  fun H locs ls hP hD hS hl0 => lv_astore_nN X.1.1 X.1.2.1 hdg hi hl0 hn hl (fun ls' h => k H locs ls' hP hD hS h)
theorem zk_top {v v' : Value} (h : v = v') (k : zk_Z p l e R s m args below meth c Q A D cl nL cells slots ws lv (v' :: st) pc) : zk_Z p l e R s m args below meth c Q A D cl nL cells slots ws lv (v :: st) pc := by subst h; exact k
theorem zk_iinc (X : zk_X p s m args c cc nL own Ts D cl tys A) {i k0 : Nat} {n : Int} {x v : Int32} {lv' : List (Nat × Value)} (hdg : decode cc pc = .ok (.iinc i n, 3)) (hk : lv[k0]? = some (i, .int x)) (hv : x + Int32.ofInt n = v) (hn : i < nL) (hl : (i, Value.int v) :: lv.filter (fun q => !(q.1 == i) && !(q.1 + 1 == i && q.2.category == 2)) = lv') (k : zk_Z p l e R s m args below meth c Q A D cl nL cells slots ws lv' st (pc + 3)) : zk_Z p l e R s m args below meth c Q A D cl nL cells slots ws lv st pc :=
  fun H locs ls hP hD hS hl0 => lv_iinc X.1.1 X.1.2.1 hdg hl0 hk hv hn hl (fun ls' h => k H locs ls' hP hD hS h)
theorem zk_goto (X : zk_X p s m args c cc nL own Ts D cl tys A) {off : Int} {tgt : Nat} (hdg : decode cc pc = .ok (.goto off, 3)) (ht : (pc : Int) + off = (tgt : Int)) (k : zk_Z p l e R s m args below meth c Q A D cl nL cells slots ws lv st tgt) : zk_Z p l e R s m args below meth c Q A D cl nL cells slots ws lv st pc :=
  fun H locs ls hP hD hS hl => lv_goto X.1.1 X.1.2.1 hdg ht (k H locs ls hP hD hS hl)
theorem zk_if_eq (X : zk_X p s m args c cc nL own Ts D cl tys A) {x : Int32} {off : Int} {tgt : Nat} (hdg : decode cc pc = .ok (.ifCond .eq off, 3)) (ht : (pc : Int) + off = (tgt : Int)) (kt : x = 0 → zk_Z p l e R s m args below meth c Q A D cl nL cells slots ws lv st tgt) (kf : ¬ x = 0 → zk_Z p l e R s m args below meth c Q A D cl nL cells slots ws lv st (pc + 3)) : zk_Z p l e R s m args below meth c Q A D cl nL cells slots ws lv (.int x :: st) pc :=
  fun H locs ls hP hD hS hl => lv_if_eq X.1.1 X.1.2.1 hdg ht (fun h => kt h H locs ls hP hD hS hl) (fun h => kf h H locs ls hP hD hS hl)
theorem zk_icmp_eq (X : zk_X p s m args c cc nL own Ts D cl tys A) {x y : Int32} {off : Int} {tgt : Nat} (hdg : decode cc pc = .ok (.if_icmp .eq off, 3)) (ht : (pc : Int) + off = (tgt : Int)) (kt : x = y → zk_Z p l e R s m args below meth c Q A D cl nL cells slots ws lv st tgt) (kf : ¬ x = y → zk_Z p l e R s m args below meth c Q A D cl nL cells slots ws lv st (pc + 3)) : zk_Z p l e R s m args below meth c Q A D cl nL cells slots ws lv (.int y :: .int x :: st) pc :=
  fun H locs ls hP hD hS hl => lv_icmp_eq X.1.1 X.1.2.1 hdg ht (fun h => kt h H locs ls hP hD hS hl) (fun h => kf h H locs ls hP hD hS hl)
theorem zk_icmpN_eq (X : zk_X p s m args c cc nL own Ts D cl tys A) {x y : Int32} {off : Int} {tgt : Nat} (a b : Nat) (hx : x = nI a) (hy : y = nI b) (ha : a < 2 ^ 31) (hb : b < 2 ^ 31) (hdg : decode cc pc = .ok (.if_icmp .eq off, 3)) (ht : (pc : Int) + off = (tgt : Int)) (kt : a = b → zk_Z p l e R s m args below meth c Q A D cl nL cells slots ws lv st tgt) (kf : ¬ a = b → zk_Z p l e R s m args below meth c Q A D cl nL cells slots ws lv st (pc + 3)) : zk_Z p l e R s m args below meth c Q A D cl nL cells slots ws lv (.int y :: .int x :: st) pc := by
  subst hx; subst hy
  exact zk_icmp_eq X hdg ht (fun h => kt ((nI_eq ha hb).mp h)) (fun h => kf (fun g => h ((nI_eq ha hb).mpr g)))
theorem zk_ifN_eq (X : zk_X p s m args c cc nL own Ts D cl tys A) {x : Int32} {off : Int} {tgt : Nat} (a : Nat) (hx : x = nI a) (ha : a < 2 ^ 31) (hdg : decode cc pc = .ok (.ifCond .eq off, 3)) (ht : (pc : Int) + off = (tgt : Int)) (kt : a = 0 → zk_Z p l e R s m args below meth c Q A D cl nL cells slots ws lv st tgt) (kf : ¬ a = 0 → zk_Z p l e R s m args below meth c Q A D cl nL cells slots ws lv st (pc + 3)) : zk_Z p l e R s m args below meth c Q A D cl nL cells slots ws lv (.int x :: st) pc := by
  subst hx
  exact zk_if_eq X hdg ht (fun h => kt ((nI_eq (b := 0) ha (by decide)).mp h)) (fun h => kf (fun g => h ((nI_eq (b := 0) ha (by decide)).mpr g)))
theorem zk_if_ne (X : zk_X p s m args c cc nL own Ts D cl tys A) {x : Int32} {off : Int} {tgt : Nat} (hdg : decode cc pc = .ok (.ifCond .ne off, 3)) (ht : (pc : Int) + off = (tgt : Int)) (kt : ¬ x = 0 → zk_Z p l e R s m args below meth c Q A D cl nL cells slots ws lv st tgt) (kf : x = 0 → zk_Z p l e R s m args below meth c Q A D cl nL cells slots ws lv st (pc + 3)) : zk_Z p l e R s m args below meth c Q A D cl nL cells slots ws lv (.int x :: st) pc :=
  fun H locs ls hP hD hS hl => lv_if_ne X.1.1 X.1.2.1 hdg ht (fun h => kt h H locs ls hP hD hS hl) (fun h => kf h H locs ls hP hD hS hl)
theorem zk_icmp_ne (X : zk_X p s m args c cc nL own Ts D cl tys A) {x y : Int32} {off : Int} {tgt : Nat} (hdg : decode cc pc = .ok (.if_icmp .ne off, 3)) (ht : (pc : Int) + off = (tgt : Int)) (kt : ¬ x = y → zk_Z p l e R s m args below meth c Q A D cl nL cells slots ws lv st tgt) (kf : x = y → zk_Z p l e R s m args below meth c Q A D cl nL cells slots ws lv st (pc + 3)) : zk_Z p l e R s m args below meth c Q A D cl nL cells slots ws lv (.int y :: .int x :: st) pc :=
  fun H locs ls hP hD hS hl => lv_icmp_ne X.1.1 X.1.2.1 hdg ht (fun h => kt h H locs ls hP hD hS hl) (fun h => kf h H locs ls hP hD hS hl)
theorem zk_icmpN_ne (X : zk_X p s m args c cc nL own Ts D cl tys A) {x y : Int32} {off : Int} {tgt : Nat} (a b : Nat) (hx : x = nI a) (hy : y = nI b) (ha : a < 2 ^ 31) (hb : b < 2 ^ 31) (hdg : decode cc pc = .ok (.if_icmp .ne off, 3)) (ht : (pc : Int) + off = (tgt : Int)) (kt : ¬ a = b → zk_Z p l e R s m args below meth c Q A D cl nL cells slots ws lv st tgt) (kf : a = b → zk_Z p l e R s m args below meth c Q A D cl nL cells slots ws lv st (pc + 3)) : zk_Z p l e R s m args below meth c Q A D cl nL cells slots ws lv (.int y :: .int x :: st) pc := by
  subst hx; subst hy
  exact zk_icmp_ne X hdg ht (fun h => kt (fun g => h ((nI_eq ha hb).mpr g))) (fun h => kf ((nI_eq ha hb).mp h))
theorem zk_ifN_ne (X : zk_X p s m args c cc nL own Ts D cl tys A) {x : Int32} {off : Int} {tgt : Nat} (a : Nat) (hx : x = nI a) (ha : a < 2 ^ 31) (hdg : decode cc pc = .ok (.ifCond .ne off, 3)) (ht : (pc : Int) + off = (tgt : Int)) (kt : ¬ a = 0 → zk_Z p l e R s m args below meth c Q A D cl nL cells slots ws lv st tgt) (kf : a = 0 → zk_Z p l e R s m args below meth c Q A D cl nL cells slots ws lv st (pc + 3)) : zk_Z p l e R s m args below meth c Q A D cl nL cells slots ws lv (.int x :: st) pc := by
  subst hx
  exact zk_if_ne X hdg ht (fun h => kt (fun g => h ((nI_eq (b := 0) ha (by decide)).mpr g))) (fun h => kf ((nI_eq (b := 0) ha (by decide)).mp h))
theorem zk_if_lt (X : zk_X p s m args c cc nL own Ts D cl tys A) {x : Int32} {off : Int} {tgt : Nat} (hdg : decode cc pc = .ok (.ifCond .lt off, 3)) (ht : (pc : Int) + off = (tgt : Int)) (kt : x < 0 → zk_Z p l e R s m args below meth c Q A D cl nL cells slots ws lv st tgt) (kf : ¬ x < 0 → zk_Z p l e R s m args below meth c Q A D cl nL cells slots ws lv st (pc + 3)) : zk_Z p l e R s m args below meth c Q A D cl nL cells slots ws lv (.int x :: st) pc :=
  fun H locs ls hP hD hS hl => lv_if_lt X.1.1 X.1.2.1 hdg ht (fun h => kt h H locs ls hP hD hS hl) (fun h => kf h H locs ls hP hD hS hl)
theorem zk_icmp_lt (X : zk_X p s m args c cc nL own Ts D cl tys A) {x y : Int32} {off : Int} {tgt : Nat} (hdg : decode cc pc = .ok (.if_icmp .lt off, 3)) (ht : (pc : Int) + off = (tgt : Int)) (kt : x < y → zk_Z p l e R s m args below meth c Q A D cl nL cells slots ws lv st tgt) (kf : ¬ x < y → zk_Z p l e R s m args below meth c Q A D cl nL cells slots ws lv st (pc + 3)) : zk_Z p l e R s m args below meth c Q A D cl nL cells slots ws lv (.int y :: .int x :: st) pc :=
  fun H locs ls hP hD hS hl => lv_icmp_lt X.1.1 X.1.2.1 hdg ht (fun h => kt h H locs ls hP hD hS hl) (fun h => kf h H locs ls hP hD hS hl)
theorem zk_icmpN_lt (X : zk_X p s m args c cc nL own Ts D cl tys A) {x y : Int32} {off : Int} {tgt : Nat} (a b : Nat) (hx : x = nI a) (hy : y = nI b) (ha : a < 2 ^ 31) (hb : b < 2 ^ 31) (hdg : decode cc pc = .ok (.if_icmp .lt off, 3)) (ht : (pc : Int) + off = (tgt : Int)) (kt : a < b → zk_Z p l e R s m args below meth c Q A D cl nL cells slots ws lv st tgt) (kf : ¬ a < b → zk_Z p l e R s m args below meth c Q A D cl nL cells slots ws lv st (pc + 3)) : zk_Z p l e R s m args below meth c Q A D cl nL cells slots ws lv (.int y :: .int x :: st) pc := by
  subst hx; subst hy
  exact zk_icmp_lt X hdg ht (fun h => kt ((nI_ltI ha hb).mp h)) (fun h => kf (fun g => h ((nI_ltI ha hb).mpr g)))
theorem zk_ifN_lt (X : zk_X p s m args c cc nL own Ts D cl tys A) {x : Int32} {off : Int} {tgt : Nat} (a : Nat) (hx : x = nI a) (ha : a < 2 ^ 31) (hdg : decode cc pc = .ok (.ifCond .lt off, 3)) (ht : (pc : Int) + off = (tgt : Int)) (kt : a < 0 → zk_Z p l e R s m args below meth c Q A D cl nL cells slots ws lv st tgt) (kf : ¬ a < 0 → zk_Z p l e R s m args below meth c Q A D cl nL cells slots ws lv st (pc + 3)) : zk_Z p l e R s m args below meth c Q A D cl nL cells slots ws lv (.int x :: st) pc := by
  subst hx
  exact zk_if_lt X hdg ht (fun h => kt ((nI_ltI (b := 0) ha (by decide)).mp h)) (fun h => kf (fun g => h ((nI_ltI (b := 0) ha (by decide)).mpr g)))
theorem zk_if_ge (X : zk_X p s m args c cc nL own Ts D cl tys A) {x : Int32} {off : Int} {tgt : Nat} (hdg : decode cc pc = .ok (.ifCond .ge off, 3)) (ht : (pc : Int) + off = (tgt : Int)) (kt : 0 ≤ x → zk_Z p l e R s m args below meth c Q A D cl nL cells slots ws lv st tgt) (kf : ¬ 0 ≤ x → zk_Z p l e R s m args below meth c Q A D cl nL cells slots ws lv st (pc + 3)) : zk_Z p l e R s m args below meth c Q A D cl nL cells slots ws lv (.int x :: st) pc :=
  fun H locs ls hP hD hS hl => lv_if_ge X.1.1 X.1.2.1 hdg ht (fun h => kt h H locs ls hP hD hS hl) (fun h => kf h H locs ls hP hD hS hl)
theorem zk_icmp_ge (X : zk_X p s m args c cc nL own Ts D cl tys A) {x y : Int32} {off : Int} {tgt : Nat} (hdg : decode cc pc = .ok (.if_icmp .ge off, 3)) (ht : (pc : Int) + off = (tgt : Int)) (kt : y ≤ x → zk_Z p l e R s m args below meth c Q A D cl nL cells slots ws lv st tgt) (kf : ¬ y ≤ x → zk_Z p l e R s m args below meth c Q A D cl nL cells slots ws lv st (pc + 3)) : zk_Z p l e R s m args below meth c Q A D cl nL cells slots ws lv (.int y :: .int x :: st) pc :=
  fun H locs ls hP hD hS hl => lv_icmp_ge X.1.1 X.1.2.1 hdg ht (fun h => kt h H locs ls hP hD hS hl) (fun h => kf h H locs ls hP hD hS hl)
theorem zk_icmpN_ge (X : zk_X p s m args c cc nL own Ts D cl tys A) {x y : Int32} {off : Int} {tgt : Nat} (a b : Nat) (hx : x = nI a) (hy : y = nI b) (ha : a < 2 ^ 31) (hb : b < 2 ^ 31) (hdg : decode cc pc = .ok (.if_icmp .ge off, 3)) (ht : (pc : Int) + off = (tgt : Int)) (kt : b ≤ a → zk_Z p l e R s m args below meth c Q A D cl nL cells slots ws lv st tgt) (kf : ¬ b ≤ a → zk_Z p l e R s m args below meth c Q A D cl nL cells slots ws lv st (pc + 3)) : zk_Z p l e R s m args below meth c Q A D cl nL cells slots ws lv (.int y :: .int x :: st) pc := by
  subst hx; subst hy
  exact zk_icmp_ge X hdg ht (fun h => kt ((nI_leI hb ha).mp h)) (fun h => kf (fun g => h ((nI_leI hb ha).mpr g)))
theorem zk_ifN_ge (X : zk_X p s m args c cc nL own Ts D cl tys A) {x : Int32} {off : Int} {tgt : Nat} (a : Nat) (hx : x = nI a) (ha : a < 2 ^ 31) (hdg : decode cc pc = .ok (.ifCond .ge off, 3)) (ht : (pc : Int) + off = (tgt : Int)) (kt : 0 ≤ a → zk_Z p l e R s m args below meth c Q A D cl nL cells slots ws lv st tgt) (kf : ¬ 0 ≤ a → zk_Z p l e R s m args below meth c Q A D cl nL cells slots ws lv st (pc + 3)) : zk_Z p l e R s m args below meth c Q A D cl nL cells slots ws lv (.int x :: st) pc := by
  subst hx
  exact zk_if_ge X hdg ht (fun h => kt ((nI_leI (a := 0) (by decide) ha).mp h)) (fun h => kf (fun g => h ((nI_leI (a := 0) (by decide) ha).mpr g)))
theorem zk_if_gt (X : zk_X p s m args c cc nL own Ts D cl tys A) {x : Int32} {off : Int} {tgt : Nat} (hdg : decode cc pc = .ok (.ifCond .gt off, 3)) (ht : (pc : Int) + off = (tgt : Int)) (kt : 0 < x → zk_Z p l e R s m args below meth c Q A D cl nL cells slots ws lv st tgt) (kf : ¬ 0 < x → zk_Z p l e R s m args below meth c Q A D cl nL cells slots ws lv st (pc + 3)) : zk_Z p l e R s m args below meth c Q A D cl nL cells slots ws lv (.int x :: st) pc :=
  fun H locs ls hP hD hS hl => lv_if_gt X.1.1 X.1.2.1 hdg ht (fun h => kt h H locs ls hP hD hS hl) (fun h => kf h H locs ls hP hD hS hl)
theorem zk_icmp_gt (X : zk_X p s m args c cc nL own Ts D cl tys A) {x y : Int32} {off : Int} {tgt : Nat} (hdg : decode cc pc = .ok (.if_icmp .gt off, 3)) (ht : (pc : Int) + off = (tgt : Int)) (kt : y < x → zk_Z p l e R s m args below meth c Q A D cl nL cells slots ws lv st tgt) (kf : ¬ y < x → zk_Z p l e R s m args below meth c Q A D cl nL cells slots ws lv st (pc + 3)) : zk_Z p l e R s m args below meth c Q A D cl nL cells slots ws lv (.int y :: .int x :: st) pc :=
  fun H locs ls hP hD hS hl => lv_icmp_gt X.1.1 X.1.2.1 hdg ht (fun h => kt h H locs ls hP hD hS hl) (fun h => kf h H locs ls hP hD hS hl)
theorem zk_icmpN_gt (X : zk_X p s m args c cc nL own Ts D cl tys A) {x y : Int32} {off : Int} {tgt : Nat} (a b : Nat) (hx : x = nI a) (hy : y = nI b) (ha : a < 2 ^ 31) (hb : b < 2 ^ 31) (hdg : decode cc pc = .ok (.if_icmp .gt off, 3)) (ht : (pc : Int) + off = (tgt : Int)) (kt : b < a → zk_Z p l e R s m args below meth c Q A D cl nL cells slots ws lv st tgt) (kf : ¬ b < a → zk_Z p l e R s m args below meth c Q A D cl nL cells slots ws lv st (pc + 3)) : zk_Z p l e R s m args below meth c Q A D cl nL cells slots ws lv (.int y :: .int x :: st) pc := by
  subst hx; subst hy
  exact zk_icmp_gt X hdg ht (fun h => kt ((nI_ltI hb ha).mp h)) (fun h => kf (fun g => h ((nI_ltI hb ha).mpr g)))
theorem zk_ifN_gt (X : zk_X p s m args c cc nL own Ts D cl tys A) {x : Int32} {off : Int} {tgt : Nat} (a : Nat) (hx : x = nI a) (ha : a < 2 ^ 31) (hdg : decode cc pc = .ok (.ifCond .gt off, 3)) (ht : (pc : Int) + off = (tgt : Int)) (kt : 0 < a → zk_Z p l e R s m args below meth c Q A D cl nL cells slots ws lv st tgt) (kf : ¬ 0 < a → zk_Z p l e R s m args below meth c Q A D cl nL cells slots ws lv st (pc + 3)) : zk_Z p l e R s m args below meth c Q A D cl nL cells slots ws lv (.int x :: st) pc := by
  subst hx
  exact zk_if_gt X hdg ht (fun h => kt ((nI_ltI (a := 0) (by decide) ha).mp h)) (fun h => kf (fun g => h ((nI_ltI (a := 0) (by decide) ha).mpr g)))
theorem zk_if_le (X : zk_X p s m args c cc nL own Ts D cl tys A) {x : Int32} {off : Int} {tgt : Nat} (hdg : decode cc pc = .ok (.ifCond .le off, 3)) (ht : (pc : Int) + off = (tgt : Int)) (kt : x ≤ 0 → zk_Z p l e R s m args below meth c Q A D cl nL cells slots ws lv st tgt) (kf : ¬ x ≤ 0 → zk_Z p l e R s m args below meth c Q A D cl nL cells slots ws lv st (pc + 3)) : zk_Z p l e R s m args below meth c Q A D cl nL cells slots ws lv (.int x :: st) pc :=
  fun H locs ls hP hD hS hl => lv_if_le X.1.1 X.1.2.1 hdg ht (fun h => kt h H locs ls hP hD hS hl) (fun h => kf h H locs ls hP hD hS hl)
theorem zk_icmp_le (X : zk_X p s m args c cc nL own Ts D cl tys A) {x y : Int32} {off : Int} {tgt : Nat} (hdg : decode cc pc = .ok (.if_icmp .le off, 3)) (ht : (pc : Int) + off = (tgt : Int)) (kt : x ≤ y → zk_Z p l e R s m args below meth c Q A D cl nL cells slots ws lv st tgt) (kf : ¬ x ≤ y → zk_Z p l e R s m args below meth c Q A D cl nL cells slots ws lv st (pc + 3)) : zk_Z p l e R s m args below meth c Q A D cl nL cells slots ws lv (.int y :: .int x :: st) pc :=
  fun H locs ls hP hD hS hl => lv_icmp_le X.1.1 X.1.2.1 hdg ht (fun h => kt h H locs ls hP hD hS hl) (fun h => kf h H locs ls hP hD hS hl)
theorem zk_icmpN_le (X : zk_X p s m args c cc nL own Ts D cl tys A) {x y : Int32} {off : Int} {tgt : Nat} (a b : Nat) (hx : x = nI a) (hy : y = nI b) (ha : a < 2 ^ 31) (hb : b < 2 ^ 31) (hdg : decode cc pc = .ok (.if_icmp .le off, 3)) (ht : (pc : Int) + off = (tgt : Int)) (kt : a ≤ b → zk_Z p l e R s m args below meth c Q A D cl nL cells slots ws lv st tgt) (kf : ¬ a ≤ b → zk_Z p l e R s m args below meth c Q A D cl nL cells slots ws lv st (pc + 3)) : zk_Z p l e R s m args below meth c Q A D cl nL cells slots ws lv (.int y :: .int x :: st) pc := by
  subst hx; subst hy
  exact zk_icmp_le X hdg ht (fun h => kt ((nI_leI ha hb).mp h)) (fun h => kf (fun g => h ((nI_leI ha hb).mpr g)))
theorem zk_ifN_le (X : zk_X p s m args c cc nL own Ts D cl tys A) {x : Int32} {off : Int} {tgt : Nat} (a : Nat) (hx : x = nI a) (ha : a < 2 ^ 31) (hdg : decode cc pc = .ok (.ifCond .le off, 3)) (ht : (pc : Int) + off = (tgt : Int)) (kt : a ≤ 0 → zk_Z p l e R s m args below meth c Q A D cl nL cells slots ws lv st tgt) (kf : ¬ a ≤ 0 → zk_Z p l e R s m args below meth c Q A D cl nL cells slots ws lv st (pc + 3)) : zk_Z p l e R s m args below meth c Q A D cl nL cells slots ws lv (.int x :: st) pc := by
  subst hx
  exact zk_if_le X hdg ht (fun h => kt ((nI_leI (b := 0) ha (by decide)).mp h)) (fun h => kf (fun g => h ((nI_leI (b := 0) ha (by decide)).mpr g)))
theorem zk_tableIn (X : zk_X p s m args c cc nL own Ts D cl tys A) {dflt lo hi : Int} {offs : Array Int} {len : Nat} {x : Int32} {off : Int} {tgt : Nat} (v : Int32) (hx : x = v) (hdg : decode cc pc = .ok (.tableswitch dflt lo hi offs, len)) (h1 : ¬ v.toInt < lo) (h2 : ¬ hi < v.toInt) (ho : offs[(v.toInt - lo).toNat]? = some off) (ht : (pc : Int) + off = (tgt : Int)) (k : zk_Z p l e R s m args below meth c Q A D cl nL cells slots ws lv st tgt) : zk_Z p l e R s m args below meth c Q A D cl nL cells slots ws lv (.int x :: st) pc := by
  subst hx; exact fun H locs ls hP hD hS hl => lv_tableIn X.1.1 X.1.2.1 hdg h1 h2 ho ht (k H locs ls hP hD hS hl)
theorem zk_tableOut (X : zk_X p s m args c cc nL own Ts D cl tys A) {dflt lo hi : Int} {offs : Array Int} {len : Nat} {x : Int32} {tgt : Nat} (hdg : decode cc pc = .ok (.tableswitch dflt lo hi offs, len)) (h : x.toInt < lo ∨ hi < x.toInt) (ht : (pc : Int) + dflt = (tgt : Int)) (k : zk_Z p l e R s m args below meth c Q A D cl nL cells slots ws lv st tgt) : zk_Z p l e R s m args below meth c Q A D cl nL cells slots ws lv (.int x :: st) pc :=
  fun H locs ls hP hD hS hl => lv_tableOut X.1.1 X.1.2.1 hdg h ht (k H locs ls hP hD hS hl)
theorem zk_lookup (X : zk_X p s m args c cc nL own Ts D cl tys A) {dflt : Int} {ps : Array (Int × Int)} {len : Nat} {x : Int32} {off : Int} {tgt : Nat} (hdg : decode cc pc = .ok (.lookupswitch dflt ps, len)) (hp : (ps.toList.zip (ps.toList.drop 1)).all (fun (a, next) => a.1 < next.1) = true) (ho : Op.lookupswitch.offset ps.toList dflt x.toInt = off) (ht : (pc : Int) + off = (tgt : Int)) (k : zk_Z p l e R s m args below meth c Q A D cl nL cells slots ws lv st tgt) : zk_Z p l e R s m args below meth c Q A D cl nL cells slots ws lv (.int x :: st) pc :=
  fun H locs ls hP hD hS hl => lv_lookup X.1.1 X.1.2.1 hdg hp ho ht (k H locs ls hP hD hS hl)
theorem zk_get (X : zk_X p s m args c cc nL own Ts D cl tys A) {C : String} {T : u_T} {N ci index a : Nat} {fs : List Value} {v : Value} (hin : ∀ w ∈ u_ws C T N, w ∈ Ts) (q0 : Nat) (he : ws[q0]? = some (a, .inr (ci, fs))) (hc : cl[ci]? = some (C, T, N)) (k0 : Nat) (hk : k0 < N) (hlink : Cond.fieldLink own index (T k0).1 (T k0).2.1 (T k0).2.2.1 ∈ Ts) (hv : fs[k0]? = some v) (hdg : decode cc pc = .ok (.getfield index, 3)) (k : zk_Z p l e R s m args below meth c Q A D cl nL cells slots ws lv (v :: st) (pc + 3)) : zk_Z p l e R s m args below meth c Q A D cl nL cells slots ws lv (.ref a :: st) pc :=
  fun H locs ls hP hD hS hl => va_get X.1.1 X.1.2.1 X.1.2.2.2.2 hin X.1.2.2.2.1 X.2.1 hP q0 he hc k0 hk (X.1.2.2.2.2 _ hlink) (fun _ h => h) hv hdg (k H locs ls hP hD hS hl)
theorem zk_put (X : zk_X p s m args c cc nL own Ts D cl tys A) {C : String} {T : u_T} {N ci index a : Nat} {fs : List Value} {v : Value} {ty : FieldType} {ws' : va_W} (hin : ∀ w ∈ u_ws C T N, w ∈ Ts) {ty0 : Nat → FieldType} (hty : ∀ k, k < N → parseFieldDescriptor (T k).2.2.1 = some (ty0 k)) (hnm : ∀ a, a < N → ∀ b, b < N → a ≠ b → (T a).2.1 ≠ (T b).2.1) (q0 : Nat) (he : ws[q0]? = some (a, .inr (ci, fs))) (hc : cl[ci]? = some (C, T, N)) (k0 : Nat) (hk : k0 < N) (hlink : Cond.fieldLink own index (T k0).1 (T k0).2.1 (T k0).2.2.1 ∈ Ts) (hfin : (T k0).2.2.2 = false) (hd : ty0 k0 = ty) (hn : narrow ty v = v) (hfit : fits ty v = true) (hl0 : k0 < fs.length) (hdg : decode cc pc = .ok (.putfield index, 3)) (hw : ws.set q0 (a, .inr (ci, fs.set k0 v)) = ws') (k : zk_Z p l e R s m args below meth c Q A D cl nL cells slots ws' lv st (pc + 3)) : zk_Z p l e R s m args below meth c Q A D cl nL cells slots ws lv (v :: .ref a :: st) pc := by
  subst hw; subst hd; exact fun H locs ls hP hD hS hl => va_put X.1.1 X.1.2.1 X.1.2.2.2.2 hin ty0 hty hnm X.1.2.2.2.1 X.2.1 hP hD hS q0 he hc k0 hk (X.1.2.2.2.2 _ hlink) (fun _ h => h) hfin (hty k0 hk) hn hfit hl0 hdg (fun H1 locs1 h1 h2 h3 => k H1 locs1 ls h1 h2 h3 hl)
theorem zk_iald (X : zk_X p s m args c cc nL own Ts D cl tys A) (q0 t0 : Nat) {a : Nat} {cA : ClassId} {n : Nat} {f : Nat → Int32} {i : Int32} (j : Nat) (ha : ws[q0]? = some (a, .inl (cA, n, .inl f))) (ht : tys[t0]? = some (cA, .int)) (hi : i = nI j) (hj : j < n) (hn : n < 2 ^ 31) (hdg : decode cc pc = .ok (.iaload, 1)) (k : zk_Z p l e R s m args below meth c Q A D cl nL cells slots ws lv (.int (f j) :: st) (pc + 1)) : zk_Z p l e R s m args below meth c Q A D cl nL cells slots ws lv (.int i :: .ref a :: st) pc := by
  subst hi; exact fun H locs ls hP hD hS hl => va_iald X.1.1 X.1.2.1 X.2.1 hP q0 t0 ha ht (vp_in_nI hj hn) hdg (by rw [nI_clamp (Nat.lt_trans hj hn)]; exact k H locs ls hP hD hS hl)
theorem zk_iast (X : zk_X p s m args c cc nL own Ts D cl tys A) (q0 t0 : Nat) {a : Nat} {cA : ClassId} {n : Nat} {f : Nat → Int32} {i : Int32} {x : Int32} {ws' : va_W} (j : Nat) (ha : ws[q0]? = some (a, .inl (cA, n, .inl f))) (ht : tys[t0]? = some (cA, .int)) (hi : i = nI j) (hj : j < n) (hn : n < 2 ^ 31) (hdg : decode cc pc = .ok (.iastore, 1)) (hw : ws.set q0 (a, .inl (cA, n, .inl (upd f j x))) = ws') (k : zk_Z p l e R s m args below meth c Q A D cl nL cells slots ws' lv st (pc + 1)) : zk_Z p l e R s m args below meth c Q A D cl nL cells slots ws lv (.int x :: .int i :: .ref a :: st) pc := by
  subst hi; subst hw; exact fun H locs ls hP hD hS hl => va_iast X.1.1 X.1.2.1 X.2.1 hP hD hS q0 t0 ha ht (vp_in_nI hj hn) hdg (fun H1 locs1 h1 h2 h3 => by rw [nI_clamp (Nat.lt_trans hj hn)] at h1 h2; exact k H1 locs1 ls h1 h2 h3 hl)
theorem zk_lald (X : zk_X p s m args c cc nL own Ts D cl tys A) (q0 t0 : Nat) {a : Nat} {cA : ClassId} {n : Nat} {f : Nat → Int64} {i : Int32} (j : Nat) (ha : ws[q0]? = some (a, .inl (cA, n, .inr (.inl f)))) (ht : tys[t0]? = some (cA, .long)) (hi : i = nI j) (hj : j < n) (hn : n < 2 ^ 31) (hdg : decode cc pc = .ok (.laload, 1)) (k : zk_Z p l e R s m args below meth c Q A D cl nL cells slots ws lv (.long (f j) :: st) (pc + 1)) : zk_Z p l e R s m args below meth c Q A D cl nL cells slots ws lv (.int i :: .ref a :: st) pc := by
  subst hi; exact fun H locs ls hP hD hS hl => va_lald X.1.1 X.1.2.1 X.2.1 hP q0 t0 ha ht (vp_in_nI hj hn) hdg (by rw [nI_clamp (Nat.lt_trans hj hn)]; exact k H locs ls hP hD hS hl)
theorem zk_last (X : zk_X p s m args c cc nL own Ts D cl tys A) (q0 t0 : Nat) {a : Nat} {cA : ClassId} {n : Nat} {f : Nat → Int64} {i : Int32} {x : Int64} {ws' : va_W} (j : Nat) (ha : ws[q0]? = some (a, .inl (cA, n, .inr (.inl f)))) (ht : tys[t0]? = some (cA, .long)) (hi : i = nI j) (hj : j < n) (hn : n < 2 ^ 31) (hdg : decode cc pc = .ok (.lastore, 1)) (hw : ws.set q0 (a, .inl (cA, n, .inr (.inl (vp_updL f j x)))) = ws') (k : zk_Z p l e R s m args below meth c Q A D cl nL cells slots ws' lv st (pc + 1)) : zk_Z p l e R s m args below meth c Q A D cl nL cells slots ws lv (.long x :: .int i :: .ref a :: st) pc := by
  subst hi; subst hw; exact fun H locs ls hP hD hS hl => va_last X.1.1 X.1.2.1 X.2.1 hP hD hS q0 t0 ha ht (vp_in_nI hj hn) hdg (fun H1 locs1 h1 h2 h3 => by rw [nI_clamp (Nat.lt_trans hj hn)] at h1 h2; exact k H1 locs1 ls h1 h2 h3 hl)
theorem zk_alen (X : zk_X p s m args c cc nL own Ts D cl tys A) (q0 t0 : Nat) {a : Nat} {cA : ClassId} {x : vp_A} {ty : FieldType} {v : Int32} (ha : ws[q0]? = some (a, .inl (cA, x))) (ht : tys[t0]? = some (cA, ty)) (hv : Int32.ofNat x.1 = v) (hdg : decode cc pc = .ok (.arraylength, 1)) (k : zk_Z p l e R s m args below meth c Q A D cl nL cells slots ws lv (.int v :: st) (pc + 1)) : zk_Z p l e R s m args below meth c Q A D cl nL cells slots ws lv (.ref a :: st) pc :=
  fun H locs ls hP hD hS hl => va_alen X.1.1 X.1.2.1 X.2.1 hP q0 t0 ha ht hv hdg (k H locs ls hP hD hS hl)
theorem zk_copy (X : zk_X p s m args c cc nL own Ts D cl tys A) {ws' : va_W} {index : Nat} {a : Nat} {cA : ClassId} {N : Nat} {f : Nat → Int32} {x y z : Int32} (hlink : Cond.methodLink own index arraycopyName ∈ Ts) (hnat : Cond.native arraycopyName ∈ Ts) (hstat : Cond.static arraycopyName ∈ Ts) (hini : Cond.initialized "java/lang/System" ∈ Ts) (q0 t0 sp dp n : Nat) (ha : ws[q0]? = some (a, .inl (cA, N, .inl f))) (ht : tys[t0]? = some (cA, .int)) (hx : x = nI sp) (hy : y = nI dp) (hz : z = nI n) (h1 : sp + n ≤ N) (h2 : dp + n ≤ N) (hN : N < 2 ^ 31) (hfr : 1 ≤ R.frames) (hlo : (st.map fun v => v.category).sum + 18 ≤ R.locals) (hdg : decode cc pc = .ok (.invokestatic index, 3)) (hw : ws.set q0 (a, .inl (cA, N, .inl (va_cpy f f sp dp n))) = ws') (k : zk_Z p l e R s m args below meth c Q A D cl nL cells slots ws' lv st (pc + 3)) : zk_Z p l e R s m args below meth c Q A D cl nL cells slots ws lv (.int z :: .int y :: .ref a :: .int x :: .ref a :: st) pc := by
  subst hx; subst hy; subst hz; subst hw
  have e1 : (nI sp).toNatClampNeg = sp := nI_clamp (by omega)
  have e2 : (nI dp).toNatClampNeg = dp := nI_clamp (by omega)
  have e3 : (nI n).toNatClampNeg = n := nI_clamp (by omega)
  exact fun H locs ls hP hD hS hl => va_copyi X.1.1 X.1.2.1 (X.1.2.2.1.trans hl.1.symm) X.1.2.2.2.1 (X.1.2.2.2.2 _ hlink) (X.1.2.2.2.2 _ hnat) (X.1.2.2.2.2 _ hstat) (X.1.2.2.2.2 _ hini) X.2.1 hP hD hS q0 q0 t0 t0 ha ha ht ht rfl (nI_pos (by omega)) (nI_pos (by omega)) (nI_pos (by omega)) (by rw [e1, e3]; exact h1) (by rw [e2, e3]; exact h2) (fun _ _ => rfl) hfr hlo hdg (fun H1 locs1 g1 g2 g3 => by rw [e1, e2, e3] at g1 g2; exact k H1 locs1 ls g1 g2 g3 hl)
theorem zk_ifnonnull (X : zk_X p s m args c cc nL own Ts D cl tys A) {x : Nat} {off : Int} {tgt : Nat} (hdg : decode cc pc = .ok (.ifnonnull off, 3)) (ht : (pc : Int) + off = (tgt : Int)) (k : zk_Z p l e R s m args below meth c Q A D cl nL cells slots ws lv st tgt) : zk_Z p l e R s m args below meth c Q A D cl nL cells slots ws lv (.ref x :: st) pc :=
  fun H locs ls hP hD hS hl => lv_ifnonnull X.1.1 X.1.2.1 hdg ht (k H locs ls hP hD hS hl)
theorem zk_ifnull (X : zk_X p s m args c cc nL own Ts D cl tys A) {x : Nat} {off : Int} (hdg : decode cc pc = .ok (.ifnull off, 3)) (k : zk_Z p l e R s m args below meth c Q A D cl nL cells slots ws lv st (pc + 3)) : zk_Z p l e R s m args below meth c Q A D cl nL cells slots ws lv (.ref x :: st) pc :=
  fun H locs ls hP hD hS hl => lv_ifnull X.1.1 X.1.2.1 hdg (k H locs ls hP hD hS hl)
theorem zk_ifnullN (X : zk_X p s m args c cc nL own Ts D cl tys A) {off : Int} {tgt : Nat} (hdg : decode cc pc = .ok (.ifnull off, 3)) (ht : (pc : Int) + off = (tgt : Int)) (k : zk_Z p l e R s m args below meth c Q A D cl nL cells slots ws lv st tgt) : zk_Z p l e R s m args below meth c Q A D cl nL cells slots ws lv (.null :: st) pc :=
  fun H locs ls hP hD hS hl => lv_ifnullN X.1.1 X.1.2.1 hdg ht (k H locs ls hP hD hS hl)
theorem zk_ifnonnullN (X : zk_X p s m args c cc nL own Ts D cl tys A) {off : Int} (hdg : decode cc pc = .ok (.ifnonnull off, 3)) (k : zk_Z p l e R s m args below meth c Q A D cl nL cells slots ws lv st (pc + 3)) : zk_Z p l e R s m args below meth c Q A D cl nL cells slots ws lv (.null :: st) pc :=
  fun H locs ls hP hD hS hl => lv_ifnonnullN X.1.1 X.1.2.1 hdg (k H locs ls hP hD hS hl)
theorem zk_lc_eq (X : zk_X p s m args c cc nL own Ts D cl tys A) {x y : Int64} {off : Int} {tgt : Nat} (hdg : decode cc pc = .ok (.lcmp, 1)) (hdg2 : decode cc (pc + 1) = .ok (.ifCond .eq off, 3)) (ht : ((pc + 1 : Nat) : Int) + off = (tgt : Int)) (kt : x = y → zk_Z p l e R s m args below meth c Q A D cl nL cells slots ws lv st tgt) (kf : ¬ x = y → zk_Z p l e R s m args below meth c Q A D cl nL cells slots ws lv st (pc + 1 + 3)) : zk_Z p l e R s m args below meth c Q A D cl nL cells slots ws lv (.long y :: .long x :: st) pc :=
  zk_lcmp X hdg rfl (zk_if_eq X hdg2 ht (fun h => kt ((lg_cmp_eq x y).mp h)) (fun h => kf (fun g => h ((lg_cmp_eq x y).mpr g))))
theorem zk_lc_ne (X : zk_X p s m args c cc nL own Ts D cl tys A) {x y : Int64} {off : Int} {tgt : Nat} (hdg : decode cc pc = .ok (.lcmp, 1)) (hdg2 : decode cc (pc + 1) = .ok (.ifCond .ne off, 3)) (ht : ((pc + 1 : Nat) : Int) + off = (tgt : Int)) (kt : ¬ x = y → zk_Z p l e R s m args below meth c Q A D cl nL cells slots ws lv st tgt) (kf : x = y → zk_Z p l e R s m args below meth c Q A D cl nL cells slots ws lv st (pc + 1 + 3)) : zk_Z p l e R s m args below meth c Q A D cl nL cells slots ws lv (.long y :: .long x :: st) pc :=
  zk_lcmp X hdg rfl (zk_if_ne X hdg2 ht (fun h => kt (fun g => h ((lg_cmp_eq x y).mpr g))) (fun h => kf ((lg_cmp_eq x y).mp h)))
theorem zk_lc_lt (X : zk_X p s m args c cc nL own Ts D cl tys A) {x y : Int64} {off : Int} {tgt : Nat} (hdg : decode cc pc = .ok (.lcmp, 1)) (hdg2 : decode cc (pc + 1) = .ok (.ifCond .lt off, 3)) (ht : ((pc + 1 : Nat) : Int) + off = (tgt : Int)) (kt : x < y → zk_Z p l e R s m args below meth c Q A D cl nL cells slots ws lv st tgt) (kf : ¬ x < y → zk_Z p l e R s m args below meth c Q A D cl nL cells slots ws lv st (pc + 1 + 3)) : zk_Z p l e R s m args below meth c Q A D cl nL cells slots ws lv (.long y :: .long x :: st) pc :=
  zk_lcmp X hdg rfl (zk_if_lt X hdg2 ht (fun h => kt ((lg_cmp_lt x y).mp h)) (fun h => kf (fun g => h ((lg_cmp_lt x y).mpr g))))
theorem zk_lc_ge (X : zk_X p s m args c cc nL own Ts D cl tys A) {x y : Int64} {off : Int} {tgt : Nat} (hdg : decode cc pc = .ok (.lcmp, 1)) (hdg2 : decode cc (pc + 1) = .ok (.ifCond .ge off, 3)) (ht : ((pc + 1 : Nat) : Int) + off = (tgt : Int)) (kt : y ≤ x → zk_Z p l e R s m args below meth c Q A D cl nL cells slots ws lv st tgt) (kf : ¬ y ≤ x → zk_Z p l e R s m args below meth c Q A D cl nL cells slots ws lv st (pc + 1 + 3)) : zk_Z p l e R s m args below meth c Q A D cl nL cells slots ws lv (.long y :: .long x :: st) pc :=
  zk_lcmp X hdg rfl (zk_if_ge X hdg2 ht (fun h => kt ((lg_cmp_ge x y).mp h)) (fun h => kf (fun g => h ((lg_cmp_ge x y).mpr g))))
theorem zk_lc_gt (X : zk_X p s m args c cc nL own Ts D cl tys A) {x y : Int64} {off : Int} {tgt : Nat} (hdg : decode cc pc = .ok (.lcmp, 1)) (hdg2 : decode cc (pc + 1) = .ok (.ifCond .gt off, 3)) (ht : ((pc + 1 : Nat) : Int) + off = (tgt : Int)) (kt : y < x → zk_Z p l e R s m args below meth c Q A D cl nL cells slots ws lv st tgt) (kf : ¬ y < x → zk_Z p l e R s m args below meth c Q A D cl nL cells slots ws lv st (pc + 1 + 3)) : zk_Z p l e R s m args below meth c Q A D cl nL cells slots ws lv (.long y :: .long x :: st) pc :=
  zk_lcmp X hdg rfl (zk_if_gt X hdg2 ht (fun h => kt ((lg_cmp_gt x y).mp h)) (fun h => kf (fun g => h ((lg_cmp_gt x y).mpr g))))
theorem zk_lc_le (X : zk_X p s m args c cc nL own Ts D cl tys A) {x y : Int64} {off : Int} {tgt : Nat} (hdg : decode cc pc = .ok (.lcmp, 1)) (hdg2 : decode cc (pc + 1) = .ok (.ifCond .le off, 3)) (ht : ((pc + 1 : Nat) : Int) + off = (tgt : Int)) (kt : x ≤ y → zk_Z p l e R s m args below meth c Q A D cl nL cells slots ws lv st tgt) (kf : ¬ x ≤ y → zk_Z p l e R s m args below meth c Q A D cl nL cells slots ws lv st (pc + 1 + 3)) : zk_Z p l e R s m args below meth c Q A D cl nL cells slots ws lv (.long y :: .long x :: st) pc :=
  zk_lcmp X hdg rfl (zk_if_le X hdg2 ht (fun h => kt ((lg_cmp_le x y).mp h)) (fun h => kf (fun g => h ((lg_cmp_le x y).mpr g))))
theorem zk_topi {x y : Int32} (h : x = y) (k : zk_Z p l e R s m args below meth c Q A D cl nL cells slots ws lv (.int y :: st) pc) : zk_Z p l e R s m args below meth c Q A D cl nL cells slots ws lv (.int x :: st) pc := by subst h; exact k
theorem zk_ws {ws' : va_W} (h : ws = ws') (k : zk_Z p l e R s m args below meth c Q A D cl nL cells slots ws' lv st pc) : zk_Z p l e R s m args below meth c Q A D cl nL cells slots ws lv st pc := by subst h; exact k
theorem zk_perm {ws' : va_W} (is : List Nat) (hs : is.map (fun i => ws[i]?) = ws'.map some) (hn : va_nd is = true) (k : zk_Z p l e R s m args below meth c Q A D cl nL cells slots ws' lv st pc) : zk_Z p l e R s m args below meth c Q A D cl nL cells slots ws lv st pc :=
  fun H locs ls hP hD hS hl => k H locs ls (hP.sub is (zk_fm hs)) (hD.sub is hn hs) hS hl
theorem zk_lv {lv' : List (Nat × Value)} (ks : List Nat) (h : lv_pick lv ks = lv') (k : zk_Z p l e R s m args below meth c Q A D cl nL cells slots ws lv' st pc) : zk_Z p l e R s m args below meth c Q A D cl nL cells slots ws lv st pc :=
  fun H locs ls hP hD hS hl => k H locs ls hP hD hS (lv_sub hl ks h)
end ZKL
def zk_Pc (D : va_G) (cl : List vw_C) (av : List Value) (wc : va_W) (tys : List (ClassId × FieldType)) (sz : Nat) : Array Value → State → Prop :=
  va_Pc av (fun U => U.heap.size = sz ∧ va_P D cl wc U.heap ∧ va_K D cl tys U ∧ va_D (fun _ => True) wc ∧ zk_N U)
def zk_B {S : Type} (D : va_G) (cl : List vw_C) (A : Nat → Prop) (w1 : S → va_W) : S → State → Prop := fun u t => va_P D cl (w1 u) t.heap ∧ va_D A (w1 u)
/-- contracts of methods that make nothing: answer and new world by post and w1 -/
def zk_Ci {S : Type} (l : Launch) (y : MethodName) (wy : List Cond) (rm : Room) (D : va_G) (cl : List vw_C) (av : List Value) (wc : va_W) (tys : List (ClassId × FieldType)) (post : Int32 → S → Prop) (w1 : S → va_W) : Prop :=
  ∀ sz : Nat, Met l y wy rm (zk_Pc D cl av wc tys sz) (va_Qi post (zk_B D cl (va_A wc sz) w1) (va_A wc sz)) 0 0 (va_A wc sz)
def zk_Cl {S : Type} (l : Launch) (y : MethodName) (wy : List Cond) (rm : Room) (D : va_G) (cl : List vw_C) (av : List Value) (wc : va_W) (tys : List (ClassId × FieldType)) (post : Int64 → S → Prop) (w1 : S → va_W) : Prop :=
  ∀ sz : Nat, Met l y wy rm (zk_Pc D cl av wc tys sz) (va_Ql post (zk_B D cl (va_A wc sz) w1) (va_A wc sz)) 0 0 (va_A wc sz)
def zk_Cv {S : Type} (l : Launch) (y : MethodName) (wy : List Cond) (rm : Room) (D : va_G) (cl : List vw_C) (av : List Value) (wc : va_W) (tys : List (ClassId × FieldType)) (post : S → Prop) (w1 : S → va_W) : Prop :=
  ∀ sz : Nat, Met l y wy rm (zk_Pc D cl av wc tys sz) (va_Qv post (zk_B D cl (va_A wc sz) w1) (va_A wc sz)) 0 0 (va_A wc sz)
def zk_Cq {S : Type} (l : Launch) (y : MethodName) (wy : List Cond) (rm : Room) (D : va_G) (cl : List vw_C) (av : List Value) (wc : va_W) (tys : List (ClassId × FieldType)) (post : Option Nat → S → Prop) (w1 : S → va_W) : Prop :=
  ∀ sz : Nat, Met l y wy rm (zk_Pc D cl av wc tys sz) (va_Qq post (zk_B D cl (va_A wc sz) w1) (va_A wc sz)) 0 0 (va_A wc sz)
theorem zk_blind {D : va_G} {cl : List vw_C} {av : List Value} {wc : va_W} {tys : List (ClassId × FieldType)} {sz : Nat} : FrameBlind (zk_Pc D cl av wc tys sz) := fun a U g mk q => by
  obtain ⟨q0, q1, qP, qK, qD, qN⟩ := q
  exact ⟨q0, q1, qP, va_K.moved (u := U) (U := U.calling g mk a) (Vm.Alike.refl U.vm) qK, qD, zk_N.same (u := U) rfl qN⟩
section ZKC
variable {p : Program} {l : Launch} {e : Env} {R : Room} {s : State} {m : MethodId} {args : Array Value} {below : List Frame} {meth : Method} {c : Code} {Q : State → Prop} {A : Nat → Prop} {D : va_G} {cl : List vw_C} {tys tysC : List (ClassId × FieldType)} {nL cells slots pc : Nat} {cc : ByteArray} {Ts : List Cond} {own : String} {ws wc wr : va_W} {lv : List (Nat × Value)} {st : List Value}
theorem zk_pre {H : Heap} {av : List Value} (X : zk_X p s m args c cc nL own Ts D cl tys A) (hP : va_P D cl wc H) (hD : va_D A wc) (hK : va_K D cl tysC s) : ∀ U : State, U.heap = H → s.WarmedH U.vm → zk_Pc D cl av wc tysC H.size av.toArray U := fun U hU hW =>
  ⟨rfl, by rw [hU], by rw [hU]; exact hP, va_K.moved hW.alike hK, hD.weaken (fun _ _ _ _ => trivial), zk_N.warm hW X.2.2.2⟩
/-- a call is on its way: from every heap that holds the world, with the callee's cells wc cut out of it -/
def zk_Run (p : Program) (l : Launch) (e : Env) (R : Room) (s : State) (m : MethodId) (args : Array Value) (below : List Frame) (meth : Method) (c : Code) (A : Nat → Prop) (D : va_G) (cl : List vw_C) (nL cells slots : Nat) (ws wc : va_W) (lv : List (Nat × Value)) (st rest : List Value) (pc : Nat) (Qf : Nat → State → Outcome → State → Prop) : Prop :=
  ∀ (H : Heap) (locs : List Loc) (ls : Array Slot), va_P D cl ws H → va_P D cl wc H → va_D A wc → lv_has ls nL lv → va_Run p l e R s m args below meth c H locs cells slots 0 0 (F0 m pc ls st) rest (Qf H.size) (va_A wc H.size)
theorem zk_goodT {c0 w : Cond} (h : w ∈ zk_T) : GoodIn (c0 :: zk_T) (w :: zk_T) := fun v hv => by
  rcases List.mem_cons.mp hv with rfl | hv
  · exact ⟨List.mem_cons_of_mem _ h, zk_ok _ h⟩
  · exact ⟨List.mem_cons_of_mem _ hv, zk_ok _ hv⟩
theorem zk_cwV {y : MethodName} {bytes : ByteArray} {maxL index : Nat} {ret : Option FieldType} {wy ws' : List Cond} {rm : Room} {C : String} (n : Nat) (ht : ∀ w ∈ Ts, w.before args s = true) (hG : GoodIn Ts wy) (hw : wy = Cond.code y bytes maxL ret :: ws') (hrc : rm.cells = 0) (hrs : rm.slots = 0) (h1 : Cond.methodLink own index y ∈ Ts) (h2 : Cond.instanceMethod y ∈ Ts) (h3 : Cond.selects C y y ∈ Ts) (h4 : Cond.initialized C ∈ Ts) (hC : y.cls = C)
    (hd : y.cls ≠ "java/lang/invoke/MethodHandle" ∧ y.cls ≠ "java/lang/invoke/VarHandle" ∧ (parseMethodDescriptor y.desc).map (fun d => d.parameters.length) = some n) (hR : rm.frames + 1 ≤ R.frames ∧ 8 + (maxL + 11) + rm.locals ≤ R.locals) : CallW R s args own C index y bytes maxL ret wy rm 0 0 n :=
  ⟨callB_of n ht hG hw hrc hrs (by rw [hC]; exact ht _ h4) (ht _ h1) hd hR, ht _ h2, ht _ h3⟩
theorem zk_cwS {y : MethodName} {bytes : ByteArray} {maxL index : Nat} {ret : Option FieldType} {wy ws' : List Cond} {rm : Room} (n : Nat) (ht : ∀ w ∈ Ts, w.before args s = true) (hG : GoodIn Ts wy) (hw : wy = Cond.code y bytes maxL ret :: ws') (hrc : rm.cells = 0) (hrs : rm.slots = 0) (h1 : Cond.methodLink own index y ∈ Ts) (h2 : Cond.static y ∈ Ts) (h3 : Cond.initialized y.cls ∈ Ts)
    (hd : y.cls ≠ "java/lang/invoke/MethodHandle" ∧ y.cls ≠ "java/lang/invoke/VarHandle" ∧ (parseMethodDescriptor y.desc).map (fun d => d.parameters.length) = some n) (hR : rm.frames + 1 ≤ R.frames ∧ 8 + (maxL + 11) + rm.locals ≤ R.locals) : CallB R s args own index y bytes maxL ret wy rm 0 0 n ∧ (Cond.static y).before args s = true :=
  ⟨callB_of n ht hG hw hrc hrs (ht _ h3) (ht _ h1) hd hR, ht _ h2⟩
theorem zk_cwA {x y : MethodName} {bytes : ByteArray} {maxL index : Nat} {ret : Option FieldType} {wy ws' : List Cond} {rm : Room} {C owner : String} (n : Nat) (ht : ∀ w ∈ Ts, w.before args s = true) (hG : GoodIn Ts wy) (hw : wy = Cond.code y bytes maxL ret :: ws') (hrc : rm.cells = 0) (hrs : rm.slots = 0) (h1 : Cond.methodLink own index x ∈ Ts) (h2 : Cond.sameMethod x.cls owner x.name x.desc ∈ Ts) (h3 : Cond.selects C x y ∈ Ts) (h4 : Cond.instanceMethod y ∈ Ts) (h5 : Cond.initialized y.cls ∈ Ts) (hz : va_Nw (.declares ⟨owner, x.name, x.desc⟩) s)
    (hd : owner ≠ "java/lang/invoke/MethodHandle" ∧ owner ≠ "java/lang/invoke/VarHandle" ∧ (parseMethodDescriptor x.desc).map (fun d => d.parameters.length) = some n) (hR : rm.frames + 1 ≤ R.frames ∧ 8 + (maxL + 11) + rm.locals ≤ R.locals) : va_CU R s args own C owner index x y bytes maxL ret wy rm 0 0 n := by
  have hc : Cond.code y bytes maxL ret ∈ wy := by rw [hw]; exact List.mem_cons_self
  refine ⟨⟨hrc, hrs, hR.1, hR.2, pay_in ht hG, hc⟩, ht _ (hG _ hc).1, ht _ h5, ⟨hd.1, hd.2.1⟩, fun sig h => ?_, ht _ h1, ht _ h2, va_Decl.abs hz, ht _ h3, ht _ h4⟩
  have h2 := hd.2.2
  rw [h] at h2
  exact (Option.some.inj h2).symm
theorem zk_runV (X : zk_X p s m args c cc nL own Ts D cl tys A) {y : MethodName} {bytes : ByteArray} {maxL n index : Nat} {ret : Option FieldType} {wy : List Cond} {rm : Room} {As rest : List Value} {b : Nat} {Qf : Nat → Array Value → State → Outcome → State → Prop} (hM : ∀ sz : Nat, Met l y wy rm (zk_Pc D cl (.ref b :: As) wc tysC sz) (Qf sz) 0 0 (va_A wc sz)) (tc : List Nat) (hT : tc.filterMap (fun i => tys[i]?) = tysC) {C : String} {T : u_T} {N ci : Nat} {fs : List Value} (hc : cl[ci]? = some (C, T, N)) (q0 : Nat) (he : ws[q0]? = some (b, .inr (ci, fs))) (cw : CallW R s args own C index y bytes maxL ret wy rm 0 0 n) (hn : As.length = n) (hst : st = As.reverse ++ .ref b :: rest) (hr : (rest.map fun v => v.category).sum ≤ 8) (hf : cells ≤ R.cells ∧ slots ≤ R.slots) (hdg : decode cc pc = .ok (.invokevirtual index, 3)) : zk_Run p l e R s m args below meth c A D cl nL cells slots ws wc lv st rest pc (fun sz => Qf sz (.ref b :: As).toArray) := by
  subst hst
  exact fun H locs ls hP hPc hDc hl => va_runV X.1 (hM H.size) cw ⟨zk_blind, va_recv X.2.1 hP hc he, zk_pre X hPc hDc (X.2.1.sub tc hT)⟩ rfl hn hl.1 rfl (lv_room hr) hdg hf
theorem zk_runS (X : zk_X p s m args c cc nL own Ts D cl tys A) {y : MethodName} {bytes : ByteArray} {maxL n index : Nat} {ret : Option FieldType} {wy : List Cond} {rm : Room} {As rest : List Value} {Qf : Nat → Array Value → State → Outcome → State → Prop} (hM : ∀ sz : Nat, Met l y wy rm (zk_Pc D cl As wc tysC sz) (Qf sz) 0 0 (va_A wc sz)) (tc : List Nat) (hT : tc.filterMap (fun i => tys[i]?) = tysC) (cw : CallB R s args own index y bytes maxL ret wy rm 0 0 n ∧ (Cond.static y).before args s = true) (hn : As.length = n) (hst : st = As.reverse ++ rest) (hr : (rest.map fun v => v.category).sum ≤ 8) (hf : cells ≤ R.cells ∧ slots ≤ R.slots) (hdg : decode cc pc = .ok (.invokestatic index, 3)) : zk_Run p l e R s m args below meth c A D cl nL cells slots ws wc lv st rest pc (fun sz => Qf sz As.toArray) := by
  subst hst
  exact fun H locs ls hP hPc hDc hl => va_runS X.1 (hM H.size) cw ⟨zk_blind, zk_pre X hPc hDc (X.2.1.sub tc hT)⟩ rfl hn hl.1 rfl (lv_room hr) hdg hf
theorem zk_runSN (X : zk_X p s m args c cc nL own Ts D cl tys A) {y : MethodName} {bytes : ByteArray} {maxL n index : Nat} {ret : Option FieldType} {wy : List Cond} {rm : Room} {As rest : List Value} {host : String} {Qf : Nat → Array Value → State → Outcome → State → Prop} (hM : ∀ sz : Nat, Met l y wy rm (zk_Pc D cl As wc tysC sz) (Qf sz) 0 0 (va_A wc sz)) (tc : List Nat) (hT : tc.filterMap (fun i => tys[i]?) = tysC) (cw : va_CN R s args own index y host bytes maxL ret wy rm 0 0 n ∧ (Cond.static y).before args s = true ∧ True) (hn : As.length = n) (hst : st = As.reverse ++ rest) (hr : (rest.map fun v => v.category).sum ≤ 8) (hf : cells ≤ R.cells ∧ slots ≤ R.slots) (hdg : decode cc pc = .ok (.invokestatic index, 3)) : zk_Run p l e R s m args below meth c A D cl nL cells slots ws wc lv st rest pc (fun sz => Qf sz As.toArray) := by
  subst hst
  exact fun H locs ls hP hPc hDc hl => va_runSN X.1 (hM H.size) cw ⟨zk_blind, zk_pre X hPc hDc (X.2.1.sub tc hT)⟩ rfl hn hl.1 rfl (lv_room hr) hdg hf
theorem zk_runU (X : zk_X p s m args c cc nL own Ts D cl tys A) {y : MethodName} {bytes : ByteArray} {maxL n index : Nat} {ret : Option FieldType} {wy : List Cond} {rm : Room} {As rest : List Value} {x : MethodName} {owner : String} {b : Nat} {Qf : Nat → Array Value → State → Outcome → State → Prop} (hM : ∀ sz : Nat, Met l y wy rm (zk_Pc D cl (.ref b :: As) wc tysC sz) (Qf sz) 0 0 (va_A wc sz)) (tc : List Nat) (hT : tc.filterMap (fun i => tys[i]?) = tysC) {C : String} {T : u_T} {N ci : Nat} {fs : List Value} (hc : cl[ci]? = some (C, T, N)) (q0 : Nat) (he : ws[q0]? = some (b, .inr (ci, fs))) (cw : va_CU R s args own C owner index x y bytes maxL ret wy rm 0 0 n) (hn : As.length = n) (hst : st = As.reverse ++ .ref b :: rest) (hr : (rest.map fun v => v.category).sum ≤ 8) (hf : cells ≤ R.cells ∧ slots ≤ R.slots) (hdg : decode cc pc = .ok (.invokevirtual index, 3)) : zk_Run p l e R s m args below meth c A D cl nL cells slots ws wc lv st rest pc (fun sz => Qf sz (.ref b :: As).toArray) := by
  subst hst
  exact fun H locs ls hP hPc hDc hl => va_runU X.1 (hM H.size) cw ⟨zk_blind, va_recv X.2.1 hP hc he, zk_pre X hPc hDc (X.2.1.sub tc hT)⟩ rfl hn hl.1 rfl (lv_room hr) hdg hf
theorem zk_calli (X : zk_X p s m args c cc nL own Ts D cl tys A) {S : Type} {post : Int32 → S → Prop} {w1 : S → va_W} {rest : List Value} {a : Array Value} (isC isR : List Nat) (hC : isC.map (fun i => ws[i]?) = wc.map some) (hR : isR.map (fun i => ws[i]?) = wr.map some) (hnC : va_nd isC = true) (hnR : va_nd isR = true) (hdis : ∀ i ∈ isR, i ∉ isC)
    (hrun : zk_Run p l e R s m args below meth c A D cl nL cells slots ws wc lv st rest pc (fun sz => va_Qi post (zk_B D cl (va_A wc sz) w1) (va_A wc sz) a))
    (k : ∀ (r : Int32) (u : S), post r u → zk_Z p l e R s m args below meth c Q A D cl nL cells slots (wr ++ w1 u) lv (.int r :: rest) (pc + 3)) : zk_Z p l e R s m args below meth c Q A D cl nL cells slots ws lv st pc := by
  intro H locs ls hP hD hS hl
  have hPc := hP.sub isC (zk_fm hC)
  have hDc := hD.sub isC hnC hC
  have hFc := va_free (wc := wc) hD hS X.2.2.1 isC hC
  refine va_calli (hrun H locs ls hP hPc hDc hl) hS (fun q _ h => hFc q h) hFc (fun r u t H1 locs1 ht hvm hp hB hz1 hk1 hS1 => ?_)
  obtain ⟨hP1, hD1⟩ := hB
  rw [ht] at hP1
  obtain ⟨hP2, hD2⟩ := va_join (wr := wr) (w1 := w1 u) hP hD isC isR hC hR hnR hdis hk1 hFc hP1 hD1
  exact k r u hp H1 locs1 ls hP2 hD2 hS1 hl
theorem zk_calll (X : zk_X p s m args c cc nL own Ts D cl tys A) {S : Type} {post : Int64 → S → Prop} {w1 : S → va_W} {rest : List Value} {a : Array Value} (isC isR : List Nat) (hC : isC.map (fun i => ws[i]?) = wc.map some) (hR : isR.map (fun i => ws[i]?) = wr.map some) (hnC : va_nd isC = true) (hnR : va_nd isR = true) (hdis : ∀ i ∈ isR, i ∉ isC)
    (hrun : zk_Run p l e R s m args below meth c A D cl nL cells slots ws wc lv st rest pc (fun sz => va_Ql post (zk_B D cl (va_A wc sz) w1) (va_A wc sz) a))
    (k : ∀ (r : Int64) (u : S), post r u → zk_Z p l e R s m args below meth c Q A D cl nL cells slots (wr ++ w1 u) lv (.long r :: rest) (pc + 3)) : zk_Z p l e R s m args below meth c Q A D cl nL cells slots ws lv st pc := by
  intro H locs ls hP hD hS hl
  have hPc := hP.sub isC (zk_fm hC)
  have hDc := hD.sub isC hnC hC
  have hFc := va_free (wc := wc) hD hS X.2.2.1 isC hC
  refine va_calll (hrun H locs ls hP hPc hDc hl) hS (fun q _ h => hFc q h) hFc (fun r u t H1 locs1 ht hvm hp hB hz1 hk1 hS1 => ?_)
  obtain ⟨hP1, hD1⟩ := hB
  rw [ht] at hP1
  obtain ⟨hP2, hD2⟩ := va_join (wr := wr) (w1 := w1 u) hP hD isC isR hC hR hnR hdis hk1 hFc hP1 hD1
  exact k r u hp H1 locs1 ls hP2 hD2 hS1 hl
theorem zk_callv (X : zk_X p s m args c cc nL own Ts D cl tys A) {S : Type} {post : S → Prop} {w1 : S → va_W} {rest : List Value} {a : Array Value} (isC isR : List Nat) (hC : isC.map (fun i => ws[i]?) = wc.map some) (hR : isR.map (fun i => ws[i]?) = wr.map some) (hnC : va_nd isC = true) (hnR : va_nd isR = true) (hdis : ∀ i ∈ isR, i ∉ isC)
    (hrun : zk_Run p l e R s m args below meth c A D cl nL cells slots ws wc lv st rest pc (fun sz => va_Qv post (zk_B D cl (va_A wc sz) w1) (va_A wc sz) a))
    (k : ∀ (u : S), post u → zk_Z p l e R s m args below meth c Q A D cl nL cells slots (wr ++ w1 u) lv rest (pc + 3)) : zk_Z p l e R s m args below meth c Q A D cl nL cells slots ws lv st pc := by
  intro H locs ls hP hD hS hl
  have hPc := hP.sub isC (zk_fm hC)
  have hDc := hD.sub isC hnC hC
  have hFc := va_free (wc := wc) hD hS X.2.2.1 isC hC
  refine va_callv (hrun H locs ls hP hPc hDc hl) hS (fun q _ h => hFc q h) hFc (fun u t H1 locs1 ht hvm hp hB hz1 hk1 hS1 => ?_)
  obtain ⟨hP1, hD1⟩ := hB
  rw [ht] at hP1
  obtain ⟨hP2, hD2⟩ := va_join (wr := wr) (w1 := w1 u) hP hD isC isR hC hR hnR hdis hk1 hFc hP1 hD1
  exact k u hp H1 locs1 ls hP2 hD2 hS1 hl
theorem zk_callq (X : zk_X p s m args c cc nL own Ts D cl tys A) {S : Type} {post : Option Nat → S → Prop} {w1 : S → va_W} {rest : List Value} {a : Array Value} (isC isR : List Nat) (hC : isC.map (fun i => ws[i]?) = wc.map some) (hR : isR.map (fun i => ws[i]?) = wr.map some) (hnC : va_nd isC = true) (hnR : va_nd isR = true) (hdis : ∀ i ∈ isR, i ∉ isC)
    (hrun : zk_Run p l e R s m args below meth c A D cl nL cells slots ws wc lv st rest pc (fun sz => va_Qq post (zk_B D cl (va_A wc sz) w1) (va_A wc sz) a))
    (k : ∀ (r : Option Nat) (u : S), post r u → zk_Z p l e R s m args below meth c Q A D cl nL cells slots (wr ++ w1 u) lv (va_rf r :: rest) (pc + 3)) : zk_Z p l e R s m args below meth c Q A D cl nL cells slots ws lv st pc := by
  intro H locs ls hP hD hS hl
  have hPc := hP.sub isC (zk_fm hC)
  have hDc := hD.sub isC hnC hC
  have hFc := va_free (wc := wc) hD hS X.2.2.1 isC hC
  refine va_callq (hrun H locs ls hP hPc hDc hl) hS (fun q _ h => hFc q h) hFc (fun r u t H1 locs1 ht hvm hp hB hz1 hk1 hS1 => ?_)
  obtain ⟨hP1, hD1⟩ := hB
  rw [ht] at hP1
  obtain ⟨hP2, hD2⟩ := va_join (wr := wr) (w1 := w1 u) hP hD isC isR hC hR hnR hdis hk1 hFc hP1 hD1
  exact k r u hp H1 locs1 ls hP2 hD2 hS1 hl
theorem zk_enteri {S : Type} {y : MethodName} {wy ws' : List Cond} {rm : Room} {av : List Value} {maxL : Nat} {ret : Option FieldType} {post : Int32 → S → Prop} {w1 : S → va_W} (hy : plainName y.cls = true) (hw : wy = Cond.code y cc maxL ret :: ws') (hlen : (lg_sl av).length ≤ maxL)
    (body : ∀ (p : Program) (e : Env) (s : State) (m : MethodId) (args : Array Value) (below : List Frame) (meth : Method) (c : Code) (A : Nat → Prop) (Q : State → Prop), Q = MQ below (va_Qi post (zk_B D cl A w1) A) args s 0 0 A → zk_X p s m args c cc maxL y.cls wy D cl tys A → meth.sig.returnType = ret → meth.locks = false → zk_Z p l e rm s m args below meth c Q A D cl maxL 0 0 wc (lv_args 0 av) [] 0) : zk_Ci l y wy rm D cl av wc tys post w1 := by
  intro sz
  refine Met.ofW (cc := cc) (maxL := maxL) (ret := ret) hy hw ?_
  intro p e s m args below meth c s₁ B hml hv
  obtain ⟨rfl, hsz, hP, hK, hD0, hN⟩ := hv
  have hts := atoms_spec (ws := wy) B.pre
  have hown : s.vm.findClass y.cls = some m.cls := findClass_of_methodNamed B.named
  subst hsz
  have hD := hD0.self (sz := s.heap.size)
  generalize hAe : va_A wc s.heap.size = A at hD ⊢
  have hA : ∀ q : Nat, s.heap.size ≤ q → A q := fun q h => by rw [← hAe]; exact Or.inr h
  have hS : va_S A s.heap s.heap [] := va_S.rf
  have hl := lv_entry av (n := maxL) hlen
  rw [lg_entry_eq]
  exact body p e s m av.toArray below meth c A _ rfl ⟨⟨B.exec, B.bytes, hml, hown, hts⟩, hK, hA, hN⟩ B.returns B.notSynchronized s.heap [] _ hP hD hS hl
theorem zk_enterl {S : Type} {y : MethodName} {wy ws' : List Cond} {rm : Room} {av : List Value} {maxL : Nat} {ret : Option FieldType} {post : Int64 → S → Prop} {w1 : S → va_W} (hy : plainName y.cls = true) (hw : wy = Cond.code y cc maxL ret :: ws') (hlen : (lg_sl av).length ≤ maxL)
    (body : ∀ (p : Program) (e : Env) (s : State) (m : MethodId) (args : Array Value) (below : List Frame) (meth : Method) (c : Code) (A : Nat → Prop) (Q : State → Prop), Q = MQ below (va_Ql post (zk_B D cl A w1) A) args s 0 0 A → zk_X p s m args c cc maxL y.cls wy D cl tys A → meth.sig.returnType = ret → meth.locks = false → zk_Z p l e rm s m args below meth c Q A D cl maxL 0 0 wc (lv_args 0 av) [] 0) : zk_Cl l y wy rm D cl av wc tys post w1 := by
  intro sz
  refine Met.ofW (cc := cc) (maxL := maxL) (ret := ret) hy hw ?_
  intro p e s m args below meth c s₁ B hml hv
  obtain ⟨rfl, hsz, hP, hK, hD0, hN⟩ := hv
  have hts := atoms_spec (ws := wy) B.pre
  have hown : s.vm.findClass y.cls = some m.cls := findClass_of_methodNamed B.named
  subst hsz
  have hD := hD0.self (sz := s.heap.size)
  generalize hAe : va_A wc s.heap.size = A at hD ⊢
  have hA : ∀ q : Nat, s.heap.size ≤ q → A q := fun q h => by rw [← hAe]; exact Or.inr h
  have hS : va_S A s.heap s.heap [] := va_S.rf
  have hl := lv_entry av (n := maxL) hlen
  rw [lg_entry_eq]
  exact body p e s m av.toArray below meth c A _ rfl ⟨⟨B.exec, B.bytes, hml, hown, hts⟩, hK, hA, hN⟩ B.returns B.notSynchronized s.heap [] _ hP hD hS hl
theorem zk_enterv {S : Type} {y : MethodName} {wy ws' : List Cond} {rm : Room} {av : List Value} {maxL : Nat} {ret : Option FieldType} {post : S → Prop} {w1 : S → va_W} (hy : plainName y.cls = true) (hw : wy = Cond.code y cc maxL ret :: ws') (hlen : (lg_sl av).length ≤ maxL)
    (body : ∀ (p : Program) (e : Env) (s : State) (m : MethodId) (args : Array Value) (below : List Frame) (meth : Method) (c : Code) (A : Nat → Prop) (Q : State → Prop), Q = MQ below (va_Qv post (zk_B D cl A w1) A) args s 0 0 A → zk_X p s m args c cc maxL y.cls wy D cl tys A → meth.sig.returnType = ret → meth.locks = false → zk_Z p l e rm s m args below meth c Q A D cl maxL 0 0 wc (lv_args 0 av) [] 0) : zk_Cv l y wy rm D cl av wc tys post w1 := by
  intro sz
  refine Met.ofW (cc := cc) (maxL := maxL) (ret := ret) hy hw ?_
  intro p e s m args below meth c s₁ B hml hv
  obtain ⟨rfl, hsz, hP, hK, hD0, hN⟩ := hv
  have hts := atoms_spec (ws := wy) B.pre
  have hown : s.vm.findClass y.cls = some m.cls := findClass_of_methodNamed B.named
  subst hsz
  have hD := hD0.self (sz := s.heap.size)
  generalize hAe : va_A wc s.heap.size = A at hD ⊢
  have hA : ∀ q : Nat, s.heap.size ≤ q → A q := fun q h => by rw [← hAe]; exact Or.inr h
  have hS : va_S A s.heap s.heap [] := va_S.rf
  have hl := lv_entry av (n := maxL) hlen
  rw [lg_entry_eq]
  exact body p e s m av.toArray below meth c A _ rfl ⟨⟨B.exec, B.bytes, hml, hown, hts⟩, hK, hA, hN⟩ B.returns B.notSynchronized s.heap [] _ hP hD hS hl
theorem zk_enterq {S : Type} {y : MethodName} {wy ws' : List Cond} {rm : Room} {av : List Value} {maxL : Nat} {ret : Option FieldType} {post : Option Nat → S → Prop} {w1 : S → va_W} (hy : plainName y.cls = true) (hw : wy = Cond.code y cc maxL ret :: ws') (hlen : (lg_sl av).length ≤ maxL)
    (body : ∀ (p : Program) (e : Env) (s : State) (m : MethodId) (args : Array Value) (below : List Frame) (meth : Method) (c : Code) (A : Nat → Prop) (Q : State → Prop), Q = MQ below (va_Qq post (zk_B D cl A w1) A) args s 0 0 A → zk_X p s m args c cc maxL y.cls wy D cl tys A → meth.sig.returnType = ret → meth.locks = false → zk_Z p l e rm s m args below meth c Q A D cl maxL 0 0 wc (lv_args 0 av) [] 0) : zk_Cq l y wy rm D cl av wc tys post w1 := by
  intro sz
  refine Met.ofW (cc := cc) (maxL := maxL) (ret := ret) hy hw ?_
  intro p e s m args below meth c s₁ B hml hv
  obtain ⟨rfl, hsz, hP, hK, hD0, hN⟩ := hv
  have hts := atoms_spec (ws := wy) B.pre
  have hown : s.vm.findClass y.cls = some m.cls := findClass_of_methodNamed B.named
  subst hsz
  have hD := hD0.self (sz := s.heap.size)
  generalize hAe : va_A wc s.heap.size = A at hD ⊢
  have hA : ∀ q : Nat, s.heap.size ≤ q → A q := fun q h => by rw [← hAe]; exact Or.inr h
  have hS : va_S A s.heap s.heap [] := va_S.rf
  have hl := lv_entry av (n := maxL) hlen
  rw [lg_entry_eq]
  exact body p e s m av.toArray below meth c A _ rfl ⟨⟨B.exec, B.bytes, hml, hown, hts⟩, hK, hA, hN⟩ B.returns B.notSynchronized s.heap [] _ hP hD hS hl
theorem zk_iret (X : zk_X p s m args c cc nL own Ts D cl tys A) {S : Type} {post : Int32 → S → Prop} {w1 : S → va_W} {v : Int32} (hQ : Q = MQ below (va_Qi post (zk_B D cl A w1) A) args s 0 0 A) (hr : meth.sig.returnType = some .int) (hlocks : meth.locks = false) (u : S) (hp : post v u) (is : List Nat) (hs : is.map (fun i => ws[i]?) = (w1 u).map some) (hn : va_nd is = true) (hdg : decode cc pc = .ok (.ireturn, 1)) : zk_Z p l e R s m args below meth c Q A D cl nL 0 0 ws lv [.int v] pc := by
  subst hQ
  exact fun H locs ls hP hD hS hl => W.iret X.1.1 X.1.2.1 hr (fun t ht hW => ⟨⟨v, u, rfl, hp, by rw [ht]; exact hP.sub is (zk_fm hs), hD.sub is hn hs⟩, hS.F ht⟩) hS.2.2 hdg hlocks
theorem zk_zret (X : zk_X p s m args c cc nL own Ts D cl tys A) {S : Type} {post : Int32 → S → Prop} {w1 : S → va_W} {v : Int32} (hQ : Q = MQ below (va_Qi post (zk_B D cl A w1) A) args s 0 0 A) (hr : meth.sig.returnType = some .boolean) (hlocks : meth.locks = false) (hnw : narrow .boolean (.int v) = .int v) (u : S) (hp : post v u) (is : List Nat) (hs : is.map (fun i => ws[i]?) = (w1 u).map some) (hn : va_nd is = true) (hdg : decode cc pc = .ok (.ireturn, 1)) : zk_Z p l e R s m args below meth c Q A D cl nL 0 0 ws lv [.int v] pc := by
  subst hQ
  exact fun H locs ls hP hD hS hl => W.zret X.1.1 X.1.2.1 hr hnw (fun t ht hW => ⟨⟨v, u, rfl, hp, by rw [ht]; exact hP.sub is (zk_fm hs), hD.sub is hn hs⟩, hS.F ht⟩) hS.2.2 hdg hlocks
theorem zk_lret (X : zk_X p s m args c cc nL own Ts D cl tys A) {S : Type} {post : Int64 → S → Prop} {w1 : S → va_W} {v : Int64} (hQ : Q = MQ below (va_Ql post (zk_B D cl A w1) A) args s 0 0 A) (hr : meth.sig.returnType = some .long) (hlocks : meth.locks = false) (u : S) (hp : post v u) (is : List Nat) (hs : is.map (fun i => ws[i]?) = (w1 u).map some) (hn : va_nd is = true) (hdg : decode cc pc = .ok (.lreturn, 1)) : zk_Z p l e R s m args below meth c Q A D cl nL 0 0 ws lv [.long v] pc := by
  subst hQ
  exact fun H locs ls hP hD hS hl => W.lret X.1.1 X.1.2.1 hr (fun t ht hW => ⟨⟨v, u, rfl, hp, by rw [ht]; exact hP.sub is (zk_fm hs), hD.sub is hn hs⟩, hS.F ht⟩) hS.2.2 hdg hlocks
theorem zk_vret (X : zk_X p s m args c cc nL own Ts D cl tys A) {S : Type} {post : S → Prop} {w1 : S → va_W}  (hQ : Q = MQ below (va_Qv post (zk_B D cl A w1) A) args s 0 0 A) (hr : meth.sig.returnType = none) (hlocks : meth.locks = false) (u : S) (hp : post u) (is : List Nat) (hs : is.map (fun i => ws[i]?) = (w1 u).map some) (hn : va_nd is = true) (hdg : decode cc pc = .ok (.return_, 1)) : zk_Z p l e R s m args below meth c Q A D cl nL 0 0 ws lv [] pc := by
  subst hQ
  exact fun H locs ls hP hD hS hl => W.vret X.1.1 X.1.2.1 hr (fun t ht hW => ⟨⟨u, rfl, hp, by rw [ht]; exact hP.sub is (zk_fm hs), hD.sub is hn hs⟩, hS.F ht⟩) hS.2.2 hdg hlocks
theorem zk_aret (X : zk_X p s m args c cc nL own Ts D cl tys A) {S : Type} {post : Option Nat → S → Prop} {w1 : S → va_W} {v : Option Nat} {rt : FieldType} (hQ : Q = MQ below (va_Qq post (zk_B D cl A w1) A) args s 0 0 A) (hr : meth.sig.returnType = some rt) (hlocks : meth.locks = false) (hrt : (∃ n, rt = .object n) ∨ ∃ t, rt = .array t) (u : S) (hp : post v u) (is : List Nat) (hs : is.map (fun i => ws[i]?) = (w1 u).map some) (hn : va_nd is = true) (hdg : decode cc pc = .ok (.areturn, 1)) : zk_Z p l e R s m args below meth c Q A D cl nL 0 0 ws lv [va_rf v] pc := by
  subst hQ
  exact fun H locs ls hP hD hS hl => W.aret X.1.1 X.1.2.1 hr hrt (by cases v with | none => exact Or.inl rfl | some z => exact Or.inr ⟨z, rfl⟩) (fun t ht hW => ⟨⟨v, u, rfl, hp, by rw [ht]; exact hP.sub is (zk_fm hs), hD.sub is hn hs⟩, hS.F ht⟩) hS.2.2 hdg hlocks
end ZKC
end
section
/-! making things: new, newarray, final fields, constructors (contracts that name what they make) -/
section ZKN
variable {p : Program} {l : Launch} {e : Env} {R : Room} {s : State} {m : MethodId} {args : Array Value} {below : List Frame} {meth : Method} {c : Code} {Q : State → Prop} {A : Nat → Prop} {D : va_G} {cl : List vw_C} {tys tysC : List (ClassId × FieldType)} {nL cells slots pc : Nat} {cc : ByteArray} {Ts : List Cond} {own : String} {ws wc wr : va_W} {lv : List (Nat × Value)} {st : List Value}
theorem zk_new (X : zk_X p s m args c cc nL own Ts D cl tys A) {C : String} {T : u_T} {N ci index : Nat} {fs : List Value} (hin : ∀ w ∈ u_ws C T N, w ∈ Ts) {ty : Nat → FieldType} (hty : ∀ k, k < N → parseFieldDescriptor (T k).2.2.1 = some (ty k)) (hcl : Cond.classLink own index C ∈ Ts) (hinst : Cond.instantiable C N ∈ Ts) (hini : Cond.initialized C ∈ Ts) (hc : cl[ci]? = some (C, T, N)) (hfs : ∀ j, j < N → defaultValue (ty j) = vp_V fs j) (hcells : cells + 1 ≤ R.cells) (hslots : slots + N ≤ R.slots) (hdg : decode cc pc = .ok (.new index, 3))
    (k : ∀ q : Nat, zk_Z p l e R s m args below meth c Q A D cl nL (cells + 1) (slots + N) (ws ++ [(q, .inr (ci, fs))]) lv (.ref q :: st) (pc + 3)) : zk_Z p l e R s m args below meth c Q A D cl nL cells slots ws lv st pc :=
  fun H locs ls hP hD hS hl => va_new X.1.1 X.1.2.1 X.1.2.2.2.2 hin ty hty X.1.2.2.2.1 (X.1.2.2.2.2 _ hcl) (X.1.2.2.2.2 _ hinst) (X.1.2.2.2.2 _ hini) X.2.1 hP hD hS X.2.2.1 hc hfs hcells hslots hdg (fun q H1 h1 h2 h3 => k q H1 locs ls h1 h2 h3 hl)
theorem zk_newa (X : zk_X p s m args c cc nL own Ts D cl tys A) {atype : ArrayType} {ty : FieldType} (harr : Cond.arrayClass (newarray.typeOf atype) ∈ Ts) (hty : newarray.typeOf atype = ty) {n : Int32} {N' : Nat} {a0 : vp_A} (ha : ∀ cA : ClassId, vp_cell cA a0 = arrV cA N' (fun _ => defaultValue ty)) (hn : ¬ n < 0) (hN : n.toNatClampNeg = N') (hbytes : N' * componentBytes ty ≤ 536870912) (hcells : cells + 1 ≤ R.cells) (hslots : slots + N' ≤ R.slots) (hdg : decode cc pc = .ok (.newarray atype, 2))
    (k : ∀ (q : Nat) (cA : ClassId), zk_X p s m args c cc nL own Ts D cl (tys ++ [(cA, ty)]) A → zk_Z p l e R s m args below meth c Q A D cl nL (cells + 1) (slots + N') (ws ++ [(q, .inl (cA, a0))]) lv (.ref q :: st) (pc + 2)) : zk_Z p l e R s m args below meth c Q A D cl nL cells slots ws lv (.int n :: st) pc :=
  fun H locs ls hP hD hS hl => va_newa X.1.1 X.1.2.1 (X.1.2.2.2.2 _ harr) hty X.2.1 hP hD hS X.2.2.1 ha hn hN hbytes hcells hslots hdg (fun q cA H1 hK h1 h2 h3 => k q cA ⟨X.1, hK, X.2.2⟩ H1 locs ls h1 h2 h3 hl)
theorem zk_putF (X : zk_X p s m args c cc nL own Ts D cl tys A) {C : String} {T : u_T} {N ci index a : Nat} {fs : List Value} {v : Value} {ty : FieldType} {ws' : va_W} (hin : ∀ w ∈ u_ws C T N, w ∈ Ts) {ty0 : Nat → FieldType} (hty : ∀ k, k < N → parseFieldDescriptor (T k).2.2.1 = some (ty0 k)) (hnm : ∀ a, a < N → ∀ b, b < N → a ≠ b → (T a).2.1 ≠ (T b).2.1) (q0 : Nat) (he : ws[q0]? = some (a, .inr (ci, fs))) (hc : cl[ci]? = some (C, T, N)) (k0 : Nat) (hk : k0 < N) (hlink : Cond.fieldLink own index (T k0).1 (T k0).2.1 (T k0).2.2.1 ∈ Ts) (hfin : (T k0).2.2.2 = true) (hnm2 : meth.name = "<init>") (hdecl : (T k0).1 = own) (hd : ty0 k0 = ty) (hn : narrow ty v = v) (hfit : fits ty v = true) (hl0 : k0 < fs.length) (hdg : decode cc pc = .ok (.putfield index, 3)) (hw : ws.set q0 (a, .inr (ci, fs.set k0 v)) = ws') (k : zk_Z p l e R s m args below meth c Q A D cl nL cells slots ws' lv st (pc + 3)) : zk_Z p l e R s m args below meth c Q A D cl nL cells slots ws lv (v :: .ref a :: st) pc := by
  subst hw; subst hd; exact fun H locs ls hP hD hS hl => va_putF X.1.1 X.1.2.1 X.1.2.2.2.2 hin ty0 hty hnm X.1.2.2.2.1 X.2.1 hP hD hS q0 he hc k0 hk (X.1.2.2.2.2 _ hlink) (fun _ h => h) hfin hnm2 hdecl (hty k0 hk) hn hfit hl0 hdg (fun H1 locs1 h1 h2 h3 => k H1 locs1 ls h1 h2 h3 hl)
theorem zk_objInit (X : zk_X p s m args c cc nL own Ts D cl tys A) {idx a : Nat} (hlink : Cond.methodLink own idx Lib.objectInit ∈ Ts) (hinst : Cond.instanceMethod Lib.objectInit ∈ Ts) (hcode : Cond.code Lib.objectInit ⟨#[0xb1]⟩ 1 none ∈ Ts) (hdg : decode cc pc = .ok (.invokespecial idx, 3)) (hfr : 1 ≤ R.frames) (hlo : (st.map fun v => v.category).sum + 12 ≤ R.locals) (k : zk_Z p l e R s m args below meth c Q A D cl nL cells slots ws lv st (pc + 3)) : zk_Z p l e R s m args below meth c Q A D cl nL cells slots ws lv (.ref a :: st) pc :=
  fun H locs ls hP hD hS hl => W.objInit X.1.1 X.1.2.1 X.1.2.2.2.1 (X.1.2.2.2.2 _ hlink) (X.1.2.2.2.2 _ hinst) (X.1.2.2.2.2 _ hcode) rfl (hl.1.trans X.1.2.2.1.symm) rfl hdg hfr (by show 2 * 0 + _ + 12 ≤ _; rw [Nat.mul_zero, Nat.zero_add]; exact hlo) (k H locs ls hP hD hS hl)
/-- what a constructor leaves: its world and the classes of the arrays that it made -/
def zk_BK {S : Type} (D : va_G) (cl : List vw_C) (A : Nat → Prop) (w1 : S → va_W) (t1 : S → List (ClassId × FieldType)) : S → State → Prop := fun u t => va_P D cl (w1 u) t.heap ∧ va_K D cl (t1 u) t ∧ va_D A (w1 u)
def zk_Cn {S : Type} (l : Launch) (y : MethodName) (wy : List Cond) (rm : Room) (D : va_G) (cl : List vw_C) (av : List Value) (wc : va_W) (tys : List (ClassId × FieldType)) (mc ms : Nat) (post : S → Prop) (w1 : S → va_W) (t1 : S → List (ClassId × FieldType)) : Prop :=
  ∀ sz : Nat, Met l y wy rm (zk_Pc D cl av wc tys sz) (va_Qv post (zk_BK D cl (va_A wc sz) w1 t1) (va_A wc sz)) mc ms (va_A wc sz)
theorem zk_entern {S : Type} {y : MethodName} {wy ws' : List Cond} {rm : Room} {av : List Value} {maxL mc ms : Nat} {ret : Option FieldType} {post : S → Prop} {w1 : S → va_W} {t1 : S → List (ClassId × FieldType)} (hy : plainName y.cls = true) (hw : wy = Cond.code y cc maxL ret :: ws') (hlen : (lg_sl av).length ≤ maxL)
    (body : ∀ (p : Program) (e : Env) (s : State) (m : MethodId) (args : Array Value) (below : List Frame) (meth : Method) (c : Code) (A : Nat → Prop) (Q : State → Prop), Q = MQ below (va_Qv post (zk_BK D cl A w1 t1) A) args s mc ms A → zk_X p s m args c cc maxL y.cls wy D cl tys A → meth.sig.returnType = ret → meth.locks = false → meth.name = y.name → zk_Z p l e rm s m args below meth c Q A D cl maxL 0 0 wc (lv_args 0 av) [] 0) : zk_Cn l y wy rm D cl av wc tys mc ms post w1 t1 := by
  intro sz
  refine Met.ofW (cc := cc) (maxL := maxL) (ret := ret) hy hw ?_
  intro p e s m args below meth c s₁ B hml hv
  obtain ⟨rfl, hsz, hP, hK, hD0, hN⟩ := hv
  have hts := atoms_spec (ws := wy) B.pre
  have hown : s.vm.findClass y.cls = some m.cls := findClass_of_methodNamed B.named
  have hin : meth.name = y.name := (name_of_methodNamed B.named B.method).1
  subst hsz
  have hD := hD0.self (sz := s.heap.size)
  generalize hAe : va_A wc s.heap.size = A at hD ⊢
  have hA : ∀ q : Nat, s.heap.size ≤ q → A q := fun q h => by rw [← hAe]; exact Or.inr h
  have hS : va_S A s.heap s.heap [] := va_S.rf
  have hl := lv_entry av (n := maxL) hlen
  rw [lg_entry_eq]
  exact body p e s m av.toArray below meth c A _ rfl ⟨⟨B.exec, B.bytes, hml, hown, hts⟩, hK, hA, hN⟩ B.returns B.notSynchronized hin s.heap [] _ hP hD hS hl
theorem zk_nret (X : zk_X p s m args c cc nL own Ts D cl tys A) {S : Type} {post : S → Prop} {w1 : S → va_W} {t1 : S → List (ClassId × FieldType)} {mc ms : Nat} (hQ : Q = MQ below (va_Qv post (zk_BK D cl A w1 t1) A) args s mc ms A) (hr : meth.sig.returnType = none) (hlocks : meth.locks = false) (u : S) (hp : post u) (is : List Nat) (hs : is.map (fun i => ws[i]?) = (w1 u).map some) (hn : va_nd is = true) (it : List Nat) (ht : it.filterMap (fun i => tys[i]?) = t1 u) (hc : cells ≤ mc) (hsl : slots ≤ ms) (hdg : decode cc pc = .ok (.return_, 1)) : zk_Z p l e R s m args below meth c Q A D cl nL cells slots ws lv [] pc := by
  subst hQ
  exact fun H locs ls hP hD hS hl => W.widen (k := mc) (n := ms) hc hsl (W.vret X.1.1 X.1.2.1 hr (fun t htt hW => ⟨⟨u, rfl, hp, by rw [htt]; exact hP.sub is (zk_fm hs), va_K.moved hW.alike (X.2.1.sub it ht), hD.sub is hn hs⟩, hS.F htt⟩) hS.2.2 hdg hlocks)
/-- a constructor's call: what it made comes behind -/
theorem zk_calln (X : zk_X p s m args c cc nL own Ts D cl tys A) {S : Type} {post : S → Prop} {w1 : S → va_W} {t1 : S → List (ClassId × FieldType)} {y : MethodName} {wy : List Cond} {rm : Room} {As rest : List Value} {b mc ms : Nat} (hM : zk_Cn l y wy rm D cl (.ref b :: As) wc tysC mc ms post w1 t1) (tc : List Nat) (hT : tc.filterMap (fun i => tys[i]?) = tysC) (isC isR : List Nat) (hC : isC.map (fun i => ws[i]?) = wc.map some) (hR : isR.map (fun i => ws[i]?) = wr.map some) (hnC : va_nd isC = true) (hnR : va_nd isR = true) (hdis : ∀ i ∈ isR, i ∉ isC)
    (hrun : ∀ (H : Heap) (locs : List Loc) (ls : Array Slot), lv_has ls nL lv → PreS s H (zk_Pc D cl (.ref b :: As) wc tysC H.size) (.ref b :: As) → va_Run p l e R s m args below meth c H locs cells slots mc ms (F0 m pc ls st) rest (va_Qv post (zk_BK D cl (va_A wc H.size) w1 t1) (va_A wc H.size) (Value.ref b :: As).toArray) (va_A wc H.size))
    (k : ∀ (u : S), post u → zk_X p s m args c cc nL own Ts D cl (tys ++ t1 u) A → zk_Z p l e R s m args below meth c Q A D cl nL (cells + mc) (slots + ms) (wr ++ w1 u) lv rest (pc + 3)) : zk_Z p l e R s m args below meth c Q A D cl nL cells slots ws lv st pc := by
  intro H locs ls hP hD hS hl
  have hPc := hP.sub isC (zk_fm hC)
  have hDc := hD.sub isC hnC hC
  have hFc := va_free (wc := wc) hD hS X.2.2.1 isC hC
  refine va_callv (hrun H locs ls hl ⟨zk_blind, zk_pre X hPc hDc (X.2.1.sub tc hT)⟩) hS (fun q _ h => hFc q h) hFc (fun u t H1 locs1 ht hvm hp hB hz1 hk1 hS1 => ?_)
  obtain ⟨hP1, hK1, hD1⟩ := hB
  rw [ht] at hP1
  have hK1 := va_K.moved hvm.symm hK1
  obtain ⟨hP2, hD2⟩ := va_join (wr := wr) (w1 := w1 u) hP hD isC isR hC hR hnR hdis hk1 hFc hP1 hD1
  exact k u hp ⟨X.1, X.2.1.app hK1, X.2.2⟩ H1 locs1 ls hP2 hD2 hS1 hl
end ZKN
end
section
def sp_X_mix (h : Int32) (x : Int32) : Int32 :=
  ((h ^^^ x) * 16777619)
abbrev rm_X_mix : Room := { frames := 0, cells := 0, slots := 0, locals := 0 }
set_option maxHeartbeats 4000000 in
set_option maxRecDepth 100000 in
theorem c_X_mix (l : Launch) (dC : Nat → ClassId) (dI : Nat → Nat → Nat) (h : Int32) (x : Int32) : zk_Ci l y_X_mix w_X_mix rm_X_mix (dC, dI) vwCl [.int h, .int x] [] [] (fun (r : Int32) (u : Unit) => r = sp_X_mix h x) (fun _ => []) := by
  refine zk_enteri (cc := b_X_mix) (maxL := 2) (ret := some .int) (by decide) rfl (Nat.le_of_ble_eq_true rfl) ?_
  intro p e s m args below meth c A Q hQ X hRt hLk
  have hq := sp_X_mix.eq_1 h x
  refine zk_lv (lv' := [(0, .int h), (1, .int x)]) [0, 1] rfl ?_
  refine zk_iload_n (pc := 0) X d_X_mix_0 rfl (q := 0) rfl ?_
  refine zk_iload_n (pc := 1) X d_X_mix_1 rfl (q := 1) rfl ?_
  refine zk_ixor (pc := 2) X (v := (h ^^^ x)) d_X_mix_2 rfl ?_
  refine zk_ldc (pc := 3) X (v := 16777619) d_X_mix_3 (zk_m tw_234) ?_
  refine zk_imul (pc := 5) X (v := ((h ^^^ x) * 16777619)) d_X_mix_5 rfl ?_
  exact zk_iret (pc := 6) X hQ hRt hLk () hq.symm [] rfl (by decide) d_X_mix_6
def sp_X_sealByte (h : Int32) (x : Int32) : Int32 :=
  ((sp_X_mix h x) ^^^ (zf_ushr (sp_X_mix h x) 13))
abbrev rm_X_sealByte : Room := { frames := 1, cells := 0, slots := 0, locals := 21 }
set_option maxHeartbeats 4000000 in
set_option maxRecDepth 100000 in
theorem c_X_sealByte (l : Launch) (dC : Nat → ClassId) (dI : Nat → Nat → Nat) (h : Int32) (x : Int32) : zk_Ci l y_X_sealByte w_X_sealByte rm_X_sealByte (dC, dI) vwCl [.int h, .int x] [] [] (fun (r : Int32) (u : Unit) => r = sp_X_sealByte h x) (fun _ => []) := by
  refine zk_enteri (cc := b_X_sealByte) (maxL := 3) (ret := some .int) (by decide) rfl (Nat.le_of_ble_eq_true rfl) ?_
  intro p e s m args below meth c A Q hQ X hRt hLk
  have hq := sp_X_sealByte.eq_1 h x
  refine zk_lv (lv' := [(0, .int h), (1, .int x)]) [0, 1] rfl ?_
  refine zk_iload_n (pc := 0) X d_X_sealByte_0 rfl (q := 0) rfl ?_
  refine zk_iload_n (pc := 1) X d_X_sealByte_1 rfl (q := 1) rfl ?_
  refine zk_calli (pc := 2) X (wc := []) (wr := []) [] [] rfl rfl (by decide) (by decide) (by decide) (zk_runS X (tysC := []) (As := [.int h, .int x]) (rest := []) (c_X_mix l dC dI h x) [] rfl (zk_cwS 2 X.1.2.2.2.2 (zk_goodT tw_233) rfl rfl rfl (zk_m tw_231) (zk_m tw_232) (zk_m tw_1) (by decide +kernel) ⟨Nat.le_of_ble_eq_true rfl, Nat.le_of_ble_eq_true rfl⟩) rfl rfl (Nat.le_of_ble_eq_true rfl) ⟨Nat.zero_le _, Nat.zero_le _⟩ d_X_sealByte_2) ?_
  rintro r2 ⟨⟩ w2
  refine zk_ws (ws' := []) rfl ?_
  subst w2
  refine zk_istore_n (pc := 5) X (i := 2) (lv' := [(2, .int (sp_X_mix h x)), (0, .int h), (1, .int x)]) d_X_sealByte_5 rfl (by decide) rfl ?_
  refine zk_iload_n (pc := 6) X d_X_sealByte_6 rfl (q := 0) rfl ?_
  refine zk_iload_n (pc := 7) X d_X_sealByte_7 rfl (q := 0) rfl ?_
  refine zk_bipush (pc := 8) X (v := 13) d_X_sealByte_8 (by decide) ?_
  refine zk_iushr (pc := 10) X (v := (zf_ushr (sp_X_mix h x) 13)) d_X_sealByte_10 rfl ?_
  refine zk_ixor (pc := 11) X (v := ((sp_X_mix h x) ^^^ (zf_ushr (sp_X_mix h x) 13))) d_X_sealByte_11 rfl ?_
  exact zk_iret (pc := 12) X hQ hRt hLk () hq.symm [] rfl (by decide) d_X_sealByte_12
def sp_X_isInstruction (o : Int32) (b : Int32) : Int32 :=
  if o < 0 then
    0
  else
    if o ≤ 12 then
      if o = 5 then
        if b < 0 then
          0
        else
          if (24 : Int32) ≤ b then
            0
          else
            1
      else
        if o = 6 then
          if b < 0 then
            0
          else
            if (24 : Int32) ≤ b then
              0
            else
              1
        else
          1
    else
      0
abbrev rm_X_isInstruction : Room := { frames := 0, cells := 0, slots := 0, locals := 0 }
set_option maxHeartbeats 4000000 in
set_option maxRecDepth 100000 in
theorem c_X_isInstruction (l : Launch) (dC : Nat → ClassId) (dI : Nat → Nat → Nat) (o : Int32) (b : Int32) : zk_Ci l y_X_isInstruction w_X_isInstruction rm_X_isInstruction (dC, dI) vwCl [.int o, .int b] [] [] (fun (r : Int32) (u : Unit) => r = sp_X_isInstruction o b) (fun _ => []) := by
  refine zk_enteri (cc := b_X_isInstruction) (maxL := 3) (ret := some .boolean) (by decide) rfl (Nat.le_of_ble_eq_true rfl) ?_
  intro p e s m args below meth c A Q hQ X hRt hLk
  have hq := sp_X_isInstruction.eq_1 o b
  refine zk_lv (lv' := [(0, .int o), (1, .int b)]) [0, 1] rfl ?_
  refine zk_iload_n (pc := 0) X d_X_isInstruction_0 rfl (q := 0) rfl ?_
  refine zk_if_lt (pc := 1) X (tgt := 10) d_X_isInstruction_1 (by decide) (fun h1 => ?_) (fun h1 => ?_)
  · have hq := hq.trans (if_pos h1)
    refine zk_iconst (pc := 10) X (v := 0) d_X_isInstruction_10 rfl ?_
    exact zk_zret (pc := 11) X hQ hRt hLk rfl () hq.symm [] rfl (by decide) d_X_isInstruction_11
  · have hq := hq.trans (if_neg h1)
    refine zk_iload_n (pc := 4) X d_X_isInstruction_4 rfl (q := 0) rfl ?_
    refine zk_bipush (pc := 5) X (v := 12) d_X_isInstruction_5 (by decide) ?_
    refine zk_icmp_le (pc := 7) X (tgt := 12) d_X_isInstruction_7 (by decide) (fun h7 => ?_) (fun h7 => ?_)
    · have hq := hq.trans (if_pos h7)
      refine zk_iload_n (pc := 12) X d_X_isInstruction_12 rfl (q := 0) rfl ?_
      refine zk_iconst (pc := 13) X (v := 5) d_X_isInstruction_13 rfl ?_
      refine zk_icmp_eq (pc := 14) X (tgt := 23) d_X_isInstruction_14 (by decide) (fun h14 => ?_) (fun h14 => ?_)
      · have hq := hq.trans (if_pos h14)
        refine zk_iconst (pc := 23) X (v := 1) d_X_isInstruction_23 rfl ?_
        refine zk_goto (pc := 24) X (tgt := 28) d_X_isInstruction_24 (by decide) ?_
        refine zk_istore_n (pc := 28) X (i := 2) (lv' := [(2, .int 1), (0, .int o), (1, .int b)]) d_X_isInstruction_28 rfl (by decide) rfl ?_
        refine zk_iload_n (pc := 29) X d_X_isInstruction_29 rfl (q := 0) rfl ?_
        refine zk_if_eq (pc := 30) X (tgt := 43) d_X_isInstruction_30 (by decide) (fun h => absurd h (by decide)) (fun _ => ?_)
        refine zk_iload_n (pc := 33) X d_X_isInstruction_33 rfl (q := 2) rfl ?_
        refine zk_if_lt (pc := 34) X (tgt := 47) d_X_isInstruction_34 (by decide) (fun h34 => ?_) (fun h34 => ?_)
        · have hq := hq.trans (if_pos h34)
          refine zk_iconst (pc := 47) X (v := 0) d_X_isInstruction_47 rfl ?_
          exact zk_zret (pc := 48) X hQ hRt hLk rfl () hq.symm [] rfl (by decide) d_X_isInstruction_48
        · have hq := hq.trans (if_neg h34)
          refine zk_iload_n (pc := 37) X d_X_isInstruction_37 rfl (q := 2) rfl ?_
          refine zk_bipush (pc := 38) X (v := 24) d_X_isInstruction_38 (by decide) ?_
          refine zk_icmp_ge (pc := 40) X (tgt := 47) d_X_isInstruction_40 (by decide) (fun h40 => ?_) (fun h40 => ?_)
          · have hq := hq.trans (if_pos h40)
            refine zk_iconst (pc := 47) X (v := 0) d_X_isInstruction_47 rfl ?_
            exact zk_zret (pc := 48) X hQ hRt hLk rfl () hq.symm [] rfl (by decide) d_X_isInstruction_48
          · have hq := hq.trans (if_neg h40)
            refine zk_iconst (pc := 43) X (v := 1) d_X_isInstruction_43 rfl ?_
            refine zk_goto (pc := 44) X (tgt := 48) d_X_isInstruction_44 (by decide) ?_
            exact zk_zret (pc := 48) X hQ hRt hLk rfl () hq.symm [] rfl (by decide) d_X_isInstruction_48
      · have hq := hq.trans (if_neg h14)
        refine zk_iload_n (pc := 17) X d_X_isInstruction_17 rfl (q := 0) rfl ?_
        refine zk_bipush (pc := 18) X (v := 6) d_X_isInstruction_18 (by decide) ?_
        refine zk_icmp_ne (pc := 20) X (tgt := 27) d_X_isInstruction_20 (by decide) (fun h20 => ?_) (fun h20 => ?_)
        · have hq := hq.trans (if_neg h20)
          refine zk_iconst (pc := 27) X (v := 0) d_X_isInstruction_27 rfl ?_
          refine zk_istore_n (pc := 28) X (i := 2) (lv' := [(2, .int 0), (0, .int o), (1, .int b)]) d_X_isInstruction_28 rfl (by decide) rfl ?_
          refine zk_iload_n (pc := 29) X d_X_isInstruction_29 rfl (q := 0) rfl ?_
          refine zk_if_eq (pc := 30) X (tgt := 43) d_X_isInstruction_30 (by decide) (fun _ => ?_) (fun h => absurd h (by decide))
          refine zk_iconst (pc := 43) X (v := 1) d_X_isInstruction_43 rfl ?_
          refine zk_goto (pc := 44) X (tgt := 48) d_X_isInstruction_44 (by decide) ?_
          exact zk_zret (pc := 48) X hQ hRt hLk rfl () hq.symm [] rfl (by decide) d_X_isInstruction_48
        · have hq := hq.trans (if_pos h20)
          refine zk_iconst (pc := 23) X (v := 1) d_X_isInstruction_23 rfl ?_
          refine zk_goto (pc := 24) X (tgt := 28) d_X_isInstruction_24 (by decide) ?_
          refine zk_istore_n (pc := 28) X (i := 2) (lv' := [(2, .int 1), (0, .int o), (1, .int b)]) d_X_isInstruction_28 rfl (by decide) rfl ?_
          refine zk_iload_n (pc := 29) X d_X_isInstruction_29 rfl (q := 0) rfl ?_
          refine zk_if_eq (pc := 30) X (tgt := 43) d_X_isInstruction_30 (by decide) (fun h => absurd h (by decide)) (fun _ => ?_)
          refine zk_iload_n (pc := 33) X d_X_isInstruction_33 rfl (q := 2) rfl ?_
          refine zk_if_lt (pc := 34) X (tgt := 47) d_X_isInstruction_34 (by decide) (fun h34 => ?_) (fun h34 => ?_)
          · have hq := hq.trans (if_pos h34)
            refine zk_iconst (pc := 47) X (v := 0) d_X_isInstruction_47 rfl ?_
            exact zk_zret (pc := 48) X hQ hRt hLk rfl () hq.symm [] rfl (by decide) d_X_isInstruction_48
          · have hq := hq.trans (if_neg h34)
            refine zk_iload_n (pc := 37) X d_X_isInstruction_37 rfl (q := 2) rfl ?_
            refine zk_bipush (pc := 38) X (v := 24) d_X_isInstruction_38 (by decide) ?_
            refine zk_icmp_ge (pc := 40) X (tgt := 47) d_X_isInstruction_40 (by decide) (fun h40 => ?_) (fun h40 => ?_)
            · have hq := hq.trans (if_pos h40)
              refine zk_iconst (pc := 47) X (v := 0) d_X_isInstruction_47 rfl ?_
              exact zk_zret (pc := 48) X hQ hRt hLk rfl () hq.symm [] rfl (by decide) d_X_isInstruction_48
            · have hq := hq.trans (if_neg h40)
              refine zk_iconst (pc := 43) X (v := 1) d_X_isInstruction_43 rfl ?_
              refine zk_goto (pc := 44) X (tgt := 48) d_X_isInstruction_44 (by decide) ?_
              exact zk_zret (pc := 48) X hQ hRt hLk rfl () hq.symm [] rfl (by decide) d_X_isInstruction_48
    · have hq := hq.trans (if_neg h7)
      refine zk_iconst (pc := 10) X (v := 0) d_X_isInstruction_10 rfl ?_
      exact zk_zret (pc := 11) X hQ hRt hLk rfl () hq.symm [] rfl (by decide) d_X_isInstruction_11
def sp_P_has (i : Int32) (pn : Nat) : Int32 :=
  if i < 0 then
    0
  else
    if (nI pn) ≤ i then
      0
    else
      1
abbrev rm_P_has : Room := { frames := 0, cells := 0, slots := 0, locals := 0 }
set_option maxHeartbeats 4000000 in
set_option maxRecDepth 100000 in
theorem c_P_has (l : Launch) (dC : Nat → ClassId) (dI : Nat → Nat → Nat) (hp po pf ps : Nat) (cPo cPf cPs : ClassId) (i : Int32) (fo : Nat → Int32) (ff : Nat → Int32) (fs : Nat → Int32) (pn : Nat) : zk_Ci l y_P_has w_P_has rm_P_has (dC, dI) vwCl [.ref hp, .int i] [(hp, .inr (0, [.ref po, .ref pf, .ref ps, .int (nI pn)])), (po, .inl (cPo, 24, .inl fo)), (pf, .inl (cPf, 24, .inl ff)), (ps, .inl (cPs, 24, .inl fs))] [(cPo, .int), (cPf, .int), (cPs, .int)] (fun (r : Int32) (u : Unit) => r = sp_P_has i pn ∧ (zk_hs r i pn)) (fun _ => [(hp, .inr (0, [.ref po, .ref pf, .ref ps, .int (nI pn)])), (po, .inl (cPo, 24, .inl fo)), (pf, .inl (cPf, 24, .inl ff)), (ps, .inl (cPs, 24, .inl fs))]) := by
  refine zk_enteri (cc := b_P_has) (maxL := 2) (ret := some .boolean) (by decide) rfl (Nat.le_of_ble_eq_true rfl) ?_
  intro p e s m args below meth c A Q hQ X hRt hLk
  have hq := sp_P_has.eq_1 i pn
  refine zk_lv (lv' := [(0, .ref hp), (1, .int i)]) [0, 1] rfl ?_
  refine zk_iload_n (pc := 0) X d_P_has_0 rfl (q := 1) rfl ?_
  refine zk_if_lt (pc := 1) X (tgt := 16) d_P_has_1 (by decide) (fun h1 => ?_) (fun h1 => ?_)
  · have hq := hq.trans (if_pos h1)
    refine zk_iconst (pc := 16) X (v := 0) d_P_has_16 rfl ?_
    exact zk_zret (pc := 17) X hQ hRt hLk rfl () ⟨hq.symm, (show zk_hs 0 i pn by first | exact Or.inl rfl | exact Or.inr ⟨by assumption, by assumption⟩)⟩ [0, 1, 2, 3] rfl (by decide) d_P_has_17
  · have hq := hq.trans (if_neg h1)
    refine zk_iload_n (pc := 4) X d_P_has_4 rfl (q := 1) rfl ?_
    refine zk_aload_n (pc := 5) X d_P_has_5 rfl (q := 0) rfl ?_
    refine zk_get (pc := 6) X (ci := 0) (v := .int (nI pn)) in_P 0 rfl rfl 3 (by decide) (zk_m tw_31) rfl d_P_has_6 ?_
    refine zk_icmp_ge (pc := 9) X (tgt := 16) d_P_has_9 (by decide) (fun h9 => ?_) (fun h9 => ?_)
    · have hq := hq.trans (if_pos h9)
      refine zk_iconst (pc := 16) X (v := 0) d_P_has_16 rfl ?_
      exact zk_zret (pc := 17) X hQ hRt hLk rfl () ⟨hq.symm, (show zk_hs 0 i pn by first | exact Or.inl rfl | exact Or.inr ⟨by assumption, by assumption⟩)⟩ [0, 1, 2, 3] rfl (by decide) d_P_has_17
    · have hq := hq.trans (if_neg h9)
      refine zk_iconst (pc := 12) X (v := 1) d_P_has_12 rfl ?_
      refine zk_goto (pc := 13) X (tgt := 17) d_P_has_13 (by decide) ?_
      exact zk_zret (pc := 17) X hQ hRt hLk rfl () ⟨hq.symm, (show zk_hs 1 i pn by first | exact Or.inl rfl | exact Or.inr ⟨by assumption, by assumption⟩)⟩ [0, 1, 2, 3] rfl (by decide) d_P_has_17
def sp_P_append (o : Int32) (a : Int32) (b : Int32) (fo : Nat → Int32) (ff : Nat → Int32) (fs : Nat → Int32) (pn : Nat) : Int32 × (Nat → Int32) × (Nat → Int32) × (Nat → Int32) × Nat :=
  if pn < 24 then
    (nI pn, (upd fo pn o), (upd ff pn a), (upd fs pn b), pn + 1)
  else
    ((-1), fo, ff, fs, pn)
abbrev rm_P_append : Room := { frames := 0, cells := 0, slots := 0, locals := 0 }
set_option maxHeartbeats 4000000 in
set_option maxRecDepth 100000 in
theorem c_P_append (l : Launch) (dC : Nat → ClassId) (dI : Nat → Nat → Nat) (hp po pf ps : Nat) (cPo cPf cPs : ClassId) (o : Int32) (a : Int32) (b : Int32) (fo : Nat → Int32) (ff : Nat → Int32) (fs : Nat → Int32) (pn : Nat) (hpn : pn ≤ 24) : zk_Ci l y_P_append w_P_append rm_P_append (dC, dI) vwCl [.ref hp, .int o, .int a, .int b] [(hp, .inr (0, [.ref po, .ref pf, .ref ps, .int (nI pn)])), (po, .inl (cPo, 24, .inl fo)), (pf, .inl (cPf, 24, .inl ff)), (ps, .inl (cPs, 24, .inl fs))] [(cPo, .int), (cPf, .int), (cPs, .int)] (fun (r : Int32) (u : (Nat → Int32) × (Nat → Int32) × (Nat → Int32) × Nat) => (r, u) = sp_P_append o a b fo ff fs pn ∧ (u.2.2.2 ≤ 24)) (fun u => [(hp, .inr (0, [.ref po, .ref pf, .ref ps, .int (nI u.2.2.2)])), (po, .inl (cPo, 24, .inl u.1)), (pf, .inl (cPf, 24, .inl u.2.1)), (ps, .inl (cPs, 24, .inl u.2.2.1))]) := by
  refine zk_enteri (cc := b_P_append) (maxL := 4) (ret := some .int) (by decide) rfl (Nat.le_of_ble_eq_true rfl) ?_
  intro p e s m args below meth c A Q hQ X hRt hLk
  have hq := sp_P_append.eq_1 o a b fo ff fs pn
  refine zk_lv (lv' := [(0, .ref hp), (1, .int o), (2, .int a), (3, .int b)]) [0, 1, 2, 3] rfl ?_
  refine zk_aload_n (pc := 0) X d_P_append_0 rfl (q := 0) rfl ?_
  refine zk_get (pc := 1) X (ci := 0) (v := .int (nI pn)) in_P 0 rfl rfl 3 (by decide) (zk_m tw_31) rfl d_P_append_1 ?_
  refine zk_bipush (pc := 4) X (v := 24) d_P_append_4 (by decide) ?_
  refine zk_icmpN_lt (pc := 6) X (tgt := 11) (pn) (24) rfl rfl (by omega) (by omega) d_P_append_6 (by decide) (fun h6 => ?_) (fun h6 => ?_)
  · have hq := hq.trans (if_pos h6)
    refine zk_aload_n (pc := 11) X d_P_append_11 rfl (q := 0) rfl ?_
    refine zk_get (pc := 12) X (ci := 0) (v := .ref po) in_P 0 rfl rfl 0 (by decide) (zk_m tw_25) rfl d_P_append_12 ?_
    refine zk_aload_n (pc := 15) X d_P_append_15 rfl (q := 0) rfl ?_
    refine zk_get (pc := 16) X (ci := 0) (v := .int (nI pn)) in_P 0 rfl rfl 3 (by decide) (zk_m tw_31) rfl d_P_append_16 ?_
    refine zk_iload_n (pc := 19) X d_P_append_19 rfl (q := 1) rfl ?_
    refine zk_iast (pc := 20) X 1 0 (ws' := [(hp, .inr (0, [.ref po, .ref pf, .ref ps, .int (nI pn)])), (po, .inl (cPo, 24, .inl (upd fo pn o))), (pf, .inl (cPf, 24, .inl ff)), (ps, .inl (cPs, 24, .inl fs))]) (pn) rfl rfl rfl (by omega) (by decide) d_P_append_20 rfl ?_
    refine zk_aload_n (pc := 21) X d_P_append_21 rfl (q := 0) rfl ?_
    refine zk_get (pc := 22) X (ci := 0) (v := .ref pf) in_P 0 rfl rfl 1 (by decide) (zk_m tw_27) rfl d_P_append_22 ?_
    refine zk_aload_n (pc := 25) X d_P_append_25 rfl (q := 0) rfl ?_
    refine zk_get (pc := 26) X (ci := 0) (v := .int (nI pn)) in_P 0 rfl rfl 3 (by decide) (zk_m tw_31) rfl d_P_append_26 ?_
    refine zk_iload_n (pc := 29) X d_P_append_29 rfl (q := 2) rfl ?_
    refine zk_iast (pc := 30) X 2 1 (ws' := [(hp, .inr (0, [.ref po, .ref pf, .ref ps, .int (nI pn)])), (po, .inl (cPo, 24, .inl (upd fo pn o))), (pf, .inl (cPf, 24, .inl (upd ff pn a))), (ps, .inl (cPs, 24, .inl fs))]) (pn) rfl rfl rfl (by omega) (by decide) d_P_append_30 rfl ?_
    refine zk_aload_n (pc := 31) X d_P_append_31 rfl (q := 0) rfl ?_
    refine zk_get (pc := 32) X (ci := 0) (v := .ref ps) in_P 0 rfl rfl 2 (by decide) (zk_m tw_29) rfl d_P_append_32 ?_
    refine zk_aload_n (pc := 35) X d_P_append_35 rfl (q := 0) rfl ?_
    refine zk_get (pc := 36) X (ci := 0) (v := .int (nI pn)) in_P 0 rfl rfl 3 (by decide) (zk_m tw_31) rfl d_P_append_36 ?_
    refine zk_iload_n (pc := 39) X d_P_append_39 rfl (q := 3) rfl ?_
    refine zk_iast (pc := 40) X 3 2 (ws' := [(hp, .inr (0, [.ref po, .ref pf, .ref ps, .int (nI pn)])), (po, .inl (cPo, 24, .inl (upd fo pn o))), (pf, .inl (cPf, 24, .inl (upd ff pn a))), (ps, .inl (cPs, 24, .inl (upd fs pn b)))]) (pn) rfl rfl rfl (by omega) (by decide) d_P_append_40 rfl ?_
    refine zk_aload_n (pc := 41) X d_P_append_41 rfl (q := 0) rfl ?_
    refine zk_dup (pc := 42) X d_P_append_42 rfl ?_
    refine zk_get (pc := 43) X (ci := 0) (v := .int (nI pn)) in_P 0 rfl rfl 3 (by decide) (zk_m tw_31) rfl d_P_append_43 ?_
    refine zk_iconst (pc := 46) X (v := 1) d_P_append_46 rfl ?_
    refine zk_iadd (pc := 47) X (v := nI (pn + 1)) d_P_append_47 (nI_add (pn) (1)) ?_
    refine zk_put (pc := 48) X (ty := .int) (v := .int (nI (pn + 1))) (ws' := [(hp, .inr (0, [.ref po, .ref pf, .ref ps, .int (nI (pn + 1))])), (po, .inl (cPo, 24, .inl (upd fo pn o))), (pf, .inl (cPf, 24, .inl (upd ff pn a))), (ps, .inl (cPs, 24, .inl (upd fs pn b)))]) in_P tok_P nok_P 0 rfl rfl 3 (by decide) (zk_m tw_31) rfl rfl rfl rfl (Nat.le_of_ble_eq_true rfl) d_P_append_48 rfl ?_
    refine zk_aload_n (pc := 51) X d_P_append_51 rfl (q := 0) rfl ?_
    refine zk_get (pc := 52) X (ci := 0) (v := .int (nI (pn + 1))) in_P 0 rfl rfl 3 (by decide) (zk_m tw_31) rfl d_P_append_52 ?_
    refine zk_iconst (pc := 55) X (v := 1) d_P_append_55 rfl ?_
    refine zk_isub (pc := 56) X (v := nI pn) d_P_append_56 (zk_nsub (pn) 1) ?_
    exact zk_iret (pc := 57) X hQ hRt hLk ((upd fo pn o), (upd ff pn a), (upd fs pn b), pn + 1) ⟨hq.symm, (show (pn + 1) ≤ 24 by omega)⟩ [0, 1, 2, 3] rfl (by decide) d_P_append_57
  · have hq := hq.trans (if_neg h6)
    refine zk_iconst (pc := 9) X (v := (-1)) d_P_append_9 rfl ?_
    exact zk_iret (pc := 10) X hQ hRt hLk (fo, ff, fs, pn) ⟨hq.symm, (show pn ≤ 24 by omega)⟩ [0, 1, 2, 3] rfl (by decide) d_P_append_10
end
section
def sp_J_restart : Nat × Int32 × Int32 × Int32 :=
  (0, 0, 1, 0)
abbrev rm_J_restart : Room := { frames := 0, cells := 0, slots := 0, locals := 0 }
set_option maxHeartbeats 4000000 in
set_option maxRecDepth 100000 in
theorem c_J_restart (l : Launch) (dC : Nat → ClassId) (dI : Nat → Nat → Nat) (hj jb : Nat) (cJ : ClassId) (fb : Nat → Int32) (jn : Nat) (jm : Int32) (jS : Int32) (jl : Int32) : zk_Cv l y_J_restart w_J_restart rm_J_restart (dC, dI) vwCl [.ref hj] [(hj, .inr (1, [.ref jb, .int (nI jn), .int jm, .int jS, .int jl])), (jb, .inl (cJ, 300, .inl fb))] [(cJ, .int)] (fun (u : Nat × Int32 × Int32 × Int32) => u = sp_J_restart) (fun u => [(hj, .inr (1, [.ref jb, .int (nI u.1), .int u.2.1, .int u.2.2.1, .int u.2.2.2])), (jb, .inl (cJ, 300, .inl fb))]) := by
  refine zk_enterv (cc := b_J_restart) (maxL := 1) (ret := none) (by decide) rfl (Nat.le_of_ble_eq_true rfl) ?_
  intro p e s m args below meth c A Q hQ X hRt hLk
  have hq := sp_J_restart.eq_1
  refine zk_lv (lv' := [(0, .ref hj)]) [0] rfl ?_
  refine zk_aload_n (pc := 0) X d_J_restart_0 rfl (q := 0) rfl ?_
  refine zk_iconst (pc := 1) X (v := 0) d_J_restart_1 rfl ?_
  refine zk_put (pc := 2) X (ty := .int) (v := .int 0) (ws' := [(hj, .inr (1, [.ref jb, .int 0, .int jm, .int jS, .int jl])), (jb, .inl (cJ, 300, .inl fb))]) in_J tok_J nok_J 0 rfl rfl 1 (by decide) (zk_m tw_46) rfl rfl rfl rfl (Nat.le_of_ble_eq_true rfl) d_J_restart_2 rfl ?_
  refine zk_aload_n (pc := 5) X d_J_restart_5 rfl (q := 0) rfl ?_
  refine zk_iconst (pc := 6) X (v := 0) d_J_restart_6 rfl ?_
  refine zk_put (pc := 7) X (ty := .int) (v := .int 0) (ws' := [(hj, .inr (1, [.ref jb, .int 0, .int 0, .int jS, .int jl])), (jb, .inl (cJ, 300, .inl fb))]) in_J tok_J nok_J 0 rfl rfl 2 (by decide) (zk_m tw_48) rfl rfl rfl rfl (Nat.le_of_ble_eq_true rfl) d_J_restart_7 rfl ?_
  refine zk_aload_n (pc := 10) X d_J_restart_10 rfl (q := 0) rfl ?_
  refine zk_iconst (pc := 11) X (v := 1) d_J_restart_11 rfl ?_
  refine zk_put (pc := 12) X (ty := .int) (v := .int 1) (ws' := [(hj, .inr (1, [.ref jb, .int 0, .int 0, .int 1, .int jl])), (jb, .inl (cJ, 300, .inl fb))]) in_J tok_J nok_J 0 rfl rfl 3 (by decide) (zk_m tw_50) rfl rfl rfl rfl (Nat.le_of_ble_eq_true rfl) d_J_restart_12 rfl ?_
  refine zk_aload_n (pc := 15) X d_J_restart_15 rfl (q := 0) rfl ?_
  refine zk_iconst (pc := 16) X (v := 0) d_J_restart_16 rfl ?_
  refine zk_put (pc := 17) X (ty := .int) (v := .int 0) (ws' := [(hj, .inr (1, [.ref jb, .int 0, .int 0, .int 1, .int 0])), (jb, .inl (cJ, 300, .inl fb))]) in_J tok_J nok_J 0 rfl rfl 4 (by decide) (zk_m tw_52) rfl rfl rfl rfl (Nat.le_of_ble_eq_true rfl) d_J_restart_17 rfl ?_
  exact zk_vret (pc := 20) X hQ hRt hLk (0, 0, 1, 0) hq.symm [0, 1] rfl (by decide) d_J_restart_20
def sp_J_has (i : Int32) (jn : Nat) : Int32 :=
  if i < 0 then
    0
  else
    if (nI jn) ≤ i then
      0
    else
      1
abbrev rm_J_has : Room := { frames := 0, cells := 0, slots := 0, locals := 0 }
set_option maxHeartbeats 4000000 in
set_option maxRecDepth 100000 in
theorem c_J_has (l : Launch) (dC : Nat → ClassId) (dI : Nat → Nat → Nat) (hj jb : Nat) (cJ : ClassId) (i : Int32) (fb : Nat → Int32) (jn : Nat) (jm : Int32) (jS : Int32) (jl : Int32) : zk_Ci l y_J_has w_J_has rm_J_has (dC, dI) vwCl [.ref hj, .int i] [(hj, .inr (1, [.ref jb, .int (nI jn), .int jm, .int jS, .int jl])), (jb, .inl (cJ, 300, .inl fb))] [(cJ, .int)] (fun (r : Int32) (u : Unit) => r = sp_J_has i jn ∧ (zk_hs r i jn)) (fun _ => [(hj, .inr (1, [.ref jb, .int (nI jn), .int jm, .int jS, .int jl])), (jb, .inl (cJ, 300, .inl fb))]) := by
  refine zk_enteri (cc := b_J_has) (maxL := 2) (ret := some .boolean) (by decide) rfl (Nat.le_of_ble_eq_true rfl) ?_
  intro p e s m args below meth c A Q hQ X hRt hLk
  have hq := sp_J_has.eq_1 i jn
  refine zk_lv (lv' := [(0, .ref hj), (1, .int i)]) [0, 1] rfl ?_
  refine zk_iload_n (pc := 0) X d_J_has_0 rfl (q := 1) rfl ?_
  refine zk_if_lt (pc := 1) X (tgt := 16) d_J_has_1 (by decide) (fun h1 => ?_) (fun h1 => ?_)
  · have hq := hq.trans (if_pos h1)
    refine zk_iconst (pc := 16) X (v := 0) d_J_has_16 rfl ?_
    exact zk_zret (pc := 17) X hQ hRt hLk rfl () ⟨hq.symm, (show zk_hs 0 i jn by first | exact Or.inl rfl | exact Or.inr ⟨by assumption, by assumption⟩)⟩ [0, 1] rfl (by decide) d_J_has_17
  · have hq := hq.trans (if_neg h1)
    refine zk_iload_n (pc := 4) X d_J_has_4 rfl (q := 1) rfl ?_
    refine zk_aload_n (pc := 5) X d_J_has_5 rfl (q := 0) rfl ?_
    refine zk_get (pc := 6) X (ci := 1) (v := .int (nI jn)) in_J 0 rfl rfl 1 (by decide) (zk_m tw_46) rfl d_J_has_6 ?_
    refine zk_icmp_ge (pc := 9) X (tgt := 16) d_J_has_9 (by decide) (fun h9 => ?_) (fun h9 => ?_)
    · have hq := hq.trans (if_pos h9)
      refine zk_iconst (pc := 16) X (v := 0) d_J_has_16 rfl ?_
      exact zk_zret (pc := 17) X hQ hRt hLk rfl () ⟨hq.symm, (show zk_hs 0 i jn by first | exact Or.inl rfl | exact Or.inr ⟨by assumption, by assumption⟩)⟩ [0, 1] rfl (by decide) d_J_has_17
    · have hq := hq.trans (if_neg h9)
      refine zk_iconst (pc := 12) X (v := 1) d_J_has_12 rfl ?_
      refine zk_goto (pc := 13) X (tgt := 17) d_J_has_13 (by decide) ?_
      exact zk_zret (pc := 17) X hQ hRt hLk rfl () ⟨hq.symm, (show zk_hs 1 i jn by first | exact Or.inl rfl | exact Or.inr ⟨by assumption, by assumption⟩)⟩ [0, 1] rfl (by decide) d_J_has_17
def sp_J_writeNumber_4 : Nat → Int32 → Nat → (Nat → Int32) → Nat → Int32 → (Nat → Int32) × Nat × Int32
  | 0, rest, j, fb1, jn1, jS1 => (fb1, jn1, jS1)
  | fuel + 1, rest, j, fb1, jn1, jS1 =>
    if 5 ≤ j then
      (fb1, jn1, jS1)
    else
      if 300 ≤ jn1 then
        (fb1, jn1, jS1)
      else
        if (zf_ushr rest 7) = 0 then
          ((upd fb1 jn1 (rest &&& 127)), jn1 + 1, (sp_X_sealByte jS1 (rest &&& 127)))
        else
          sp_J_writeNumber_4 fuel (zf_ushr rest 7) (j + 1) (upd fb1 jn1 ((rest &&& 127) ||| 128)) (jn1 + 1) (sp_X_sealByte jS1 ((rest &&& 127) ||| 128))
def sp_J_writeNumber (number : Int32) (fb : Nat → Int32) (jn : Nat) (jS : Int32) : (Nat → Int32) × Nat × Int32 :=
  sp_J_writeNumber_4 6 number 0 fb jn jS
abbrev rm_J_writeNumber : Room := { frames := 2, cells := 0, slots := 0, locals := 43 }
set_option maxHeartbeats 4000000 in
set_option maxRecDepth 100000 in
theorem c_J_writeNumber (l : Launch) (dC : Nat → ClassId) (dI : Nat → Nat → Nat) (hj jb : Nat) (cJ : ClassId) (number : Int32) (fb : Nat → Int32) (jn : Nat) (jm : Int32) (jS : Int32) (jl : Int32) (hjn : jn ≤ 300) : zk_Cv l y_J_writeNumber w_J_writeNumber rm_J_writeNumber (dC, dI) vwCl [.ref hj, .int number] [(hj, .inr (1, [.ref jb, .int (nI jn), .int jm, .int jS, .int jl])), (jb, .inl (cJ, 300, .inl fb))] [(cJ, .int)] (fun (u : (Nat → Int32) × Nat × Int32) => u = sp_J_writeNumber number fb jn jS ∧ (u.2.1 ≤ 300)) (fun u => [(hj, .inr (1, [.ref jb, .int (nI u.2.1), .int jm, .int u.2.2, .int jl])), (jb, .inl (cJ, 300, .inl u.1))]) := by
  refine zk_enterv (cc := b_J_writeNumber) (maxL := 6) (ret := none) (by decide) rfl (Nat.le_of_ble_eq_true rfl) ?_
  intro p e s m args below meth c A Q hQ X hRt hLk
  have cut4 : ∀ (fuel : Nat) (rest : Int32) (j : Nat) (fb1 : Nat → Int32) (jn1 : Nat) (jS1 : Int32), j ≤ 5 → jn1 ≤ 300 → 5 - j < fuel → sp_J_writeNumber number fb jn jS = sp_J_writeNumber_4 fuel rest j fb1 jn1 jS1 → zk_Z p l e rm_J_writeNumber s m args below meth c Q A (dC, dI) vwCl 6 0 0 [(hj, .inr (1, [.ref jb, .int (nI jn1), .int jm, .int jS1, .int jl])), (jb, .inl (cJ, 300, .inl fb1))] [(0, .ref hj), (1, .int number), (2, .int rest), (3, .int (nI j))] [] 4 := by
    intro fuel
    induction fuel with
    | zero => intro rest j fb1 jn1 jS1 hj5 hn1 hMs; exact absurd hMs (Nat.not_lt_zero _)
    | succ fuel ih =>
      intro rest j fb1 jn1 jS1 hj5 hn1 hMs hq
      rw [sp_J_writeNumber_4] at hq
      refine zk_iload_n (pc := 4) X d_J_writeNumber_4 rfl (q := 3) rfl ?_
      refine zk_iconst (pc := 5) X (v := 5) d_J_writeNumber_5 rfl ?_
      refine zk_icmpN_ge (pc := 6) X (tgt := 94) (j) (5) rfl rfl (by omega) (by omega) d_J_writeNumber_6 (by decide) (fun h6 => ?_) (fun h6 => ?_)
      · have hq := hq.trans (if_pos h6)
        exact zk_vret (pc := 94) X hQ hRt hLk (fb1, jn1, jS1) ⟨hq.symm, (show jn1 ≤ 300 by omega)⟩ [0, 1] rfl (by decide) d_J_writeNumber_94
      · have hq := hq.trans (if_neg h6)
        refine zk_aload_n (pc := 9) X d_J_writeNumber_9 rfl (q := 0) rfl ?_
        refine zk_get (pc := 10) X (ci := 1) (v := .int (nI jn1)) in_J 0 rfl rfl 1 (by decide) (zk_m tw_46) rfl d_J_writeNumber_10 ?_
        refine zk_sipush (pc := 13) X (v := 300) d_J_writeNumber_13 (by decide) ?_
        refine zk_icmpN_ge (pc := 16) X (tgt := 94) (jn1) (300) rfl rfl (by omega) (by omega) d_J_writeNumber_16 (by decide) (fun h16 => ?_) (fun h16 => ?_)
        · have hq := hq.trans (if_pos h16)
          exact zk_vret (pc := 94) X hQ hRt hLk (fb1, jn1, jS1) ⟨hq.symm, (show jn1 ≤ 300 by omega)⟩ [0, 1] rfl (by decide) d_J_writeNumber_94
        · have hq := hq.trans (if_neg h16)
          refine zk_iload_n (pc := 19) X d_J_writeNumber_19 rfl (q := 2) rfl ?_
          refine zk_bipush (pc := 20) X (v := 127) d_J_writeNumber_20 (by decide) ?_
          refine zk_iand (pc := 22) X (v := (rest &&& 127)) d_J_writeNumber_22 rfl ?_
          refine zk_istore (pc := 23) X (i := 4) (lv' := [(4, .int (rest &&& 127)), (0, .ref hj), (1, .int number), (2, .int rest), (3, .int (nI j))]) d_J_writeNumber_23 (by decide) rfl ?_
          refine zk_iload_n (pc := 25) X d_J_writeNumber_25 rfl (q := 3) rfl ?_
          refine zk_bipush (pc := 26) X (v := 7) d_J_writeNumber_26 (by decide) ?_
          refine zk_iushr (pc := 28) X (v := (zf_ushr rest 7)) d_J_writeNumber_28 rfl ?_
          refine zk_istore_n (pc := 29) X (i := 2) (lv' := [(2, .int (zf_ushr rest 7)), (4, .int (rest &&& 127)), (0, .ref hj), (1, .int number), (3, .int (nI j))]) d_J_writeNumber_29 rfl (by decide) rfl ?_
          refine zk_iload_n (pc := 30) X d_J_writeNumber_30 rfl (q := 0) rfl ?_
          refine zk_if_ne (pc := 31) X (tgt := 39) d_J_writeNumber_31 (by decide) (fun h31 => ?_) (fun h31 => ?_)
          · have hq := hq.trans (if_neg h31)
            refine zk_iload (pc := 39) X d_J_writeNumber_39 (q := 1) rfl ?_
            refine zk_sipush (pc := 41) X (v := 128) d_J_writeNumber_41 (by decide) ?_
            refine zk_ior (pc := 44) X (v := ((rest &&& 127) ||| 128)) d_J_writeNumber_44 rfl ?_
            refine zk_istore (pc := 45) X (i := 5) (lv' := [(5, .int ((rest &&& 127) ||| 128)), (2, .int (zf_ushr rest 7)), (4, .int (rest &&& 127)), (0, .ref hj), (1, .int number), (3, .int (nI j))]) d_J_writeNumber_45 (by decide) rfl ?_
            refine zk_aload_n (pc := 47) X d_J_writeNumber_47 rfl (q := 3) rfl ?_
            refine zk_get (pc := 48) X (ci := 1) (v := .ref jb) in_J 0 rfl rfl 0 (by decide) (zk_m tw_43) rfl d_J_writeNumber_48 ?_
            refine zk_aload_n (pc := 51) X d_J_writeNumber_51 rfl (q := 3) rfl ?_
            refine zk_get (pc := 52) X (ci := 1) (v := .int (nI jn1)) in_J 0 rfl rfl 1 (by decide) (zk_m tw_46) rfl d_J_writeNumber_52 ?_
            refine zk_iload (pc := 55) X d_J_writeNumber_55 (q := 0) rfl ?_
            refine zk_iast (pc := 57) X 1 0 (ws' := [(hj, .inr (1, [.ref jb, .int (nI jn1), .int jm, .int jS1, .int jl])), (jb, .inl (cJ, 300, .inl (upd fb1 jn1 ((rest &&& 127) ||| 128))))]) (jn1) rfl rfl rfl (by omega) (by decide) d_J_writeNumber_57 rfl ?_
            refine zk_aload_n (pc := 58) X d_J_writeNumber_58 rfl (q := 3) rfl ?_
            refine zk_dup (pc := 59) X d_J_writeNumber_59 rfl ?_
            refine zk_get (pc := 60) X (ci := 1) (v := .int (nI jn1)) in_J 0 rfl rfl 1 (by decide) (zk_m tw_46) rfl d_J_writeNumber_60 ?_
            refine zk_iconst (pc := 63) X (v := 1) d_J_writeNumber_63 rfl ?_
            refine zk_iadd (pc := 64) X (v := nI (jn1 + 1)) d_J_writeNumber_64 (nI_add (jn1) (1)) ?_
            refine zk_put (pc := 65) X (ty := .int) (v := .int (nI (jn1 + 1))) (ws' := [(hj, .inr (1, [.ref jb, .int (nI (jn1 + 1)), .int jm, .int jS1, .int jl])), (jb, .inl (cJ, 300, .inl (upd fb1 jn1 ((rest &&& 127) ||| 128))))]) in_J tok_J nok_J 0 rfl rfl 1 (by decide) (zk_m tw_46) rfl rfl rfl rfl (Nat.le_of_ble_eq_true rfl) d_J_writeNumber_65 rfl ?_
            refine zk_aload_n (pc := 68) X d_J_writeNumber_68 rfl (q := 3) rfl ?_
            refine zk_aload_n (pc := 69) X d_J_writeNumber_69 rfl (q := 3) rfl ?_
            refine zk_get (pc := 70) X (ci := 1) (v := .int jS1) in_J 0 rfl rfl 3 (by decide) (zk_m tw_50) rfl d_J_writeNumber_70 ?_
            refine zk_iload (pc := 73) X d_J_writeNumber_73 (q := 0) rfl ?_
            refine zk_calli (pc := 75) X (wc := []) (wr := [(hj, .inr (1, [.ref jb, .int (nI (jn1 + 1)), .int jm, .int jS1, .int jl])), (jb, .inl (cJ, 300, .inl (upd fb1 jn1 ((rest &&& 127) ||| 128))))]) [] [0, 1] rfl rfl (by decide) (by decide) (by decide) (zk_runSN X (tysC := []) (As := [.int jS1, .int ((rest &&& 127) ||| 128)]) (rest := [.ref hj]) (c_X_sealByte l dC dI jS1 ((rest &&& 127) ||| 128)) [] rfl ⟨va_cnB 2 X.1.2.2.2.2 (zk_goodT tw_230) rfl rfl rfl X.2.2.2.2.2.2.2.2.1 (X.1.2.2.2.2 _ (zk_m tw_1)) (by decide +kernel) ⟨Nat.le_of_ble_eq_true rfl, Nat.le_of_ble_eq_true rfl⟩, X.1.2.2.2.2 _ (zk_m tw_229), trivial⟩ rfl rfl (Nat.le_of_ble_eq_true rfl) ⟨Nat.zero_le _, Nat.zero_le _⟩ d_J_writeNumber_75) ?_
            rintro r75 ⟨⟩ w75
            refine zk_ws (ws' := [(hj, .inr (1, [.ref jb, .int (nI (jn1 + 1)), .int jm, .int jS1, .int jl])), (jb, .inl (cJ, 300, .inl (upd fb1 jn1 ((rest &&& 127) ||| 128))))]) rfl ?_
            subst w75
            refine zk_put (pc := 78) X (ty := .int) (v := .int (sp_X_sealByte jS1 ((rest &&& 127) ||| 128))) (ws' := [(hj, .inr (1, [.ref jb, .int (nI (jn1 + 1)), .int jm, .int (sp_X_sealByte jS1 ((rest &&& 127) ||| 128)), .int jl])), (jb, .inl (cJ, 300, .inl (upd fb1 jn1 ((rest &&& 127) ||| 128))))]) in_J tok_J nok_J 0 rfl rfl 3 (by decide) (zk_m tw_50) rfl rfl rfl rfl (Nat.le_of_ble_eq_true rfl) d_J_writeNumber_78 rfl ?_
            refine zk_iload_n (pc := 81) X d_J_writeNumber_81 rfl (q := 1) rfl ?_
            refine zk_if_ne (pc := 82) X (tgt := 88) d_J_writeNumber_82 (by decide) (fun _ => ?_) (fun g => absurd g h31)
            refine zk_iinc (pc := 88) X (k0 := 5) (v := nI (j + 1)) (lv' := [(3, .int (nI (j + 1))), (5, .int ((rest &&& 127) ||| 128)), (2, .int (zf_ushr rest 7)), (4, .int (rest &&& 127)), (0, .ref hj), (1, .int number)]) d_J_writeNumber_88 rfl (nI_add (j) 1) (by decide) rfl ?_
            refine zk_goto (pc := 91) X (tgt := 4) d_J_writeNumber_91 (by decide) ?_
            refine zk_lv (lv' := [(0, .ref hj), (1, .int number), (2, .int (zf_ushr rest 7)), (3, .int (nI (j + 1)))]) [4, 5, 2, 0] rfl ?_
            exact ih (zf_ushr rest 7) (j + 1) (upd fb1 jn1 ((rest &&& 127) ||| 128)) (jn1 + 1) (sp_X_sealByte jS1 ((rest &&& 127) ||| 128)) (by omega) (by omega) (by omega) hq
          · have hq := hq.trans (if_pos h31)
            refine zk_iload (pc := 34) X d_J_writeNumber_34 (q := 1) rfl ?_
            refine zk_goto (pc := 36) X (tgt := 45) d_J_writeNumber_36 (by decide) ?_
            refine zk_istore (pc := 45) X (i := 5) (lv' := [(5, .int (rest &&& 127)), (2, .int (zf_ushr rest 7)), (4, .int (rest &&& 127)), (0, .ref hj), (1, .int number), (3, .int (nI j))]) d_J_writeNumber_45 (by decide) rfl ?_
            refine zk_aload_n (pc := 47) X d_J_writeNumber_47 rfl (q := 3) rfl ?_
            refine zk_get (pc := 48) X (ci := 1) (v := .ref jb) in_J 0 rfl rfl 0 (by decide) (zk_m tw_43) rfl d_J_writeNumber_48 ?_
            refine zk_aload_n (pc := 51) X d_J_writeNumber_51 rfl (q := 3) rfl ?_
            refine zk_get (pc := 52) X (ci := 1) (v := .int (nI jn1)) in_J 0 rfl rfl 1 (by decide) (zk_m tw_46) rfl d_J_writeNumber_52 ?_
            refine zk_iload (pc := 55) X d_J_writeNumber_55 (q := 0) rfl ?_
            refine zk_iast (pc := 57) X 1 0 (ws' := [(hj, .inr (1, [.ref jb, .int (nI jn1), .int jm, .int jS1, .int jl])), (jb, .inl (cJ, 300, .inl (upd fb1 jn1 (rest &&& 127))))]) (jn1) rfl rfl rfl (by omega) (by decide) d_J_writeNumber_57 rfl ?_
            refine zk_aload_n (pc := 58) X d_J_writeNumber_58 rfl (q := 3) rfl ?_
            refine zk_dup (pc := 59) X d_J_writeNumber_59 rfl ?_
            refine zk_get (pc := 60) X (ci := 1) (v := .int (nI jn1)) in_J 0 rfl rfl 1 (by decide) (zk_m tw_46) rfl d_J_writeNumber_60 ?_
            refine zk_iconst (pc := 63) X (v := 1) d_J_writeNumber_63 rfl ?_
            refine zk_iadd (pc := 64) X (v := nI (jn1 + 1)) d_J_writeNumber_64 (nI_add (jn1) (1)) ?_
            refine zk_put (pc := 65) X (ty := .int) (v := .int (nI (jn1 + 1))) (ws' := [(hj, .inr (1, [.ref jb, .int (nI (jn1 + 1)), .int jm, .int jS1, .int jl])), (jb, .inl (cJ, 300, .inl (upd fb1 jn1 (rest &&& 127))))]) in_J tok_J nok_J 0 rfl rfl 1 (by decide) (zk_m tw_46) rfl rfl rfl rfl (Nat.le_of_ble_eq_true rfl) d_J_writeNumber_65 rfl ?_
            refine zk_aload_n (pc := 68) X d_J_writeNumber_68 rfl (q := 3) rfl ?_
            refine zk_aload_n (pc := 69) X d_J_writeNumber_69 rfl (q := 3) rfl ?_
            refine zk_get (pc := 70) X (ci := 1) (v := .int jS1) in_J 0 rfl rfl 3 (by decide) (zk_m tw_50) rfl d_J_writeNumber_70 ?_
            refine zk_iload (pc := 73) X d_J_writeNumber_73 (q := 0) rfl ?_
            refine zk_calli (pc := 75) X (wc := []) (wr := [(hj, .inr (1, [.ref jb, .int (nI (jn1 + 1)), .int jm, .int jS1, .int jl])), (jb, .inl (cJ, 300, .inl (upd fb1 jn1 (rest &&& 127))))]) [] [0, 1] rfl rfl (by decide) (by decide) (by decide) (zk_runSN X (tysC := []) (As := [.int jS1, .int (rest &&& 127)]) (rest := [.ref hj]) (c_X_sealByte l dC dI jS1 (rest &&& 127)) [] rfl ⟨va_cnB 2 X.1.2.2.2.2 (zk_goodT tw_230) rfl rfl rfl X.2.2.2.2.2.2.2.2.1 (X.1.2.2.2.2 _ (zk_m tw_1)) (by decide +kernel) ⟨Nat.le_of_ble_eq_true rfl, Nat.le_of_ble_eq_true rfl⟩, X.1.2.2.2.2 _ (zk_m tw_229), trivial⟩ rfl rfl (Nat.le_of_ble_eq_true rfl) ⟨Nat.zero_le _, Nat.zero_le _⟩ d_J_writeNumber_75) ?_
            rintro r75 ⟨⟩ w75
            refine zk_ws (ws' := [(hj, .inr (1, [.ref jb, .int (nI (jn1 + 1)), .int jm, .int jS1, .int jl])), (jb, .inl (cJ, 300, .inl (upd fb1 jn1 (rest &&& 127))))]) rfl ?_
            subst w75
            refine zk_put (pc := 78) X (ty := .int) (v := .int (sp_X_sealByte jS1 (rest &&& 127))) (ws' := [(hj, .inr (1, [.ref jb, .int (nI (jn1 + 1)), .int jm, .int (sp_X_sealByte jS1 (rest &&& 127)), .int jl])), (jb, .inl (cJ, 300, .inl (upd fb1 jn1 (rest &&& 127))))]) in_J tok_J nok_J 0 rfl rfl 3 (by decide) (zk_m tw_50) rfl rfl rfl rfl (Nat.le_of_ble_eq_true rfl) d_J_writeNumber_78 rfl ?_
            refine zk_iload_n (pc := 81) X d_J_writeNumber_81 rfl (q := 1) rfl ?_
            refine zk_if_ne (pc := 82) X (tgt := 88) d_J_writeNumber_82 (by decide) (fun g => absurd h31 g) (fun _ => ?_)
            refine zk_goto (pc := 85) X (tgt := 94) d_J_writeNumber_85 (by decide) ?_
            exact zk_vret (pc := 94) X hQ hRt hLk ((upd fb1 jn1 (rest &&& 127)), jn1 + 1, (sp_X_sealByte jS1 (rest &&& 127))) ⟨hq.symm, (show (jn1 + 1) ≤ 300 by omega)⟩ [0, 1] rfl (by decide) d_J_writeNumber_94
  have hq := sp_J_writeNumber.eq_1 number fb jn jS
  refine zk_lv (lv' := [(0, .ref hj), (1, .int number)]) [0, 1] rfl ?_
  refine zk_iload_n (pc := 0) X d_J_writeNumber_0 rfl (q := 1) rfl ?_
  refine zk_istore_n (pc := 1) X (i := 2) (lv' := [(2, .int number), (0, .ref hj), (1, .int number)]) d_J_writeNumber_1 rfl (by decide) rfl ?_
  refine zk_iconst (pc := 2) X (v := 0) d_J_writeNumber_2 rfl ?_
  refine zk_istore_n (pc := 3) X (i := 3) (lv' := [(3, .int 0), (2, .int number), (0, .ref hj), (1, .int number)]) d_J_writeNumber_3 rfl (by decide) rfl ?_
  refine zk_lv (lv' := [(0, .ref hj), (1, .int number), (2, .int number), (3, .int 0)]) [2, 3, 1, 0] rfl ?_
  exact cut4 (6) number 0 fb jn jS (by omega) (by omega) (by omega) hq
def sp_J_beginEntry (step : Int32) (kind : Int32) (fb : Nat → Int32) (jn : Nat) (jm : Int32) (jS : Int32) (jl : Int32) : (Nat → Int32) × Nat × Int32 × Int32 × Int32 :=
  (match sp_J_writeNumber ((4 * (step - jl)) + kind) fb jn jS with
  | (fb_11, jn_11, jS_11) =>
    (fb_11, jn_11, (jm + 1), jS_11, step))
abbrev rm_J_beginEntry : Room := { frames := 3, cells := 0, slots := 0, locals := 68 }
set_option maxHeartbeats 4000000 in
set_option maxRecDepth 100000 in
theorem c_J_beginEntry (l : Launch) (dC : Nat → ClassId) (dI : Nat → Nat → Nat) (hj jb : Nat) (cJ : ClassId) (step : Int32) (kind : Int32) (fb : Nat → Int32) (jn : Nat) (jm : Int32) (jS : Int32) (jl : Int32) (hjn : jn ≤ 300) : zk_Cv l y_J_beginEntry w_J_beginEntry rm_J_beginEntry (dC, dI) vwCl [.ref hj, .int step, .int kind] [(hj, .inr (1, [.ref jb, .int (nI jn), .int jm, .int jS, .int jl])), (jb, .inl (cJ, 300, .inl fb))] [(cJ, .int)] (fun (u : (Nat → Int32) × Nat × Int32 × Int32 × Int32) => u = sp_J_beginEntry step kind fb jn jm jS jl ∧ (u.2.1 ≤ 300)) (fun u => [(hj, .inr (1, [.ref jb, .int (nI u.2.1), .int u.2.2.1, .int u.2.2.2.1, .int u.2.2.2.2])), (jb, .inl (cJ, 300, .inl u.1))]) := by
  refine zk_enterv (cc := b_J_beginEntry) (maxL := 3) (ret := none) (by decide) rfl (Nat.le_of_ble_eq_true rfl) ?_
  intro p e s m args below meth c A Q hQ X hRt hLk
  have hq := sp_J_beginEntry.eq_1 step kind fb jn jm jS jl
  refine zk_lv (lv' := [(0, .ref hj), (1, .int step), (2, .int kind)]) [0, 1, 2] rfl ?_
  refine zk_aload_n (pc := 0) X d_J_beginEntry_0 rfl (q := 0) rfl ?_
  refine zk_iconst (pc := 1) X (v := 4) d_J_beginEntry_1 rfl ?_
  refine zk_iload_n (pc := 2) X d_J_beginEntry_2 rfl (q := 1) rfl ?_
  refine zk_aload_n (pc := 3) X d_J_beginEntry_3 rfl (q := 0) rfl ?_
  refine zk_get (pc := 4) X (ci := 1) (v := .int jl) in_J 0 rfl rfl 4 (by decide) (zk_m tw_52) rfl d_J_beginEntry_4 ?_
  refine zk_isub (pc := 7) X (v := (step - jl)) d_J_beginEntry_7 rfl ?_
  refine zk_imul (pc := 8) X (v := (4 * (step - jl))) d_J_beginEntry_8 rfl ?_
  refine zk_iload_n (pc := 9) X d_J_beginEntry_9 rfl (q := 2) rfl ?_
  refine zk_iadd (pc := 10) X (v := ((4 * (step - jl)) + kind)) d_J_beginEntry_10 rfl ?_
  refine zk_callv (pc := 11) X (wc := [(hj, .inr (1, [.ref jb, .int (nI jn), .int jm, .int jS, .int jl])), (jb, .inl (cJ, 300, .inl fb))]) (wr := []) [0, 1] [] rfl rfl (by decide) (by decide) (by decide) (zk_runV X (C := R_J) (tysC := [(cJ, .int)]) (As := [.int ((4 * (step - jl)) + kind)]) (rest := []) (c_J_writeNumber l dC dI hj jb cJ ((4 * (step - jl)) + kind) fb jn jm jS jl (by omega)) [0] rfl (ci := 1) rfl 0 rfl (zk_cwV 1 X.1.2.2.2.2 (zk_goodT tw_228) rfl rfl rfl (zk_m tw_225) (zk_m tw_226) (zk_m tw_227) (zk_m tw_3) rfl (by decide +kernel) ⟨Nat.le_of_ble_eq_true rfl, Nat.le_of_ble_eq_true rfl⟩) rfl rfl (Nat.le_of_ble_eq_true rfl) ⟨Nat.zero_le _, Nat.zero_le _⟩ d_J_beginEntry_11) ?_
  rintro ⟨fb_11, jn_11, jS_11⟩ ⟨w11, f11_0⟩
  have f11_0 : jn_11 ≤ 300 := f11_0
  refine zk_ws (ws' := [(hj, .inr (1, [.ref jb, .int (nI jn_11), .int jm, .int jS_11, .int jl])), (jb, .inl (cJ, 300, .inl fb_11))]) rfl ?_
  try dsimp only at w11
  rw [← w11] at hq
  try dsimp only at hq
  refine zk_aload_n (pc := 14) X d_J_beginEntry_14 rfl (q := 0) rfl ?_
  refine zk_iload_n (pc := 15) X d_J_beginEntry_15 rfl (q := 1) rfl ?_
  refine zk_put (pc := 16) X (ty := .int) (v := .int step) (ws' := [(hj, .inr (1, [.ref jb, .int (nI jn_11), .int jm, .int jS_11, .int step])), (jb, .inl (cJ, 300, .inl fb_11))]) in_J tok_J nok_J 0 rfl rfl 4 (by decide) (zk_m tw_52) rfl rfl rfl rfl (Nat.le_of_ble_eq_true rfl) d_J_beginEntry_16 rfl ?_
  refine zk_aload_n (pc := 19) X d_J_beginEntry_19 rfl (q := 0) rfl ?_
  refine zk_dup (pc := 20) X d_J_beginEntry_20 rfl ?_
  refine zk_get (pc := 21) X (ci := 1) (v := .int jm) in_J 0 rfl rfl 2 (by decide) (zk_m tw_48) rfl d_J_beginEntry_21 ?_
  refine zk_iconst (pc := 24) X (v := 1) d_J_beginEntry_24 rfl ?_
  refine zk_iadd (pc := 25) X (v := (jm + 1)) d_J_beginEntry_25 rfl ?_
  refine zk_put (pc := 26) X (ty := .int) (v := .int (jm + 1)) (ws' := [(hj, .inr (1, [.ref jb, .int (nI jn_11), .int (jm + 1), .int jS_11, .int step])), (jb, .inl (cJ, 300, .inl fb_11))]) in_J tok_J nok_J 0 rfl rfl 2 (by decide) (zk_m tw_48) rfl rfl rfl rfl (Nat.le_of_ble_eq_true rfl) d_J_beginEntry_26 rfl ?_
  exact zk_vret (pc := 29) X hQ hRt hLk (fb_11, jn_11, (jm + 1), jS_11, step) ⟨hq.symm, (show jn_11 ≤ 300 by omega)⟩ [0, 1] rfl (by decide) d_J_beginEntry_29
def sp_J_sealNow_4 (fb : Nat → Int32) (jn : Nat) : Nat → Int32 → Nat → Int32
  | 0, h, j => 0
  | fuel + 1, h, j =>
    if jn ≤ j then
      h
    else
      sp_J_sealNow_4 fb jn fuel (sp_X_sealByte h (fb j)) (j + 1)
def sp_J_sealNow (fb : Nat → Int32) (jn : Nat) : Int32 :=
  sp_J_sealNow_4 fb jn (jn + 1) 1 0
abbrev rm_J_sealNow : Room := { frames := 2, cells := 0, slots := 0, locals := 43 }
set_option maxHeartbeats 4000000 in
set_option maxRecDepth 100000 in
theorem c_J_sealNow (l : Launch) (dC : Nat → ClassId) (dI : Nat → Nat → Nat) (hj jb : Nat) (cJ : ClassId) (fb : Nat → Int32) (jn : Nat) (jm : Int32) (jS : Int32) (jl : Int32) (hjn : jn ≤ 300) : zk_Ci l y_J_sealNow w_J_sealNow rm_J_sealNow (dC, dI) vwCl [.ref hj] [(hj, .inr (1, [.ref jb, .int (nI jn), .int jm, .int jS, .int jl])), (jb, .inl (cJ, 300, .inl fb))] [(cJ, .int)] (fun (r : Int32) (u : Unit) => r = sp_J_sealNow fb jn) (fun _ => [(hj, .inr (1, [.ref jb, .int (nI jn), .int jm, .int jS, .int jl])), (jb, .inl (cJ, 300, .inl fb))]) := by
  refine zk_enteri (cc := b_J_sealNow) (maxL := 3) (ret := some .int) (by decide) rfl (Nat.le_of_ble_eq_true rfl) ?_
  intro p e s m args below meth c A Q hQ X hRt hLk
  have cut4 : ∀ (fuel : Nat) (h : Int32) (j : Nat), j ≤ jn → jn - j < fuel → sp_J_sealNow fb jn = sp_J_sealNow_4 fb jn fuel h j → zk_Z p l e rm_J_sealNow s m args below meth c Q A (dC, dI) vwCl 3 0 0 [(hj, .inr (1, [.ref jb, .int (nI jn), .int jm, .int jS, .int jl])), (jb, .inl (cJ, 300, .inl fb))] [(0, .ref hj), (1, .int h), (2, .int (nI j))] [] 4 := by
    intro fuel
    induction fuel with
    | zero => intro h j hjj hMs; exact absurd hMs (Nat.not_lt_zero _)
    | succ fuel ih =>
      intro h j hjj hMs hq
      rw [sp_J_sealNow_4] at hq
      refine zk_iload_n (pc := 4) X d_J_sealNow_4 rfl (q := 2) rfl ?_
      refine zk_aload_n (pc := 5) X d_J_sealNow_5 rfl (q := 0) rfl ?_
      refine zk_get (pc := 6) X (ci := 1) (v := .int (nI jn)) in_J 0 rfl rfl 1 (by decide) (zk_m tw_46) rfl d_J_sealNow_6 ?_
      refine zk_icmpN_ge (pc := 9) X (tgt := 29) (j) (jn) rfl rfl (by omega) (by omega) d_J_sealNow_9 (by decide) (fun h9 => ?_) (fun h9 => ?_)
      · have hq := hq.trans (if_pos h9)
        refine zk_iload_n (pc := 29) X d_J_sealNow_29 rfl (q := 1) rfl ?_
        exact zk_iret (pc := 30) X hQ hRt hLk () hq.symm [0, 1] rfl (by decide) d_J_sealNow_30
      · have hq := hq.trans (if_neg h9)
        refine zk_iload_n (pc := 12) X d_J_sealNow_12 rfl (q := 1) rfl ?_
        refine zk_aload_n (pc := 13) X d_J_sealNow_13 rfl (q := 0) rfl ?_
        refine zk_get (pc := 14) X (ci := 1) (v := .ref jb) in_J 0 rfl rfl 0 (by decide) (zk_m tw_43) rfl d_J_sealNow_14 ?_
        refine zk_iload_n (pc := 17) X d_J_sealNow_17 rfl (q := 2) rfl ?_
        refine zk_iald (pc := 18) X 1 0 (j) rfl rfl rfl (by omega) (by decide) d_J_sealNow_18 ?_
        refine zk_calli (pc := 19) X (wc := []) (wr := [(hj, .inr (1, [.ref jb, .int (nI jn), .int jm, .int jS, .int jl])), (jb, .inl (cJ, 300, .inl fb))]) [] [0, 1] rfl rfl (by decide) (by decide) (by decide) (zk_runSN X (tysC := []) (As := [.int h, .int (fb j)]) (rest := []) (c_X_sealByte l dC dI h (fb j)) [] rfl ⟨va_cnB 2 X.1.2.2.2.2 (zk_goodT tw_230) rfl rfl rfl X.2.2.2.2.2.2.2.2.1 (X.1.2.2.2.2 _ (zk_m tw_1)) (by decide +kernel) ⟨Nat.le_of_ble_eq_true rfl, Nat.le_of_ble_eq_true rfl⟩, X.1.2.2.2.2 _ (zk_m tw_229), trivial⟩ rfl rfl (Nat.le_of_ble_eq_true rfl) ⟨Nat.zero_le _, Nat.zero_le _⟩ d_J_sealNow_19) ?_
        rintro r19 ⟨⟩ w19
        refine zk_ws (ws' := [(hj, .inr (1, [.ref jb, .int (nI jn), .int jm, .int jS, .int jl])), (jb, .inl (cJ, 300, .inl fb))]) rfl ?_
        subst w19
        refine zk_istore_n (pc := 22) X (i := 1) (lv' := [(1, .int (sp_X_sealByte h (fb j))), (0, .ref hj), (2, .int (nI j))]) d_J_sealNow_22 rfl (by decide) rfl ?_
        refine zk_iinc (pc := 23) X (k0 := 2) (v := nI (j + 1)) (lv' := [(2, .int (nI (j + 1))), (1, .int (sp_X_sealByte h (fb j))), (0, .ref hj)]) d_J_sealNow_23 rfl (nI_add (j) 1) (by decide) rfl ?_
        refine zk_goto (pc := 26) X (tgt := 4) d_J_sealNow_26 (by decide) ?_
        refine zk_lv (lv' := [(0, .ref hj), (1, .int (sp_X_sealByte h (fb j))), (2, .int (nI (j + 1)))]) [2, 1, 0] rfl ?_
        exact ih (sp_X_sealByte h (fb j)) (j + 1) (by omega) (by omega) hq
  have hq := sp_J_sealNow.eq_1 fb jn
  refine zk_lv (lv' := [(0, .ref hj)]) [0] rfl ?_
  refine zk_iconst (pc := 0) X (v := 1) d_J_sealNow_0 rfl ?_
  refine zk_istore_n (pc := 1) X (i := 1) (lv' := [(1, .int 1), (0, .ref hj)]) d_J_sealNow_1 rfl (by decide) rfl ?_
  refine zk_iconst (pc := 2) X (v := 0) d_J_sealNow_2 rfl ?_
  refine zk_istore_n (pc := 3) X (i := 2) (lv' := [(2, .int 0), (1, .int 1), (0, .ref hj)]) d_J_sealNow_3 rfl (by decide) rfl ?_
  refine zk_lv (lv' := [(0, .ref hj), (1, .int 1), (2, .int 0)]) [2, 1, 0] rfl ?_
  exact cut4 (jn + 1) 1 0 (by omega) (by omega) hq
end
section
def sp_R_restart : Nat × Int32 × Int32 × Int32 :=
  (0, 0, 0, 0)
abbrev rm_R_restart : Room := { frames := 0, cells := 0, slots := 0, locals := 0 }
set_option maxHeartbeats 4000000 in
set_option maxRecDepth 100000 in
theorem c_R_restart (l : Launch) (dC : Nat → ClassId) (dI : Nat → Nat → Nat) (hr hj ri : Nat) (cR : ClassId) (fi : Nat → Int32) (rw : Nat) (rt : Int32) (rq : Int32) (rc : Int32) : zk_Cv l y_R_restart w_R_restart rm_R_restart (dC, dI) vwCl [.ref hr] [(hr, .inr (2, [.ref hj, .ref ri, .int (nI rw), .int rt, .int rq, .int rc])), (ri, .inl (cR, 16, .inl fi))] [(cR, .int)] (fun (u : Nat × Int32 × Int32 × Int32) => u = sp_R_restart) (fun u => [(hr, .inr (2, [.ref hj, .ref ri, .int (nI u.1), .int u.2.1, .int u.2.2.1, .int u.2.2.2])), (ri, .inl (cR, 16, .inl fi))]) := by
  refine zk_enterv (cc := b_R_restart) (maxL := 1) (ret := none) (by decide) rfl (Nat.le_of_ble_eq_true rfl) ?_
  intro p e s m args below meth c A Q hQ X hRt hLk
  have hq := sp_R_restart.eq_1
  refine zk_lv (lv' := [(0, .ref hr)]) [0] rfl ?_
  refine zk_aload_n (pc := 0) X d_R_restart_0 rfl (q := 0) rfl ?_
  refine zk_iconst (pc := 1) X (v := 0) d_R_restart_1 rfl ?_
  refine zk_put (pc := 2) X (ty := .int) (v := .int 0) (ws' := [(hr, .inr (2, [.ref hj, .ref ri, .int 0, .int rt, .int rq, .int rc])), (ri, .inl (cR, 16, .inl fi))]) in_R tok_R nok_R 0 rfl rfl 2 (by decide) (zk_m tw_68) rfl rfl rfl rfl (Nat.le_of_ble_eq_true rfl) d_R_restart_2 rfl ?_
  refine zk_aload_n (pc := 5) X d_R_restart_5 rfl (q := 0) rfl ?_
  refine zk_iconst (pc := 6) X (v := 0) d_R_restart_6 rfl ?_
  refine zk_put (pc := 7) X (ty := .int) (v := .int 0) (ws' := [(hr, .inr (2, [.ref hj, .ref ri, .int 0, .int 0, .int rq, .int rc])), (ri, .inl (cR, 16, .inl fi))]) in_R tok_R nok_R 0 rfl rfl 3 (by decide) (zk_m tw_69) rfl rfl rfl rfl (Nat.le_of_ble_eq_true rfl) d_R_restart_7 rfl ?_
  refine zk_aload_n (pc := 10) X d_R_restart_10 rfl (q := 0) rfl ?_
  refine zk_iconst (pc := 11) X (v := 0) d_R_restart_11 rfl ?_
  refine zk_put (pc := 12) X (ty := .boolean) (v := .int 0) (ws' := [(hr, .inr (2, [.ref hj, .ref ri, .int 0, .int 0, .int 0, .int rc])), (ri, .inl (cR, 16, .inl fi))]) in_R tok_R nok_R 0 rfl rfl 4 (by decide) (zk_m tw_70) rfl rfl rfl rfl (Nat.le_of_ble_eq_true rfl) d_R_restart_12 rfl ?_
  refine zk_aload_n (pc := 15) X d_R_restart_15 rfl (q := 0) rfl ?_
  refine zk_iconst (pc := 16) X (v := 0) d_R_restart_16 rfl ?_
  refine zk_put (pc := 17) X (ty := .int) (v := .int 0) (ws' := [(hr, .inr (2, [.ref hj, .ref ri, .int 0, .int 0, .int 0, .int 0])), (ri, .inl (cR, 16, .inl fi))]) in_R tok_R nok_R 0 rfl rfl 5 (by decide) (zk_m tw_72) rfl rfl rfl rfl (Nat.le_of_ble_eq_true rfl) d_R_restart_17 rfl ?_
  exact zk_vret (pc := 20) X hQ hRt hLk (0, 0, 0, 0) hq.symm [0, 1] rfl (by decide) d_R_restart_20
def sp_R_addInput (v : Int32) (fi : Nat → Int32) (rw : Nat) : Int32 × (Nat → Int32) × Nat :=
  if rw < 16 then
    (nI (rw + 1), (upd fi rw v), rw + 1)
  else
    ((-1), fi, rw)
abbrev rm_R_addInput : Room := { frames := 0, cells := 0, slots := 0, locals := 0 }
set_option maxHeartbeats 4000000 in
set_option maxRecDepth 100000 in
theorem c_R_addInput (l : Launch) (dC : Nat → ClassId) (dI : Nat → Nat → Nat) (hr hj ri : Nat) (cR : ClassId) (v : Int32) (fi : Nat → Int32) (rw : Nat) (rt : Int32) (rq : Int32) (rc : Int32) (hrw : rw ≤ 16) : zk_Ci l y_R_addInput w_R_addInput rm_R_addInput (dC, dI) vwCl [.ref hr, .int v] [(hr, .inr (2, [.ref hj, .ref ri, .int (nI rw), .int rt, .int rq, .int rc])), (ri, .inl (cR, 16, .inl fi))] [(cR, .int)] (fun (r : Int32) (u : (Nat → Int32) × Nat) => (r, u) = sp_R_addInput v fi rw ∧ (u.2 ≤ 16)) (fun u => [(hr, .inr (2, [.ref hj, .ref ri, .int (nI u.2), .int rt, .int rq, .int rc])), (ri, .inl (cR, 16, .inl u.1))]) := by
  refine zk_enteri (cc := b_R_addInput) (maxL := 2) (ret := some .int) (by decide) rfl (Nat.le_of_ble_eq_true rfl) ?_
  intro p e s m args below meth c A Q hQ X hRt hLk
  have hq := sp_R_addInput.eq_1 v fi rw
  refine zk_lv (lv' := [(0, .ref hr), (1, .int v)]) [0, 1] rfl ?_
  refine zk_aload_n (pc := 0) X d_R_addInput_0 rfl (q := 0) rfl ?_
  refine zk_get (pc := 1) X (ci := 2) (v := .int (nI rw)) in_R 0 rfl rfl 2 (by decide) (zk_m tw_68) rfl d_R_addInput_1 ?_
  refine zk_bipush (pc := 4) X (v := 16) d_R_addInput_4 (by decide) ?_
  refine zk_icmpN_lt (pc := 6) X (tgt := 11) (rw) (16) rfl rfl (by omega) (by omega) d_R_addInput_6 (by decide) (fun h6 => ?_) (fun h6 => ?_)
  · have hq := hq.trans (if_pos h6)
    refine zk_aload_n (pc := 11) X d_R_addInput_11 rfl (q := 0) rfl ?_
    refine zk_get (pc := 12) X (ci := 2) (v := .ref ri) in_R 0 rfl rfl 1 (by decide) (zk_m tw_67) rfl d_R_addInput_12 ?_
    refine zk_aload_n (pc := 15) X d_R_addInput_15 rfl (q := 0) rfl ?_
    refine zk_get (pc := 16) X (ci := 2) (v := .int (nI rw)) in_R 0 rfl rfl 2 (by decide) (zk_m tw_68) rfl d_R_addInput_16 ?_
    refine zk_iload_n (pc := 19) X d_R_addInput_19 rfl (q := 1) rfl ?_
    refine zk_iast (pc := 20) X 1 0 (ws' := [(hr, .inr (2, [.ref hj, .ref ri, .int (nI rw), .int rt, .int rq, .int rc])), (ri, .inl (cR, 16, .inl (upd fi rw v)))]) (rw) rfl rfl rfl (by omega) (by decide) d_R_addInput_20 rfl ?_
    refine zk_aload_n (pc := 21) X d_R_addInput_21 rfl (q := 0) rfl ?_
    refine zk_dup (pc := 22) X d_R_addInput_22 rfl ?_
    refine zk_get (pc := 23) X (ci := 2) (v := .int (nI rw)) in_R 0 rfl rfl 2 (by decide) (zk_m tw_68) rfl d_R_addInput_23 ?_
    refine zk_iconst (pc := 26) X (v := 1) d_R_addInput_26 rfl ?_
    refine zk_iadd (pc := 27) X (v := nI (rw + 1)) d_R_addInput_27 (nI_add (rw) (1)) ?_
    refine zk_put (pc := 28) X (ty := .int) (v := .int (nI (rw + 1))) (ws' := [(hr, .inr (2, [.ref hj, .ref ri, .int (nI (rw + 1)), .int rt, .int rq, .int rc])), (ri, .inl (cR, 16, .inl (upd fi rw v)))]) in_R tok_R nok_R 0 rfl rfl 2 (by decide) (zk_m tw_68) rfl rfl rfl rfl (Nat.le_of_ble_eq_true rfl) d_R_addInput_28 rfl ?_
    refine zk_aload_n (pc := 31) X d_R_addInput_31 rfl (q := 0) rfl ?_
    refine zk_get (pc := 32) X (ci := 2) (v := .int (nI (rw + 1))) in_R 0 rfl rfl 2 (by decide) (zk_m tw_68) rfl d_R_addInput_32 ?_
    exact zk_iret (pc := 35) X hQ hRt hLk ((upd fi rw v), rw + 1) ⟨hq.symm, (show (rw + 1) ≤ 16 by omega)⟩ [0, 1] rfl (by decide) d_R_addInput_35
  · have hq := hq.trans (if_neg h6)
    refine zk_iconst (pc := 9) X (v := (-1)) d_R_addInput_9 rfl ?_
    exact zk_iret (pc := 10) X hQ hRt hLk (fi, rw) ⟨hq.symm, (show rw ≤ 16 by omega)⟩ [0, 1] rfl (by decide) d_R_addInput_10
def sp_R_takeInterrupt (step : Int32) (rq : Int32) (fb : Nat → Int32) (jn : Nat) (jm : Int32) (jS : Int32) (jl : Int32) : Int32 × Int32 × (Nat → Int32) × Nat × Int32 × Int32 × Int32 :=
  if rq = 0 then
    (0, rq, fb, jn, jm, jS, jl)
  else
    (match sp_J_beginEntry step 3 fb jn jm jS jl with
    | (fb_20, jn_20, jm_20, jS_20, jl_20) =>
      (1, 0, fb_20, jn_20, jm_20, jS_20, jl_20))
abbrev rm_R_takeInterrupt : Room := { frames := 4, cells := 0, slots := 0, locals := 90 }
set_option maxHeartbeats 4000000 in
set_option maxRecDepth 100000 in
theorem c_R_takeInterrupt (l : Launch) (dC : Nat → ClassId) (dI : Nat → Nat → Nat) (hr hj ri jb : Nat) (cR cJ : ClassId) (step : Int32) (fi : Nat → Int32) (rw : Nat) (rt : Int32) (rq : Int32) (rc : Int32) (fb : Nat → Int32) (jn : Nat) (jm : Int32) (jS : Int32) (jl : Int32) (hjn : jn ≤ 300) : zk_Ci l y_R_takeInterrupt w_R_takeInterrupt rm_R_takeInterrupt (dC, dI) vwCl [.ref hr, .int step] [(hr, .inr (2, [.ref hj, .ref ri, .int (nI rw), .int rt, .int rq, .int rc])), (ri, .inl (cR, 16, .inl fi)), (hj, .inr (1, [.ref jb, .int (nI jn), .int jm, .int jS, .int jl])), (jb, .inl (cJ, 300, .inl fb))] [(cR, .int), (cJ, .int)] (fun (r : Int32) (u : Int32 × (Nat → Int32) × Nat × Int32 × Int32 × Int32) => (r, u) = sp_R_takeInterrupt step rq fb jn jm jS jl ∧ (u.2.2.1 ≤ 300)) (fun u => [(hr, .inr (2, [.ref hj, .ref ri, .int (nI rw), .int rt, .int u.1, .int rc])), (ri, .inl (cR, 16, .inl fi)), (hj, .inr (1, [.ref jb, .int (nI u.2.2.1), .int u.2.2.2.1, .int u.2.2.2.2.1, .int u.2.2.2.2.2])), (jb, .inl (cJ, 300, .inl u.2.1))]) := by
  refine zk_enteri (cc := b_R_takeInterrupt) (maxL := 2) (ret := some .boolean) (by decide) rfl (Nat.le_of_ble_eq_true rfl) ?_
  intro p e s m args below meth c A Q hQ X hRt hLk
  have hq := sp_R_takeInterrupt.eq_1 step rq fb jn jm jS jl
  refine zk_lv (lv' := [(0, .ref hr), (1, .int step)]) [0, 1] rfl ?_
  refine zk_aload_n (pc := 0) X d_R_takeInterrupt_0 rfl (q := 0) rfl ?_
  refine zk_get (pc := 1) X (ci := 2) (v := .int rq) in_R 0 rfl rfl 4 (by decide) (zk_m tw_70) rfl d_R_takeInterrupt_1 ?_
  refine zk_if_ne (pc := 4) X (tgt := 9) d_R_takeInterrupt_4 (by decide) (fun h4 => ?_) (fun h4 => ?_)
  · have hq := hq.trans (if_neg h4)
    refine zk_aload_n (pc := 9) X d_R_takeInterrupt_9 rfl (q := 0) rfl ?_
    refine zk_iconst (pc := 10) X (v := 0) d_R_takeInterrupt_10 rfl ?_
    refine zk_put (pc := 11) X (ty := .boolean) (v := .int 0) (ws' := [(hr, .inr (2, [.ref hj, .ref ri, .int (nI rw), .int rt, .int 0, .int rc])), (ri, .inl (cR, 16, .inl fi)), (hj, .inr (1, [.ref jb, .int (nI jn), .int jm, .int jS, .int jl])), (jb, .inl (cJ, 300, .inl fb))]) in_R tok_R nok_R 0 rfl rfl 4 (by decide) (zk_m tw_70) rfl rfl rfl rfl (Nat.le_of_ble_eq_true rfl) d_R_takeInterrupt_11 rfl ?_
    refine zk_aload_n (pc := 14) X d_R_takeInterrupt_14 rfl (q := 0) rfl ?_
    refine zk_get (pc := 15) X (ci := 2) (v := .ref hj) in_R 0 rfl rfl 0 (by decide) (zk_m tw_66) rfl d_R_takeInterrupt_15 ?_
    refine zk_iload_n (pc := 18) X d_R_takeInterrupt_18 rfl (q := 1) rfl ?_
    refine zk_iconst (pc := 19) X (v := 3) d_R_takeInterrupt_19 rfl ?_
    refine zk_callv (pc := 20) X (wc := [(hj, .inr (1, [.ref jb, .int (nI jn), .int jm, .int jS, .int jl])), (jb, .inl (cJ, 300, .inl fb))]) (wr := [(hr, .inr (2, [.ref hj, .ref ri, .int (nI rw), .int rt, .int 0, .int rc])), (ri, .inl (cR, 16, .inl fi))]) [2, 3] [0, 1] rfl rfl (by decide) (by decide) (by decide) (zk_runV X (C := R_J) (tysC := [(cJ, .int)]) (As := [.int step, .int 3]) (rest := []) (c_J_beginEntry l dC dI hj jb cJ step 3 fb jn jm jS jl (by omega)) [1] rfl (ci := 1) rfl 2 rfl (zk_cwV 2 X.1.2.2.2.2 (zk_goodT tw_224) rfl rfl rfl (zk_m tw_221) (zk_m tw_222) (zk_m tw_223) (zk_m tw_3) rfl (by decide +kernel) ⟨Nat.le_of_ble_eq_true rfl, Nat.le_of_ble_eq_true rfl⟩) rfl rfl (Nat.le_of_ble_eq_true rfl) ⟨Nat.zero_le _, Nat.zero_le _⟩ d_R_takeInterrupt_20) ?_
    rintro ⟨fb_20, jn_20, jm_20, jS_20, jl_20⟩ ⟨w20, f20_0⟩
    have f20_0 : jn_20 ≤ 300 := f20_0
    refine zk_ws (ws' := [(hr, .inr (2, [.ref hj, .ref ri, .int (nI rw), .int rt, .int 0, .int rc])), (ri, .inl (cR, 16, .inl fi)), (hj, .inr (1, [.ref jb, .int (nI jn_20), .int jm_20, .int jS_20, .int jl_20])), (jb, .inl (cJ, 300, .inl fb_20))]) rfl ?_
    try dsimp only at w20
    rw [← w20] at hq
    try dsimp only at hq
    refine zk_iconst (pc := 23) X (v := 1) d_R_takeInterrupt_23 rfl ?_
    exact zk_zret (pc := 24) X hQ hRt hLk rfl (0, fb_20, jn_20, jm_20, jS_20, jl_20) ⟨hq.symm, (show jn_20 ≤ 300 by omega)⟩ [0, 1, 2, 3] rfl (by decide) d_R_takeInterrupt_24
  · have hq := hq.trans (if_pos h4)
    refine zk_iconst (pc := 7) X (v := 0) d_R_takeInterrupt_7 rfl ?_
    exact zk_zret (pc := 8) X hQ hRt hLk rfl (rq, fb, jn, jm, jS, jl) ⟨hq.symm, (show jn ≤ 300 by omega)⟩ [0, 1, 2, 3] rfl (by decide) d_R_takeInterrupt_8
def sp_R_takeInput (step : Int32) (fi : Nat → Int32) (rw : Nat) (fb : Nat → Int32) (jn : Nat) (jm : Int32) (jS : Int32) (jl : Int32) : Int32 × (Nat → Int32) × Nat × (Nat → Int32) × Nat × Int32 × Int32 × Int32 :=
  if rw = 0 then
    (0, fi, rw, fb, jn, jm, jS, jl)
  else
    (match sp_J_beginEntry step 1 fb jn jm jS jl with
    | (fb_49, jn_49, jm_49, jS_49, jl_49) =>
      if (fi 0) < 0 then
        (match sp_J_writeNumber (((-2) * (fi 0)) - 1) fb_49 jn_49 jS_49 with
        | (fb_72, jn_72, jS_72) =>
          ((fi 0), (va_cpy fi fi 1 0 ((rw - 1))), (rw - 1), fb_72, jn_72, jm_49, jS_72, jl_49))
      else
        (match sp_J_writeNumber (2 * (fi 0)) fb_49 jn_49 jS_49 with
        | (fb_72, jn_72, jS_72) =>
          ((fi 0), (va_cpy fi fi 1 0 ((rw - 1))), (rw - 1), fb_72, jn_72, jm_49, jS_72, jl_49)))
abbrev rm_R_takeInput : Room := { frames := 4, cells := 0, slots := 0, locals := 90 }
set_option maxHeartbeats 4000000 in
set_option maxRecDepth 100000 in
theorem c_R_takeInput (l : Launch) (dC : Nat → ClassId) (dI : Nat → Nat → Nat) (hr hj ri jb : Nat) (cR cJ : ClassId) (step : Int32) (fi : Nat → Int32) (rw : Nat) (rt : Int32) (rq : Int32) (rc : Int32) (fb : Nat → Int32) (jn : Nat) (jm : Int32) (jS : Int32) (jl : Int32) (hrw : rw ≤ 16) (hjn : jn ≤ 300) : zk_Ci l y_R_takeInput w_R_takeInput rm_R_takeInput (dC, dI) vwCl [.ref hr, .int step] [(hr, .inr (2, [.ref hj, .ref ri, .int (nI rw), .int rt, .int rq, .int rc])), (ri, .inl (cR, 16, .inl fi)), (hj, .inr (1, [.ref jb, .int (nI jn), .int jm, .int jS, .int jl])), (jb, .inl (cJ, 300, .inl fb))] [(cR, .int), (cJ, .int)] (fun (r : Int32) (u : (Nat → Int32) × Nat × (Nat → Int32) × Nat × Int32 × Int32 × Int32) => (r, u) = sp_R_takeInput step fi rw fb jn jm jS jl ∧ (u.2.1 ≤ 16) ∧ (u.2.2.2.1 ≤ 300)) (fun u => [(hr, .inr (2, [.ref hj, .ref ri, .int (nI u.2.1), .int rt, .int rq, .int rc])), (ri, .inl (cR, 16, .inl u.1)), (hj, .inr (1, [.ref jb, .int (nI u.2.2.2.1), .int u.2.2.2.2.1, .int u.2.2.2.2.2.1, .int u.2.2.2.2.2.2])), (jb, .inl (cJ, 300, .inl u.2.2.1))]) := by
  refine zk_enteri (cc := b_R_takeInput) (maxL := 3) (ret := some .int) (by decide) rfl (Nat.le_of_ble_eq_true rfl) ?_
  intro p e s m args below meth c A Q hQ X hRt hLk
  have hq := sp_R_takeInput.eq_1 step fi rw fb jn jm jS jl
  refine zk_lv (lv' := [(0, .ref hr), (1, .int step)]) [0, 1] rfl ?_
  refine zk_aload_n (pc := 0) X d_R_takeInput_0 rfl (q := 0) rfl ?_
  refine zk_get (pc := 1) X (ci := 2) (v := .int (nI rw)) in_R 0 rfl rfl 2 (by decide) (zk_m tw_68) rfl d_R_takeInput_1 ?_
  refine zk_ifN_ne (pc := 4) X (tgt := 9) (rw) rfl (by omega) d_R_takeInput_4 (by decide) (fun h4 => ?_) (fun h4 => ?_)
  · have hq := hq.trans (if_neg h4)
    refine zk_aload_n (pc := 9) X d_R_takeInput_9 rfl (q := 0) rfl ?_
    refine zk_get (pc := 10) X (ci := 2) (v := .ref ri) in_R 0 rfl rfl 1 (by decide) (zk_m tw_67) rfl d_R_takeInput_10 ?_
    refine zk_iconst (pc := 13) X (v := 0) d_R_takeInput_13 rfl ?_
    refine zk_iald (pc := 14) X 1 0 (0) rfl rfl rfl (by decide) (by decide) d_R_takeInput_14 ?_
    refine zk_istore_n (pc := 15) X (i := 2) (lv' := [(2, .int (fi 0)), (0, .ref hr), (1, .int step)]) d_R_takeInput_15 rfl (by decide) rfl ?_
    refine zk_aload_n (pc := 16) X d_R_takeInput_16 rfl (q := 1) rfl ?_
    refine zk_dup (pc := 17) X d_R_takeInput_17 rfl ?_
    refine zk_get (pc := 18) X (ci := 2) (v := .int (nI rw)) in_R 0 rfl rfl 2 (by decide) (zk_m tw_68) rfl d_R_takeInput_18 ?_
    refine zk_iconst (pc := 21) X (v := 1) d_R_takeInput_21 rfl ?_
    refine zk_isub (pc := 22) X (v := nI ((rw - 1))) d_R_takeInput_22 (pk_sub (a := rw) (b := 1) (by omega)) ?_
    refine zk_put (pc := 23) X (ty := .int) (v := .int (nI ((rw - 1)))) (ws' := [(hr, .inr (2, [.ref hj, .ref ri, .int (nI ((rw - 1))), .int rt, .int rq, .int rc])), (ri, .inl (cR, 16, .inl fi)), (hj, .inr (1, [.ref jb, .int (nI jn), .int jm, .int jS, .int jl])), (jb, .inl (cJ, 300, .inl fb))]) in_R tok_R nok_R 0 rfl rfl 2 (by decide) (zk_m tw_68) rfl rfl rfl rfl (Nat.le_of_ble_eq_true rfl) d_R_takeInput_23 rfl ?_
    refine zk_aload_n (pc := 26) X d_R_takeInput_26 rfl (q := 1) rfl ?_
    refine zk_get (pc := 27) X (ci := 2) (v := .ref ri) in_R 0 rfl rfl 1 (by decide) (zk_m tw_67) rfl d_R_takeInput_27 ?_
    refine zk_iconst (pc := 30) X (v := 1) d_R_takeInput_30 rfl ?_
    refine zk_aload_n (pc := 31) X d_R_takeInput_31 rfl (q := 1) rfl ?_
    refine zk_get (pc := 32) X (ci := 2) (v := .ref ri) in_R 0 rfl rfl 1 (by decide) (zk_m tw_67) rfl d_R_takeInput_32 ?_
    refine zk_iconst (pc := 35) X (v := 0) d_R_takeInput_35 rfl ?_
    refine zk_aload_n (pc := 36) X d_R_takeInput_36 rfl (q := 1) rfl ?_
    refine zk_get (pc := 37) X (ci := 2) (v := .int (nI ((rw - 1)))) in_R 0 rfl rfl 2 (by decide) (zk_m tw_68) rfl d_R_takeInput_37 ?_
    refine zk_copy (pc := 40) X (ws' := [(hr, .inr (2, [.ref hj, .ref ri, .int (nI ((rw - 1))), .int rt, .int rq, .int rc])), (ri, .inl (cR, 16, .inl (va_cpy fi fi 1 0 ((rw - 1))))), (hj, .inr (1, [.ref jb, .int (nI jn), .int jm, .int jS, .int jl])), (jb, .inl (cJ, 300, .inl fb))]) (zk_m tw_260) (zk_m tw_262) (zk_m tw_261) (zk_m tw_11) 1 0 1 0 ((rw - 1)) rfl rfl rfl rfl rfl (by omega) (by omega) (by decide) (Nat.le_of_ble_eq_true rfl) (Nat.le_of_ble_eq_true rfl) d_R_takeInput_40 rfl ?_
    refine zk_aload_n (pc := 43) X d_R_takeInput_43 rfl (q := 1) rfl ?_
    refine zk_get (pc := 44) X (ci := 2) (v := .ref hj) in_R 0 rfl rfl 0 (by decide) (zk_m tw_66) rfl d_R_takeInput_44 ?_
    refine zk_iload_n (pc := 47) X d_R_takeInput_47 rfl (q := 2) rfl ?_
    refine zk_iconst (pc := 48) X (v := 1) d_R_takeInput_48 rfl ?_
    refine zk_callv (pc := 49) X (wc := [(hj, .inr (1, [.ref jb, .int (nI jn), .int jm, .int jS, .int jl])), (jb, .inl (cJ, 300, .inl fb))]) (wr := [(hr, .inr (2, [.ref hj, .ref ri, .int (nI ((rw - 1))), .int rt, .int rq, .int rc])), (ri, .inl (cR, 16, .inl (va_cpy fi fi 1 0 ((rw - 1)))))]) [2, 3] [0, 1] rfl rfl (by decide) (by decide) (by decide) (zk_runV X (C := R_J) (tysC := [(cJ, .int)]) (As := [.int step, .int 1]) (rest := []) (c_J_beginEntry l dC dI hj jb cJ step 1 fb jn jm jS jl (by omega)) [1] rfl (ci := 1) rfl 2 rfl (zk_cwV 2 X.1.2.2.2.2 (zk_goodT tw_224) rfl rfl rfl (zk_m tw_221) (zk_m tw_222) (zk_m tw_223) (zk_m tw_3) rfl (by decide +kernel) ⟨Nat.le_of_ble_eq_true rfl, Nat.le_of_ble_eq_true rfl⟩) rfl rfl (Nat.le_of_ble_eq_true rfl) ⟨Nat.zero_le _, Nat.zero_le _⟩ d_R_takeInput_49) ?_
    rintro ⟨fb_49, jn_49, jm_49, jS_49, jl_49⟩ ⟨w49, f49_0⟩
    have f49_0 : jn_49 ≤ 300 := f49_0
    refine zk_ws (ws' := [(hr, .inr (2, [.ref hj, .ref ri, .int (nI ((rw - 1))), .int rt, .int rq, .int rc])), (ri, .inl (cR, 16, .inl (va_cpy fi fi 1 0 ((rw - 1))))), (hj, .inr (1, [.ref jb, .int (nI jn_49), .int jm_49, .int jS_49, .int jl_49])), (jb, .inl (cJ, 300, .inl fb_49))]) rfl ?_
    try dsimp only at w49
    rw [← w49] at hq
    try dsimp only at hq
    refine zk_aload_n (pc := 52) X d_R_takeInput_52 rfl (q := 1) rfl ?_
    refine zk_get (pc := 53) X (ci := 2) (v := .ref hj) in_R 0 rfl rfl 0 (by decide) (zk_m tw_66) rfl d_R_takeInput_53 ?_
    refine zk_iload_n (pc := 56) X d_R_takeInput_56 rfl (q := 0) rfl ?_
    refine zk_if_lt (pc := 57) X (tgt := 66) d_R_takeInput_57 (by decide) (fun h57 => ?_) (fun h57 => ?_)
    · have hq := hq.trans (if_pos h57)
      refine zk_bipush (pc := 66) X (v := (-2)) d_R_takeInput_66 (by decide) ?_
      refine zk_iload_n (pc := 68) X d_R_takeInput_68 rfl (q := 0) rfl ?_
      refine zk_imul (pc := 69) X (v := ((-2) * (fi 0))) d_R_takeInput_69 rfl ?_
      refine zk_iconst (pc := 70) X (v := 1) d_R_takeInput_70 rfl ?_
      refine zk_isub (pc := 71) X (v := (((-2) * (fi 0)) - 1)) d_R_takeInput_71 rfl ?_
      refine zk_callv (pc := 72) X (wc := [(hj, .inr (1, [.ref jb, .int (nI jn_49), .int jm_49, .int jS_49, .int jl_49])), (jb, .inl (cJ, 300, .inl fb_49))]) (wr := [(hr, .inr (2, [.ref hj, .ref ri, .int (nI ((rw - 1))), .int rt, .int rq, .int rc])), (ri, .inl (cR, 16, .inl (va_cpy fi fi 1 0 ((rw - 1)))))]) [2, 3] [0, 1] rfl rfl (by decide) (by decide) (by decide) (zk_runV X (C := R_J) (tysC := [(cJ, .int)]) (As := [.int (((-2) * (fi 0)) - 1)]) (rest := []) (c_J_writeNumber l dC dI hj jb cJ (((-2) * (fi 0)) - 1) fb_49 jn_49 jm_49 jS_49 jl_49 (by omega)) [1] rfl (ci := 1) rfl 2 rfl (zk_cwV 1 X.1.2.2.2.2 (zk_goodT tw_228) rfl rfl rfl (zk_m tw_263) (zk_m tw_226) (zk_m tw_227) (zk_m tw_3) rfl (by decide +kernel) ⟨Nat.le_of_ble_eq_true rfl, Nat.le_of_ble_eq_true rfl⟩) rfl rfl (Nat.le_of_ble_eq_true rfl) ⟨Nat.zero_le _, Nat.zero_le _⟩ d_R_takeInput_72) ?_
      rintro ⟨fb_72, jn_72, jS_72⟩ ⟨w72, f72_0⟩
      have f72_0 : jn_72 ≤ 300 := f72_0
      refine zk_ws (ws' := [(hr, .inr (2, [.ref hj, .ref ri, .int (nI ((rw - 1))), .int rt, .int rq, .int rc])), (ri, .inl (cR, 16, .inl (va_cpy fi fi 1 0 ((rw - 1))))), (hj, .inr (1, [.ref jb, .int (nI jn_72), .int jm_49, .int jS_72, .int jl_49])), (jb, .inl (cJ, 300, .inl fb_72))]) rfl ?_
      try dsimp only at w72
      rw [← w72] at hq
      try dsimp only at hq
      refine zk_iload_n (pc := 75) X d_R_takeInput_75 rfl (q := 0) rfl ?_
      exact zk_iret (pc := 76) X hQ hRt hLk ((va_cpy fi fi 1 0 ((rw - 1))), (rw - 1), fb_72, jn_72, jm_49, jS_72, jl_49) ⟨hq.symm, (show (rw - 1) ≤ 16 by omega), (show jn_72 ≤ 300 by omega)⟩ [0, 1, 2, 3] rfl (by decide) d_R_takeInput_76
    · have hq := hq.trans (if_neg h57)
      refine zk_iconst (pc := 60) X (v := 2) d_R_takeInput_60 rfl ?_
      refine zk_iload_n (pc := 61) X d_R_takeInput_61 rfl (q := 0) rfl ?_
      refine zk_imul (pc := 62) X (v := (2 * (fi 0))) d_R_takeInput_62 rfl ?_
      refine zk_goto (pc := 63) X (tgt := 72) d_R_takeInput_63 (by decide) ?_
      refine zk_callv (pc := 72) X (wc := [(hj, .inr (1, [.ref jb, .int (nI jn_49), .int jm_49, .int jS_49, .int jl_49])), (jb, .inl (cJ, 300, .inl fb_49))]) (wr := [(hr, .inr (2, [.ref hj, .ref ri, .int (nI ((rw - 1))), .int rt, .int rq, .int rc])), (ri, .inl (cR, 16, .inl (va_cpy fi fi 1 0 ((rw - 1)))))]) [2, 3] [0, 1] rfl rfl (by decide) (by decide) (by decide) (zk_runV X (C := R_J) (tysC := [(cJ, .int)]) (As := [.int (2 * (fi 0))]) (rest := []) (c_J_writeNumber l dC dI hj jb cJ (2 * (fi 0)) fb_49 jn_49 jm_49 jS_49 jl_49 (by omega)) [1] rfl (ci := 1) rfl 2 rfl (zk_cwV 1 X.1.2.2.2.2 (zk_goodT tw_228) rfl rfl rfl (zk_m tw_263) (zk_m tw_226) (zk_m tw_227) (zk_m tw_3) rfl (by decide +kernel) ⟨Nat.le_of_ble_eq_true rfl, Nat.le_of_ble_eq_true rfl⟩) rfl rfl (Nat.le_of_ble_eq_true rfl) ⟨Nat.zero_le _, Nat.zero_le _⟩ d_R_takeInput_72) ?_
      rintro ⟨fb_72, jn_72, jS_72⟩ ⟨w72, f72_0⟩
      have f72_0 : jn_72 ≤ 300 := f72_0
      refine zk_ws (ws' := [(hr, .inr (2, [.ref hj, .ref ri, .int (nI ((rw - 1))), .int rt, .int rq, .int rc])), (ri, .inl (cR, 16, .inl (va_cpy fi fi 1 0 ((rw - 1))))), (hj, .inr (1, [.ref jb, .int (nI jn_72), .int jm_49, .int jS_72, .int jl_49])), (jb, .inl (cJ, 300, .inl fb_72))]) rfl ?_
      try dsimp only at w72
      rw [← w72] at hq
      try dsimp only at hq
      refine zk_iload_n (pc := 75) X d_R_takeInput_75 rfl (q := 0) rfl ?_
      exact zk_iret (pc := 76) X hQ hRt hLk ((va_cpy fi fi 1 0 ((rw - 1))), (rw - 1), fb_72, jn_72, jm_49, jS_72, jl_49) ⟨hq.symm, (show (rw - 1) ≤ 16 by omega), (show jn_72 ≤ 300 by omega)⟩ [0, 1, 2, 3] rfl (by decide) d_R_takeInput_76
  · have hq := hq.trans (if_pos h4)
    refine zk_iconst (pc := 7) X (v := 0) d_R_takeInput_7 rfl ?_
    exact zk_iret (pc := 8) X hQ hRt hLk (fi, rw, fb, jn, jm, jS, jl) ⟨hq.symm, (show rw ≤ 16 by omega), (show jn ≤ 300 by omega)⟩ [0, 1, 2, 3] rfl (by decide) d_R_takeInput_8
def sp_R_readClock (step : Int32) (rt : Int32) (rc : Int32) (fb : Nat → Int32) (jn : Nat) (jm : Int32) (jS : Int32) (jl : Int32) : Int32 × Int32 × (Nat → Int32) × Nat × Int32 × Int32 × Int32 :=
  if rc = rt then
    (rc, rt, fb, jn, jm, jS, jl)
  else
    (match sp_J_beginEntry step 2 fb jn jm jS jl with
    | (fb_17, jn_17, jm_17, jS_17, jl_17) =>
      (match sp_J_writeNumber (rc - rt) fb_17 jn_17 jS_17 with
      | (fb_33, jn_33, jS_33) =>
        (rc, rc, fb_33, jn_33, jm_17, jS_33, jl_17)))
abbrev rm_R_readClock : Room := { frames := 4, cells := 0, slots := 0, locals := 90 }
set_option maxHeartbeats 4000000 in
set_option maxRecDepth 100000 in
theorem c_R_readClock (l : Launch) (dC : Nat → ClassId) (dI : Nat → Nat → Nat) (hr hj ri jb : Nat) (cR cJ : ClassId) (step : Int32) (fi : Nat → Int32) (rw : Nat) (rt : Int32) (rq : Int32) (rc : Int32) (fb : Nat → Int32) (jn : Nat) (jm : Int32) (jS : Int32) (jl : Int32) (hjn : jn ≤ 300) : zk_Ci l y_R_readClock w_R_readClock rm_R_readClock (dC, dI) vwCl [.ref hr, .int step] [(hr, .inr (2, [.ref hj, .ref ri, .int (nI rw), .int rt, .int rq, .int rc])), (ri, .inl (cR, 16, .inl fi)), (hj, .inr (1, [.ref jb, .int (nI jn), .int jm, .int jS, .int jl])), (jb, .inl (cJ, 300, .inl fb))] [(cR, .int), (cJ, .int)] (fun (r : Int32) (u : Int32 × (Nat → Int32) × Nat × Int32 × Int32 × Int32) => (r, u) = sp_R_readClock step rt rc fb jn jm jS jl ∧ (u.2.2.1 ≤ 300)) (fun u => [(hr, .inr (2, [.ref hj, .ref ri, .int (nI rw), .int u.1, .int rq, .int rc])), (ri, .inl (cR, 16, .inl fi)), (hj, .inr (1, [.ref jb, .int (nI u.2.2.1), .int u.2.2.2.1, .int u.2.2.2.2.1, .int u.2.2.2.2.2])), (jb, .inl (cJ, 300, .inl u.2.1))]) := by
  refine zk_enteri (cc := b_R_readClock) (maxL := 2) (ret := some .int) (by decide) rfl (Nat.le_of_ble_eq_true rfl) ?_
  intro p e s m args below meth c A Q hQ X hRt hLk
  have hq := sp_R_readClock.eq_1 step rt rc fb jn jm jS jl
  refine zk_lv (lv' := [(0, .ref hr), (1, .int step)]) [0, 1] rfl ?_
  refine zk_aload_n (pc := 0) X d_R_readClock_0 rfl (q := 0) rfl ?_
  refine zk_get (pc := 1) X (ci := 2) (v := .int rc) in_R 0 rfl rfl 5 (by decide) (zk_m tw_72) rfl d_R_readClock_1 ?_
  refine zk_aload_n (pc := 4) X d_R_readClock_4 rfl (q := 0) rfl ?_
  refine zk_get (pc := 5) X (ci := 2) (v := .int rt) in_R 0 rfl rfl 3 (by decide) (zk_m tw_69) rfl d_R_readClock_5 ?_
  refine zk_icmp_eq (pc := 8) X (tgt := 44) d_R_readClock_8 (by decide) (fun h8 => ?_) (fun h8 => ?_)
  · have hq := hq.trans (if_pos h8)
    refine zk_aload_n (pc := 44) X d_R_readClock_44 rfl (q := 0) rfl ?_
    refine zk_get (pc := 45) X (ci := 2) (v := .int rc) in_R 0 rfl rfl 5 (by decide) (zk_m tw_72) rfl d_R_readClock_45 ?_
    exact zk_iret (pc := 48) X hQ hRt hLk (rt, fb, jn, jm, jS, jl) ⟨hq.symm, (show jn ≤ 300 by omega)⟩ [0, 1, 2, 3] rfl (by decide) d_R_readClock_48
  · have hq := hq.trans (if_neg h8)
    refine zk_aload_n (pc := 11) X d_R_readClock_11 rfl (q := 0) rfl ?_
    refine zk_get (pc := 12) X (ci := 2) (v := .ref hj) in_R 0 rfl rfl 0 (by decide) (zk_m tw_66) rfl d_R_readClock_12 ?_
    refine zk_iload_n (pc := 15) X d_R_readClock_15 rfl (q := 1) rfl ?_
    refine zk_iconst (pc := 16) X (v := 2) d_R_readClock_16 rfl ?_
    refine zk_callv (pc := 17) X (wc := [(hj, .inr (1, [.ref jb, .int (nI jn), .int jm, .int jS, .int jl])), (jb, .inl (cJ, 300, .inl fb))]) (wr := [(hr, .inr (2, [.ref hj, .ref ri, .int (nI rw), .int rt, .int rq, .int rc])), (ri, .inl (cR, 16, .inl fi))]) [2, 3] [0, 1] rfl rfl (by decide) (by decide) (by decide) (zk_runV X (C := R_J) (tysC := [(cJ, .int)]) (As := [.int step, .int 2]) (rest := []) (c_J_beginEntry l dC dI hj jb cJ step 2 fb jn jm jS jl (by omega)) [1] rfl (ci := 1) rfl 2 rfl (zk_cwV 2 X.1.2.2.2.2 (zk_goodT tw_224) rfl rfl rfl (zk_m tw_221) (zk_m tw_222) (zk_m tw_223) (zk_m tw_3) rfl (by decide +kernel) ⟨Nat.le_of_ble_eq_true rfl, Nat.le_of_ble_eq_true rfl⟩) rfl rfl (Nat.le_of_ble_eq_true rfl) ⟨Nat.zero_le _, Nat.zero_le _⟩ d_R_readClock_17) ?_
    rintro ⟨fb_17, jn_17, jm_17, jS_17, jl_17⟩ ⟨w17, f17_0⟩
    have f17_0 : jn_17 ≤ 300 := f17_0
    refine zk_ws (ws' := [(hr, .inr (2, [.ref hj, .ref ri, .int (nI rw), .int rt, .int rq, .int rc])), (ri, .inl (cR, 16, .inl fi)), (hj, .inr (1, [.ref jb, .int (nI jn_17), .int jm_17, .int jS_17, .int jl_17])), (jb, .inl (cJ, 300, .inl fb_17))]) rfl ?_
    try dsimp only at w17
    rw [← w17] at hq
    try dsimp only at hq
    refine zk_aload_n (pc := 20) X d_R_readClock_20 rfl (q := 0) rfl ?_
    refine zk_get (pc := 21) X (ci := 2) (v := .ref hj) in_R 0 rfl rfl 0 (by decide) (zk_m tw_66) rfl d_R_readClock_21 ?_
    refine zk_aload_n (pc := 24) X d_R_readClock_24 rfl (q := 0) rfl ?_
    refine zk_get (pc := 25) X (ci := 2) (v := .int rc) in_R 0 rfl rfl 5 (by decide) (zk_m tw_72) rfl d_R_readClock_25 ?_
    refine zk_aload_n (pc := 28) X d_R_readClock_28 rfl (q := 0) rfl ?_
    refine zk_get (pc := 29) X (ci := 2) (v := .int rt) in_R 0 rfl rfl 3 (by decide) (zk_m tw_69) rfl d_R_readClock_29 ?_
    refine zk_isub (pc := 32) X (v := (rc - rt)) d_R_readClock_32 rfl ?_
    refine zk_callv (pc := 33) X (wc := [(hj, .inr (1, [.ref jb, .int (nI jn_17), .int jm_17, .int jS_17, .int jl_17])), (jb, .inl (cJ, 300, .inl fb_17))]) (wr := [(hr, .inr (2, [.ref hj, .ref ri, .int (nI rw), .int rt, .int rq, .int rc])), (ri, .inl (cR, 16, .inl fi))]) [2, 3] [0, 1] rfl rfl (by decide) (by decide) (by decide) (zk_runV X (C := R_J) (tysC := [(cJ, .int)]) (As := [.int (rc - rt)]) (rest := []) (c_J_writeNumber l dC dI hj jb cJ (rc - rt) fb_17 jn_17 jm_17 jS_17 jl_17 (by omega)) [1] rfl (ci := 1) rfl 2 rfl (zk_cwV 1 X.1.2.2.2.2 (zk_goodT tw_228) rfl rfl rfl (zk_m tw_263) (zk_m tw_226) (zk_m tw_227) (zk_m tw_3) rfl (by decide +kernel) ⟨Nat.le_of_ble_eq_true rfl, Nat.le_of_ble_eq_true rfl⟩) rfl rfl (Nat.le_of_ble_eq_true rfl) ⟨Nat.zero_le _, Nat.zero_le _⟩ d_R_readClock_33) ?_
    rintro ⟨fb_33, jn_33, jS_33⟩ ⟨w33, f33_0⟩
    have f33_0 : jn_33 ≤ 300 := f33_0
    refine zk_ws (ws' := [(hr, .inr (2, [.ref hj, .ref ri, .int (nI rw), .int rt, .int rq, .int rc])), (ri, .inl (cR, 16, .inl fi)), (hj, .inr (1, [.ref jb, .int (nI jn_33), .int jm_17, .int jS_33, .int jl_17])), (jb, .inl (cJ, 300, .inl fb_33))]) rfl ?_
    try dsimp only at w33
    rw [← w33] at hq
    try dsimp only at hq
    refine zk_aload_n (pc := 36) X d_R_readClock_36 rfl (q := 0) rfl ?_
    refine zk_aload_n (pc := 37) X d_R_readClock_37 rfl (q := 0) rfl ?_
    refine zk_get (pc := 38) X (ci := 2) (v := .int rc) in_R 0 rfl rfl 5 (by decide) (zk_m tw_72) rfl d_R_readClock_38 ?_
    refine zk_put (pc := 41) X (ty := .int) (v := .int rc) (ws' := [(hr, .inr (2, [.ref hj, .ref ri, .int (nI rw), .int rc, .int rq, .int rc])), (ri, .inl (cR, 16, .inl fi)), (hj, .inr (1, [.ref jb, .int (nI jn_33), .int jm_17, .int jS_33, .int jl_17])), (jb, .inl (cJ, 300, .inl fb_33))]) in_R tok_R nok_R 0 rfl rfl 3 (by decide) (zk_m tw_69) rfl rfl rfl rfl (Nat.le_of_ble_eq_true rfl) d_R_readClock_41 rfl ?_
    refine zk_aload_n (pc := 44) X d_R_readClock_44 rfl (q := 0) rfl ?_
    refine zk_get (pc := 45) X (ci := 2) (v := .int rc) in_R 0 rfl rfl 5 (by decide) (zk_m tw_72) rfl d_R_readClock_45 ?_
    exact zk_iret (pc := 48) X hQ hRt hLk (rc, fb_33, jn_33, jm_17, jS_33, jl_17) ⟨hq.symm, (show jn_33 ≤ 300 by omega)⟩ [0, 1, 2, 3] rfl (by decide) d_R_readClock_48
end
section
def sp_D_readNumber_4 (dB : Int32) (fb : Nat → Int32) (jn : Nat) : Nat → Int32 → Nat → Nat → Int32 × Nat × Int32
  | 0, nu, j, dp1 => (0, dp1, dB)
  | fuel + 1, nu, j, dp1 =>
    if 5 ≤ j then
      (0, dp1, 1)
    else
      if (sp_J_has (nI dp1) jn) = 0 then
        (0, dp1, 1)
      else
        if (128 : Int32) ≤ (fb dp1) then
          sp_D_readNumber_4 dB fb jn fuel (nu ||| (zf_shl ((fb dp1) &&& 127) (7 * (nI j)))) (j + 1) (dp1 + 1)
        else
          ((nu ||| (zf_shl ((fb dp1) &&& 127) (7 * (nI j)))), dp1 + 1, dB)
def sp_D_readNumber (dp : Nat) (dB : Int32) (fb : Nat → Int32) (jn : Nat) : Int32 × Nat × Int32 :=
  sp_D_readNumber_4 dB fb jn 6 0 0 dp
abbrev rm_D_readNumber : Room := { frames := 1, cells := 0, slots := 0, locals := 21 }
set_option maxHeartbeats 4000000 in
set_option maxRecDepth 100000 in
theorem c_D_readNumber (l : Launch) (dC : Nat → ClassId) (dI : Nat → Nat → Nat) (hd hj jb : Nat) (cJ : ClassId) (dp : Nat) (de : Int32) (dB : Int32) (ds : Int64) (dk : Int32) (dv : Int32) (fb : Nat → Int32) (jn : Nat) (jm : Int32) (jS : Int32) (jl : Int32) (hjn : jn ≤ 300) (hdp : dp ≤ jn) : zk_Ci l y_D_readNumber w_D_readNumber rm_D_readNumber (dC, dI) vwCl [.ref hd] [(hd, .inr (4, [.ref hj, .int (nI dp), .int de, .int dB, .long ds, .int dk, .int dv])), (hj, .inr (1, [.ref jb, .int (nI jn), .int jm, .int jS, .int jl])), (jb, .inl (cJ, 300, .inl fb))] [(cJ, .int)] (fun (r : Int32) (u : Nat × Int32) => (r, u) = sp_D_readNumber dp dB fb jn ∧ (u.1 ≤ jn)) (fun u => [(hd, .inr (4, [.ref hj, .int (nI u.1), .int de, .int u.2, .long ds, .int dk, .int dv])), (hj, .inr (1, [.ref jb, .int (nI jn), .int jm, .int jS, .int jl])), (jb, .inl (cJ, 300, .inl fb))]) := by
  refine zk_enteri (cc := b_D_readNumber) (maxL := 4) (ret := some .int) (by decide) rfl (Nat.le_of_ble_eq_true rfl) ?_
  intro p e s m args below meth c A Q hQ X hRt hLk
  have cut4 : ∀ (fuel : Nat) (nu : Int32) (j : Nat) (dp1 : Nat), j ≤ 5 → dp1 ≤ jn → 5 - j < fuel → sp_D_readNumber dp dB fb jn = sp_D_readNumber_4 dB fb jn fuel nu j dp1 → zk_Z p l e rm_D_readNumber s m args below meth c Q A (dC, dI) vwCl 4 0 0 [(hd, .inr (4, [.ref hj, .int (nI dp1), .int de, .int dB, .long ds, .int dk, .int dv])), (hj, .inr (1, [.ref jb, .int (nI jn), .int jm, .int jS, .int jl])), (jb, .inl (cJ, 300, .inl fb))] [(0, .ref hd), (1, .int nu), (2, .int (nI j))] [] 4 := by
    intro fuel
    induction fuel with
    | zero => intro nu j dp1 hj5 hd1 hMs; exact absurd hMs (Nat.not_lt_zero _)
    | succ fuel ih =>
      intro nu j dp1 hj5 hd1 hMs hq
      rw [sp_D_readNumber_4] at hq
      refine zk_iload_n (pc := 4) X d_D_readNumber_4 rfl (q := 2) rfl ?_
      refine zk_iconst (pc := 5) X (v := 5) d_D_readNumber_5 rfl ?_
      refine zk_icmpN_ge (pc := 6) X (tgt := 73) (j) (5) rfl rfl (by omega) (by omega) d_D_readNumber_6 (by decide) (fun h6 => ?_) (fun h6 => ?_)
      · have hq := hq.trans (if_pos h6)
        refine zk_aload_n (pc := 73) X d_D_readNumber_73 rfl (q := 0) rfl ?_
        refine zk_iconst (pc := 74) X (v := 1) d_D_readNumber_74 rfl ?_
        refine zk_put (pc := 75) X (ty := .boolean) (v := .int 1) (ws' := [(hd, .inr (4, [.ref hj, .int (nI dp1), .int de, .int 1, .long ds, .int dk, .int dv])), (hj, .inr (1, [.ref jb, .int (nI jn), .int jm, .int jS, .int jl])), (jb, .inl (cJ, 300, .inl fb))]) in_D tok_D nok_D 0 rfl rfl 3 (by decide) (zk_m tw_92) rfl rfl rfl rfl (Nat.le_of_ble_eq_true rfl) d_D_readNumber_75 rfl ?_
        refine zk_iconst (pc := 78) X (v := 0) d_D_readNumber_78 rfl ?_
        exact zk_iret (pc := 79) X hQ hRt hLk (dp1, 1) ⟨hq.symm, (show dp1 ≤ jn by omega)⟩ [0, 1, 2] rfl (by decide) d_D_readNumber_79
      · have hq := hq.trans (if_neg h6)
        refine zk_aload_n (pc := 9) X d_D_readNumber_9 rfl (q := 0) rfl ?_
        refine zk_get (pc := 10) X (ci := 4) (v := .ref hj) in_D 0 rfl rfl 0 (by decide) (zk_m tw_88) rfl d_D_readNumber_10 ?_
        refine zk_aload_n (pc := 13) X d_D_readNumber_13 rfl (q := 0) rfl ?_
        refine zk_get (pc := 14) X (ci := 4) (v := .int (nI dp1)) in_D 0 rfl rfl 1 (by decide) (zk_m tw_89) rfl d_D_readNumber_14 ?_
        refine zk_calli (pc := 17) X (wc := [(hj, .inr (1, [.ref jb, .int (nI jn), .int jm, .int jS, .int jl])), (jb, .inl (cJ, 300, .inl fb))]) (wr := [(hd, .inr (4, [.ref hj, .int (nI dp1), .int de, .int dB, .long ds, .int dk, .int dv]))]) [1, 2] [0] rfl rfl (by decide) (by decide) (by decide) (zk_runV X (C := R_J) (tysC := [(cJ, .int)]) (As := [.int (nI dp1)]) (rest := []) (c_J_has l dC dI hj jb cJ (nI dp1) fb jn jm jS jl) [0] rfl (ci := 1) rfl 1 rfl (zk_cwV 1 X.1.2.2.2.2 (zk_goodT tw_248) rfl rfl rfl (zk_m tw_245) (zk_m tw_246) (zk_m tw_247) (zk_m tw_3) rfl (by decide +kernel) ⟨Nat.le_of_ble_eq_true rfl, Nat.le_of_ble_eq_true rfl⟩) rfl rfl (Nat.le_of_ble_eq_true rfl) ⟨Nat.zero_le _, Nat.zero_le _⟩ d_D_readNumber_17) ?_
        rintro r17 ⟨⟩ ⟨w17, f17_0⟩
        have f17_0 : zk_hs r17 (nI dp1) jn := f17_0
        refine zk_ws (ws' := [(hd, .inr (4, [.ref hj, .int (nI dp1), .int de, .int dB, .long ds, .int dk, .int dv])), (hj, .inr (1, [.ref jb, .int (nI jn), .int jm, .int jS, .int jl])), (jb, .inl (cJ, 300, .inl fb))]) rfl ?_
        subst w17
        refine zk_if_eq (pc := 20) X (tgt := 73) d_D_readNumber_20 (by decide) (fun h20 => ?_) (fun h20 => ?_)
        · have hq := hq.trans (if_pos h20)
          refine zk_aload_n (pc := 73) X d_D_readNumber_73 rfl (q := 0) rfl ?_
          refine zk_iconst (pc := 74) X (v := 1) d_D_readNumber_74 rfl ?_
          refine zk_put (pc := 75) X (ty := .boolean) (v := .int 1) (ws' := [(hd, .inr (4, [.ref hj, .int (nI dp1), .int de, .int 1, .long ds, .int dk, .int dv])), (hj, .inr (1, [.ref jb, .int (nI jn), .int jm, .int jS, .int jl])), (jb, .inl (cJ, 300, .inl fb))]) in_D tok_D nok_D 0 rfl rfl 3 (by decide) (zk_m tw_92) rfl rfl rfl rfl (Nat.le_of_ble_eq_true rfl) d_D_readNumber_75 rfl ?_
          refine zk_iconst (pc := 78) X (v := 0) d_D_readNumber_78 rfl ?_
          exact zk_iret (pc := 79) X hQ hRt hLk (dp1, 1) ⟨hq.symm, (show dp1 ≤ jn by omega)⟩ [0, 1, 2] rfl (by decide) d_D_readNumber_79
        · have hq := hq.trans (if_neg h20)
          have g23 := zk_hasN f17_0 h20 (by omega) (by omega)
          refine zk_aload_n (pc := 23) X d_D_readNumber_23 rfl (q := 0) rfl ?_
          refine zk_get (pc := 24) X (ci := 4) (v := .ref hj) in_D 0 rfl rfl 0 (by decide) (zk_m tw_88) rfl d_D_readNumber_24 ?_
          refine zk_get (pc := 27) X (ci := 1) (v := .ref jb) in_J 1 rfl rfl 0 (by decide) (zk_m tw_44) rfl d_D_readNumber_27 ?_
          refine zk_aload_n (pc := 30) X d_D_readNumber_30 rfl (q := 0) rfl ?_
          refine zk_get (pc := 31) X (ci := 4) (v := .int (nI dp1)) in_D 0 rfl rfl 1 (by decide) (zk_m tw_89) rfl d_D_readNumber_31 ?_
          refine zk_iald (pc := 34) X 2 0 (dp1) rfl rfl rfl (by omega) (by decide) d_D_readNumber_34 ?_
          refine zk_istore_n (pc := 35) X (i := 3) (lv' := [(3, .int (fb dp1)), (0, .ref hd), (1, .int nu), (2, .int (nI j))]) d_D_readNumber_35 rfl (by decide) rfl ?_
          refine zk_aload_n (pc := 36) X d_D_readNumber_36 rfl (q := 1) rfl ?_
          refine zk_dup (pc := 37) X d_D_readNumber_37 rfl ?_
          refine zk_get (pc := 38) X (ci := 4) (v := .int (nI dp1)) in_D 0 rfl rfl 1 (by decide) (zk_m tw_89) rfl d_D_readNumber_38 ?_
          refine zk_iconst (pc := 41) X (v := 1) d_D_readNumber_41 rfl ?_
          refine zk_iadd (pc := 42) X (v := nI (dp1 + 1)) d_D_readNumber_42 (nI_add (dp1) (1)) ?_
          refine zk_put (pc := 43) X (ty := .int) (v := .int (nI (dp1 + 1))) (ws' := [(hd, .inr (4, [.ref hj, .int (nI (dp1 + 1)), .int de, .int dB, .long ds, .int dk, .int dv])), (hj, .inr (1, [.ref jb, .int (nI jn), .int jm, .int jS, .int jl])), (jb, .inl (cJ, 300, .inl fb))]) in_D tok_D nok_D 0 rfl rfl 1 (by decide) (zk_m tw_89) rfl rfl rfl rfl (Nat.le_of_ble_eq_true rfl) d_D_readNumber_43 rfl ?_
          refine zk_iload_n (pc := 46) X d_D_readNumber_46 rfl (q := 2) rfl ?_
          refine zk_iload_n (pc := 47) X d_D_readNumber_47 rfl (q := 0) rfl ?_
          refine zk_bipush (pc := 48) X (v := 127) d_D_readNumber_48 (by decide) ?_
          refine zk_iand (pc := 50) X (v := ((fb dp1) &&& 127)) d_D_readNumber_50 rfl ?_
          refine zk_bipush (pc := 51) X (v := 7) d_D_readNumber_51 (by decide) ?_
          refine zk_iload_n (pc := 53) X d_D_readNumber_53 rfl (q := 3) rfl ?_
          refine zk_imul (pc := 54) X (v := (7 * (nI j))) d_D_readNumber_54 rfl ?_
          refine zk_ishl (pc := 55) X (v := (zf_shl ((fb dp1) &&& 127) (7 * (nI j)))) d_D_readNumber_55 rfl ?_
          refine zk_ior (pc := 56) X (v := (nu ||| (zf_shl ((fb dp1) &&& 127) (7 * (nI j))))) d_D_readNumber_56 rfl ?_
          refine zk_istore_n (pc := 57) X (i := 1) (lv' := [(1, .int (nu ||| (zf_shl ((fb dp1) &&& 127) (7 * (nI j))))), (3, .int (fb dp1)), (0, .ref hd), (2, .int (nI j))]) d_D_readNumber_57 rfl (by decide) rfl ?_
          refine zk_iload_n (pc := 58) X d_D_readNumber_58 rfl (q := 1) rfl ?_
          refine zk_sipush (pc := 59) X (v := 128) d_D_readNumber_59 (by decide) ?_
          refine zk_icmp_ge (pc := 62) X (tgt := 67) d_D_readNumber_62 (by decide) (fun h62 => ?_) (fun h62 => ?_)
          · have hq := hq.trans (if_pos h62)
            refine zk_iinc (pc := 67) X (k0 := 3) (v := nI (j + 1)) (lv' := [(2, .int (nI (j + 1))), (1, .int (nu ||| (zf_shl ((fb dp1) &&& 127) (7 * (nI j))))), (3, .int (fb dp1)), (0, .ref hd)]) d_D_readNumber_67 rfl (nI_add (j) 1) (by decide) rfl ?_
            refine zk_goto (pc := 70) X (tgt := 4) d_D_readNumber_70 (by decide) ?_
            refine zk_lv (lv' := [(0, .ref hd), (1, .int (nu ||| (zf_shl ((fb dp1) &&& 127) (7 * (nI j))))), (2, .int (nI (j + 1)))]) [3, 1, 0] rfl ?_
            exact ih (nu ||| (zf_shl ((fb dp1) &&& 127) (7 * (nI j)))) (j + 1) (dp1 + 1) (by omega) (by omega) (by omega) hq
          · have hq := hq.trans (if_neg h62)
            refine zk_iload_n (pc := 65) X d_D_readNumber_65 rfl (q := 0) rfl ?_
            exact zk_iret (pc := 66) X hQ hRt hLk (dp1 + 1, dB) ⟨hq.symm, (show (dp1 + 1) ≤ jn by omega)⟩ [0, 1, 2] rfl (by decide) d_D_readNumber_66
  have hq := sp_D_readNumber.eq_1 dp dB fb jn
  refine zk_lv (lv' := [(0, .ref hd)]) [0] rfl ?_
  refine zk_iconst (pc := 0) X (v := 0) d_D_readNumber_0 rfl ?_
  refine zk_istore_n (pc := 1) X (i := 1) (lv' := [(1, .int 0), (0, .ref hd)]) d_D_readNumber_1 rfl (by decide) rfl ?_
  refine zk_iconst (pc := 2) X (v := 0) d_D_readNumber_2 rfl ?_
  refine zk_istore_n (pc := 3) X (i := 2) (lv' := [(2, .int 0), (1, .int 0), (0, .ref hd)]) d_D_readNumber_3 rfl (by decide) rfl ?_
  refine zk_lv (lv' := [(0, .ref hd), (1, .int 0), (2, .int 0)]) [2, 1, 0] rfl ?_
  exact cut4 (6) 0 0 dp (by omega) (by omega) (by omega) hq
def sp_D_readEntry (dp : Nat) (dB : Int32) (ds : Int64) (dk : Int32) (dv : Int32) (fb : Nat → Int32) (jn : Nat) : Nat × Int32 × Int32 × Int64 × Int32 × Int32 :=
  if dB = 0 then
    if (sp_J_has (nI dp) jn) = 0 then
      (dp, 0, dB, ds, dk, dv)
    else
      (match sp_D_readNumber dp dB fb jn with
      | (r28, dp_28, dB_28) =>
        if (r28 &&& 3) = 1 then
          (match sp_D_readNumber dp_28 dB_28 fb jn with
          | (r61, dp_61, dB_61) =>
            if (zf_ushr r28 2) = 0 then
              (dp_61, 0, 1, (ds + (Int32.toInt64 (zf_ushr r28 2))), (r28 &&& 3), r61)
            else
              if dB_61 = 0 then
                (dp_61, 1, dB_61, (ds + (Int32.toInt64 (zf_ushr r28 2))), (r28 &&& 3), r61)
              else
                (dp_61, 0, dB_61, (ds + (Int32.toInt64 (zf_ushr r28 2))), (r28 &&& 3), r61))
        else
          if (r28 &&& 3) = 2 then
            (match sp_D_readNumber dp_28 dB_28 fb jn with
            | (r61, dp_61, dB_61) =>
              if (zf_ushr r28 2) = 0 then
                (dp_61, 0, 1, (ds + (Int32.toInt64 (zf_ushr r28 2))), (r28 &&& 3), r61)
              else
                if dB_61 = 0 then
                  (dp_61, 1, dB_61, (ds + (Int32.toInt64 (zf_ushr r28 2))), (r28 &&& 3), r61)
                else
                  (dp_61, 0, dB_61, (ds + (Int32.toInt64 (zf_ushr r28 2))), (r28 &&& 3), r61))
          else
            if (r28 &&& 3) = 0 then
              (dp_28, 0, 1, (ds + (Int32.toInt64 (zf_ushr r28 2))), (r28 &&& 3), 0)
            else
              if (zf_ushr r28 2) = 0 then
                (dp_28, 0, 1, (ds + (Int32.toInt64 (zf_ushr r28 2))), (r28 &&& 3), 0)
              else
                if dB_28 = 0 then
                  (dp_28, 1, dB_28, (ds + (Int32.toInt64 (zf_ushr r28 2))), (r28 &&& 3), 0)
                else
                  (dp_28, 0, dB_28, (ds + (Int32.toInt64 (zf_ushr r28 2))), (r28 &&& 3), 0))
  else
    (dp, 0, dB, ds, dk, dv)
abbrev rm_D_readEntry : Room := { frames := 2, cells := 0, slots := 0, locals := 44 }
set_option maxHeartbeats 4000000 in
set_option maxRecDepth 100000 in
theorem c_D_readEntry (l : Launch) (dC : Nat → ClassId) (dI : Nat → Nat → Nat) (hd hj jb : Nat) (cJ : ClassId) (dp : Nat) (de : Int32) (dB : Int32) (ds : Int64) (dk : Int32) (dv : Int32) (fb : Nat → Int32) (jn : Nat) (jm : Int32) (jS : Int32) (jl : Int32) (hjn : jn ≤ 300) (hdp : dp ≤ jn) : zk_Cv l y_D_readEntry w_D_readEntry rm_D_readEntry (dC, dI) vwCl [.ref hd] [(hd, .inr (4, [.ref hj, .int (nI dp), .int de, .int dB, .long ds, .int dk, .int dv])), (hj, .inr (1, [.ref jb, .int (nI jn), .int jm, .int jS, .int jl])), (jb, .inl (cJ, 300, .inl fb))] [(cJ, .int)] (fun (u : Nat × Int32 × Int32 × Int64 × Int32 × Int32) => u = sp_D_readEntry dp dB ds dk dv fb jn ∧ (u.1 ≤ jn)) (fun u => [(hd, .inr (4, [.ref hj, .int (nI u.1), .int u.2.1, .int u.2.2.1, .long u.2.2.2.1, .int u.2.2.2.2.1, .int u.2.2.2.2.2])), (hj, .inr (1, [.ref jb, .int (nI jn), .int jm, .int jS, .int jl])), (jb, .inl (cJ, 300, .inl fb))]) := by
  refine zk_enterv (cc := b_D_readEntry) (maxL := 3) (ret := none) (by decide) rfl (Nat.le_of_ble_eq_true rfl) ?_
  intro p e s m args below meth c A Q hQ X hRt hLk
  have hq := sp_D_readEntry.eq_1 dp dB ds dk dv fb jn
  refine zk_lv (lv' := [(0, .ref hd)]) [0] rfl ?_
  refine zk_aload_n (pc := 0) X d_D_readEntry_0 rfl (q := 0) rfl ?_
  refine zk_iconst (pc := 1) X (v := 0) d_D_readEntry_1 rfl ?_
  refine zk_put (pc := 2) X (ty := .boolean) (v := .int 0) (ws' := [(hd, .inr (4, [.ref hj, .int (nI dp), .int 0, .int dB, .long ds, .int dk, .int dv])), (hj, .inr (1, [.ref jb, .int (nI jn), .int jm, .int jS, .int jl])), (jb, .inl (cJ, 300, .inl fb))]) in_D tok_D nok_D 0 rfl rfl 2 (by decide) (zk_m tw_91) rfl rfl rfl rfl (Nat.le_of_ble_eq_true rfl) d_D_readEntry_2 rfl ?_
  refine zk_aload_n (pc := 5) X d_D_readEntry_5 rfl (q := 0) rfl ?_
  refine zk_get (pc := 6) X (ci := 4) (v := .int dB) in_D 0 rfl rfl 3 (by decide) (zk_m tw_92) rfl d_D_readEntry_6 ?_
  refine zk_if_ne (pc := 9) X (tgt := 26) d_D_readEntry_9 (by decide) (fun h9 => ?_) (fun h9 => ?_)
  · have hq := hq.trans (if_neg h9)
    exact zk_vret (pc := 26) X hQ hRt hLk (dp, 0, dB, ds, dk, dv) ⟨hq.symm, (show dp ≤ jn by omega)⟩ [0, 1, 2] rfl (by decide) d_D_readEntry_26
  · have hq := hq.trans (if_pos h9)
    refine zk_aload_n (pc := 12) X d_D_readEntry_12 rfl (q := 0) rfl ?_
    refine zk_get (pc := 13) X (ci := 4) (v := .ref hj) in_D 0 rfl rfl 0 (by decide) (zk_m tw_88) rfl d_D_readEntry_13 ?_
    refine zk_aload_n (pc := 16) X d_D_readEntry_16 rfl (q := 0) rfl ?_
    refine zk_get (pc := 17) X (ci := 4) (v := .int (nI dp)) in_D 0 rfl rfl 1 (by decide) (zk_m tw_89) rfl d_D_readEntry_17 ?_
    refine zk_calli (pc := 20) X (wc := [(hj, .inr (1, [.ref jb, .int (nI jn), .int jm, .int jS, .int jl])), (jb, .inl (cJ, 300, .inl fb))]) (wr := [(hd, .inr (4, [.ref hj, .int (nI dp), .int 0, .int dB, .long ds, .int dk, .int dv]))]) [1, 2] [0] rfl rfl (by decide) (by decide) (by decide) (zk_runV X (C := R_J) (tysC := [(cJ, .int)]) (As := [.int (nI dp)]) (rest := []) (c_J_has l dC dI hj jb cJ (nI dp) fb jn jm jS jl) [0] rfl (ci := 1) rfl 1 rfl (zk_cwV 1 X.1.2.2.2.2 (zk_goodT tw_248) rfl rfl rfl (zk_m tw_245) (zk_m tw_246) (zk_m tw_247) (zk_m tw_3) rfl (by decide +kernel) ⟨Nat.le_of_ble_eq_true rfl, Nat.le_of_ble_eq_true rfl⟩) rfl rfl (Nat.le_of_ble_eq_true rfl) ⟨Nat.zero_le _, Nat.zero_le _⟩ d_D_readEntry_20) ?_
    rintro r20 ⟨⟩ ⟨w20, f20_0⟩
    have f20_0 : zk_hs r20 (nI dp) jn := f20_0
    refine zk_ws (ws' := [(hd, .inr (4, [.ref hj, .int (nI dp), .int 0, .int dB, .long ds, .int dk, .int dv])), (hj, .inr (1, [.ref jb, .int (nI jn), .int jm, .int jS, .int jl])), (jb, .inl (cJ, 300, .inl fb))]) rfl ?_
    subst w20
    refine zk_if_ne (pc := 23) X (tgt := 27) d_D_readEntry_23 (by decide) (fun h23 => ?_) (fun h23 => ?_)
    · have hq := hq.trans (if_neg h23)
      refine zk_aload_n (pc := 27) X d_D_readEntry_27 rfl (q := 0) rfl ?_
      refine zk_calli (pc := 28) X (wc := [(hd, .inr (4, [.ref hj, .int (nI dp), .int 0, .int dB, .long ds, .int dk, .int dv])), (hj, .inr (1, [.ref jb, .int (nI jn), .int jm, .int jS, .int jl])), (jb, .inl (cJ, 300, .inl fb))]) (wr := []) [0, 1, 2] [] rfl rfl (by decide) (by decide) (by decide) (zk_runV X (C := R_D) (tysC := [(cJ, .int)]) (As := []) (rest := []) (c_D_readNumber l dC dI hd hj jb cJ dp 0 dB ds dk dv fb jn jm jS jl (by omega) (by omega)) [0] rfl (ci := 4) rfl 0 rfl (zk_cwV 0 X.1.2.2.2.2 (zk_goodT tw_251) rfl rfl rfl (zk_m tw_249) (zk_m tw_250) (zk_m tw_527) (zk_m tw_7) rfl (by decide +kernel) ⟨Nat.le_of_ble_eq_true rfl, Nat.le_of_ble_eq_true rfl⟩) rfl rfl (Nat.le_of_ble_eq_true rfl) ⟨Nat.zero_le _, Nat.zero_le _⟩ d_D_readEntry_28) ?_
      rintro r28 ⟨dp_28, dB_28⟩ ⟨w28, f28_0⟩
      have f28_0 : dp_28 ≤ jn := f28_0
      refine zk_ws (ws' := [(hd, .inr (4, [.ref hj, .int (nI dp_28), .int 0, .int dB_28, .long ds, .int dk, .int dv])), (hj, .inr (1, [.ref jb, .int (nI jn), .int jm, .int jS, .int jl])), (jb, .inl (cJ, 300, .inl fb))]) rfl ?_
      try dsimp only at w28
      rw [← w28] at hq
      try dsimp only at hq
      refine zk_istore_n (pc := 31) X (i := 1) (lv' := [(1, .int r28), (0, .ref hd)]) d_D_readEntry_31 rfl (by decide) rfl ?_
      refine zk_iload_n (pc := 32) X d_D_readEntry_32 rfl (q := 0) rfl ?_
      refine zk_iconst (pc := 33) X (v := 2) d_D_readEntry_33 rfl ?_
      refine zk_iushr (pc := 34) X (v := (zf_ushr r28 2)) d_D_readEntry_34 rfl ?_
      refine zk_istore_n (pc := 35) X (i := 2) (lv' := [(2, .int (zf_ushr r28 2)), (1, .int r28), (0, .ref hd)]) d_D_readEntry_35 rfl (by decide) rfl ?_
      refine zk_aload_n (pc := 36) X d_D_readEntry_36 rfl (q := 2) rfl ?_
      refine zk_iload_n (pc := 37) X d_D_readEntry_37 rfl (q := 1) rfl ?_
      refine zk_iconst (pc := 38) X (v := 3) d_D_readEntry_38 rfl ?_
      refine zk_iand (pc := 39) X (v := (r28 &&& 3)) d_D_readEntry_39 rfl ?_
      refine zk_put (pc := 40) X (ty := .int) (v := .int (r28 &&& 3)) (ws' := [(hd, .inr (4, [.ref hj, .int (nI dp_28), .int 0, .int dB_28, .long ds, .int (r28 &&& 3), .int dv])), (hj, .inr (1, [.ref jb, .int (nI jn), .int jm, .int jS, .int jl])), (jb, .inl (cJ, 300, .inl fb))]) in_D tok_D nok_D 0 rfl rfl 5 (by decide) (zk_m tw_96) rfl rfl rfl rfl (Nat.le_of_ble_eq_true rfl) d_D_readEntry_40 rfl ?_
      refine zk_aload_n (pc := 43) X d_D_readEntry_43 rfl (q := 2) rfl ?_
      refine zk_aload_n (pc := 44) X d_D_readEntry_44 rfl (q := 2) rfl ?_
      refine zk_get (pc := 45) X (ci := 4) (v := .int (r28 &&& 3)) in_D 0 rfl rfl 5 (by decide) (zk_m tw_96) rfl d_D_readEntry_45 ?_
      refine zk_iconst (pc := 48) X (v := 1) d_D_readEntry_48 rfl ?_
      refine zk_icmp_eq (pc := 49) X (tgt := 60) d_D_readEntry_49 (by decide) (fun h49 => ?_) (fun h49 => ?_)
      · have hq := hq.trans (if_pos h49)
        refine zk_aload_n (pc := 60) X d_D_readEntry_60 rfl (q := 2) rfl ?_
        refine zk_calli (pc := 61) X (wc := [(hd, .inr (4, [.ref hj, .int (nI dp_28), .int 0, .int dB_28, .long ds, .int (r28 &&& 3), .int dv])), (hj, .inr (1, [.ref jb, .int (nI jn), .int jm, .int jS, .int jl])), (jb, .inl (cJ, 300, .inl fb))]) (wr := []) [0, 1, 2] [] rfl rfl (by decide) (by decide) (by decide) (zk_runV X (C := R_D) (tysC := [(cJ, .int)]) (As := []) (rest := [.ref hd]) (c_D_readNumber l dC dI hd hj jb cJ dp_28 0 dB_28 ds (r28 &&& 3) dv fb jn jm jS jl (by omega) (by omega)) [0] rfl (ci := 4) rfl 0 rfl (zk_cwV 0 X.1.2.2.2.2 (zk_goodT tw_251) rfl rfl rfl (zk_m tw_249) (zk_m tw_250) (zk_m tw_527) (zk_m tw_7) rfl (by decide +kernel) ⟨Nat.le_of_ble_eq_true rfl, Nat.le_of_ble_eq_true rfl⟩) rfl rfl (Nat.le_of_ble_eq_true rfl) ⟨Nat.zero_le _, Nat.zero_le _⟩ d_D_readEntry_61) ?_
        rintro r61 ⟨dp_61, dB_61⟩ ⟨w61, f61_0⟩
        have f61_0 : dp_61 ≤ jn := f61_0
        refine zk_ws (ws' := [(hd, .inr (4, [.ref hj, .int (nI dp_61), .int 0, .int dB_61, .long ds, .int (r28 &&& 3), .int dv])), (hj, .inr (1, [.ref jb, .int (nI jn), .int jm, .int jS, .int jl])), (jb, .inl (cJ, 300, .inl fb))]) rfl ?_
        try dsimp only at w61
        rw [← w61] at hq
        try dsimp only at hq
        refine zk_goto (pc := 64) X (tgt := 68) d_D_readEntry_64 (by decide) ?_
        refine zk_put (pc := 68) X (ty := .int) (v := .int r61) (ws' := [(hd, .inr (4, [.ref hj, .int (nI dp_61), .int 0, .int dB_61, .long ds, .int (r28 &&& 3), .int r61])), (hj, .inr (1, [.ref jb, .int (nI jn), .int jm, .int jS, .int jl])), (jb, .inl (cJ, 300, .inl fb))]) in_D tok_D nok_D 0 rfl rfl 6 (by decide) (zk_m tw_98) rfl rfl rfl rfl (Nat.le_of_ble_eq_true rfl) d_D_readEntry_68 rfl ?_
        refine zk_aload_n (pc := 71) X d_D_readEntry_71 rfl (q := 2) rfl ?_
        refine zk_dup (pc := 72) X d_D_readEntry_72 rfl ?_
        refine zk_get (pc := 73) X (ci := 4) (v := .long ds) in_D 0 rfl rfl 4 (by decide) (zk_m tw_94) rfl d_D_readEntry_73 ?_
        refine zk_iload_n (pc := 76) X d_D_readEntry_76 rfl (q := 0) rfl ?_
        refine zk_i2l (pc := 77) X (v := (Int32.toInt64 (zf_ushr r28 2))) d_D_readEntry_77 rfl ?_
        refine zk_ladd (pc := 78) X (v := (ds + (Int32.toInt64 (zf_ushr r28 2)))) d_D_readEntry_78 rfl ?_
        refine zk_put (pc := 79) X (ty := .long) (v := .long (ds + (Int32.toInt64 (zf_ushr r28 2)))) (ws' := [(hd, .inr (4, [.ref hj, .int (nI dp_61), .int 0, .int dB_61, .long (ds + (Int32.toInt64 (zf_ushr r28 2))), .int (r28 &&& 3), .int r61])), (hj, .inr (1, [.ref jb, .int (nI jn), .int jm, .int jS, .int jl])), (jb, .inl (cJ, 300, .inl fb))]) in_D tok_D nok_D 0 rfl rfl 4 (by decide) (zk_m tw_94) rfl rfl rfl rfl (Nat.le_of_ble_eq_true rfl) d_D_readEntry_79 rfl ?_
        refine zk_aload_n (pc := 82) X d_D_readEntry_82 rfl (q := 2) rfl ?_
        refine zk_get (pc := 83) X (ci := 4) (v := .int (r28 &&& 3)) in_D 0 rfl rfl 5 (by decide) (zk_m tw_96) rfl d_D_readEntry_83 ?_
        refine zk_if_eq (pc := 86) X (tgt := 93) d_D_readEntry_86 (by decide) (fun g => absurd g (fun g => absurd (h49.symm.trans g) (by decide))) (fun _ => ?_)
        refine zk_iload_n (pc := 89) X d_D_readEntry_89 rfl (q := 0) rfl ?_
        refine zk_if_ne (pc := 90) X (tgt := 98) d_D_readEntry_90 (by decide) (fun h90 => ?_) (fun h90 => ?_)
        · have hq := hq.trans (if_neg h90)
          refine zk_aload_n (pc := 98) X d_D_readEntry_98 rfl (q := 2) rfl ?_
          refine zk_aload_n (pc := 99) X d_D_readEntry_99 rfl (q := 2) rfl ?_
          refine zk_get (pc := 100) X (ci := 4) (v := .int dB_61) in_D 0 rfl rfl 3 (by decide) (zk_m tw_92) rfl d_D_readEntry_100 ?_
          refine zk_if_ne (pc := 103) X (tgt := 110) d_D_readEntry_103 (by decide) (fun h103 => ?_) (fun h103 => ?_)
          · have hq := hq.trans (if_neg h103)
            refine zk_iconst (pc := 110) X (v := 0) d_D_readEntry_110 rfl ?_
            refine zk_put (pc := 111) X (ty := .boolean) (v := .int 0) (ws' := [(hd, .inr (4, [.ref hj, .int (nI dp_61), .int 0, .int dB_61, .long (ds + (Int32.toInt64 (zf_ushr r28 2))), .int (r28 &&& 3), .int r61])), (hj, .inr (1, [.ref jb, .int (nI jn), .int jm, .int jS, .int jl])), (jb, .inl (cJ, 300, .inl fb))]) in_D tok_D nok_D 0 rfl rfl 2 (by decide) (zk_m tw_91) rfl rfl rfl rfl (Nat.le_of_ble_eq_true rfl) d_D_readEntry_111 rfl ?_
            exact zk_vret (pc := 114) X hQ hRt hLk (dp_61, 0, dB_61, (ds + (Int32.toInt64 (zf_ushr r28 2))), (r28 &&& 3), r61) ⟨hq.symm, (show dp_61 ≤ jn by omega)⟩ [0, 1, 2] rfl (by decide) d_D_readEntry_114
          · have hq := hq.trans (if_pos h103)
            refine zk_iconst (pc := 106) X (v := 1) d_D_readEntry_106 rfl ?_
            refine zk_goto (pc := 107) X (tgt := 111) d_D_readEntry_107 (by decide) ?_
            refine zk_put (pc := 111) X (ty := .boolean) (v := .int 1) (ws' := [(hd, .inr (4, [.ref hj, .int (nI dp_61), .int 1, .int dB_61, .long (ds + (Int32.toInt64 (zf_ushr r28 2))), .int (r28 &&& 3), .int r61])), (hj, .inr (1, [.ref jb, .int (nI jn), .int jm, .int jS, .int jl])), (jb, .inl (cJ, 300, .inl fb))]) in_D tok_D nok_D 0 rfl rfl 2 (by decide) (zk_m tw_91) rfl rfl rfl rfl (Nat.le_of_ble_eq_true rfl) d_D_readEntry_111 rfl ?_
            exact zk_vret (pc := 114) X hQ hRt hLk (dp_61, 1, dB_61, (ds + (Int32.toInt64 (zf_ushr r28 2))), (r28 &&& 3), r61) ⟨hq.symm, (show dp_61 ≤ jn by omega)⟩ [0, 1, 2] rfl (by decide) d_D_readEntry_114
        · have hq := hq.trans (if_pos h90)
          refine zk_aload_n (pc := 93) X d_D_readEntry_93 rfl (q := 2) rfl ?_
          refine zk_iconst (pc := 94) X (v := 1) d_D_readEntry_94 rfl ?_
          refine zk_put (pc := 95) X (ty := .boolean) (v := .int 1) (ws' := [(hd, .inr (4, [.ref hj, .int (nI dp_61), .int 0, .int 1, .long (ds + (Int32.toInt64 (zf_ushr r28 2))), .int (r28 &&& 3), .int r61])), (hj, .inr (1, [.ref jb, .int (nI jn), .int jm, .int jS, .int jl])), (jb, .inl (cJ, 300, .inl fb))]) in_D tok_D nok_D 0 rfl rfl 3 (by decide) (zk_m tw_92) rfl rfl rfl rfl (Nat.le_of_ble_eq_true rfl) d_D_readEntry_95 rfl ?_
          refine zk_aload_n (pc := 98) X d_D_readEntry_98 rfl (q := 2) rfl ?_
          refine zk_aload_n (pc := 99) X d_D_readEntry_99 rfl (q := 2) rfl ?_
          refine zk_get (pc := 100) X (ci := 4) (v := .int 1) in_D 0 rfl rfl 3 (by decide) (zk_m tw_92) rfl d_D_readEntry_100 ?_
          refine zk_if_ne (pc := 103) X (tgt := 110) d_D_readEntry_103 (by decide) (fun _ => ?_) (fun h => absurd h (by decide))
          refine zk_iconst (pc := 110) X (v := 0) d_D_readEntry_110 rfl ?_
          refine zk_put (pc := 111) X (ty := .boolean) (v := .int 0) (ws' := [(hd, .inr (4, [.ref hj, .int (nI dp_61), .int 0, .int 1, .long (ds + (Int32.toInt64 (zf_ushr r28 2))), .int (r28 &&& 3), .int r61])), (hj, .inr (1, [.ref jb, .int (nI jn), .int jm, .int jS, .int jl])), (jb, .inl (cJ, 300, .inl fb))]) in_D tok_D nok_D 0 rfl rfl 2 (by decide) (zk_m tw_91) rfl rfl rfl rfl (Nat.le_of_ble_eq_true rfl) d_D_readEntry_111 rfl ?_
          exact zk_vret (pc := 114) X hQ hRt hLk (dp_61, 0, 1, (ds + (Int32.toInt64 (zf_ushr r28 2))), (r28 &&& 3), r61) ⟨hq.symm, (show dp_61 ≤ jn by omega)⟩ [0, 1, 2] rfl (by decide) d_D_readEntry_114
      · have hq := hq.trans (if_neg h49)
        refine zk_aload_n (pc := 52) X d_D_readEntry_52 rfl (q := 2) rfl ?_
        refine zk_get (pc := 53) X (ci := 4) (v := .int (r28 &&& 3)) in_D 0 rfl rfl 5 (by decide) (zk_m tw_96) rfl d_D_readEntry_53 ?_
        refine zk_iconst (pc := 56) X (v := 2) d_D_readEntry_56 rfl ?_
        refine zk_icmp_ne (pc := 57) X (tgt := 67) d_D_readEntry_57 (by decide) (fun h57 => ?_) (fun h57 => ?_)
        · have hq := hq.trans (if_neg h57)
          refine zk_iconst (pc := 67) X (v := 0) d_D_readEntry_67 rfl ?_
          refine zk_put (pc := 68) X (ty := .int) (v := .int 0) (ws' := [(hd, .inr (4, [.ref hj, .int (nI dp_28), .int 0, .int dB_28, .long ds, .int (r28 &&& 3), .int 0])), (hj, .inr (1, [.ref jb, .int (nI jn), .int jm, .int jS, .int jl])), (jb, .inl (cJ, 300, .inl fb))]) in_D tok_D nok_D 0 rfl rfl 6 (by decide) (zk_m tw_98) rfl rfl rfl rfl (Nat.le_of_ble_eq_true rfl) d_D_readEntry_68 rfl ?_
          refine zk_aload_n (pc := 71) X d_D_readEntry_71 rfl (q := 2) rfl ?_
          refine zk_dup (pc := 72) X d_D_readEntry_72 rfl ?_
          refine zk_get (pc := 73) X (ci := 4) (v := .long ds) in_D 0 rfl rfl 4 (by decide) (zk_m tw_94) rfl d_D_readEntry_73 ?_
          refine zk_iload_n (pc := 76) X d_D_readEntry_76 rfl (q := 0) rfl ?_
          refine zk_i2l (pc := 77) X (v := (Int32.toInt64 (zf_ushr r28 2))) d_D_readEntry_77 rfl ?_
          refine zk_ladd (pc := 78) X (v := (ds + (Int32.toInt64 (zf_ushr r28 2)))) d_D_readEntry_78 rfl ?_
          refine zk_put (pc := 79) X (ty := .long) (v := .long (ds + (Int32.toInt64 (zf_ushr r28 2)))) (ws' := [(hd, .inr (4, [.ref hj, .int (nI dp_28), .int 0, .int dB_28, .long (ds + (Int32.toInt64 (zf_ushr r28 2))), .int (r28 &&& 3), .int 0])), (hj, .inr (1, [.ref jb, .int (nI jn), .int jm, .int jS, .int jl])), (jb, .inl (cJ, 300, .inl fb))]) in_D tok_D nok_D 0 rfl rfl 4 (by decide) (zk_m tw_94) rfl rfl rfl rfl (Nat.le_of_ble_eq_true rfl) d_D_readEntry_79 rfl ?_
          refine zk_aload_n (pc := 82) X d_D_readEntry_82 rfl (q := 2) rfl ?_
          refine zk_get (pc := 83) X (ci := 4) (v := .int (r28 &&& 3)) in_D 0 rfl rfl 5 (by decide) (zk_m tw_96) rfl d_D_readEntry_83 ?_
          refine zk_if_eq (pc := 86) X (tgt := 93) d_D_readEntry_86 (by decide) (fun h86 => ?_) (fun h86 => ?_)
          · have hq := hq.trans (if_pos h86)
            refine zk_aload_n (pc := 93) X d_D_readEntry_93 rfl (q := 2) rfl ?_
            refine zk_iconst (pc := 94) X (v := 1) d_D_readEntry_94 rfl ?_
            refine zk_put (pc := 95) X (ty := .boolean) (v := .int 1) (ws' := [(hd, .inr (4, [.ref hj, .int (nI dp_28), .int 0, .int 1, .long (ds + (Int32.toInt64 (zf_ushr r28 2))), .int (r28 &&& 3), .int 0])), (hj, .inr (1, [.ref jb, .int (nI jn), .int jm, .int jS, .int jl])), (jb, .inl (cJ, 300, .inl fb))]) in_D tok_D nok_D 0 rfl rfl 3 (by decide) (zk_m tw_92) rfl rfl rfl rfl (Nat.le_of_ble_eq_true rfl) d_D_readEntry_95 rfl ?_
            refine zk_aload_n (pc := 98) X d_D_readEntry_98 rfl (q := 2) rfl ?_
            refine zk_aload_n (pc := 99) X d_D_readEntry_99 rfl (q := 2) rfl ?_
            refine zk_get (pc := 100) X (ci := 4) (v := .int 1) in_D 0 rfl rfl 3 (by decide) (zk_m tw_92) rfl d_D_readEntry_100 ?_
            refine zk_if_ne (pc := 103) X (tgt := 110) d_D_readEntry_103 (by decide) (fun _ => ?_) (fun h => absurd h (by decide))
            refine zk_iconst (pc := 110) X (v := 0) d_D_readEntry_110 rfl ?_
            refine zk_put (pc := 111) X (ty := .boolean) (v := .int 0) (ws' := [(hd, .inr (4, [.ref hj, .int (nI dp_28), .int 0, .int 1, .long (ds + (Int32.toInt64 (zf_ushr r28 2))), .int (r28 &&& 3), .int 0])), (hj, .inr (1, [.ref jb, .int (nI jn), .int jm, .int jS, .int jl])), (jb, .inl (cJ, 300, .inl fb))]) in_D tok_D nok_D 0 rfl rfl 2 (by decide) (zk_m tw_91) rfl rfl rfl rfl (Nat.le_of_ble_eq_true rfl) d_D_readEntry_111 rfl ?_
            exact zk_vret (pc := 114) X hQ hRt hLk (dp_28, 0, 1, (ds + (Int32.toInt64 (zf_ushr r28 2))), (r28 &&& 3), 0) ⟨hq.symm, (show dp_28 ≤ jn by omega)⟩ [0, 1, 2] rfl (by decide) d_D_readEntry_114
          · have hq := hq.trans (if_neg h86)
            refine zk_iload_n (pc := 89) X d_D_readEntry_89 rfl (q := 0) rfl ?_
            refine zk_if_ne (pc := 90) X (tgt := 98) d_D_readEntry_90 (by decide) (fun h90 => ?_) (fun h90 => ?_)
            · have hq := hq.trans (if_neg h90)
              refine zk_aload_n (pc := 98) X d_D_readEntry_98 rfl (q := 2) rfl ?_
              refine zk_aload_n (pc := 99) X d_D_readEntry_99 rfl (q := 2) rfl ?_
              refine zk_get (pc := 100) X (ci := 4) (v := .int dB_28) in_D 0 rfl rfl 3 (by decide) (zk_m tw_92) rfl d_D_readEntry_100 ?_
              refine zk_if_ne (pc := 103) X (tgt := 110) d_D_readEntry_103 (by decide) (fun h103 => ?_) (fun h103 => ?_)
              · have hq := hq.trans (if_neg h103)
                refine zk_iconst (pc := 110) X (v := 0) d_D_readEntry_110 rfl ?_
                refine zk_put (pc := 111) X (ty := .boolean) (v := .int 0) (ws' := [(hd, .inr (4, [.ref hj, .int (nI dp_28), .int 0, .int dB_28, .long (ds + (Int32.toInt64 (zf_ushr r28 2))), .int (r28 &&& 3), .int 0])), (hj, .inr (1, [.ref jb, .int (nI jn), .int jm, .int jS, .int jl])), (jb, .inl (cJ, 300, .inl fb))]) in_D tok_D nok_D 0 rfl rfl 2 (by decide) (zk_m tw_91) rfl rfl rfl rfl (Nat.le_of_ble_eq_true rfl) d_D_readEntry_111 rfl ?_
                exact zk_vret (pc := 114) X hQ hRt hLk (dp_28, 0, dB_28, (ds + (Int32.toInt64 (zf_ushr r28 2))), (r28 &&& 3), 0) ⟨hq.symm, (show dp_28 ≤ jn by omega)⟩ [0, 1, 2] rfl (by decide) d_D_readEntry_114
              · have hq := hq.trans (if_pos h103)
                refine zk_iconst (pc := 106) X (v := 1) d_D_readEntry_106 rfl ?_
                refine zk_goto (pc := 107) X (tgt := 111) d_D_readEntry_107 (by decide) ?_
                refine zk_put (pc := 111) X (ty := .boolean) (v := .int 1) (ws' := [(hd, .inr (4, [.ref hj, .int (nI dp_28), .int 1, .int dB_28, .long (ds + (Int32.toInt64 (zf_ushr r28 2))), .int (r28 &&& 3), .int 0])), (hj, .inr (1, [.ref jb, .int (nI jn), .int jm, .int jS, .int jl])), (jb, .inl (cJ, 300, .inl fb))]) in_D tok_D nok_D 0 rfl rfl 2 (by decide) (zk_m tw_91) rfl rfl rfl rfl (Nat.le_of_ble_eq_true rfl) d_D_readEntry_111 rfl ?_
                exact zk_vret (pc := 114) X hQ hRt hLk (dp_28, 1, dB_28, (ds + (Int32.toInt64 (zf_ushr r28 2))), (r28 &&& 3), 0) ⟨hq.symm, (show dp_28 ≤ jn by omega)⟩ [0, 1, 2] rfl (by decide) d_D_readEntry_114
            · have hq := hq.trans (if_pos h90)
              refine zk_aload_n (pc := 93) X d_D_readEntry_93 rfl (q := 2) rfl ?_
              refine zk_iconst (pc := 94) X (v := 1) d_D_readEntry_94 rfl ?_
              refine zk_put (pc := 95) X (ty := .boolean) (v := .int 1) (ws' := [(hd, .inr (4, [.ref hj, .int (nI dp_28), .int 0, .int 1, .long (ds + (Int32.toInt64 (zf_ushr r28 2))), .int (r28 &&& 3), .int 0])), (hj, .inr (1, [.ref jb, .int (nI jn), .int jm, .int jS, .int jl])), (jb, .inl (cJ, 300, .inl fb))]) in_D tok_D nok_D 0 rfl rfl 3 (by decide) (zk_m tw_92) rfl rfl rfl rfl (Nat.le_of_ble_eq_true rfl) d_D_readEntry_95 rfl ?_
              refine zk_aload_n (pc := 98) X d_D_readEntry_98 rfl (q := 2) rfl ?_
              refine zk_aload_n (pc := 99) X d_D_readEntry_99 rfl (q := 2) rfl ?_
              refine zk_get (pc := 100) X (ci := 4) (v := .int 1) in_D 0 rfl rfl 3 (by decide) (zk_m tw_92) rfl d_D_readEntry_100 ?_
              refine zk_if_ne (pc := 103) X (tgt := 110) d_D_readEntry_103 (by decide) (fun _ => ?_) (fun h => absurd h (by decide))
              refine zk_iconst (pc := 110) X (v := 0) d_D_readEntry_110 rfl ?_
              refine zk_put (pc := 111) X (ty := .boolean) (v := .int 0) (ws' := [(hd, .inr (4, [.ref hj, .int (nI dp_28), .int 0, .int 1, .long (ds + (Int32.toInt64 (zf_ushr r28 2))), .int (r28 &&& 3), .int 0])), (hj, .inr (1, [.ref jb, .int (nI jn), .int jm, .int jS, .int jl])), (jb, .inl (cJ, 300, .inl fb))]) in_D tok_D nok_D 0 rfl rfl 2 (by decide) (zk_m tw_91) rfl rfl rfl rfl (Nat.le_of_ble_eq_true rfl) d_D_readEntry_111 rfl ?_
              exact zk_vret (pc := 114) X hQ hRt hLk (dp_28, 0, 1, (ds + (Int32.toInt64 (zf_ushr r28 2))), (r28 &&& 3), 0) ⟨hq.symm, (show dp_28 ≤ jn by omega)⟩ [0, 1, 2] rfl (by decide) d_D_readEntry_114
        · have hq := hq.trans (if_pos h57)
          refine zk_aload_n (pc := 60) X d_D_readEntry_60 rfl (q := 2) rfl ?_
          refine zk_calli (pc := 61) X (wc := [(hd, .inr (4, [.ref hj, .int (nI dp_28), .int 0, .int dB_28, .long ds, .int (r28 &&& 3), .int dv])), (hj, .inr (1, [.ref jb, .int (nI jn), .int jm, .int jS, .int jl])), (jb, .inl (cJ, 300, .inl fb))]) (wr := []) [0, 1, 2] [] rfl rfl (by decide) (by decide) (by decide) (zk_runV X (C := R_D) (tysC := [(cJ, .int)]) (As := []) (rest := [.ref hd]) (c_D_readNumber l dC dI hd hj jb cJ dp_28 0 dB_28 ds (r28 &&& 3) dv fb jn jm jS jl (by omega) (by omega)) [0] rfl (ci := 4) rfl 0 rfl (zk_cwV 0 X.1.2.2.2.2 (zk_goodT tw_251) rfl rfl rfl (zk_m tw_249) (zk_m tw_250) (zk_m tw_527) (zk_m tw_7) rfl (by decide +kernel) ⟨Nat.le_of_ble_eq_true rfl, Nat.le_of_ble_eq_true rfl⟩) rfl rfl (Nat.le_of_ble_eq_true rfl) ⟨Nat.zero_le _, Nat.zero_le _⟩ d_D_readEntry_61) ?_
          rintro r61 ⟨dp_61, dB_61⟩ ⟨w61, f61_0⟩
          have f61_0 : dp_61 ≤ jn := f61_0
          refine zk_ws (ws' := [(hd, .inr (4, [.ref hj, .int (nI dp_61), .int 0, .int dB_61, .long ds, .int (r28 &&& 3), .int dv])), (hj, .inr (1, [.ref jb, .int (nI jn), .int jm, .int jS, .int jl])), (jb, .inl (cJ, 300, .inl fb))]) rfl ?_
          try dsimp only at w61
          rw [← w61] at hq
          try dsimp only at hq
          refine zk_goto (pc := 64) X (tgt := 68) d_D_readEntry_64 (by decide) ?_
          refine zk_put (pc := 68) X (ty := .int) (v := .int r61) (ws' := [(hd, .inr (4, [.ref hj, .int (nI dp_61), .int 0, .int dB_61, .long ds, .int (r28 &&& 3), .int r61])), (hj, .inr (1, [.ref jb, .int (nI jn), .int jm, .int jS, .int jl])), (jb, .inl (cJ, 300, .inl fb))]) in_D tok_D nok_D 0 rfl rfl 6 (by decide) (zk_m tw_98) rfl rfl rfl rfl (Nat.le_of_ble_eq_true rfl) d_D_readEntry_68 rfl ?_
          refine zk_aload_n (pc := 71) X d_D_readEntry_71 rfl (q := 2) rfl ?_
          refine zk_dup (pc := 72) X d_D_readEntry_72 rfl ?_
          refine zk_get (pc := 73) X (ci := 4) (v := .long ds) in_D 0 rfl rfl 4 (by decide) (zk_m tw_94) rfl d_D_readEntry_73 ?_
          refine zk_iload_n (pc := 76) X d_D_readEntry_76 rfl (q := 0) rfl ?_
          refine zk_i2l (pc := 77) X (v := (Int32.toInt64 (zf_ushr r28 2))) d_D_readEntry_77 rfl ?_
          refine zk_ladd (pc := 78) X (v := (ds + (Int32.toInt64 (zf_ushr r28 2)))) d_D_readEntry_78 rfl ?_
          refine zk_put (pc := 79) X (ty := .long) (v := .long (ds + (Int32.toInt64 (zf_ushr r28 2)))) (ws' := [(hd, .inr (4, [.ref hj, .int (nI dp_61), .int 0, .int dB_61, .long (ds + (Int32.toInt64 (zf_ushr r28 2))), .int (r28 &&& 3), .int r61])), (hj, .inr (1, [.ref jb, .int (nI jn), .int jm, .int jS, .int jl])), (jb, .inl (cJ, 300, .inl fb))]) in_D tok_D nok_D 0 rfl rfl 4 (by decide) (zk_m tw_94) rfl rfl rfl rfl (Nat.le_of_ble_eq_true rfl) d_D_readEntry_79 rfl ?_
          refine zk_aload_n (pc := 82) X d_D_readEntry_82 rfl (q := 2) rfl ?_
          refine zk_get (pc := 83) X (ci := 4) (v := .int (r28 &&& 3)) in_D 0 rfl rfl 5 (by decide) (zk_m tw_96) rfl d_D_readEntry_83 ?_
          refine zk_if_eq (pc := 86) X (tgt := 93) d_D_readEntry_86 (by decide) (fun g => absurd g (fun g => absurd (h57.symm.trans g) (by decide))) (fun _ => ?_)
          refine zk_iload_n (pc := 89) X d_D_readEntry_89 rfl (q := 0) rfl ?_
          refine zk_if_ne (pc := 90) X (tgt := 98) d_D_readEntry_90 (by decide) (fun h90 => ?_) (fun h90 => ?_)
          · have hq := hq.trans (if_neg h90)
            refine zk_aload_n (pc := 98) X d_D_readEntry_98 rfl (q := 2) rfl ?_
            refine zk_aload_n (pc := 99) X d_D_readEntry_99 rfl (q := 2) rfl ?_
            refine zk_get (pc := 100) X (ci := 4) (v := .int dB_61) in_D 0 rfl rfl 3 (by decide) (zk_m tw_92) rfl d_D_readEntry_100 ?_
            refine zk_if_ne (pc := 103) X (tgt := 110) d_D_readEntry_103 (by decide) (fun h103 => ?_) (fun h103 => ?_)
            · have hq := hq.trans (if_neg h103)
              refine zk_iconst (pc := 110) X (v := 0) d_D_readEntry_110 rfl ?_
              refine zk_put (pc := 111) X (ty := .boolean) (v := .int 0) (ws' := [(hd, .inr (4, [.ref hj, .int (nI dp_61), .int 0, .int dB_61, .long (ds + (Int32.toInt64 (zf_ushr r28 2))), .int (r28 &&& 3), .int r61])), (hj, .inr (1, [.ref jb, .int (nI jn), .int jm, .int jS, .int jl])), (jb, .inl (cJ, 300, .inl fb))]) in_D tok_D nok_D 0 rfl rfl 2 (by decide) (zk_m tw_91) rfl rfl rfl rfl (Nat.le_of_ble_eq_true rfl) d_D_readEntry_111 rfl ?_
              exact zk_vret (pc := 114) X hQ hRt hLk (dp_61, 0, dB_61, (ds + (Int32.toInt64 (zf_ushr r28 2))), (r28 &&& 3), r61) ⟨hq.symm, (show dp_61 ≤ jn by omega)⟩ [0, 1, 2] rfl (by decide) d_D_readEntry_114
            · have hq := hq.trans (if_pos h103)
              refine zk_iconst (pc := 106) X (v := 1) d_D_readEntry_106 rfl ?_
              refine zk_goto (pc := 107) X (tgt := 111) d_D_readEntry_107 (by decide) ?_
              refine zk_put (pc := 111) X (ty := .boolean) (v := .int 1) (ws' := [(hd, .inr (4, [.ref hj, .int (nI dp_61), .int 1, .int dB_61, .long (ds + (Int32.toInt64 (zf_ushr r28 2))), .int (r28 &&& 3), .int r61])), (hj, .inr (1, [.ref jb, .int (nI jn), .int jm, .int jS, .int jl])), (jb, .inl (cJ, 300, .inl fb))]) in_D tok_D nok_D 0 rfl rfl 2 (by decide) (zk_m tw_91) rfl rfl rfl rfl (Nat.le_of_ble_eq_true rfl) d_D_readEntry_111 rfl ?_
              exact zk_vret (pc := 114) X hQ hRt hLk (dp_61, 1, dB_61, (ds + (Int32.toInt64 (zf_ushr r28 2))), (r28 &&& 3), r61) ⟨hq.symm, (show dp_61 ≤ jn by omega)⟩ [0, 1, 2] rfl (by decide) d_D_readEntry_114
          · have hq := hq.trans (if_pos h90)
            refine zk_aload_n (pc := 93) X d_D_readEntry_93 rfl (q := 2) rfl ?_
            refine zk_iconst (pc := 94) X (v := 1) d_D_readEntry_94 rfl ?_
            refine zk_put (pc := 95) X (ty := .boolean) (v := .int 1) (ws' := [(hd, .inr (4, [.ref hj, .int (nI dp_61), .int 0, .int 1, .long (ds + (Int32.toInt64 (zf_ushr r28 2))), .int (r28 &&& 3), .int r61])), (hj, .inr (1, [.ref jb, .int (nI jn), .int jm, .int jS, .int jl])), (jb, .inl (cJ, 300, .inl fb))]) in_D tok_D nok_D 0 rfl rfl 3 (by decide) (zk_m tw_92) rfl rfl rfl rfl (Nat.le_of_ble_eq_true rfl) d_D_readEntry_95 rfl ?_
            refine zk_aload_n (pc := 98) X d_D_readEntry_98 rfl (q := 2) rfl ?_
            refine zk_aload_n (pc := 99) X d_D_readEntry_99 rfl (q := 2) rfl ?_
            refine zk_get (pc := 100) X (ci := 4) (v := .int 1) in_D 0 rfl rfl 3 (by decide) (zk_m tw_92) rfl d_D_readEntry_100 ?_
            refine zk_if_ne (pc := 103) X (tgt := 110) d_D_readEntry_103 (by decide) (fun _ => ?_) (fun h => absurd h (by decide))
            refine zk_iconst (pc := 110) X (v := 0) d_D_readEntry_110 rfl ?_
            refine zk_put (pc := 111) X (ty := .boolean) (v := .int 0) (ws' := [(hd, .inr (4, [.ref hj, .int (nI dp_61), .int 0, .int 1, .long (ds + (Int32.toInt64 (zf_ushr r28 2))), .int (r28 &&& 3), .int r61])), (hj, .inr (1, [.ref jb, .int (nI jn), .int jm, .int jS, .int jl])), (jb, .inl (cJ, 300, .inl fb))]) in_D tok_D nok_D 0 rfl rfl 2 (by decide) (zk_m tw_91) rfl rfl rfl rfl (Nat.le_of_ble_eq_true rfl) d_D_readEntry_111 rfl ?_
            exact zk_vret (pc := 114) X hQ hRt hLk (dp_61, 0, 1, (ds + (Int32.toInt64 (zf_ushr r28 2))), (r28 &&& 3), r61) ⟨hq.symm, (show dp_61 ≤ jn by omega)⟩ [0, 1, 2] rfl (by decide) d_D_readEntry_114
    · have hq := hq.trans (if_pos h23)
      exact zk_vret (pc := 26) X hQ hRt hLk (dp, 0, dB, ds, dk, dv) ⟨hq.symm, (show dp ≤ jn by omega)⟩ [0, 1, 2] rfl (by decide) d_D_readEntry_26
def sp_D_rewind (dk : Int32) (dv : Int32) (fb : Nat → Int32) (jn : Nat) : Nat × Int32 × Int32 × Int64 × Int32 × Int32 :=
  (match sp_D_readEntry 0 0 (0 : Int64) dk dv fb jn with
  | (dp_16, de_16, dB_16, ds_16, dk_16, dv_16) =>
    (dp_16, de_16, dB_16, ds_16, dk_16, dv_16))
abbrev rm_D_rewind : Room := { frames := 3, cells := 0, slots := 0, locals := 66 }
set_option maxHeartbeats 4000000 in
set_option maxRecDepth 100000 in
theorem c_D_rewind (l : Launch) (dC : Nat → ClassId) (dI : Nat → Nat → Nat) (hd hj jb : Nat) (cJ : ClassId) (dp : Nat) (de : Int32) (dB : Int32) (ds : Int64) (dk : Int32) (dv : Int32) (fb : Nat → Int32) (jn : Nat) (jm : Int32) (jS : Int32) (jl : Int32) (hjn : jn ≤ 300) : zk_Cv l y_D_rewind w_D_rewind rm_D_rewind (dC, dI) vwCl [.ref hd] [(hd, .inr (4, [.ref hj, .int (nI dp), .int de, .int dB, .long ds, .int dk, .int dv])), (hj, .inr (1, [.ref jb, .int (nI jn), .int jm, .int jS, .int jl])), (jb, .inl (cJ, 300, .inl fb))] [(cJ, .int)] (fun (u : Nat × Int32 × Int32 × Int64 × Int32 × Int32) => u = sp_D_rewind dk dv fb jn ∧ (u.1 ≤ jn)) (fun u => [(hd, .inr (4, [.ref hj, .int (nI u.1), .int u.2.1, .int u.2.2.1, .long u.2.2.2.1, .int u.2.2.2.2.1, .int u.2.2.2.2.2])), (hj, .inr (1, [.ref jb, .int (nI jn), .int jm, .int jS, .int jl])), (jb, .inl (cJ, 300, .inl fb))]) := by
  refine zk_enterv (cc := b_D_rewind) (maxL := 1) (ret := none) (by decide) rfl (Nat.le_of_ble_eq_true rfl) ?_
  intro p e s m args below meth c A Q hQ X hRt hLk
  have hq := sp_D_rewind.eq_1 dk dv fb jn
  refine zk_lv (lv' := [(0, .ref hd)]) [0] rfl ?_
  refine zk_aload_n (pc := 0) X d_D_rewind_0 rfl (q := 0) rfl ?_
  refine zk_iconst (pc := 1) X (v := 0) d_D_rewind_1 rfl ?_
  refine zk_put (pc := 2) X (ty := .int) (v := .int 0) (ws' := [(hd, .inr (4, [.ref hj, .int 0, .int de, .int dB, .long ds, .int dk, .int dv])), (hj, .inr (1, [.ref jb, .int (nI jn), .int jm, .int jS, .int jl])), (jb, .inl (cJ, 300, .inl fb))]) in_D tok_D nok_D 0 rfl rfl 1 (by decide) (zk_m tw_89) rfl rfl rfl rfl (Nat.le_of_ble_eq_true rfl) d_D_rewind_2 rfl ?_
  refine zk_aload_n (pc := 5) X d_D_rewind_5 rfl (q := 0) rfl ?_
  refine zk_lconst (pc := 6) X (v := 0) d_D_rewind_6 rfl ?_
  refine zk_put (pc := 7) X (ty := .long) (v := .long (0 : Int64)) (ws' := [(hd, .inr (4, [.ref hj, .int 0, .int de, .int dB, .long (0 : Int64), .int dk, .int dv])), (hj, .inr (1, [.ref jb, .int (nI jn), .int jm, .int jS, .int jl])), (jb, .inl (cJ, 300, .inl fb))]) in_D tok_D nok_D 0 rfl rfl 4 (by decide) (zk_m tw_94) rfl rfl rfl rfl (Nat.le_of_ble_eq_true rfl) d_D_rewind_7 rfl ?_
  refine zk_aload_n (pc := 10) X d_D_rewind_10 rfl (q := 0) rfl ?_
  refine zk_iconst (pc := 11) X (v := 0) d_D_rewind_11 rfl ?_
  refine zk_put (pc := 12) X (ty := .boolean) (v := .int 0) (ws' := [(hd, .inr (4, [.ref hj, .int 0, .int de, .int 0, .long (0 : Int64), .int dk, .int dv])), (hj, .inr (1, [.ref jb, .int (nI jn), .int jm, .int jS, .int jl])), (jb, .inl (cJ, 300, .inl fb))]) in_D tok_D nok_D 0 rfl rfl 3 (by decide) (zk_m tw_92) rfl rfl rfl rfl (Nat.le_of_ble_eq_true rfl) d_D_rewind_12 rfl ?_
  refine zk_aload_n (pc := 15) X d_D_rewind_15 rfl (q := 0) rfl ?_
  refine zk_callv (pc := 16) X (wc := [(hd, .inr (4, [.ref hj, .int 0, .int de, .int 0, .long (0 : Int64), .int dk, .int dv])), (hj, .inr (1, [.ref jb, .int (nI jn), .int jm, .int jS, .int jl])), (jb, .inl (cJ, 300, .inl fb))]) (wr := []) [0, 1, 2] [] rfl rfl (by decide) (by decide) (by decide) (zk_runV X (C := R_D) (tysC := [(cJ, .int)]) (As := []) (rest := []) (c_D_readEntry l dC dI hd hj jb cJ 0 de 0 (0 : Int64) dk dv fb jn jm jS jl (by omega) (by omega)) [0] rfl (ci := 4) rfl 0 rfl (zk_cwV 0 X.1.2.2.2.2 (zk_goodT tw_244) rfl rfl rfl (zk_m tw_319) (zk_m tw_242) (zk_m tw_243) (zk_m tw_7) rfl (by decide +kernel) ⟨Nat.le_of_ble_eq_true rfl, Nat.le_of_ble_eq_true rfl⟩) rfl rfl (Nat.le_of_ble_eq_true rfl) ⟨Nat.zero_le _, Nat.zero_le _⟩ d_D_rewind_16) ?_
  rintro ⟨dp_16, de_16, dB_16, ds_16, dk_16, dv_16⟩ ⟨w16, f16_0⟩
  have f16_0 : dp_16 ≤ jn := f16_0
  refine zk_ws (ws' := [(hd, .inr (4, [.ref hj, .int (nI dp_16), .int de_16, .int dB_16, .long ds_16, .int dk_16, .int dv_16])), (hj, .inr (1, [.ref jb, .int (nI jn), .int jm, .int jS, .int jl])), (jb, .inl (cJ, 300, .inl fb))]) rfl ?_
  try dsimp only at w16
  rw [← w16] at hq
  try dsimp only at hq
  exact zk_vret (pc := 19) X hQ hRt hLk (dp_16, de_16, dB_16, ds_16, dk_16, dv_16) ⟨hq.symm, (show dp_16 ≤ jn by omega)⟩ [0, 1, 2] rfl (by decide) d_D_rewind_19
end
section
def sp_T_isReadable_9 (fb : Nat → Int32) (jn : Nat) : Nat → Nat → Nat → Int32 → Int32 → Int64 → Int32 → Int32 → Int32 × Nat × Int32 × Int32 × Int64 × Int32 × Int32
  | 0, j, dp1, de1, dB1, ds1, dk1, dv1 => (0, dp1, de1, dB1, ds1, dk1, dv1)
  | fuel + 1, j, dp1, de1, dB1, ds1, dk1, dv1 =>
    if 300 ≤ j then
      if dB1 = 0 then
        (1, dp1, de1, dB1, ds1, dk1, dv1)
      else
        (0, dp1, de1, dB1, ds1, dk1, dv1)
    else
      if de1 = 0 then
        if dB1 = 0 then
          (1, dp1, de1, dB1, ds1, dk1, dv1)
        else
          (0, dp1, de1, dB1, ds1, dk1, dv1)
      else
        (match sp_D_readEntry dp1 dB1 ds1 dk1 dv1 fb jn with
        | (dp_30, de_30, dB_30, ds_30, dk_30, dv_30) =>
          sp_T_isReadable_9 fb jn fuel (j + 1) dp_30 de_30 dB_30 ds_30 dk_30 dv_30)
def sp_T_isReadable (dk : Int32) (dv : Int32) (fb : Nat → Int32) (jn : Nat) : Int32 × Nat × Int32 × Int32 × Int64 × Int32 × Int32 :=
  (match sp_D_rewind dk dv fb jn with
  | (dp_4, de_4, dB_4, ds_4, dk_4, dv_4) =>
    sp_T_isReadable_9 fb jn 301 0 dp_4 de_4 dB_4 ds_4 dk_4 dv_4)
abbrev rm_T_isReadable : Room := { frames := 4, cells := 0, slots := 0, locals := 86 }
set_option maxHeartbeats 4000000 in
set_option maxRecDepth 100000 in
theorem c_T_isReadable (l : Launch) (dC : Nat → ClassId) (dI : Nat → Nat → Nat) (ht hd hj jb : Nat) (cJ : ClassId) (tt : Int32) (dp : Nat) (de : Int32) (dB : Int32) (ds : Int64) (dk : Int32) (dv : Int32) (fb : Nat → Int32) (jn : Nat) (jm : Int32) (jS : Int32) (jl : Int32) (hjn : jn ≤ 300) : zk_Ci l y_T_isReadable w_T_isReadable rm_T_isReadable (dC, dI) vwCl [.ref ht] [(ht, .inr (3, [.ref hd, .int tt])), (hd, .inr (4, [.ref hj, .int (nI dp), .int de, .int dB, .long ds, .int dk, .int dv])), (hj, .inr (1, [.ref jb, .int (nI jn), .int jm, .int jS, .int jl])), (jb, .inl (cJ, 300, .inl fb))] [(cJ, .int)] (fun (r : Int32) (u : Nat × Int32 × Int32 × Int64 × Int32 × Int32) => (r, u) = sp_T_isReadable dk dv fb jn ∧ (u.1 ≤ jn)) (fun u => [(ht, .inr (3, [.ref hd, .int tt])), (hd, .inr (4, [.ref hj, .int (nI u.1), .int u.2.1, .int u.2.2.1, .long u.2.2.2.1, .int u.2.2.2.2.1, .int u.2.2.2.2.2])), (hj, .inr (1, [.ref jb, .int (nI jn), .int jm, .int jS, .int jl])), (jb, .inl (cJ, 300, .inl fb))]) := by
  refine zk_enteri (cc := b_T_isReadable) (maxL := 2) (ret := some .boolean) (by decide) rfl (Nat.le_of_ble_eq_true rfl) ?_
  intro p e s m args below meth c A Q hQ X hRt hLk
  have cut9 : ∀ (fuel : Nat) (j : Nat) (dp1 : Nat) (de1 : Int32) (dB1 : Int32) (ds1 : Int64) (dk1 : Int32) (dv1 : Int32), j ≤ 300 → dp1 ≤ jn → 300 - j < fuel → sp_T_isReadable dk dv fb jn = sp_T_isReadable_9 fb jn fuel j dp1 de1 dB1 ds1 dk1 dv1 → zk_Z p l e rm_T_isReadable s m args below meth c Q A (dC, dI) vwCl 2 0 0 [(ht, .inr (3, [.ref hd, .int tt])), (hd, .inr (4, [.ref hj, .int (nI dp1), .int de1, .int dB1, .long ds1, .int dk1, .int dv1])), (hj, .inr (1, [.ref jb, .int (nI jn), .int jm, .int jS, .int jl])), (jb, .inl (cJ, 300, .inl fb))] [(0, .ref ht), (1, .int (nI j))] [] 9 := by
    intro fuel
    induction fuel with
    | zero => intro j dp1 de1 dB1 ds1 dk1 dv1 hjj hd1 hMs; exact absurd hMs (Nat.not_lt_zero _)
    | succ fuel ih =>
      intro j dp1 de1 dB1 ds1 dk1 dv1 hjj hd1 hMs hq
      rw [sp_T_isReadable_9] at hq
      refine zk_iload_n (pc := 9) X d_T_isReadable_9 rfl (q := 1) rfl ?_
      refine zk_sipush (pc := 10) X (v := 300) d_T_isReadable_10 (by decide) ?_
      refine zk_icmpN_ge (pc := 13) X (tgt := 39) (j) (300) rfl rfl (by omega) (by omega) d_T_isReadable_13 (by decide) (fun h13 => ?_) (fun h13 => ?_)
      · have hq := hq.trans (if_pos h13)
        refine zk_aload_n (pc := 39) X d_T_isReadable_39 rfl (q := 0) rfl ?_
        refine zk_get (pc := 40) X (ci := 3) (v := .ref hd) in_T 0 rfl rfl 0 (by decide) (zk_m tw_110) rfl d_T_isReadable_40 ?_
        refine zk_get (pc := 43) X (ci := 4) (v := .int dB1) in_D 1 rfl rfl 3 (by decide) (zk_m tw_93) rfl d_T_isReadable_43 ?_
        refine zk_if_ne (pc := 46) X (tgt := 53) d_T_isReadable_46 (by decide) (fun h46 => ?_) (fun h46 => ?_)
        · have hq := hq.trans (if_neg h46)
          refine zk_iconst (pc := 53) X (v := 0) d_T_isReadable_53 rfl ?_
          exact zk_zret (pc := 54) X hQ hRt hLk rfl (dp1, de1, dB1, ds1, dk1, dv1) ⟨hq.symm, (show dp1 ≤ jn by omega)⟩ [0, 1, 2, 3] rfl (by decide) d_T_isReadable_54
        · have hq := hq.trans (if_pos h46)
          refine zk_iconst (pc := 49) X (v := 1) d_T_isReadable_49 rfl ?_
          refine zk_goto (pc := 50) X (tgt := 54) d_T_isReadable_50 (by decide) ?_
          exact zk_zret (pc := 54) X hQ hRt hLk rfl (dp1, de1, dB1, ds1, dk1, dv1) ⟨hq.symm, (show dp1 ≤ jn by omega)⟩ [0, 1, 2, 3] rfl (by decide) d_T_isReadable_54
      · have hq := hq.trans (if_neg h13)
        refine zk_aload_n (pc := 16) X d_T_isReadable_16 rfl (q := 0) rfl ?_
        refine zk_get (pc := 17) X (ci := 3) (v := .ref hd) in_T 0 rfl rfl 0 (by decide) (zk_m tw_110) rfl d_T_isReadable_17 ?_
        refine zk_get (pc := 20) X (ci := 4) (v := .int de1) in_D 1 rfl rfl 2 (by decide) (zk_m tw_90) rfl d_T_isReadable_20 ?_
        refine zk_if_eq (pc := 23) X (tgt := 39) d_T_isReadable_23 (by decide) (fun h23 => ?_) (fun h23 => ?_)
        · have hq := hq.trans (if_pos h23)
          refine zk_aload_n (pc := 39) X d_T_isReadable_39 rfl (q := 0) rfl ?_
          refine zk_get (pc := 40) X (ci := 3) (v := .ref hd) in_T 0 rfl rfl 0 (by decide) (zk_m tw_110) rfl d_T_isReadable_40 ?_
          refine zk_get (pc := 43) X (ci := 4) (v := .int dB1) in_D 1 rfl rfl 3 (by decide) (zk_m tw_93) rfl d_T_isReadable_43 ?_
          refine zk_if_ne (pc := 46) X (tgt := 53) d_T_isReadable_46 (by decide) (fun h46 => ?_) (fun h46 => ?_)
          · have hq := hq.trans (if_neg h46)
            refine zk_iconst (pc := 53) X (v := 0) d_T_isReadable_53 rfl ?_
            exact zk_zret (pc := 54) X hQ hRt hLk rfl (dp1, de1, dB1, ds1, dk1, dv1) ⟨hq.symm, (show dp1 ≤ jn by omega)⟩ [0, 1, 2, 3] rfl (by decide) d_T_isReadable_54
          · have hq := hq.trans (if_pos h46)
            refine zk_iconst (pc := 49) X (v := 1) d_T_isReadable_49 rfl ?_
            refine zk_goto (pc := 50) X (tgt := 54) d_T_isReadable_50 (by decide) ?_
            exact zk_zret (pc := 54) X hQ hRt hLk rfl (dp1, de1, dB1, ds1, dk1, dv1) ⟨hq.symm, (show dp1 ≤ jn by omega)⟩ [0, 1, 2, 3] rfl (by decide) d_T_isReadable_54
        · have hq := hq.trans (if_neg h23)
          refine zk_aload_n (pc := 26) X d_T_isReadable_26 rfl (q := 0) rfl ?_
          refine zk_get (pc := 27) X (ci := 3) (v := .ref hd) in_T 0 rfl rfl 0 (by decide) (zk_m tw_110) rfl d_T_isReadable_27 ?_
          refine zk_callv (pc := 30) X (wc := [(hd, .inr (4, [.ref hj, .int (nI dp1), .int de1, .int dB1, .long ds1, .int dk1, .int dv1])), (hj, .inr (1, [.ref jb, .int (nI jn), .int jm, .int jS, .int jl])), (jb, .inl (cJ, 300, .inl fb))]) (wr := [(ht, .inr (3, [.ref hd, .int tt]))]) [1, 2, 3] [0] rfl rfl (by decide) (by decide) (by decide) (zk_runV X (C := R_D) (tysC := [(cJ, .int)]) (As := []) (rest := []) (c_D_readEntry l dC dI hd hj jb cJ dp1 de1 dB1 ds1 dk1 dv1 fb jn jm jS jl (by omega) (by omega)) [0] rfl (ci := 4) rfl 1 rfl (zk_cwV 0 X.1.2.2.2.2 (zk_goodT tw_244) rfl rfl rfl (zk_m tw_241) (zk_m tw_242) (zk_m tw_243) (zk_m tw_7) rfl (by decide +kernel) ⟨Nat.le_of_ble_eq_true rfl, Nat.le_of_ble_eq_true rfl⟩) rfl rfl (Nat.le_of_ble_eq_true rfl) ⟨Nat.zero_le _, Nat.zero_le _⟩ d_T_isReadable_30) ?_
          rintro ⟨dp_30, de_30, dB_30, ds_30, dk_30, dv_30⟩ ⟨w30, f30_0⟩
          have f30_0 : dp_30 ≤ jn := f30_0
          refine zk_ws (ws' := [(ht, .inr (3, [.ref hd, .int tt])), (hd, .inr (4, [.ref hj, .int (nI dp_30), .int de_30, .int dB_30, .long ds_30, .int dk_30, .int dv_30])), (hj, .inr (1, [.ref jb, .int (nI jn), .int jm, .int jS, .int jl])), (jb, .inl (cJ, 300, .inl fb))]) rfl ?_
          try dsimp only at w30
          rw [← w30] at hq
          try dsimp only at hq
          refine zk_iinc (pc := 33) X (k0 := 1) (v := nI (j + 1)) (lv' := [(1, .int (nI (j + 1))), (0, .ref ht)]) d_T_isReadable_33 rfl (nI_add (j) 1) (by decide) rfl ?_
          refine zk_goto (pc := 36) X (tgt := 9) d_T_isReadable_36 (by decide) ?_
          refine zk_lv (lv' := [(0, .ref ht), (1, .int (nI (j + 1)))]) [1, 0] rfl ?_
          exact ih (j + 1) dp_30 de_30 dB_30 ds_30 dk_30 dv_30 (by omega) (by omega) (by omega) hq
  have hq := sp_T_isReadable.eq_1 dk dv fb jn
  refine zk_lv (lv' := [(0, .ref ht)]) [0] rfl ?_
  refine zk_aload_n (pc := 0) X d_T_isReadable_0 rfl (q := 0) rfl ?_
  refine zk_get (pc := 1) X (ci := 3) (v := .ref hd) in_T 0 rfl rfl 0 (by decide) (zk_m tw_110) rfl d_T_isReadable_1 ?_
  refine zk_callv (pc := 4) X (wc := [(hd, .inr (4, [.ref hj, .int (nI dp), .int de, .int dB, .long ds, .int dk, .int dv])), (hj, .inr (1, [.ref jb, .int (nI jn), .int jm, .int jS, .int jl])), (jb, .inl (cJ, 300, .inl fb))]) (wr := [(ht, .inr (3, [.ref hd, .int tt]))]) [1, 2, 3] [0] rfl rfl (by decide) (by decide) (by decide) (zk_runV X (C := R_D) (tysC := [(cJ, .int)]) (As := []) (rest := []) (c_D_rewind l dC dI hd hj jb cJ dp de dB ds dk dv fb jn jm jS jl (by omega)) [0] rfl (ci := 4) rfl 1 rfl (zk_cwV 0 X.1.2.2.2.2 (zk_goodT tw_318) rfl rfl rfl (zk_m tw_315) (zk_m tw_316) (zk_m tw_317) (zk_m tw_7) rfl (by decide +kernel) ⟨Nat.le_of_ble_eq_true rfl, Nat.le_of_ble_eq_true rfl⟩) rfl rfl (Nat.le_of_ble_eq_true rfl) ⟨Nat.zero_le _, Nat.zero_le _⟩ d_T_isReadable_4) ?_
  rintro ⟨dp_4, de_4, dB_4, ds_4, dk_4, dv_4⟩ ⟨w4, f4_0⟩
  have f4_0 : dp_4 ≤ jn := f4_0
  refine zk_ws (ws' := [(ht, .inr (3, [.ref hd, .int tt])), (hd, .inr (4, [.ref hj, .int (nI dp_4), .int de_4, .int dB_4, .long ds_4, .int dk_4, .int dv_4])), (hj, .inr (1, [.ref jb, .int (nI jn), .int jm, .int jS, .int jl])), (jb, .inl (cJ, 300, .inl fb))]) rfl ?_
  try dsimp only at w4
  rw [← w4] at hq
  try dsimp only at hq
  refine zk_iconst (pc := 7) X (v := 0) d_T_isReadable_7 rfl ?_
  refine zk_istore_n (pc := 8) X (i := 1) (lv' := [(1, .int 0), (0, .ref ht)]) d_T_isReadable_8 rfl (by decide) rfl ?_
  refine zk_lv (lv' := [(0, .ref ht), (1, .int 0)]) [1, 0] rfl ?_
  exact cut9 (301) 0 dp_4 de_4 dB_4 ds_4 dk_4 dv_4 (by omega) (by omega) (by omega) hq
def sp_T_restart (dk : Int32) (dv : Int32) (fb : Nat → Int32) (jn : Nat) : Int32 × Nat × Int32 × Int32 × Int64 × Int32 × Int32 :=
  (match sp_D_rewind dk dv fb jn with
  | (dp_9, de_9, dB_9, ds_9, dk_9, dv_9) =>
    (0, dp_9, de_9, dB_9, ds_9, dk_9, dv_9))
abbrev rm_T_restart : Room := { frames := 4, cells := 0, slots := 0, locals := 86 }
set_option maxHeartbeats 4000000 in
set_option maxRecDepth 100000 in
theorem c_T_restart (l : Launch) (dC : Nat → ClassId) (dI : Nat → Nat → Nat) (ht hd hj jb : Nat) (cJ : ClassId) (tt : Int32) (dp : Nat) (de : Int32) (dB : Int32) (ds : Int64) (dk : Int32) (dv : Int32) (fb : Nat → Int32) (jn : Nat) (jm : Int32) (jS : Int32) (jl : Int32) (hjn : jn ≤ 300) : zk_Cv l y_T_restart w_T_restart rm_T_restart (dC, dI) vwCl [.ref ht] [(ht, .inr (3, [.ref hd, .int tt])), (hd, .inr (4, [.ref hj, .int (nI dp), .int de, .int dB, .long ds, .int dk, .int dv])), (hj, .inr (1, [.ref jb, .int (nI jn), .int jm, .int jS, .int jl])), (jb, .inl (cJ, 300, .inl fb))] [(cJ, .int)] (fun (u : Int32 × Nat × Int32 × Int32 × Int64 × Int32 × Int32) => u = sp_T_restart dk dv fb jn ∧ (u.2.1 ≤ jn)) (fun u => [(ht, .inr (3, [.ref hd, .int u.1])), (hd, .inr (4, [.ref hj, .int (nI u.2.1), .int u.2.2.1, .int u.2.2.2.1, .long u.2.2.2.2.1, .int u.2.2.2.2.2.1, .int u.2.2.2.2.2.2])), (hj, .inr (1, [.ref jb, .int (nI jn), .int jm, .int jS, .int jl])), (jb, .inl (cJ, 300, .inl fb))]) := by
  refine zk_enterv (cc := b_T_restart) (maxL := 1) (ret := none) (by decide) rfl (Nat.le_of_ble_eq_true rfl) ?_
  intro p e s m args below meth c A Q hQ X hRt hLk
  have hq := sp_T_restart.eq_1 dk dv fb jn
  refine zk_lv (lv' := [(0, .ref ht)]) [0] rfl ?_
  refine zk_aload_n (pc := 0) X d_T_restart_0 rfl (q := 0) rfl ?_
  refine zk_iconst (pc := 1) X (v := 0) d_T_restart_1 rfl ?_
  refine zk_put (pc := 2) X (ty := .int) (v := .int 0) (ws' := [(ht, .inr (3, [.ref hd, .int 0])), (hd, .inr (4, [.ref hj, .int (nI dp), .int de, .int dB, .long ds, .int dk, .int dv])), (hj, .inr (1, [.ref jb, .int (nI jn), .int jm, .int jS, .int jl])), (jb, .inl (cJ, 300, .inl fb))]) in_T tok_T nok_T 0 rfl rfl 1 (by decide) (zk_m tw_111) rfl rfl rfl rfl (Nat.le_of_ble_eq_true rfl) d_T_restart_2 rfl ?_
  refine zk_aload_n (pc := 5) X d_T_restart_5 rfl (q := 0) rfl ?_
  refine zk_get (pc := 6) X (ci := 3) (v := .ref hd) in_T 0 rfl rfl 0 (by decide) (zk_m tw_110) rfl d_T_restart_6 ?_
  refine zk_callv (pc := 9) X (wc := [(hd, .inr (4, [.ref hj, .int (nI dp), .int de, .int dB, .long ds, .int dk, .int dv])), (hj, .inr (1, [.ref jb, .int (nI jn), .int jm, .int jS, .int jl])), (jb, .inl (cJ, 300, .inl fb))]) (wr := [(ht, .inr (3, [.ref hd, .int 0]))]) [1, 2, 3] [0] rfl rfl (by decide) (by decide) (by decide) (zk_runV X (C := R_D) (tysC := [(cJ, .int)]) (As := []) (rest := []) (c_D_rewind l dC dI hd hj jb cJ dp de dB ds dk dv fb jn jm jS jl (by omega)) [0] rfl (ci := 4) rfl 1 rfl (zk_cwV 0 X.1.2.2.2.2 (zk_goodT tw_318) rfl rfl rfl (zk_m tw_315) (zk_m tw_316) (zk_m tw_317) (zk_m tw_7) rfl (by decide +kernel) ⟨Nat.le_of_ble_eq_true rfl, Nat.le_of_ble_eq_true rfl⟩) rfl rfl (Nat.le_of_ble_eq_true rfl) ⟨Nat.zero_le _, Nat.zero_le _⟩ d_T_restart_9) ?_
  rintro ⟨dp_9, de_9, dB_9, ds_9, dk_9, dv_9⟩ ⟨w9, f9_0⟩
  have f9_0 : dp_9 ≤ jn := f9_0
  refine zk_ws (ws' := [(ht, .inr (3, [.ref hd, .int 0])), (hd, .inr (4, [.ref hj, .int (nI dp_9), .int de_9, .int dB_9, .long ds_9, .int dk_9, .int dv_9])), (hj, .inr (1, [.ref jb, .int (nI jn), .int jm, .int jS, .int jl])), (jb, .inl (cJ, 300, .inl fb))]) rfl ?_
  try dsimp only at w9
  rw [← w9] at hq
  try dsimp only at hq
  exact zk_vret (pc := 12) X hQ hRt hLk (0, dp_9, de_9, dB_9, ds_9, dk_9, dv_9) ⟨hq.symm, (show dp_9 ≤ jn by omega)⟩ [0, 1, 2, 3] rfl (by decide) d_T_restart_12
def sp_T_hasEntry_45 (step : Int32) (kind : Int32) (dp2 : Nat) (de2 : Int32) (dB2 : Int32) (ds2 : Int64) (dk2 : Int32) (dv2 : Int32) : Int32 × Nat × Int32 × Int32 × Int64 × Int32 × Int32 :=
  if de2 = 0 then
    (0, dp2, de2, dB2, ds2, dk2, dv2)
  else
    if ds2 = (Int32.toInt64 step) then
      if dk2 = kind then
        (1, dp2, de2, dB2, ds2, dk2, dv2)
      else
        (0, dp2, de2, dB2, ds2, dk2, dv2)
    else
      (0, dp2, de2, dB2, ds2, dk2, dv2)
def sp_T_hasEntry_2 (step : Int32) (kind : Int32) (fb : Nat → Int32) (jn : Nat) : Nat → Nat → Nat → Int32 → Int32 → Int64 → Int32 → Int32 → Int32 × Nat × Int32 × Int32 × Int64 × Int32 × Int32
  | 0, j, dp1, de1, dB1, ds1, dk1, dv1 => (0, dp1, de1, dB1, ds1, dk1, dv1)
  | fuel + 1, j, dp1, de1, dB1, ds1, dk1, dv1 =>
    if 300 ≤ j then
      sp_T_hasEntry_45 step kind dp1 de1 dB1 ds1 dk1 dv1
    else
      if de1 = 0 then
        sp_T_hasEntry_45 step kind dp1 de1 dB1 ds1 dk1 dv1
      else
        if (Int32.toInt64 step) ≤ ds1 then
          sp_T_hasEntry_45 step kind dp1 de1 dB1 ds1 dk1 dv1
        else
          (match sp_D_readEntry dp1 dB1 ds1 dk1 dv1 fb jn with
          | (dp_36, de_36, dB_36, ds_36, dk_36, dv_36) =>
            sp_T_hasEntry_2 step kind fb jn fuel (j + 1) dp_36 de_36 dB_36 ds_36 dk_36 dv_36)
def sp_T_hasEntry (step : Int32) (kind : Int32) (dp : Nat) (de : Int32) (dB : Int32) (ds : Int64) (dk : Int32) (dv : Int32) (fb : Nat → Int32) (jn : Nat) : Int32 × Nat × Int32 × Int32 × Int64 × Int32 × Int32 :=
  sp_T_hasEntry_2 step kind fb jn 301 0 dp de dB ds dk dv
abbrev rm_T_hasEntry : Room := { frames := 3, cells := 0, slots := 0, locals := 66 }
set_option maxHeartbeats 4000000 in
set_option maxRecDepth 100000 in
theorem c_T_hasEntry (l : Launch) (dC : Nat → ClassId) (dI : Nat → Nat → Nat) (ht hd hj jb : Nat) (cJ : ClassId) (step : Int32) (kind : Int32) (tt : Int32) (dp : Nat) (de : Int32) (dB : Int32) (ds : Int64) (dk : Int32) (dv : Int32) (fb : Nat → Int32) (jn : Nat) (jm : Int32) (jS : Int32) (jl : Int32) (hjn : jn ≤ 300) (hdp : dp ≤ jn) : zk_Ci l y_T_hasEntry w_T_hasEntry rm_T_hasEntry (dC, dI) vwCl [.ref ht, .int step, .int kind] [(ht, .inr (3, [.ref hd, .int tt])), (hd, .inr (4, [.ref hj, .int (nI dp), .int de, .int dB, .long ds, .int dk, .int dv])), (hj, .inr (1, [.ref jb, .int (nI jn), .int jm, .int jS, .int jl])), (jb, .inl (cJ, 300, .inl fb))] [(cJ, .int)] (fun (r : Int32) (u : Nat × Int32 × Int32 × Int64 × Int32 × Int32) => (r, u) = sp_T_hasEntry step kind dp de dB ds dk dv fb jn ∧ (u.1 ≤ jn) ∧ (zk_b01 r)) (fun u => [(ht, .inr (3, [.ref hd, .int tt])), (hd, .inr (4, [.ref hj, .int (nI u.1), .int u.2.1, .int u.2.2.1, .long u.2.2.2.1, .int u.2.2.2.2.1, .int u.2.2.2.2.2])), (hj, .inr (1, [.ref jb, .int (nI jn), .int jm, .int jS, .int jl])), (jb, .inl (cJ, 300, .inl fb))]) := by
  refine zk_enteri (cc := b_T_hasEntry) (maxL := 4) (ret := some .boolean) (by decide) rfl (Nat.le_of_ble_eq_true rfl) ?_
  intro p e s m args below meth c A Q hQ X hRt hLk
  have cut45 : ∀ (dp2 : Nat) (de2 : Int32) (dB2 : Int32) (ds2 : Int64) (dk2 : Int32) (dv2 : Int32), dp2 ≤ jn → sp_T_hasEntry step kind dp de dB ds dk dv fb jn = sp_T_hasEntry_45 step kind dp2 de2 dB2 ds2 dk2 dv2 → zk_Z p l e rm_T_hasEntry s m args below meth c Q A (dC, dI) vwCl 4 0 0 [(ht, .inr (3, [.ref hd, .int tt])), (hd, .inr (4, [.ref hj, .int (nI dp2), .int de2, .int dB2, .long ds2, .int dk2, .int dv2])), (hj, .inr (1, [.ref jb, .int (nI jn), .int jm, .int jS, .int jl])), (jb, .inl (cJ, 300, .inl fb))] [(0, .ref ht), (1, .int step), (2, .int kind)] [] 45 := by
    intro dp2 de2 dB2 ds2 dk2 dv2 hd2 hq
    rw [sp_T_hasEntry_45] at hq
    refine zk_aload_n (pc := 45) X d_T_hasEntry_45 rfl (q := 0) rfl ?_
    refine zk_get (pc := 46) X (ci := 3) (v := .ref hd) in_T 0 rfl rfl 0 (by decide) (zk_m tw_110) rfl d_T_hasEntry_46 ?_
    refine zk_get (pc := 49) X (ci := 4) (v := .int de2) in_D 1 rfl rfl 2 (by decide) (zk_m tw_90) rfl d_T_hasEntry_49 ?_
    refine zk_if_eq (pc := 52) X (tgt := 83) d_T_hasEntry_52 (by decide) (fun h52 => ?_) (fun h52 => ?_)
    · have hq := hq.trans (if_pos h52)
      refine zk_iconst (pc := 83) X (v := 0) d_T_hasEntry_83 rfl ?_
      exact zk_zret (pc := 84) X hQ hRt hLk rfl (dp2, de2, dB2, ds2, dk2, dv2) ⟨hq.symm, (show dp2 ≤ jn by omega), (show zk_b01 0 by first | exact Or.inl rfl | exact Or.inr rfl | assumption)⟩ [0, 1, 2, 3] rfl (by decide) d_T_hasEntry_84
    · have hq := hq.trans (if_neg h52)
      refine zk_aload_n (pc := 55) X d_T_hasEntry_55 rfl (q := 0) rfl ?_
      refine zk_get (pc := 56) X (ci := 3) (v := .ref hd) in_T 0 rfl rfl 0 (by decide) (zk_m tw_110) rfl d_T_hasEntry_56 ?_
      refine zk_get (pc := 59) X (ci := 4) (v := .long ds2) in_D 1 rfl rfl 4 (by decide) (zk_m tw_95) rfl d_T_hasEntry_59 ?_
      refine zk_iload_n (pc := 62) X d_T_hasEntry_62 rfl (q := 1) rfl ?_
      refine zk_i2l (pc := 63) X (v := (Int32.toInt64 step)) d_T_hasEntry_63 rfl ?_
      refine zk_lc_ne (pc := 64) X (tgt := 83) d_T_hasEntry_64 d_T_hasEntry_65 (by decide) (fun h64 => ?_) (fun h64 => ?_)
      · have hq := hq.trans (if_neg h64)
        refine zk_iconst (pc := 83) X (v := 0) d_T_hasEntry_83 rfl ?_
        exact zk_zret (pc := 84) X hQ hRt hLk rfl (dp2, de2, dB2, ds2, dk2, dv2) ⟨hq.symm, (show dp2 ≤ jn by omega), (show zk_b01 0 by first | exact Or.inl rfl | exact Or.inr rfl | assumption)⟩ [0, 1, 2, 3] rfl (by decide) d_T_hasEntry_84
      · have hq := hq.trans (if_pos h64)
        refine zk_aload_n (pc := 68) X d_T_hasEntry_68 rfl (q := 0) rfl ?_
        refine zk_get (pc := 69) X (ci := 3) (v := .ref hd) in_T 0 rfl rfl 0 (by decide) (zk_m tw_110) rfl d_T_hasEntry_69 ?_
        refine zk_get (pc := 72) X (ci := 4) (v := .int dk2) in_D 1 rfl rfl 5 (by decide) (zk_m tw_97) rfl d_T_hasEntry_72 ?_
        refine zk_iload_n (pc := 75) X d_T_hasEntry_75 rfl (q := 2) rfl ?_
        refine zk_icmp_ne (pc := 76) X (tgt := 83) d_T_hasEntry_76 (by decide) (fun h76 => ?_) (fun h76 => ?_)
        · have hq := hq.trans (if_neg h76)
          refine zk_iconst (pc := 83) X (v := 0) d_T_hasEntry_83 rfl ?_
          exact zk_zret (pc := 84) X hQ hRt hLk rfl (dp2, de2, dB2, ds2, dk2, dv2) ⟨hq.symm, (show dp2 ≤ jn by omega), (show zk_b01 0 by first | exact Or.inl rfl | exact Or.inr rfl | assumption)⟩ [0, 1, 2, 3] rfl (by decide) d_T_hasEntry_84
        · have hq := hq.trans (if_pos h76)
          refine zk_iconst (pc := 79) X (v := 1) d_T_hasEntry_79 rfl ?_
          refine zk_goto (pc := 80) X (tgt := 84) d_T_hasEntry_80 (by decide) ?_
          exact zk_zret (pc := 84) X hQ hRt hLk rfl (dp2, de2, dB2, ds2, dk2, dv2) ⟨hq.symm, (show dp2 ≤ jn by omega), (show zk_b01 1 by first | exact Or.inl rfl | exact Or.inr rfl | assumption)⟩ [0, 1, 2, 3] rfl (by decide) d_T_hasEntry_84
  have cut2 : ∀ (fuel : Nat) (j : Nat) (dp1 : Nat) (de1 : Int32) (dB1 : Int32) (ds1 : Int64) (dk1 : Int32) (dv1 : Int32), j ≤ 300 → dp1 ≤ jn → 300 - j < fuel → sp_T_hasEntry step kind dp de dB ds dk dv fb jn = sp_T_hasEntry_2 step kind fb jn fuel j dp1 de1 dB1 ds1 dk1 dv1 → zk_Z p l e rm_T_hasEntry s m args below meth c Q A (dC, dI) vwCl 4 0 0 [(ht, .inr (3, [.ref hd, .int tt])), (hd, .inr (4, [.ref hj, .int (nI dp1), .int de1, .int dB1, .long ds1, .int dk1, .int dv1])), (hj, .inr (1, [.ref jb, .int (nI jn), .int jm, .int jS, .int jl])), (jb, .inl (cJ, 300, .inl fb))] [(0, .ref ht), (1, .int step), (2, .int kind), (3, .int (nI j))] [] 2 := by
    intro fuel
    induction fuel with
    | zero => intro j dp1 de1 dB1 ds1 dk1 dv1 hjj hd1 hMs; exact absurd hMs (Nat.not_lt_zero _)
    | succ fuel ih =>
      intro j dp1 de1 dB1 ds1 dk1 dv1 hjj hd1 hMs hq
      rw [sp_T_hasEntry_2] at hq
      refine zk_iload_n (pc := 2) X d_T_hasEntry_2 rfl (q := 3) rfl ?_
      refine zk_sipush (pc := 3) X (v := 300) d_T_hasEntry_3 (by decide) ?_
      refine zk_icmpN_ge (pc := 6) X (tgt := 45) (j) (300) rfl rfl (by omega) (by omega) d_T_hasEntry_6 (by decide) (fun h6 => ?_) (fun h6 => ?_)
      · have hq := hq.trans (if_pos h6)
        refine zk_lv (lv' := [(0, .ref ht), (1, .int step), (2, .int kind)]) [0, 1, 2] rfl ?_
        exact cut45 dp1 de1 dB1 ds1 dk1 dv1 (by omega) hq
      · have hq := hq.trans (if_neg h6)
        refine zk_aload_n (pc := 9) X d_T_hasEntry_9 rfl (q := 0) rfl ?_
        refine zk_get (pc := 10) X (ci := 3) (v := .ref hd) in_T 0 rfl rfl 0 (by decide) (zk_m tw_110) rfl d_T_hasEntry_10 ?_
        refine zk_get (pc := 13) X (ci := 4) (v := .int de1) in_D 1 rfl rfl 2 (by decide) (zk_m tw_90) rfl d_T_hasEntry_13 ?_
        refine zk_if_eq (pc := 16) X (tgt := 45) d_T_hasEntry_16 (by decide) (fun h16 => ?_) (fun h16 => ?_)
        · have hq := hq.trans (if_pos h16)
          refine zk_lv (lv' := [(0, .ref ht), (1, .int step), (2, .int kind)]) [0, 1, 2] rfl ?_
          exact cut45 dp1 de1 dB1 ds1 dk1 dv1 (by omega) hq
        · have hq := hq.trans (if_neg h16)
          refine zk_aload_n (pc := 19) X d_T_hasEntry_19 rfl (q := 0) rfl ?_
          refine zk_get (pc := 20) X (ci := 3) (v := .ref hd) in_T 0 rfl rfl 0 (by decide) (zk_m tw_110) rfl d_T_hasEntry_20 ?_
          refine zk_get (pc := 23) X (ci := 4) (v := .long ds1) in_D 1 rfl rfl 4 (by decide) (zk_m tw_95) rfl d_T_hasEntry_23 ?_
          refine zk_iload_n (pc := 26) X d_T_hasEntry_26 rfl (q := 1) rfl ?_
          refine zk_i2l (pc := 27) X (v := (Int32.toInt64 step)) d_T_hasEntry_27 rfl ?_
          refine zk_lc_ge (pc := 28) X (tgt := 45) d_T_hasEntry_28 d_T_hasEntry_29 (by decide) (fun h28 => ?_) (fun h28 => ?_)
          · have hq := hq.trans (if_pos h28)
            refine zk_lv (lv' := [(0, .ref ht), (1, .int step), (2, .int kind)]) [0, 1, 2] rfl ?_
            exact cut45 dp1 de1 dB1 ds1 dk1 dv1 (by omega) hq
          · have hq := hq.trans (if_neg h28)
            refine zk_aload_n (pc := 32) X d_T_hasEntry_32 rfl (q := 0) rfl ?_
            refine zk_get (pc := 33) X (ci := 3) (v := .ref hd) in_T 0 rfl rfl 0 (by decide) (zk_m tw_110) rfl d_T_hasEntry_33 ?_
            refine zk_callv (pc := 36) X (wc := [(hd, .inr (4, [.ref hj, .int (nI dp1), .int de1, .int dB1, .long ds1, .int dk1, .int dv1])), (hj, .inr (1, [.ref jb, .int (nI jn), .int jm, .int jS, .int jl])), (jb, .inl (cJ, 300, .inl fb))]) (wr := [(ht, .inr (3, [.ref hd, .int tt]))]) [1, 2, 3] [0] rfl rfl (by decide) (by decide) (by decide) (zk_runV X (C := R_D) (tysC := [(cJ, .int)]) (As := []) (rest := []) (c_D_readEntry l dC dI hd hj jb cJ dp1 de1 dB1 ds1 dk1 dv1 fb jn jm jS jl (by omega) (by omega)) [0] rfl (ci := 4) rfl 1 rfl (zk_cwV 0 X.1.2.2.2.2 (zk_goodT tw_244) rfl rfl rfl (zk_m tw_241) (zk_m tw_242) (zk_m tw_243) (zk_m tw_7) rfl (by decide +kernel) ⟨Nat.le_of_ble_eq_true rfl, Nat.le_of_ble_eq_true rfl⟩) rfl rfl (Nat.le_of_ble_eq_true rfl) ⟨Nat.zero_le _, Nat.zero_le _⟩ d_T_hasEntry_36) ?_
            rintro ⟨dp_36, de_36, dB_36, ds_36, dk_36, dv_36⟩ ⟨w36, f36_0⟩
            have f36_0 : dp_36 ≤ jn := f36_0
            refine zk_ws (ws' := [(ht, .inr (3, [.ref hd, .int tt])), (hd, .inr (4, [.ref hj, .int (nI dp_36), .int de_36, .int dB_36, .long ds_36, .int dk_36, .int dv_36])), (hj, .inr (1, [.ref jb, .int (nI jn), .int jm, .int jS, .int jl])), (jb, .inl (cJ, 300, .inl fb))]) rfl ?_
            try dsimp only at w36
            rw [← w36] at hq
            try dsimp only at hq
            refine zk_iinc (pc := 39) X (k0 := 3) (v := nI (j + 1)) (lv' := [(3, .int (nI (j + 1))), (0, .ref ht), (1, .int step), (2, .int kind)]) d_T_hasEntry_39 rfl (nI_add (j) 1) (by decide) rfl ?_
            refine zk_goto (pc := 42) X (tgt := 2) d_T_hasEntry_42 (by decide) ?_
            refine zk_lv (lv' := [(0, .ref ht), (1, .int step), (2, .int kind), (3, .int (nI (j + 1)))]) [1, 2, 3, 0] rfl ?_
            exact ih (j + 1) dp_36 de_36 dB_36 ds_36 dk_36 dv_36 (by omega) (by omega) (by omega) hq
  have hq := sp_T_hasEntry.eq_1 step kind dp de dB ds dk dv fb jn
  refine zk_lv (lv' := [(0, .ref ht), (1, .int step), (2, .int kind)]) [0, 1, 2] rfl ?_
  refine zk_iconst (pc := 0) X (v := 0) d_T_hasEntry_0 rfl ?_
  refine zk_istore_n (pc := 1) X (i := 3) (lv' := [(3, .int 0), (0, .ref ht), (1, .int step), (2, .int kind)]) d_T_hasEntry_1 rfl (by decide) rfl ?_
  refine zk_lv (lv' := [(0, .ref ht), (1, .int step), (2, .int kind), (3, .int 0)]) [1, 2, 3, 0] rfl ?_
  exact cut2 (301) 0 dp de dB ds dk dv (by omega) (by omega) (by omega) hq
def sp_T_takeInterrupt (step : Int32) (dp : Nat) (de : Int32) (dB : Int32) (ds : Int64) (dk : Int32) (dv : Int32) (fb : Nat → Int32) (jn : Nat) : Int32 × Nat × Int32 × Int32 × Int64 × Int32 × Int32 :=
  (match sp_T_hasEntry step 3 dp de dB ds dk dv fb jn with
  | (r3, dp_3, de_3, dB_3, ds_3, dk_3, dv_3) =>
    (r3, dp_3, de_3, dB_3, ds_3, dk_3, dv_3))
abbrev rm_T_takeInterrupt : Room := { frames := 4, cells := 0, slots := 0, locals := 89 }
set_option maxHeartbeats 4000000 in
set_option maxRecDepth 100000 in
theorem c_T_takeInterrupt (l : Launch) (dC : Nat → ClassId) (dI : Nat → Nat → Nat) (ht hd hj jb : Nat) (cJ : ClassId) (step : Int32) (tt : Int32) (dp : Nat) (de : Int32) (dB : Int32) (ds : Int64) (dk : Int32) (dv : Int32) (fb : Nat → Int32) (jn : Nat) (jm : Int32) (jS : Int32) (jl : Int32) (hjn : jn ≤ 300) (hdp : dp ≤ jn) : zk_Ci l y_T_takeInterrupt w_T_takeInterrupt rm_T_takeInterrupt (dC, dI) vwCl [.ref ht, .int step] [(ht, .inr (3, [.ref hd, .int tt])), (hd, .inr (4, [.ref hj, .int (nI dp), .int de, .int dB, .long ds, .int dk, .int dv])), (hj, .inr (1, [.ref jb, .int (nI jn), .int jm, .int jS, .int jl])), (jb, .inl (cJ, 300, .inl fb))] [(cJ, .int)] (fun (r : Int32) (u : Nat × Int32 × Int32 × Int64 × Int32 × Int32) => (r, u) = sp_T_takeInterrupt step dp de dB ds dk dv fb jn ∧ (u.1 ≤ jn) ∧ (zk_b01 r)) (fun u => [(ht, .inr (3, [.ref hd, .int tt])), (hd, .inr (4, [.ref hj, .int (nI u.1), .int u.2.1, .int u.2.2.1, .long u.2.2.2.1, .int u.2.2.2.2.1, .int u.2.2.2.2.2])), (hj, .inr (1, [.ref jb, .int (nI jn), .int jm, .int jS, .int jl])), (jb, .inl (cJ, 300, .inl fb))]) := by
  refine zk_enteri (cc := b_T_takeInterrupt) (maxL := 2) (ret := some .boolean) (by decide) rfl (Nat.le_of_ble_eq_true rfl) ?_
  intro p e s m args below meth c A Q hQ X hRt hLk
  have hq := sp_T_takeInterrupt.eq_1 step dp de dB ds dk dv fb jn
  refine zk_lv (lv' := [(0, .ref ht), (1, .int step)]) [0, 1] rfl ?_
  refine zk_aload_n (pc := 0) X d_T_takeInterrupt_0 rfl (q := 0) rfl ?_
  refine zk_iload_n (pc := 1) X d_T_takeInterrupt_1 rfl (q := 1) rfl ?_
  refine zk_iconst (pc := 2) X (v := 3) d_T_takeInterrupt_2 rfl ?_
  refine zk_calli (pc := 3) X (wc := [(ht, .inr (3, [.ref hd, .int tt])), (hd, .inr (4, [.ref hj, .int (nI dp), .int de, .int dB, .long ds, .int dk, .int dv])), (hj, .inr (1, [.ref jb, .int (nI jn), .int jm, .int jS, .int jl])), (jb, .inl (cJ, 300, .inl fb))]) (wr := []) [0, 1, 2, 3] [] rfl rfl (by decide) (by decide) (by decide) (zk_runV X (C := R_T) (tysC := [(cJ, .int)]) (As := [.int step, .int 3]) (rest := []) (c_T_hasEntry l dC dI ht hd hj jb cJ step 3 tt dp de dB ds dk dv fb jn jm jS jl (by omega) (by omega)) [0] rfl (ci := 3) rfl 0 rfl (zk_cwV 2 X.1.2.2.2.2 (zk_goodT tw_240) rfl rfl rfl (zk_m tw_238) (zk_m tw_239) (zk_m tw_526) (zk_m tw_6) rfl (by decide +kernel) ⟨Nat.le_of_ble_eq_true rfl, Nat.le_of_ble_eq_true rfl⟩) rfl rfl (Nat.le_of_ble_eq_true rfl) ⟨Nat.zero_le _, Nat.zero_le _⟩ d_T_takeInterrupt_3) ?_
  rintro r3 ⟨dp_3, de_3, dB_3, ds_3, dk_3, dv_3⟩ ⟨w3, f3_0, f3_1⟩
  have f3_0 : dp_3 ≤ jn := f3_0
  have f3_1 : zk_b01 r3 := f3_1
  refine zk_ws (ws' := [(ht, .inr (3, [.ref hd, .int tt])), (hd, .inr (4, [.ref hj, .int (nI dp_3), .int de_3, .int dB_3, .long ds_3, .int dk_3, .int dv_3])), (hj, .inr (1, [.ref jb, .int (nI jn), .int jm, .int jS, .int jl])), (jb, .inl (cJ, 300, .inl fb))]) rfl ?_
  try dsimp only at w3
  rw [← w3] at hq
  try dsimp only at hq
  exact zk_zret (pc := 6) X hQ hRt hLk (zk_narB f3_1) (dp_3, de_3, dB_3, ds_3, dk_3, dv_3) ⟨hq.symm, (show dp_3 ≤ jn by omega), (show zk_b01 r3 by first | exact Or.inl rfl | exact Or.inr rfl | assumption)⟩ [0, 1, 2, 3] rfl (by decide) d_T_takeInterrupt_6
def sp_T_takeInput (step : Int32) (dp : Nat) (de : Int32) (dB : Int32) (ds : Int64) (dk : Int32) (dv : Int32) (fb : Nat → Int32) (jn : Nat) : Int32 × Nat × Int32 × Int32 × Int64 × Int32 × Int32 :=
  (match sp_T_hasEntry step 1 dp de dB ds dk dv fb jn with
  | (r3, dp_3, de_3, dB_3, ds_3, dk_3, dv_3) =>
    if r3 = 0 then
      (0, dp_3, de_3, dB_3, ds_3, dk_3, dv_3)
    else
      if (dv_3 &&& 1) = 0 then
        ((zf_ushr dv_3 1), dp_3, de_3, dB_3, ds_3, dk_3, dv_3)
      else
        (((-(zf_ushr dv_3 1)) - 1), dp_3, de_3, dB_3, ds_3, dk_3, dv_3))
abbrev rm_T_takeInput : Room := { frames := 4, cells := 0, slots := 0, locals := 89 }
set_option maxHeartbeats 4000000 in
set_option maxRecDepth 100000 in
theorem c_T_takeInput (l : Launch) (dC : Nat → ClassId) (dI : Nat → Nat → Nat) (ht hd hj jb : Nat) (cJ : ClassId) (step : Int32) (tt : Int32) (dp : Nat) (de : Int32) (dB : Int32) (ds : Int64) (dk : Int32) (dv : Int32) (fb : Nat → Int32) (jn : Nat) (jm : Int32) (jS : Int32) (jl : Int32) (hjn : jn ≤ 300) (hdp : dp ≤ jn) : zk_Ci l y_T_takeInput w_T_takeInput rm_T_takeInput (dC, dI) vwCl [.ref ht, .int step] [(ht, .inr (3, [.ref hd, .int tt])), (hd, .inr (4, [.ref hj, .int (nI dp), .int de, .int dB, .long ds, .int dk, .int dv])), (hj, .inr (1, [.ref jb, .int (nI jn), .int jm, .int jS, .int jl])), (jb, .inl (cJ, 300, .inl fb))] [(cJ, .int)] (fun (r : Int32) (u : Nat × Int32 × Int32 × Int64 × Int32 × Int32) => (r, u) = sp_T_takeInput step dp de dB ds dk dv fb jn ∧ (u.1 ≤ jn)) (fun u => [(ht, .inr (3, [.ref hd, .int tt])), (hd, .inr (4, [.ref hj, .int (nI u.1), .int u.2.1, .int u.2.2.1, .long u.2.2.2.1, .int u.2.2.2.2.1, .int u.2.2.2.2.2])), (hj, .inr (1, [.ref jb, .int (nI jn), .int jm, .int jS, .int jl])), (jb, .inl (cJ, 300, .inl fb))]) := by
  refine zk_enteri (cc := b_T_takeInput) (maxL := 3) (ret := some .int) (by decide) rfl (Nat.le_of_ble_eq_true rfl) ?_
  intro p e s m args below meth c A Q hQ X hRt hLk
  have hq := sp_T_takeInput.eq_1 step dp de dB ds dk dv fb jn
  refine zk_lv (lv' := [(0, .ref ht), (1, .int step)]) [0, 1] rfl ?_
  refine zk_aload_n (pc := 0) X d_T_takeInput_0 rfl (q := 0) rfl ?_
  refine zk_iload_n (pc := 1) X d_T_takeInput_1 rfl (q := 1) rfl ?_
  refine zk_iconst (pc := 2) X (v := 1) d_T_takeInput_2 rfl ?_
  refine zk_calli (pc := 3) X (wc := [(ht, .inr (3, [.ref hd, .int tt])), (hd, .inr (4, [.ref hj, .int (nI dp), .int de, .int dB, .long ds, .int dk, .int dv])), (hj, .inr (1, [.ref jb, .int (nI jn), .int jm, .int jS, .int jl])), (jb, .inl (cJ, 300, .inl fb))]) (wr := []) [0, 1, 2, 3] [] rfl rfl (by decide) (by decide) (by decide) (zk_runV X (C := R_T) (tysC := [(cJ, .int)]) (As := [.int step, .int 1]) (rest := []) (c_T_hasEntry l dC dI ht hd hj jb cJ step 1 tt dp de dB ds dk dv fb jn jm jS jl (by omega) (by omega)) [0] rfl (ci := 3) rfl 0 rfl (zk_cwV 2 X.1.2.2.2.2 (zk_goodT tw_240) rfl rfl rfl (zk_m tw_238) (zk_m tw_239) (zk_m tw_526) (zk_m tw_6) rfl (by decide +kernel) ⟨Nat.le_of_ble_eq_true rfl, Nat.le_of_ble_eq_true rfl⟩) rfl rfl (Nat.le_of_ble_eq_true rfl) ⟨Nat.zero_le _, Nat.zero_le _⟩ d_T_takeInput_3) ?_
  rintro r3 ⟨dp_3, de_3, dB_3, ds_3, dk_3, dv_3⟩ ⟨w3, f3_0, f3_1⟩
  have f3_0 : dp_3 ≤ jn := f3_0
  have f3_1 : zk_b01 r3 := f3_1
  refine zk_ws (ws' := [(ht, .inr (3, [.ref hd, .int tt])), (hd, .inr (4, [.ref hj, .int (nI dp_3), .int de_3, .int dB_3, .long ds_3, .int dk_3, .int dv_3])), (hj, .inr (1, [.ref jb, .int (nI jn), .int jm, .int jS, .int jl])), (jb, .inl (cJ, 300, .inl fb))]) rfl ?_
  try dsimp only at w3
  rw [← w3] at hq
  try dsimp only at hq
  refine zk_if_ne (pc := 6) X (tgt := 11) d_T_takeInput_6 (by decide) (fun h6 => ?_) (fun h6 => ?_)
  · have hq := hq.trans (if_neg h6)
    refine zk_aload_n (pc := 11) X d_T_takeInput_11 rfl (q := 0) rfl ?_
    refine zk_get (pc := 12) X (ci := 3) (v := .ref hd) in_T 0 rfl rfl 0 (by decide) (zk_m tw_110) rfl d_T_takeInput_12 ?_
    refine zk_get (pc := 15) X (ci := 4) (v := .int dv_3) in_D 1 rfl rfl 6 (by decide) (zk_m tw_99) rfl d_T_takeInput_15 ?_
    refine zk_istore_n (pc := 18) X (i := 2) (lv' := [(2, .int dv_3), (0, .ref ht), (1, .int step)]) d_T_takeInput_18 rfl (by decide) rfl ?_
    refine zk_iload_n (pc := 19) X d_T_takeInput_19 rfl (q := 0) rfl ?_
    refine zk_iconst (pc := 20) X (v := 1) d_T_takeInput_20 rfl ?_
    refine zk_iand (pc := 21) X (v := (dv_3 &&& 1)) d_T_takeInput_21 rfl ?_
    refine zk_if_ne (pc := 22) X (tgt := 31) d_T_takeInput_22 (by decide) (fun h22 => ?_) (fun h22 => ?_)
    · have hq := hq.trans (if_neg h22)
      refine zk_iload_n (pc := 31) X d_T_takeInput_31 rfl (q := 0) rfl ?_
      refine zk_iconst (pc := 32) X (v := 1) d_T_takeInput_32 rfl ?_
      refine zk_iushr (pc := 33) X (v := (zf_ushr dv_3 1)) d_T_takeInput_33 rfl ?_
      refine zk_ineg (pc := 34) X (v := (-(zf_ushr dv_3 1))) d_T_takeInput_34 rfl ?_
      refine zk_iconst (pc := 35) X (v := 1) d_T_takeInput_35 rfl ?_
      refine zk_isub (pc := 36) X (v := ((-(zf_ushr dv_3 1)) - 1)) d_T_takeInput_36 rfl ?_
      exact zk_iret (pc := 37) X hQ hRt hLk (dp_3, de_3, dB_3, ds_3, dk_3, dv_3) ⟨hq.symm, (show dp_3 ≤ jn by omega)⟩ [0, 1, 2, 3] rfl (by decide) d_T_takeInput_37
    · have hq := hq.trans (if_pos h22)
      refine zk_iload_n (pc := 25) X d_T_takeInput_25 rfl (q := 0) rfl ?_
      refine zk_iconst (pc := 26) X (v := 1) d_T_takeInput_26 rfl ?_
      refine zk_iushr (pc := 27) X (v := (zf_ushr dv_3 1)) d_T_takeInput_27 rfl ?_
      refine zk_goto (pc := 28) X (tgt := 37) d_T_takeInput_28 (by decide) ?_
      exact zk_iret (pc := 37) X hQ hRt hLk (dp_3, de_3, dB_3, ds_3, dk_3, dv_3) ⟨hq.symm, (show dp_3 ≤ jn by omega)⟩ [0, 1, 2, 3] rfl (by decide) d_T_takeInput_37
  · have hq := hq.trans (if_pos h6)
    refine zk_iconst (pc := 9) X (v := 0) d_T_takeInput_9 rfl ?_
    exact zk_iret (pc := 10) X hQ hRt hLk (dp_3, de_3, dB_3, ds_3, dk_3, dv_3) ⟨hq.symm, (show dp_3 ≤ jn by omega)⟩ [0, 1, 2, 3] rfl (by decide) d_T_takeInput_10
def sp_T_readClock (step : Int32) (tt : Int32) (dp : Nat) (de : Int32) (dB : Int32) (ds : Int64) (dk : Int32) (dv : Int32) (fb : Nat → Int32) (jn : Nat) : Int32 × Int32 × Nat × Int32 × Int32 × Int64 × Int32 × Int32 :=
  (match sp_T_hasEntry step 2 dp de dB ds dk dv fb jn with
  | (r3, dp_3, de_3, dB_3, ds_3, dk_3, dv_3) =>
    if r3 = 0 then
      (tt, tt, dp_3, de_3, dB_3, ds_3, dk_3, dv_3)
    else
      ((tt + dv_3), (tt + dv_3), dp_3, de_3, dB_3, ds_3, dk_3, dv_3))
abbrev rm_T_readClock : Room := { frames := 4, cells := 0, slots := 0, locals := 89 }
set_option maxHeartbeats 4000000 in
set_option maxRecDepth 100000 in
theorem c_T_readClock (l : Launch) (dC : Nat → ClassId) (dI : Nat → Nat → Nat) (ht hd hj jb : Nat) (cJ : ClassId) (step : Int32) (tt : Int32) (dp : Nat) (de : Int32) (dB : Int32) (ds : Int64) (dk : Int32) (dv : Int32) (fb : Nat → Int32) (jn : Nat) (jm : Int32) (jS : Int32) (jl : Int32) (hjn : jn ≤ 300) (hdp : dp ≤ jn) : zk_Ci l y_T_readClock w_T_readClock rm_T_readClock (dC, dI) vwCl [.ref ht, .int step] [(ht, .inr (3, [.ref hd, .int tt])), (hd, .inr (4, [.ref hj, .int (nI dp), .int de, .int dB, .long ds, .int dk, .int dv])), (hj, .inr (1, [.ref jb, .int (nI jn), .int jm, .int jS, .int jl])), (jb, .inl (cJ, 300, .inl fb))] [(cJ, .int)] (fun (r : Int32) (u : Int32 × Nat × Int32 × Int32 × Int64 × Int32 × Int32) => (r, u) = sp_T_readClock step tt dp de dB ds dk dv fb jn ∧ (u.2.1 ≤ jn)) (fun u => [(ht, .inr (3, [.ref hd, .int u.1])), (hd, .inr (4, [.ref hj, .int (nI u.2.1), .int u.2.2.1, .int u.2.2.2.1, .long u.2.2.2.2.1, .int u.2.2.2.2.2.1, .int u.2.2.2.2.2.2])), (hj, .inr (1, [.ref jb, .int (nI jn), .int jm, .int jS, .int jl])), (jb, .inl (cJ, 300, .inl fb))]) := by
  refine zk_enteri (cc := b_T_readClock) (maxL := 2) (ret := some .int) (by decide) rfl (Nat.le_of_ble_eq_true rfl) ?_
  intro p e s m args below meth c A Q hQ X hRt hLk
  have hq := sp_T_readClock.eq_1 step tt dp de dB ds dk dv fb jn
  refine zk_lv (lv' := [(0, .ref ht), (1, .int step)]) [0, 1] rfl ?_
  refine zk_aload_n (pc := 0) X d_T_readClock_0 rfl (q := 0) rfl ?_
  refine zk_iload_n (pc := 1) X d_T_readClock_1 rfl (q := 1) rfl ?_
  refine zk_iconst (pc := 2) X (v := 2) d_T_readClock_2 rfl ?_
  refine zk_calli (pc := 3) X (wc := [(ht, .inr (3, [.ref hd, .int tt])), (hd, .inr (4, [.ref hj, .int (nI dp), .int de, .int dB, .long ds, .int dk, .int dv])), (hj, .inr (1, [.ref jb, .int (nI jn), .int jm, .int jS, .int jl])), (jb, .inl (cJ, 300, .inl fb))]) (wr := []) [0, 1, 2, 3] [] rfl rfl (by decide) (by decide) (by decide) (zk_runV X (C := R_T) (tysC := [(cJ, .int)]) (As := [.int step, .int 2]) (rest := []) (c_T_hasEntry l dC dI ht hd hj jb cJ step 2 tt dp de dB ds dk dv fb jn jm jS jl (by omega) (by omega)) [0] rfl (ci := 3) rfl 0 rfl (zk_cwV 2 X.1.2.2.2.2 (zk_goodT tw_240) rfl rfl rfl (zk_m tw_238) (zk_m tw_239) (zk_m tw_526) (zk_m tw_6) rfl (by decide +kernel) ⟨Nat.le_of_ble_eq_true rfl, Nat.le_of_ble_eq_true rfl⟩) rfl rfl (Nat.le_of_ble_eq_true rfl) ⟨Nat.zero_le _, Nat.zero_le _⟩ d_T_readClock_3) ?_
  rintro r3 ⟨dp_3, de_3, dB_3, ds_3, dk_3, dv_3⟩ ⟨w3, f3_0, f3_1⟩
  have f3_0 : dp_3 ≤ jn := f3_0
  have f3_1 : zk_b01 r3 := f3_1
  refine zk_ws (ws' := [(ht, .inr (3, [.ref hd, .int tt])), (hd, .inr (4, [.ref hj, .int (nI dp_3), .int de_3, .int dB_3, .long ds_3, .int dk_3, .int dv_3])), (hj, .inr (1, [.ref jb, .int (nI jn), .int jm, .int jS, .int jl])), (jb, .inl (cJ, 300, .inl fb))]) rfl ?_
  try dsimp only at w3
  rw [← w3] at hq
  try dsimp only at hq
  refine zk_if_eq (pc := 6) X (tgt := 25) d_T_readClock_6 (by decide) (fun h6 => ?_) (fun h6 => ?_)
  · have hq := hq.trans (if_pos h6)
    refine zk_aload_n (pc := 25) X d_T_readClock_25 rfl (q := 0) rfl ?_
    refine zk_get (pc := 26) X (ci := 3) (v := .int tt) in_T 0 rfl rfl 1 (by decide) (zk_m tw_111) rfl d_T_readClock_26 ?_
    exact zk_iret (pc := 29) X hQ hRt hLk (tt, dp_3, de_3, dB_3, ds_3, dk_3, dv_3) ⟨hq.symm, (show dp_3 ≤ jn by omega)⟩ [0, 1, 2, 3] rfl (by decide) d_T_readClock_29
  · have hq := hq.trans (if_neg h6)
    refine zk_aload_n (pc := 9) X d_T_readClock_9 rfl (q := 0) rfl ?_
    refine zk_dup (pc := 10) X d_T_readClock_10 rfl ?_
    refine zk_get (pc := 11) X (ci := 3) (v := .int tt) in_T 0 rfl rfl 1 (by decide) (zk_m tw_111) rfl d_T_readClock_11 ?_
    refine zk_aload_n (pc := 14) X d_T_readClock_14 rfl (q := 0) rfl ?_
    refine zk_get (pc := 15) X (ci := 3) (v := .ref hd) in_T 0 rfl rfl 0 (by decide) (zk_m tw_110) rfl d_T_readClock_15 ?_
    refine zk_get (pc := 18) X (ci := 4) (v := .int dv_3) in_D 1 rfl rfl 6 (by decide) (zk_m tw_99) rfl d_T_readClock_18 ?_
    refine zk_iadd (pc := 21) X (v := (tt + dv_3)) d_T_readClock_21 rfl ?_
    refine zk_put (pc := 22) X (ty := .int) (v := .int (tt + dv_3)) (ws' := [(ht, .inr (3, [.ref hd, .int (tt + dv_3)])), (hd, .inr (4, [.ref hj, .int (nI dp_3), .int de_3, .int dB_3, .long ds_3, .int dk_3, .int dv_3])), (hj, .inr (1, [.ref jb, .int (nI jn), .int jm, .int jS, .int jl])), (jb, .inl (cJ, 300, .inl fb))]) in_T tok_T nok_T 0 rfl rfl 1 (by decide) (zk_m tw_111) rfl rfl rfl rfl (Nat.le_of_ble_eq_true rfl) d_T_readClock_22 rfl ?_
    refine zk_aload_n (pc := 25) X d_T_readClock_25 rfl (q := 0) rfl ?_
    refine zk_get (pc := 26) X (ci := 3) (v := .int (tt + dv_3)) in_T 0 rfl rfl 1 (by decide) (zk_m tw_111) rfl d_T_readClock_26 ?_
    exact zk_iret (pc := 29) X hQ hRt hLk ((tt + dv_3), dp_3, de_3, dB_3, ds_3, dk_3, dv_3) ⟨hq.symm, (show dp_3 ≤ jn by omega)⟩ [0, 1, 2, 3] rfl (by decide) d_T_readClock_29
end
section
def sp_M_turn (o : Int32) (tested : Int32) (target : Int32) (mp : Int32) (mb : Int32) (mi : Int32) (me : Int32) : Int32 × Int32 × Int32 :=
  if o = 5 then
    (target, mi, me)
  else if o = 6 then
    if tested = 0 then
      (target, mi, me)
    else
      (mp, mi, me)
  else if o = 11 then
    if mi = 0 then
      (mp, mi, me)
    else
      (mb, 0, me)
  else (mp, mi, 1)
abbrev rm_M_turn : Room := { frames := 0, cells := 0, slots := 0, locals := 0 }
set_option maxHeartbeats 4000000 in
set_option maxRecDepth 100000 in
theorem c_M_turn (l : Launch) (dC : Nat → ClassId) (dI : Nat → Nat → Nat) (hm mr mc : Nat) (cmr cmc : ClassId) (o : Int32) (tested : Int32) (target : Int32) (fr : Nat → Int32) (fc : Nat → Int32) (mp : Int32) (mb : Int32) (mi : Int32) (me : Int32) (ml : Int32) (mo : Int32) (mt : Int32) (mS : Nat) : zk_Cv l y_M_turn w_M_turn rm_M_turn (dC, dI) vwCl [.ref hm, .int o, .int tested, .int target] [(hm, .inr (5, [.ref mr, .ref mc, .int mp, .int mb, .int mi, .int me, .int ml, .int mo, .int mt, .int (nI mS)])), (mr, .inl (cmr, 4, .inl fr)), (mc, .inl (cmc, 32, .inl fc))] [(cmr, .int), (cmc, .int)] (fun (u : Int32 × Int32 × Int32) => u = sp_M_turn o tested target mp mb mi me) (fun u => [(hm, .inr (5, [.ref mr, .ref mc, .int u.1, .int mb, .int u.2.1, .int u.2.2, .int ml, .int mo, .int mt, .int (nI mS)])), (mr, .inl (cmr, 4, .inl fr)), (mc, .inl (cmc, 32, .inl fc))]) := by
  refine zk_enterv (cc := b_M_turn) (maxL := 4) (ret := none) (by decide) rfl (Nat.le_of_ble_eq_true rfl) ?_
  intro p e s m args below meth c A Q hQ X hRt hLk
  have hq := sp_M_turn.eq_1 o tested target mp mb mi me
  refine zk_lv (lv' := [(0, .ref hm), (1, .int o), (2, .int tested), (3, .int target)]) [0, 1, 2, 3] rfl ?_
  refine zk_iload_n (pc := 0) X d_M_turn_0 rfl (q := 1) rfl ?_
  rcases Decidable.em (o = 5) with h1_5 | h1_5
  · have hq := hq.trans (if_pos h1_5)
    refine zk_lookup (pc := 1) X (tgt := 36) (off := 35) d_M_turn_1 (by decide) (by rw [h1_5]; try rfl) (by decide) ?_
    refine zk_aload_n (pc := 36) X d_M_turn_36 rfl (q := 0) rfl ?_
    refine zk_iload_n (pc := 37) X d_M_turn_37 rfl (q := 3) rfl ?_
    refine zk_put (pc := 38) X (ty := .int) (v := .int target) (ws' := [(hm, .inr (5, [.ref mr, .ref mc, .int target, .int mb, .int mi, .int me, .int ml, .int mo, .int mt, .int (nI mS)])), (mr, .inl (cmr, 4, .inl fr)), (mc, .inl (cmc, 32, .inl fc))]) in_M tok_M nok_M 0 rfl rfl 2 (by decide) (zk_m tw_122) rfl rfl rfl rfl (Nat.le_of_ble_eq_true rfl) d_M_turn_38 rfl ?_
    refine zk_goto (pc := 41) X (tgt := 84) d_M_turn_41 (by decide) ?_
    exact zk_vret (pc := 84) X hQ hRt hLk (target, mi, me) hq.symm [0, 1, 2] rfl (by decide) d_M_turn_84
  · have hq := hq.trans (if_neg h1_5)
    rcases Decidable.em (o = 6) with h1_6 | h1_6
    · have hq := hq.trans (if_pos h1_6)
      refine zk_lookup (pc := 1) X (tgt := 44) (off := 43) d_M_turn_1 (by decide) (by rw [h1_6]; try rfl) (by decide) ?_
      refine zk_iload_n (pc := 44) X d_M_turn_44 rfl (q := 2) rfl ?_
      refine zk_if_ne (pc := 45) X (tgt := 84) d_M_turn_45 (by decide) (fun h45 => ?_) (fun h45 => ?_)
      · have hq := hq.trans (if_neg h45)
        exact zk_vret (pc := 84) X hQ hRt hLk (mp, mi, me) hq.symm [0, 1, 2] rfl (by decide) d_M_turn_84
      · have hq := hq.trans (if_pos h45)
        refine zk_aload_n (pc := 48) X d_M_turn_48 rfl (q := 0) rfl ?_
        refine zk_iload_n (pc := 49) X d_M_turn_49 rfl (q := 3) rfl ?_
        refine zk_put (pc := 50) X (ty := .int) (v := .int target) (ws' := [(hm, .inr (5, [.ref mr, .ref mc, .int target, .int mb, .int mi, .int me, .int ml, .int mo, .int mt, .int (nI mS)])), (mr, .inl (cmr, 4, .inl fr)), (mc, .inl (cmc, 32, .inl fc))]) in_M tok_M nok_M 0 rfl rfl 2 (by decide) (zk_m tw_122) rfl rfl rfl rfl (Nat.le_of_ble_eq_true rfl) d_M_turn_50 rfl ?_
        refine zk_goto (pc := 53) X (tgt := 84) d_M_turn_53 (by decide) ?_
        exact zk_vret (pc := 84) X hQ hRt hLk (target, mi, me) hq.symm [0, 1, 2] rfl (by decide) d_M_turn_84
    · have hq := hq.trans (if_neg h1_6)
      rcases Decidable.em (o = 11) with h1_11 | h1_11
      · have hq := hq.trans (if_pos h1_11)
        refine zk_lookup (pc := 1) X (tgt := 56) (off := 55) d_M_turn_1 (by decide) (by rw [h1_11]; try rfl) (by decide) ?_
        refine zk_aload_n (pc := 56) X d_M_turn_56 rfl (q := 0) rfl ?_
        refine zk_get (pc := 57) X (ci := 5) (v := .int mi) in_M 0 rfl rfl 4 (by decide) (zk_m tw_124) rfl d_M_turn_57 ?_
        refine zk_if_eq (pc := 60) X (tgt := 84) d_M_turn_60 (by decide) (fun h60 => ?_) (fun h60 => ?_)
        · have hq := hq.trans (if_pos h60)
          exact zk_vret (pc := 84) X hQ hRt hLk (mp, mi, me) hq.symm [0, 1, 2] rfl (by decide) d_M_turn_84
        · have hq := hq.trans (if_neg h60)
          refine zk_aload_n (pc := 63) X d_M_turn_63 rfl (q := 0) rfl ?_
          refine zk_aload_n (pc := 64) X d_M_turn_64 rfl (q := 0) rfl ?_
          refine zk_get (pc := 65) X (ci := 5) (v := .int mb) in_M 0 rfl rfl 3 (by decide) (zk_m tw_123) rfl d_M_turn_65 ?_
          refine zk_put (pc := 68) X (ty := .int) (v := .int mb) (ws' := [(hm, .inr (5, [.ref mr, .ref mc, .int mb, .int mb, .int mi, .int me, .int ml, .int mo, .int mt, .int (nI mS)])), (mr, .inl (cmr, 4, .inl fr)), (mc, .inl (cmc, 32, .inl fc))]) in_M tok_M nok_M 0 rfl rfl 2 (by decide) (zk_m tw_122) rfl rfl rfl rfl (Nat.le_of_ble_eq_true rfl) d_M_turn_68 rfl ?_
          refine zk_aload_n (pc := 71) X d_M_turn_71 rfl (q := 0) rfl ?_
          refine zk_iconst (pc := 72) X (v := 0) d_M_turn_72 rfl ?_
          refine zk_put (pc := 73) X (ty := .boolean) (v := .int 0) (ws' := [(hm, .inr (5, [.ref mr, .ref mc, .int mb, .int mb, .int 0, .int me, .int ml, .int mo, .int mt, .int (nI mS)])), (mr, .inl (cmr, 4, .inl fr)), (mc, .inl (cmc, 32, .inl fc))]) in_M tok_M nok_M 0 rfl rfl 4 (by decide) (zk_m tw_124) rfl rfl rfl rfl (Nat.le_of_ble_eq_true rfl) d_M_turn_73 rfl ?_
          refine zk_goto (pc := 76) X (tgt := 84) d_M_turn_76 (by decide) ?_
          exact zk_vret (pc := 84) X hQ hRt hLk (mb, 0, me) hq.symm [0, 1, 2] rfl (by decide) d_M_turn_84
      · have hq := hq.trans (if_neg h1_11)
        refine zk_lookup (pc := 1) X (tgt := 79) (off := 78) d_M_turn_1 (by decide) (by show Op.lookupswitch.offset [(5, 35), (6, 43), (11, 55)] 78 _ = _; rw [lv_osw (k := 5) (a := 5) h1_5 (by decide), lv_osw (k := 6) (a := 6) h1_6 (by decide), lv_osw (k := 11) (a := 11) h1_11 (by decide)]; try rfl) (by decide) ?_
        refine zk_aload_n (pc := 79) X d_M_turn_79 rfl (q := 0) rfl ?_
        refine zk_iconst (pc := 80) X (v := 1) d_M_turn_80 rfl ?_
        refine zk_put (pc := 81) X (ty := .boolean) (v := .int 1) (ws' := [(hm, .inr (5, [.ref mr, .ref mc, .int mp, .int mb, .int mi, .int 1, .int ml, .int mo, .int mt, .int (nI mS)])), (mr, .inl (cmr, 4, .inl fr)), (mc, .inl (cmc, 32, .inl fc))]) in_M tok_M nok_M 0 rfl rfl 5 (by decide) (zk_m tw_125) rfl rfl rfl rfl (Nat.le_of_ble_eq_true rfl) d_M_turn_81 rfl ?_
        exact zk_vret (pc := 84) X hQ hRt hLk (mp, mi, 1) hq.symm [0, 1, 2] rfl (by decide) d_M_turn_84
def sp_M_followTrace_14 (fr : Nat → Int32) (mo : Int32) (mt : Int32) : Nat → Int32 → Nat → Int32
  | 0, h, j => mt
  | fuel + 1, h, j =>
    if 4 ≤ j then
      (sp_X_mix h mo)
    else
      sp_M_followTrace_14 fr mo mt fuel (sp_X_mix h (fr j)) (j + 1)
def sp_M_followTrace (fr : Nat → Int32) (mp : Int32) (mo : Int32) (mt : Int32) : Int32 :=
  sp_M_followTrace_14 fr mo mt 5 (sp_X_mix mt mp) 0
abbrev rm_M_followTrace : Room := { frames := 1, cells := 0, slots := 0, locals := 21 }
set_option maxHeartbeats 4000000 in
set_option maxRecDepth 100000 in
theorem c_M_followTrace (l : Launch) (dC : Nat → ClassId) (dI : Nat → Nat → Nat) (hm mr mc : Nat) (cmr cmc : ClassId) (fr : Nat → Int32) (fc : Nat → Int32) (mp : Int32) (mb : Int32) (mi : Int32) (me : Int32) (ml : Int32) (mo : Int32) (mt : Int32) (mS : Nat) : zk_Cv l y_M_followTrace w_M_followTrace rm_M_followTrace (dC, dI) vwCl [.ref hm] [(hm, .inr (5, [.ref mr, .ref mc, .int mp, .int mb, .int mi, .int me, .int ml, .int mo, .int mt, .int (nI mS)])), (mr, .inl (cmr, 4, .inl fr)), (mc, .inl (cmc, 32, .inl fc))] [(cmr, .int), (cmc, .int)] (fun (u : Int32) => u = sp_M_followTrace fr mp mo mt) (fun u => [(hm, .inr (5, [.ref mr, .ref mc, .int mp, .int mb, .int mi, .int me, .int ml, .int mo, .int u, .int (nI mS)])), (mr, .inl (cmr, 4, .inl fr)), (mc, .inl (cmc, 32, .inl fc))]) := by
  refine zk_enterv (cc := b_M_followTrace) (maxL := 3) (ret := none) (by decide) rfl (Nat.le_of_ble_eq_true rfl) ?_
  intro p e s m args below meth c A Q hQ X hRt hLk
  have cut14 : ∀ (fuel : Nat) (h : Int32) (j : Nat), j ≤ 4 → 4 - j < fuel → sp_M_followTrace fr mp mo mt = sp_M_followTrace_14 fr mo mt fuel h j → zk_Z p l e rm_M_followTrace s m args below meth c Q A (dC, dI) vwCl 3 0 0 [(hm, .inr (5, [.ref mr, .ref mc, .int mp, .int mb, .int mi, .int me, .int ml, .int mo, .int mt, .int (nI mS)])), (mr, .inl (cmr, 4, .inl fr)), (mc, .inl (cmc, 32, .inl fc))] [(0, .ref hm), (1, .int h), (2, .int (nI j))] [] 14 := by
    intro fuel
    induction fuel with
    | zero => intro h j hjj hMs; exact absurd hMs (Nat.not_lt_zero _)
    | succ fuel ih =>
      intro h j hjj hMs hq
      rw [sp_M_followTrace_14] at hq
      refine zk_iload_n (pc := 14) X d_M_followTrace_14 rfl (q := 2) rfl ?_
      refine zk_iconst (pc := 15) X (v := 4) d_M_followTrace_15 rfl ?_
      refine zk_icmpN_ge (pc := 16) X (tgt := 36) (j) (4) rfl rfl (by omega) (by omega) d_M_followTrace_16 (by decide) (fun h16 => ?_) (fun h16 => ?_)
      · have hq := hq.trans (if_pos h16)
        refine zk_aload_n (pc := 36) X d_M_followTrace_36 rfl (q := 0) rfl ?_
        refine zk_iload_n (pc := 37) X d_M_followTrace_37 rfl (q := 1) rfl ?_
        refine zk_aload_n (pc := 38) X d_M_followTrace_38 rfl (q := 0) rfl ?_
        refine zk_get (pc := 39) X (ci := 5) (v := .int mo) in_M 0 rfl rfl 7 (by decide) (zk_m tw_127) rfl d_M_followTrace_39 ?_
        refine zk_calli (pc := 42) X (wc := []) (wr := [(hm, .inr (5, [.ref mr, .ref mc, .int mp, .int mb, .int mi, .int me, .int ml, .int mo, .int mt, .int (nI mS)])), (mr, .inl (cmr, 4, .inl fr)), (mc, .inl (cmc, 32, .inl fc))]) [] [0, 1, 2] rfl rfl (by decide) (by decide) (by decide) (zk_runSN X (tysC := []) (As := [.int h, .int mo]) (rest := [.ref hm]) (c_X_mix l dC dI h mo) [] rfl ⟨va_cnB 2 X.1.2.2.2.2 (zk_goodT tw_233) rfl rfl rfl X.2.2.2.2.2.2.2.2.2.2.2 (X.1.2.2.2.2 _ (zk_m tw_1)) (by decide +kernel) ⟨Nat.le_of_ble_eq_true rfl, Nat.le_of_ble_eq_true rfl⟩, X.1.2.2.2.2 _ (zk_m tw_232), trivial⟩ rfl rfl (Nat.le_of_ble_eq_true rfl) ⟨Nat.zero_le _, Nat.zero_le _⟩ d_M_followTrace_42) ?_
        rintro r42 ⟨⟩ w42
        refine zk_ws (ws' := [(hm, .inr (5, [.ref mr, .ref mc, .int mp, .int mb, .int mi, .int me, .int ml, .int mo, .int mt, .int (nI mS)])), (mr, .inl (cmr, 4, .inl fr)), (mc, .inl (cmc, 32, .inl fc))]) rfl ?_
        subst w42
        refine zk_put (pc := 45) X (ty := .int) (v := .int (sp_X_mix h mo)) (ws' := [(hm, .inr (5, [.ref mr, .ref mc, .int mp, .int mb, .int mi, .int me, .int ml, .int mo, .int (sp_X_mix h mo), .int (nI mS)])), (mr, .inl (cmr, 4, .inl fr)), (mc, .inl (cmc, 32, .inl fc))]) in_M tok_M nok_M 0 rfl rfl 8 (by decide) (zk_m tw_128) rfl rfl rfl rfl (Nat.le_of_ble_eq_true rfl) d_M_followTrace_45 rfl ?_
        exact zk_vret (pc := 48) X hQ hRt hLk (sp_X_mix h mo) hq.symm [0, 1, 2] rfl (by decide) d_M_followTrace_48
      · have hq := hq.trans (if_neg h16)
        refine zk_iload_n (pc := 19) X d_M_followTrace_19 rfl (q := 1) rfl ?_
        refine zk_aload_n (pc := 20) X d_M_followTrace_20 rfl (q := 0) rfl ?_
        refine zk_get (pc := 21) X (ci := 5) (v := .ref mr) in_M 0 rfl rfl 0 (by decide) (zk_m tw_120) rfl d_M_followTrace_21 ?_
        refine zk_iload_n (pc := 24) X d_M_followTrace_24 rfl (q := 2) rfl ?_
        refine zk_iald (pc := 25) X 1 0 (j) rfl rfl rfl (by omega) (by decide) d_M_followTrace_25 ?_
        refine zk_calli (pc := 26) X (wc := []) (wr := [(hm, .inr (5, [.ref mr, .ref mc, .int mp, .int mb, .int mi, .int me, .int ml, .int mo, .int mt, .int (nI mS)])), (mr, .inl (cmr, 4, .inl fr)), (mc, .inl (cmc, 32, .inl fc))]) [] [0, 1, 2] rfl rfl (by decide) (by decide) (by decide) (zk_runSN X (tysC := []) (As := [.int h, .int (fr j)]) (rest := []) (c_X_mix l dC dI h (fr j)) [] rfl ⟨va_cnB 2 X.1.2.2.2.2 (zk_goodT tw_233) rfl rfl rfl X.2.2.2.2.2.2.2.2.2.2.2 (X.1.2.2.2.2 _ (zk_m tw_1)) (by decide +kernel) ⟨Nat.le_of_ble_eq_true rfl, Nat.le_of_ble_eq_true rfl⟩, X.1.2.2.2.2 _ (zk_m tw_232), trivial⟩ rfl rfl (Nat.le_of_ble_eq_true rfl) ⟨Nat.zero_le _, Nat.zero_le _⟩ d_M_followTrace_26) ?_
        rintro r26 ⟨⟩ w26
        refine zk_ws (ws' := [(hm, .inr (5, [.ref mr, .ref mc, .int mp, .int mb, .int mi, .int me, .int ml, .int mo, .int mt, .int (nI mS)])), (mr, .inl (cmr, 4, .inl fr)), (mc, .inl (cmc, 32, .inl fc))]) rfl ?_
        subst w26
        refine zk_istore_n (pc := 29) X (i := 1) (lv' := [(1, .int (sp_X_mix h (fr j))), (0, .ref hm), (2, .int (nI j))]) d_M_followTrace_29 rfl (by decide) rfl ?_
        refine zk_iinc (pc := 30) X (k0 := 2) (v := nI (j + 1)) (lv' := [(2, .int (nI (j + 1))), (1, .int (sp_X_mix h (fr j))), (0, .ref hm)]) d_M_followTrace_30 rfl (nI_add (j) 1) (by decide) rfl ?_
        refine zk_goto (pc := 33) X (tgt := 14) d_M_followTrace_33 (by decide) ?_
        refine zk_lv (lv' := [(0, .ref hm), (1, .int (sp_X_mix h (fr j))), (2, .int (nI (j + 1)))]) [2, 1, 0] rfl ?_
        exact ih (sp_X_mix h (fr j)) (j + 1) (by omega) (by omega) hq
  have hq := sp_M_followTrace.eq_1 fr mp mo mt
  refine zk_lv (lv' := [(0, .ref hm)]) [0] rfl ?_
  refine zk_aload_n (pc := 0) X d_M_followTrace_0 rfl (q := 0) rfl ?_
  refine zk_get (pc := 1) X (ci := 5) (v := .int mt) in_M 0 rfl rfl 8 (by decide) (zk_m tw_128) rfl d_M_followTrace_1 ?_
  refine zk_aload_n (pc := 4) X d_M_followTrace_4 rfl (q := 0) rfl ?_
  refine zk_get (pc := 5) X (ci := 5) (v := .int mp) in_M 0 rfl rfl 2 (by decide) (zk_m tw_122) rfl d_M_followTrace_5 ?_
  refine zk_calli (pc := 8) X (wc := []) (wr := [(hm, .inr (5, [.ref mr, .ref mc, .int mp, .int mb, .int mi, .int me, .int ml, .int mo, .int mt, .int (nI mS)])), (mr, .inl (cmr, 4, .inl fr)), (mc, .inl (cmc, 32, .inl fc))]) [] [0, 1, 2] rfl rfl (by decide) (by decide) (by decide) (zk_runSN X (tysC := []) (As := [.int mt, .int mp]) (rest := []) (c_X_mix l dC dI mt mp) [] rfl ⟨va_cnB 2 X.1.2.2.2.2 (zk_goodT tw_233) rfl rfl rfl X.2.2.2.2.2.2.2.2.2.2.2 (X.1.2.2.2.2 _ (zk_m tw_1)) (by decide +kernel) ⟨Nat.le_of_ble_eq_true rfl, Nat.le_of_ble_eq_true rfl⟩, X.1.2.2.2.2 _ (zk_m tw_232), trivial⟩ rfl rfl (Nat.le_of_ble_eq_true rfl) ⟨Nat.zero_le _, Nat.zero_le _⟩ d_M_followTrace_8) ?_
  rintro r8 ⟨⟩ w8
  refine zk_ws (ws' := [(hm, .inr (5, [.ref mr, .ref mc, .int mp, .int mb, .int mi, .int me, .int ml, .int mo, .int mt, .int (nI mS)])), (mr, .inl (cmr, 4, .inl fr)), (mc, .inl (cmc, 32, .inl fc))]) rfl ?_
  subst w8
  refine zk_istore_n (pc := 11) X (i := 1) (lv' := [(1, .int (sp_X_mix mt mp)), (0, .ref hm)]) d_M_followTrace_11 rfl (by decide) rfl ?_
  refine zk_iconst (pc := 12) X (v := 0) d_M_followTrace_12 rfl ?_
  refine zk_istore_n (pc := 13) X (i := 2) (lv' := [(2, .int 0), (1, .int (sp_X_mix mt mp)), (0, .ref hm)]) d_M_followTrace_13 rfl (by decide) rfl ?_
  refine zk_lv (lv' := [(0, .ref hm), (1, .int (sp_X_mix mt mp)), (2, .int 0)]) [2, 1, 0] rfl ?_
  exact cut14 (5) (sp_X_mix mt mp) 0 (by omega) (by omega) hq
def sp_M_stateOf (i : Int32) (fr : Nat → Int32) (mp : Int32) (mi : Int32) (me : Int32) (mo : Int32) (mt : Int32) (mS : Nat) : Int32 :=
  if i < 0 then
    if i = 4 then
      mp
    else if i = 5 then
      mo
    else if i = 6 then
      mt
    else if i = 7 then
      if mi = 0 then
        0
      else
        1
    else if i = 8 then
      if me = 0 then
        0
      else
        1
    else if i = 9 then
      nI mS
    else 0
  else
    if (4 : Int32) ≤ i then
      if i = 4 then
        mp
      else if i = 5 then
        mo
      else if i = 6 then
        mt
      else if i = 7 then
        if mi = 0 then
          0
        else
          1
      else if i = 8 then
        if me = 0 then
          0
        else
          1
      else if i = 9 then
        nI mS
      else 0
    else
      (fr i.toNatClampNeg)
abbrev rm_M_stateOf : Room := { frames := 0, cells := 0, slots := 0, locals := 0 }
set_option maxHeartbeats 4000000 in
set_option maxRecDepth 100000 in
theorem c_M_stateOf (l : Launch) (dC : Nat → ClassId) (dI : Nat → Nat → Nat) (hm mr mc : Nat) (cmr cmc : ClassId) (i : Int32) (fr : Nat → Int32) (fc : Nat → Int32) (mp : Int32) (mb : Int32) (mi : Int32) (me : Int32) (ml : Int32) (mo : Int32) (mt : Int32) (mS : Nat) : zk_Ci l y_M_stateOf w_M_stateOf rm_M_stateOf (dC, dI) vwCl [.ref hm, .int i] [(hm, .inr (5, [.ref mr, .ref mc, .int mp, .int mb, .int mi, .int me, .int ml, .int mo, .int mt, .int (nI mS)])), (mr, .inl (cmr, 4, .inl fr)), (mc, .inl (cmc, 32, .inl fc))] [(cmr, .int), (cmc, .int)] (fun (r : Int32) (u : Unit) => r = sp_M_stateOf i fr mp mi me mo mt mS) (fun _ => [(hm, .inr (5, [.ref mr, .ref mc, .int mp, .int mb, .int mi, .int me, .int ml, .int mo, .int mt, .int (nI mS)])), (mr, .inl (cmr, 4, .inl fr)), (mc, .inl (cmc, 32, .inl fc))]) := by
  refine zk_enteri (cc := b_M_stateOf) (maxL := 2) (ret := some .int) (by decide) rfl (Nat.le_of_ble_eq_true rfl) ?_
  intro p e s m args below meth c A Q hQ X hRt hLk
  have hq := sp_M_stateOf.eq_1 i fr mp mi me mo mt mS
  refine zk_lv (lv' := [(0, .ref hm), (1, .int i)]) [0, 1] rfl ?_
  refine zk_iload_n (pc := 0) X d_M_stateOf_0 rfl (q := 1) rfl ?_
  refine zk_if_lt (pc := 1) X (tgt := 16) d_M_stateOf_1 (by decide) (fun h1 => ?_) (fun h1 => ?_)
  · have hq := hq.trans (if_pos h1)
    refine zk_iload_n (pc := 16) X d_M_stateOf_16 rfl (q := 1) rfl ?_
    rcases Decidable.em (i = 4) with h17_4 | h17_4
    · have hq := hq.trans (if_pos h17_4)
      refine zk_tableIn (pc := 17) X (tgt := 56) 4 h17_4 d_M_stateOf_17 (by decide) (by decide) rfl (by decide) ?_
      refine zk_aload_n (pc := 56) X d_M_stateOf_56 rfl (q := 0) rfl ?_
      refine zk_get (pc := 57) X (ci := 5) (v := .int mp) in_M 0 rfl rfl 2 (by decide) (zk_m tw_122) rfl d_M_stateOf_57 ?_
      exact zk_iret (pc := 60) X hQ hRt hLk () hq.symm [0, 1, 2] rfl (by decide) d_M_stateOf_60
    · have hq := hq.trans (if_neg h17_4)
      rcases Decidable.em (i = 5) with h17_5 | h17_5
      · have hq := hq.trans (if_pos h17_5)
        refine zk_tableIn (pc := 17) X (tgt := 61) 5 h17_5 d_M_stateOf_17 (by decide) (by decide) rfl (by decide) ?_
        refine zk_aload_n (pc := 61) X d_M_stateOf_61 rfl (q := 0) rfl ?_
        refine zk_get (pc := 62) X (ci := 5) (v := .int mo) in_M 0 rfl rfl 7 (by decide) (zk_m tw_127) rfl d_M_stateOf_62 ?_
        exact zk_iret (pc := 65) X hQ hRt hLk () hq.symm [0, 1, 2] rfl (by decide) d_M_stateOf_65
      · have hq := hq.trans (if_neg h17_5)
        rcases Decidable.em (i = 6) with h17_6 | h17_6
        · have hq := hq.trans (if_pos h17_6)
          refine zk_tableIn (pc := 17) X (tgt := 66) 6 h17_6 d_M_stateOf_17 (by decide) (by decide) rfl (by decide) ?_
          refine zk_aload_n (pc := 66) X d_M_stateOf_66 rfl (q := 0) rfl ?_
          refine zk_get (pc := 67) X (ci := 5) (v := .int mt) in_M 0 rfl rfl 8 (by decide) (zk_m tw_128) rfl d_M_stateOf_67 ?_
          exact zk_iret (pc := 70) X hQ hRt hLk () hq.symm [0, 1, 2] rfl (by decide) d_M_stateOf_70
        · have hq := hq.trans (if_neg h17_6)
          rcases Decidable.em (i = 7) with h17_7 | h17_7
          · have hq := hq.trans (if_pos h17_7)
            refine zk_tableIn (pc := 17) X (tgt := 71) 7 h17_7 d_M_stateOf_17 (by decide) (by decide) rfl (by decide) ?_
            refine zk_aload_n (pc := 71) X d_M_stateOf_71 rfl (q := 0) rfl ?_
            refine zk_get (pc := 72) X (ci := 5) (v := .int mi) in_M 0 rfl rfl 4 (by decide) (zk_m tw_124) rfl d_M_stateOf_72 ?_
            refine zk_if_eq (pc := 75) X (tgt := 82) d_M_stateOf_75 (by decide) (fun h75 => ?_) (fun h75 => ?_)
            · have hq := hq.trans (if_pos h75)
              refine zk_iconst (pc := 82) X (v := 0) d_M_stateOf_82 rfl ?_
              exact zk_iret (pc := 83) X hQ hRt hLk () hq.symm [0, 1, 2] rfl (by decide) d_M_stateOf_83
            · have hq := hq.trans (if_neg h75)
              refine zk_iconst (pc := 78) X (v := 1) d_M_stateOf_78 rfl ?_
              refine zk_goto (pc := 79) X (tgt := 83) d_M_stateOf_79 (by decide) ?_
              exact zk_iret (pc := 83) X hQ hRt hLk () hq.symm [0, 1, 2] rfl (by decide) d_M_stateOf_83
          · have hq := hq.trans (if_neg h17_7)
            rcases Decidable.em (i = 8) with h17_8 | h17_8
            · have hq := hq.trans (if_pos h17_8)
              refine zk_tableIn (pc := 17) X (tgt := 84) 8 h17_8 d_M_stateOf_17 (by decide) (by decide) rfl (by decide) ?_
              refine zk_aload_n (pc := 84) X d_M_stateOf_84 rfl (q := 0) rfl ?_
              refine zk_get (pc := 85) X (ci := 5) (v := .int me) in_M 0 rfl rfl 5 (by decide) (zk_m tw_125) rfl d_M_stateOf_85 ?_
              refine zk_if_eq (pc := 88) X (tgt := 95) d_M_stateOf_88 (by decide) (fun h88 => ?_) (fun h88 => ?_)
              · have hq := hq.trans (if_pos h88)
                refine zk_iconst (pc := 95) X (v := 0) d_M_stateOf_95 rfl ?_
                exact zk_iret (pc := 96) X hQ hRt hLk () hq.symm [0, 1, 2] rfl (by decide) d_M_stateOf_96
              · have hq := hq.trans (if_neg h88)
                refine zk_iconst (pc := 91) X (v := 1) d_M_stateOf_91 rfl ?_
                refine zk_goto (pc := 92) X (tgt := 96) d_M_stateOf_92 (by decide) ?_
                exact zk_iret (pc := 96) X hQ hRt hLk () hq.symm [0, 1, 2] rfl (by decide) d_M_stateOf_96
            · have hq := hq.trans (if_neg h17_8)
              rcases Decidable.em (i = 9) with h17_9 | h17_9
              · have hq := hq.trans (if_pos h17_9)
                refine zk_tableIn (pc := 17) X (tgt := 97) 9 h17_9 d_M_stateOf_17 (by decide) (by decide) rfl (by decide) ?_
                refine zk_aload_n (pc := 97) X d_M_stateOf_97 rfl (q := 0) rfl ?_
                refine zk_get (pc := 98) X (ci := 5) (v := .int (nI mS)) in_M 0 rfl rfl 9 (by decide) (zk_m tw_129) rfl d_M_stateOf_98 ?_
                exact zk_iret (pc := 101) X hQ hRt hLk () hq.symm [0, 1, 2] rfl (by decide) d_M_stateOf_101
              · have hq := hq.trans (if_neg h17_9)
                refine zk_tableOut (pc := 17) X (tgt := 102) d_M_stateOf_17 (by have g0 := lv_neT (k := 4) (a := 4) h17_4 (by decide); have g1 := lv_neT (k := 5) (a := 5) h17_5 (by decide); have g2 := lv_neT (k := 6) (a := 6) h17_6 (by decide); have g3 := lv_neT (k := 7) (a := 7) h17_7 (by decide); have g4 := lv_neT (k := 8) (a := 8) h17_8 (by decide); have g5 := lv_neT (k := 9) (a := 9) h17_9 (by decide); omega) (by decide) ?_
                refine zk_iconst (pc := 102) X (v := 0) d_M_stateOf_102 rfl ?_
                exact zk_iret (pc := 103) X hQ hRt hLk () hq.symm [0, 1, 2] rfl (by decide) d_M_stateOf_103
  · have hq := hq.trans (if_neg h1)
    refine zk_iload_n (pc := 4) X d_M_stateOf_4 rfl (q := 1) rfl ?_
    refine zk_iconst (pc := 5) X (v := 4) d_M_stateOf_5 rfl ?_
    refine zk_icmp_ge (pc := 6) X (tgt := 16) d_M_stateOf_6 (by decide) (fun h6 => ?_) (fun h6 => ?_)
    · have hq := hq.trans (if_pos h6)
      refine zk_iload_n (pc := 16) X d_M_stateOf_16 rfl (q := 1) rfl ?_
      rcases Decidable.em (i = 4) with h17_4 | h17_4
      · have hq := hq.trans (if_pos h17_4)
        refine zk_tableIn (pc := 17) X (tgt := 56) 4 h17_4 d_M_stateOf_17 (by decide) (by decide) rfl (by decide) ?_
        refine zk_aload_n (pc := 56) X d_M_stateOf_56 rfl (q := 0) rfl ?_
        refine zk_get (pc := 57) X (ci := 5) (v := .int mp) in_M 0 rfl rfl 2 (by decide) (zk_m tw_122) rfl d_M_stateOf_57 ?_
        exact zk_iret (pc := 60) X hQ hRt hLk () hq.symm [0, 1, 2] rfl (by decide) d_M_stateOf_60
      · have hq := hq.trans (if_neg h17_4)
        rcases Decidable.em (i = 5) with h17_5 | h17_5
        · have hq := hq.trans (if_pos h17_5)
          refine zk_tableIn (pc := 17) X (tgt := 61) 5 h17_5 d_M_stateOf_17 (by decide) (by decide) rfl (by decide) ?_
          refine zk_aload_n (pc := 61) X d_M_stateOf_61 rfl (q := 0) rfl ?_
          refine zk_get (pc := 62) X (ci := 5) (v := .int mo) in_M 0 rfl rfl 7 (by decide) (zk_m tw_127) rfl d_M_stateOf_62 ?_
          exact zk_iret (pc := 65) X hQ hRt hLk () hq.symm [0, 1, 2] rfl (by decide) d_M_stateOf_65
        · have hq := hq.trans (if_neg h17_5)
          rcases Decidable.em (i = 6) with h17_6 | h17_6
          · have hq := hq.trans (if_pos h17_6)
            refine zk_tableIn (pc := 17) X (tgt := 66) 6 h17_6 d_M_stateOf_17 (by decide) (by decide) rfl (by decide) ?_
            refine zk_aload_n (pc := 66) X d_M_stateOf_66 rfl (q := 0) rfl ?_
            refine zk_get (pc := 67) X (ci := 5) (v := .int mt) in_M 0 rfl rfl 8 (by decide) (zk_m tw_128) rfl d_M_stateOf_67 ?_
            exact zk_iret (pc := 70) X hQ hRt hLk () hq.symm [0, 1, 2] rfl (by decide) d_M_stateOf_70
          · have hq := hq.trans (if_neg h17_6)
            rcases Decidable.em (i = 7) with h17_7 | h17_7
            · have hq := hq.trans (if_pos h17_7)
              refine zk_tableIn (pc := 17) X (tgt := 71) 7 h17_7 d_M_stateOf_17 (by decide) (by decide) rfl (by decide) ?_
              refine zk_aload_n (pc := 71) X d_M_stateOf_71 rfl (q := 0) rfl ?_
              refine zk_get (pc := 72) X (ci := 5) (v := .int mi) in_M 0 rfl rfl 4 (by decide) (zk_m tw_124) rfl d_M_stateOf_72 ?_
              refine zk_if_eq (pc := 75) X (tgt := 82) d_M_stateOf_75 (by decide) (fun h75 => ?_) (fun h75 => ?_)
              · have hq := hq.trans (if_pos h75)
                refine zk_iconst (pc := 82) X (v := 0) d_M_stateOf_82 rfl ?_
                exact zk_iret (pc := 83) X hQ hRt hLk () hq.symm [0, 1, 2] rfl (by decide) d_M_stateOf_83
              · have hq := hq.trans (if_neg h75)
                refine zk_iconst (pc := 78) X (v := 1) d_M_stateOf_78 rfl ?_
                refine zk_goto (pc := 79) X (tgt := 83) d_M_stateOf_79 (by decide) ?_
                exact zk_iret (pc := 83) X hQ hRt hLk () hq.symm [0, 1, 2] rfl (by decide) d_M_stateOf_83
            · have hq := hq.trans (if_neg h17_7)
              rcases Decidable.em (i = 8) with h17_8 | h17_8
              · have hq := hq.trans (if_pos h17_8)
                refine zk_tableIn (pc := 17) X (tgt := 84) 8 h17_8 d_M_stateOf_17 (by decide) (by decide) rfl (by decide) ?_
                refine zk_aload_n (pc := 84) X d_M_stateOf_84 rfl (q := 0) rfl ?_
                refine zk_get (pc := 85) X (ci := 5) (v := .int me) in_M 0 rfl rfl 5 (by decide) (zk_m tw_125) rfl d_M_stateOf_85 ?_
                refine zk_if_eq (pc := 88) X (tgt := 95) d_M_stateOf_88 (by decide) (fun h88 => ?_) (fun h88 => ?_)
                · have hq := hq.trans (if_pos h88)
                  refine zk_iconst (pc := 95) X (v := 0) d_M_stateOf_95 rfl ?_
                  exact zk_iret (pc := 96) X hQ hRt hLk () hq.symm [0, 1, 2] rfl (by decide) d_M_stateOf_96
                · have hq := hq.trans (if_neg h88)
                  refine zk_iconst (pc := 91) X (v := 1) d_M_stateOf_91 rfl ?_
                  refine zk_goto (pc := 92) X (tgt := 96) d_M_stateOf_92 (by decide) ?_
                  exact zk_iret (pc := 96) X hQ hRt hLk () hq.symm [0, 1, 2] rfl (by decide) d_M_stateOf_96
              · have hq := hq.trans (if_neg h17_8)
                rcases Decidable.em (i = 9) with h17_9 | h17_9
                · have hq := hq.trans (if_pos h17_9)
                  refine zk_tableIn (pc := 17) X (tgt := 97) 9 h17_9 d_M_stateOf_17 (by decide) (by decide) rfl (by decide) ?_
                  refine zk_aload_n (pc := 97) X d_M_stateOf_97 rfl (q := 0) rfl ?_
                  refine zk_get (pc := 98) X (ci := 5) (v := .int (nI mS)) in_M 0 rfl rfl 9 (by decide) (zk_m tw_129) rfl d_M_stateOf_98 ?_
                  exact zk_iret (pc := 101) X hQ hRt hLk () hq.symm [0, 1, 2] rfl (by decide) d_M_stateOf_101
                · have hq := hq.trans (if_neg h17_9)
                  refine zk_tableOut (pc := 17) X (tgt := 102) d_M_stateOf_17 (by have g0 := lv_neT (k := 4) (a := 4) h17_4 (by decide); have g1 := lv_neT (k := 5) (a := 5) h17_5 (by decide); have g2 := lv_neT (k := 6) (a := 6) h17_6 (by decide); have g3 := lv_neT (k := 7) (a := 7) h17_7 (by decide); have g4 := lv_neT (k := 8) (a := 8) h17_8 (by decide); have g5 := lv_neT (k := 9) (a := 9) h17_9 (by decide); omega) (by decide) ?_
                  refine zk_iconst (pc := 102) X (v := 0) d_M_stateOf_102 rfl ?_
                  exact zk_iret (pc := 103) X hQ hRt hLk () hq.symm [0, 1, 2] rfl (by decide) d_M_stateOf_103
    · have hq := hq.trans (if_neg h6)
      refine zk_aload_n (pc := 9) X d_M_stateOf_9 rfl (q := 0) rfl ?_
      refine zk_get (pc := 10) X (ci := 5) (v := .ref mr) in_M 0 rfl rfl 0 (by decide) (zk_m tw_120) rfl d_M_stateOf_10 ?_
      refine zk_iload_n (pc := 13) X d_M_stateOf_13 rfl (q := 1) rfl ?_
      refine zk_iald (pc := 14) X 1 0 (i.toNatClampNeg) rfl rfl (zk_iI h1) (zk_iL h1 h6) (by decide) d_M_stateOf_14 ?_
      exact zk_iret (pc := 15) X hQ hRt hLk () hq.symm [0, 1, 2] rfl (by decide) d_M_stateOf_15
def sp_M_cellOf (i : Int32) (fc : Nat → Int32) : Int32 :=
  if i < 0 then
    0
  else
    if (32 : Int32) ≤ i then
      0
    else
      (fc i.toNatClampNeg)
abbrev rm_M_cellOf : Room := { frames := 0, cells := 0, slots := 0, locals := 0 }
set_option maxHeartbeats 4000000 in
set_option maxRecDepth 100000 in
theorem c_M_cellOf (l : Launch) (dC : Nat → ClassId) (dI : Nat → Nat → Nat) (hm mr mc : Nat) (cmr cmc : ClassId) (i : Int32) (fr : Nat → Int32) (fc : Nat → Int32) (mp : Int32) (mb : Int32) (mi : Int32) (me : Int32) (ml : Int32) (mo : Int32) (mt : Int32) (mS : Nat) : zk_Ci l y_M_cellOf w_M_cellOf rm_M_cellOf (dC, dI) vwCl [.ref hm, .int i] [(hm, .inr (5, [.ref mr, .ref mc, .int mp, .int mb, .int mi, .int me, .int ml, .int mo, .int mt, .int (nI mS)])), (mr, .inl (cmr, 4, .inl fr)), (mc, .inl (cmc, 32, .inl fc))] [(cmr, .int), (cmc, .int)] (fun (r : Int32) (u : Unit) => r = sp_M_cellOf i fc) (fun _ => [(hm, .inr (5, [.ref mr, .ref mc, .int mp, .int mb, .int mi, .int me, .int ml, .int mo, .int mt, .int (nI mS)])), (mr, .inl (cmr, 4, .inl fr)), (mc, .inl (cmc, 32, .inl fc))]) := by
  refine zk_enteri (cc := b_M_cellOf) (maxL := 2) (ret := some .int) (by decide) rfl (Nat.le_of_ble_eq_true rfl) ?_
  intro p e s m args below meth c A Q hQ X hRt hLk
  have hq := sp_M_cellOf.eq_1 i fc
  refine zk_lv (lv' := [(0, .ref hm), (1, .int i)]) [0, 1] rfl ?_
  refine zk_iload_n (pc := 0) X d_M_cellOf_0 rfl (q := 1) rfl ?_
  refine zk_if_lt (pc := 1) X (tgt := 19) d_M_cellOf_1 (by decide) (fun h1 => ?_) (fun h1 => ?_)
  · have hq := hq.trans (if_pos h1)
    refine zk_iconst (pc := 19) X (v := 0) d_M_cellOf_19 rfl ?_
    exact zk_iret (pc := 20) X hQ hRt hLk () hq.symm [0, 1, 2] rfl (by decide) d_M_cellOf_20
  · have hq := hq.trans (if_neg h1)
    refine zk_iload_n (pc := 4) X d_M_cellOf_4 rfl (q := 1) rfl ?_
    refine zk_bipush (pc := 5) X (v := 32) d_M_cellOf_5 (by decide) ?_
    refine zk_icmp_ge (pc := 7) X (tgt := 19) d_M_cellOf_7 (by decide) (fun h7 => ?_) (fun h7 => ?_)
    · have hq := hq.trans (if_pos h7)
      refine zk_iconst (pc := 19) X (v := 0) d_M_cellOf_19 rfl ?_
      exact zk_iret (pc := 20) X hQ hRt hLk () hq.symm [0, 1, 2] rfl (by decide) d_M_cellOf_20
    · have hq := hq.trans (if_neg h7)
      refine zk_aload_n (pc := 10) X d_M_cellOf_10 rfl (q := 0) rfl ?_
      refine zk_get (pc := 11) X (ci := 5) (v := .ref mc) in_M 0 rfl rfl 1 (by decide) (zk_m tw_121) rfl d_M_cellOf_11 ?_
      refine zk_iload_n (pc := 14) X d_M_cellOf_14 rfl (q := 1) rfl ?_
      refine zk_iald (pc := 15) X 2 1 (i.toNatClampNeg) rfl rfl (zk_iI h1) (zk_iL32 h1 h7) (by decide) d_M_cellOf_15 ?_
      refine zk_goto (pc := 16) X (tgt := 20) d_M_cellOf_16 (by decide) ?_
      exact zk_iret (pc := 20) X hQ hRt hLk () hq.symm [0, 1, 2] rfl (by decide) d_M_cellOf_20
end
section
def sp_M_performR (o : Int32) (a : Int32) (b : Int32) (fr : Nat → Int32) (fc : Nat → Int32) (mp : Int32) (mb : Int32) (mi : Int32) (me : Int32) (ml : Int32) (mo : Int32) (mS : Nat) (fi : Nat → Int32) (rw : Nat) (rt : Int32) (rc : Int32) (fb : Nat → Int32) (jn : Nat) (jm : Int32) (jS : Int32) (jl : Int32) : (Nat → Int32) × (Nat → Int32) × Int32 × Int32 × Int32 × Int32 × Int32 × (Nat → Int32) × Nat × Int32 × (Nat → Int32) × Nat × Int32 × Int32 × Int32 :=
  if o = 0 then
    ((upd fr (zk_ix3 a) b), fc, mp, mi, me, ml, mo, fi, rw, rt, fb, jn, jm, jS, jl)
  else if o = 1 then
    ((upd fr (zk_ix3 a) ((fr (zk_ix3 a)) + (fr (zk_ix3 b)))), fc, mp, mi, me, ml, mo, fi, rw, rt, fb, jn, jm, jS, jl)
  else if o = 2 then
    ((upd fr (zk_ix3 a) ((fr (zk_ix3 a)) - (fr (zk_ix3 b)))), fc, mp, mi, me, ml, mo, fi, rw, rt, fb, jn, jm, jS, jl)
  else if o = 3 then
    ((upd fr (zk_ix3 a) (fc (zk_ix31 (fr (zk_ix3 b))))), fc, mp, mi, me, ml, mo, fi, rw, rt, fb, jn, jm, jS, jl)
  else if o = 4 then
    (fr, (upd fc (zk_ix31 (fr (zk_ix3 b))) (fr (zk_ix3 a))), mp, mi, me, ml, mo, fi, rw, rt, fb, jn, jm, jS, jl)
  else if o = 5 then
    (match sp_M_turn o (fr (zk_ix3 a)) b mp mb mi me with
    | (mp_258, mi_258, me_258) =>
      (fr, fc, mp_258, mi_258, me_258, ml, mo, fi, rw, rt, fb, jn, jm, jS, jl))
  else if o = 6 then
    (match sp_M_turn o (fr (zk_ix3 a)) b mp mb mi me with
    | (mp_258, mi_258, me_258) =>
      (fr, fc, mp_258, mi_258, me_258, ml, mo, fi, rw, rt, fb, jn, jm, jS, jl))
  else if o = 7 then
    (match sp_R_takeInput (nI mS) fi rw fb jn jm jS jl with
    | (r169, fi_169, rw_169, fb_169, jn_169, jm_169, jS_169, jl_169) =>
      ((upd fr (zk_ix3 a) r169), fc, mp, mi, me, ml, mo, fi_169, rw_169, rt, fb_169, jn_169, jm_169, jS_169, jl_169))
  else if o = 8 then
    (match sp_R_readClock (nI mS) rt rc fb jn jm jS jl with
    | (r188, rt_188, fb_188, jn_188, jm_188, jS_188, jl_188) =>
      ((upd fr (zk_ix3 a) r188), fc, mp, mi, me, ml, mo, fi, rw, rt_188, fb_188, jn_188, jm_188, jS_188, jl_188))
  else if o = 9 then
    ((upd fr (zk_ix3 a) (zf_ushr ((ml * 1103515245) + 12345) 16)), fc, mp, mi, me, ((ml * 1103515245) + 12345), mo, fi, rw, rt, fb, jn, jm, jS, jl)
  else if o = 10 then
    (fr, fc, mp, mi, me, ml, (sp_X_mix mo (fr (zk_ix3 a))), fi, rw, rt, fb, jn, jm, jS, jl)
  else (match sp_M_turn o (fr (zk_ix3 a)) b mp mb mi me with
  | (mp_258, mi_258, me_258) =>
    (fr, fc, mp_258, mi_258, me_258, ml, mo, fi, rw, rt, fb, jn, jm, jS, jl))
abbrev rm_M_performR : Room := { frames := 5, cells := 0, slots := 0, locals := 112 }
set_option maxHeartbeats 4000000 in
set_option maxRecDepth 100000 in
theorem c_M_performR (l : Launch) (dC : Nat → ClassId) (dI : Nat → Nat → Nat) (hm mr mc hr hj ri jb : Nat) (cmr cmc cR cJ : ClassId) (o : Int32) (a : Int32) (b : Int32) (fr : Nat → Int32) (fc : Nat → Int32) (mp : Int32) (mb : Int32) (mi : Int32) (me : Int32) (ml : Int32) (mo : Int32) (mt : Int32) (mS : Nat) (fi : Nat → Int32) (rw : Nat) (rt : Int32) (rq : Int32) (rc : Int32) (fb : Nat → Int32) (jn : Nat) (jm : Int32) (jS : Int32) (jl : Int32) (hrw : rw ≤ 16) (hjn : jn ≤ 300) : zk_Cv l y_M_perform w_M_perform rm_M_performR (dC, dI) vwCl [.ref hm, .int o, .int a, .int b, .ref hr] [(hm, .inr (5, [.ref mr, .ref mc, .int mp, .int mb, .int mi, .int me, .int ml, .int mo, .int mt, .int (nI mS)])), (mr, .inl (cmr, 4, .inl fr)), (mc, .inl (cmc, 32, .inl fc)), (hr, .inr (2, [.ref hj, .ref ri, .int (nI rw), .int rt, .int rq, .int rc])), (ri, .inl (cR, 16, .inl fi)), (hj, .inr (1, [.ref jb, .int (nI jn), .int jm, .int jS, .int jl])), (jb, .inl (cJ, 300, .inl fb))] [(cmr, .int), (cmc, .int), (cR, .int), (cJ, .int)] (fun (u : (Nat → Int32) × (Nat → Int32) × Int32 × Int32 × Int32 × Int32 × Int32 × (Nat → Int32) × Nat × Int32 × (Nat → Int32) × Nat × Int32 × Int32 × Int32) => u = sp_M_performR o a b fr fc mp mb mi me ml mo mS fi rw rt rc fb jn jm jS jl ∧ (u.2.2.2.2.2.2.2.2.1 ≤ 16) ∧ (u.2.2.2.2.2.2.2.2.2.2.2.1 ≤ 300)) (fun u => [(hm, .inr (5, [.ref mr, .ref mc, .int u.2.2.1, .int mb, .int u.2.2.2.1, .int u.2.2.2.2.1, .int u.2.2.2.2.2.1, .int u.2.2.2.2.2.2.1, .int mt, .int (nI mS)])), (mr, .inl (cmr, 4, .inl u.1)), (mc, .inl (cmc, 32, .inl u.2.1)), (hr, .inr (2, [.ref hj, .ref ri, .int (nI u.2.2.2.2.2.2.2.2.1), .int u.2.2.2.2.2.2.2.2.2.1, .int rq, .int rc])), (ri, .inl (cR, 16, .inl u.2.2.2.2.2.2.2.1)), (hj, .inr (1, [.ref jb, .int (nI u.2.2.2.2.2.2.2.2.2.2.2.1), .int u.2.2.2.2.2.2.2.2.2.2.2.2.1, .int u.2.2.2.2.2.2.2.2.2.2.2.2.2.1, .int u.2.2.2.2.2.2.2.2.2.2.2.2.2.2])), (jb, .inl (cJ, 300, .inl u.2.2.2.2.2.2.2.2.2.2.1))]) := by
  refine zk_enterv (cc := b_M_perform) (maxL := 7) (ret := none) (by decide) rfl (Nat.le_of_ble_eq_true rfl) ?_
  intro p e s m args below meth c A Q hQ X hRt hLk
  have hq := sp_M_performR.eq_1 o a b fr fc mp mb mi me ml mo mS fi rw rt rc fb jn jm jS jl
  refine zk_lv (lv' := [(0, .ref hm), (1, .int o), (2, .int a), (3, .int b), (4, .ref hr)]) [0, 1, 2, 3, 4] rfl ?_
  refine zk_iload_n (pc := 0) X d_M_perform_0 rfl (q := 2) rfl ?_
  refine zk_iconst (pc := 1) X (v := 3) d_M_perform_1 rfl ?_
  refine zk_iand (pc := 2) X (v := (a &&& 3)) d_M_perform_2 rfl ?_
  refine zk_istore (pc := 3) X (i := 5) (lv' := [(5, .int (a &&& 3)), (0, .ref hm), (1, .int o), (2, .int a), (3, .int b), (4, .ref hr)]) d_M_perform_3 (by decide) rfl ?_
  refine zk_aload_n (pc := 5) X d_M_perform_5 rfl (q := 1) rfl ?_
  refine zk_get (pc := 6) X (ci := 5) (v := .ref mr) in_M 0 rfl rfl 0 (by decide) (zk_m tw_120) rfl d_M_perform_6 ?_
  refine zk_iload_n (pc := 9) X d_M_perform_9 rfl (q := 4) rfl ?_
  refine zk_iconst (pc := 10) X (v := 3) d_M_perform_10 rfl ?_
  refine zk_iand (pc := 11) X (v := (b &&& 3)) d_M_perform_11 rfl ?_
  refine zk_iald (pc := 12) X 1 0 (zk_ix3 b) rfl rfl (zk_ix3_eq b) (zk_ix3_lt b) (by decide) d_M_perform_12 ?_
  refine zk_istore (pc := 13) X (i := 6) (lv' := [(6, .int (fr (zk_ix3 b))), (5, .int (a &&& 3)), (0, .ref hm), (1, .int o), (2, .int a), (3, .int b), (4, .ref hr)]) d_M_perform_13 (by decide) rfl ?_
  refine zk_iload_n (pc := 15) X d_M_perform_15 rfl (q := 3) rfl ?_
  rcases Decidable.em (o = 0) with h16_0 | h16_0
  · have hq := hq.trans (if_pos h16_0)
    refine zk_tableIn (pc := 16) X (tgt := 76) 0 h16_0 d_M_perform_16 (by decide) (by decide) rfl (by decide) ?_
    refine zk_aload_n (pc := 76) X d_M_perform_76 rfl (q := 2) rfl ?_
    refine zk_get (pc := 77) X (ci := 5) (v := .ref mr) in_M 0 rfl rfl 0 (by decide) (zk_m tw_120) rfl d_M_perform_77 ?_
    refine zk_iload (pc := 80) X d_M_perform_80 (q := 1) rfl ?_
    refine zk_iload_n (pc := 82) X d_M_perform_82 rfl (q := 5) rfl ?_
    refine zk_iast (pc := 83) X 1 0 (ws' := [(hm, .inr (5, [.ref mr, .ref mc, .int mp, .int mb, .int mi, .int me, .int ml, .int mo, .int mt, .int (nI mS)])), (mr, .inl (cmr, 4, .inl (upd fr (zk_ix3 a) b))), (mc, .inl (cmc, 32, .inl fc)), (hr, .inr (2, [.ref hj, .ref ri, .int (nI rw), .int rt, .int rq, .int rc])), (ri, .inl (cR, 16, .inl fi)), (hj, .inr (1, [.ref jb, .int (nI jn), .int jm, .int jS, .int jl])), (jb, .inl (cJ, 300, .inl fb))]) (zk_ix3 a) rfl rfl (zk_ix3_eq a) (zk_ix3_lt a) (by decide) d_M_perform_83 rfl ?_
    refine zk_goto (pc := 84) X (tgt := 261) d_M_perform_84 (by decide) ?_
    exact zk_vret (pc := 261) X hQ hRt hLk ((upd fr (zk_ix3 a) b), fc, mp, mi, me, ml, mo, fi, rw, rt, fb, jn, jm, jS, jl) ⟨hq.symm, (show rw ≤ 16 by omega), (show jn ≤ 300 by omega)⟩ [0, 1, 2, 3, 4, 5, 6] rfl (by decide) d_M_perform_261
  · have hq := hq.trans (if_neg h16_0)
    rcases Decidable.em (o = 1) with h16_1 | h16_1
    · have hq := hq.trans (if_pos h16_1)
      refine zk_tableIn (pc := 16) X (tgt := 87) 1 h16_1 d_M_perform_16 (by decide) (by decide) rfl (by decide) ?_
      refine zk_aload_n (pc := 87) X d_M_perform_87 rfl (q := 2) rfl ?_
      refine zk_get (pc := 88) X (ci := 5) (v := .ref mr) in_M 0 rfl rfl 0 (by decide) (zk_m tw_120) rfl d_M_perform_88 ?_
      refine zk_iload (pc := 91) X d_M_perform_91 (q := 1) rfl ?_
      refine zk_dup2 (pc := 93) X d_M_perform_93 rfl rfl ?_
      refine zk_iald (pc := 94) X 1 0 (zk_ix3 a) rfl rfl (zk_ix3_eq a) (zk_ix3_lt a) (by decide) d_M_perform_94 ?_
      refine zk_iload (pc := 95) X d_M_perform_95 (q := 0) rfl ?_
      refine zk_iadd (pc := 97) X (v := ((fr (zk_ix3 a)) + (fr (zk_ix3 b)))) d_M_perform_97 rfl ?_
      refine zk_iast (pc := 98) X 1 0 (ws' := [(hm, .inr (5, [.ref mr, .ref mc, .int mp, .int mb, .int mi, .int me, .int ml, .int mo, .int mt, .int (nI mS)])), (mr, .inl (cmr, 4, .inl (upd fr (zk_ix3 a) ((fr (zk_ix3 a)) + (fr (zk_ix3 b)))))), (mc, .inl (cmc, 32, .inl fc)), (hr, .inr (2, [.ref hj, .ref ri, .int (nI rw), .int rt, .int rq, .int rc])), (ri, .inl (cR, 16, .inl fi)), (hj, .inr (1, [.ref jb, .int (nI jn), .int jm, .int jS, .int jl])), (jb, .inl (cJ, 300, .inl fb))]) (zk_ix3 a) rfl rfl (zk_ix3_eq a) (zk_ix3_lt a) (by decide) d_M_perform_98 rfl ?_
      refine zk_goto (pc := 99) X (tgt := 261) d_M_perform_99 (by decide) ?_
      exact zk_vret (pc := 261) X hQ hRt hLk ((upd fr (zk_ix3 a) ((fr (zk_ix3 a)) + (fr (zk_ix3 b)))), fc, mp, mi, me, ml, mo, fi, rw, rt, fb, jn, jm, jS, jl) ⟨hq.symm, (show rw ≤ 16 by omega), (show jn ≤ 300 by omega)⟩ [0, 1, 2, 3, 4, 5, 6] rfl (by decide) d_M_perform_261
    · have hq := hq.trans (if_neg h16_1)
      rcases Decidable.em (o = 2) with h16_2 | h16_2
      · have hq := hq.trans (if_pos h16_2)
        refine zk_tableIn (pc := 16) X (tgt := 102) 2 h16_2 d_M_perform_16 (by decide) (by decide) rfl (by decide) ?_
        refine zk_aload_n (pc := 102) X d_M_perform_102 rfl (q := 2) rfl ?_
        refine zk_get (pc := 103) X (ci := 5) (v := .ref mr) in_M 0 rfl rfl 0 (by decide) (zk_m tw_120) rfl d_M_perform_103 ?_
        refine zk_iload (pc := 106) X d_M_perform_106 (q := 1) rfl ?_
        refine zk_dup2 (pc := 108) X d_M_perform_108 rfl rfl ?_
        refine zk_iald (pc := 109) X 1 0 (zk_ix3 a) rfl rfl (zk_ix3_eq a) (zk_ix3_lt a) (by decide) d_M_perform_109 ?_
        refine zk_iload (pc := 110) X d_M_perform_110 (q := 0) rfl ?_
        refine zk_isub (pc := 112) X (v := ((fr (zk_ix3 a)) - (fr (zk_ix3 b)))) d_M_perform_112 rfl ?_
        refine zk_iast (pc := 113) X 1 0 (ws' := [(hm, .inr (5, [.ref mr, .ref mc, .int mp, .int mb, .int mi, .int me, .int ml, .int mo, .int mt, .int (nI mS)])), (mr, .inl (cmr, 4, .inl (upd fr (zk_ix3 a) ((fr (zk_ix3 a)) - (fr (zk_ix3 b)))))), (mc, .inl (cmc, 32, .inl fc)), (hr, .inr (2, [.ref hj, .ref ri, .int (nI rw), .int rt, .int rq, .int rc])), (ri, .inl (cR, 16, .inl fi)), (hj, .inr (1, [.ref jb, .int (nI jn), .int jm, .int jS, .int jl])), (jb, .inl (cJ, 300, .inl fb))]) (zk_ix3 a) rfl rfl (zk_ix3_eq a) (zk_ix3_lt a) (by decide) d_M_perform_113 rfl ?_
        refine zk_goto (pc := 114) X (tgt := 261) d_M_perform_114 (by decide) ?_
        exact zk_vret (pc := 261) X hQ hRt hLk ((upd fr (zk_ix3 a) ((fr (zk_ix3 a)) - (fr (zk_ix3 b)))), fc, mp, mi, me, ml, mo, fi, rw, rt, fb, jn, jm, jS, jl) ⟨hq.symm, (show rw ≤ 16 by omega), (show jn ≤ 300 by omega)⟩ [0, 1, 2, 3, 4, 5, 6] rfl (by decide) d_M_perform_261
      · have hq := hq.trans (if_neg h16_2)
        rcases Decidable.em (o = 3) with h16_3 | h16_3
        · have hq := hq.trans (if_pos h16_3)
          refine zk_tableIn (pc := 16) X (tgt := 117) 3 h16_3 d_M_perform_16 (by decide) (by decide) rfl (by decide) ?_
          refine zk_aload_n (pc := 117) X d_M_perform_117 rfl (q := 2) rfl ?_
          refine zk_get (pc := 118) X (ci := 5) (v := .ref mr) in_M 0 rfl rfl 0 (by decide) (zk_m tw_120) rfl d_M_perform_118 ?_
          refine zk_iload (pc := 121) X d_M_perform_121 (q := 1) rfl ?_
          refine zk_aload_n (pc := 123) X d_M_perform_123 rfl (q := 2) rfl ?_
          refine zk_get (pc := 124) X (ci := 5) (v := .ref mc) in_M 0 rfl rfl 1 (by decide) (zk_m tw_121) rfl d_M_perform_124 ?_
          refine zk_iload (pc := 127) X d_M_perform_127 (q := 0) rfl ?_
          refine zk_bipush (pc := 129) X (v := 31) d_M_perform_129 (by decide) ?_
          refine zk_iand (pc := 131) X (v := ((fr (zk_ix3 b)) &&& 31)) d_M_perform_131 rfl ?_
          refine zk_iald (pc := 132) X 2 1 (zk_ix31 (fr (zk_ix3 b))) rfl rfl (zk_ix31_eq (fr (zk_ix3 b))) (zk_ix31_lt (fr (zk_ix3 b))) (by decide) d_M_perform_132 ?_
          refine zk_iast (pc := 133) X 1 0 (ws' := [(hm, .inr (5, [.ref mr, .ref mc, .int mp, .int mb, .int mi, .int me, .int ml, .int mo, .int mt, .int (nI mS)])), (mr, .inl (cmr, 4, .inl (upd fr (zk_ix3 a) (fc (zk_ix31 (fr (zk_ix3 b))))))), (mc, .inl (cmc, 32, .inl fc)), (hr, .inr (2, [.ref hj, .ref ri, .int (nI rw), .int rt, .int rq, .int rc])), (ri, .inl (cR, 16, .inl fi)), (hj, .inr (1, [.ref jb, .int (nI jn), .int jm, .int jS, .int jl])), (jb, .inl (cJ, 300, .inl fb))]) (zk_ix3 a) rfl rfl (zk_ix3_eq a) (zk_ix3_lt a) (by decide) d_M_perform_133 rfl ?_
          refine zk_goto (pc := 134) X (tgt := 261) d_M_perform_134 (by decide) ?_
          exact zk_vret (pc := 261) X hQ hRt hLk ((upd fr (zk_ix3 a) (fc (zk_ix31 (fr (zk_ix3 b))))), fc, mp, mi, me, ml, mo, fi, rw, rt, fb, jn, jm, jS, jl) ⟨hq.symm, (show rw ≤ 16 by omega), (show jn ≤ 300 by omega)⟩ [0, 1, 2, 3, 4, 5, 6] rfl (by decide) d_M_perform_261
        · have hq := hq.trans (if_neg h16_3)
          rcases Decidable.em (o = 4) with h16_4 | h16_4
          · have hq := hq.trans (if_pos h16_4)
            refine zk_tableIn (pc := 16) X (tgt := 137) 4 h16_4 d_M_perform_16 (by decide) (by decide) rfl (by decide) ?_
            refine zk_aload_n (pc := 137) X d_M_perform_137 rfl (q := 2) rfl ?_
            refine zk_get (pc := 138) X (ci := 5) (v := .ref mc) in_M 0 rfl rfl 1 (by decide) (zk_m tw_121) rfl d_M_perform_138 ?_
            refine zk_iload (pc := 141) X d_M_perform_141 (q := 0) rfl ?_
            refine zk_bipush (pc := 143) X (v := 31) d_M_perform_143 (by decide) ?_
            refine zk_iand (pc := 145) X (v := ((fr (zk_ix3 b)) &&& 31)) d_M_perform_145 rfl ?_
            refine zk_aload_n (pc := 146) X d_M_perform_146 rfl (q := 2) rfl ?_
            refine zk_get (pc := 147) X (ci := 5) (v := .ref mr) in_M 0 rfl rfl 0 (by decide) (zk_m tw_120) rfl d_M_perform_147 ?_
            refine zk_iload (pc := 150) X d_M_perform_150 (q := 1) rfl ?_
            refine zk_iald (pc := 152) X 1 0 (zk_ix3 a) rfl rfl (zk_ix3_eq a) (zk_ix3_lt a) (by decide) d_M_perform_152 ?_
            refine zk_iast (pc := 153) X 2 1 (ws' := [(hm, .inr (5, [.ref mr, .ref mc, .int mp, .int mb, .int mi, .int me, .int ml, .int mo, .int mt, .int (nI mS)])), (mr, .inl (cmr, 4, .inl fr)), (mc, .inl (cmc, 32, .inl (upd fc (zk_ix31 (fr (zk_ix3 b))) (fr (zk_ix3 a))))), (hr, .inr (2, [.ref hj, .ref ri, .int (nI rw), .int rt, .int rq, .int rc])), (ri, .inl (cR, 16, .inl fi)), (hj, .inr (1, [.ref jb, .int (nI jn), .int jm, .int jS, .int jl])), (jb, .inl (cJ, 300, .inl fb))]) (zk_ix31 (fr (zk_ix3 b))) rfl rfl (zk_ix31_eq (fr (zk_ix3 b))) (zk_ix31_lt (fr (zk_ix3 b))) (by decide) d_M_perform_153 rfl ?_
            refine zk_goto (pc := 154) X (tgt := 261) d_M_perform_154 (by decide) ?_
            exact zk_vret (pc := 261) X hQ hRt hLk (fr, (upd fc (zk_ix31 (fr (zk_ix3 b))) (fr (zk_ix3 a))), mp, mi, me, ml, mo, fi, rw, rt, fb, jn, jm, jS, jl) ⟨hq.symm, (show rw ≤ 16 by omega), (show jn ≤ 300 by omega)⟩ [0, 1, 2, 3, 4, 5, 6] rfl (by decide) d_M_perform_261
          · have hq := hq.trans (if_neg h16_4)
            rcases Decidable.em (o = 5) with h16_5 | h16_5
            · have hq := hq.trans (if_pos h16_5)
              refine zk_tableIn (pc := 16) X (tgt := 248) 5 h16_5 d_M_perform_16 (by decide) (by decide) rfl (by decide) ?_
              refine zk_aload_n (pc := 248) X d_M_perform_248 rfl (q := 2) rfl ?_
              refine zk_iload_n (pc := 249) X d_M_perform_249 rfl (q := 3) rfl ?_
              refine zk_aload_n (pc := 250) X d_M_perform_250 rfl (q := 2) rfl ?_
              refine zk_get (pc := 251) X (ci := 5) (v := .ref mr) in_M 0 rfl rfl 0 (by decide) (zk_m tw_120) rfl d_M_perform_251 ?_
              refine zk_iload (pc := 254) X d_M_perform_254 (q := 1) rfl ?_
              refine zk_iald (pc := 256) X 1 0 (zk_ix3 a) rfl rfl (zk_ix3_eq a) (zk_ix3_lt a) (by decide) d_M_perform_256 ?_
              refine zk_iload_n (pc := 257) X d_M_perform_257 rfl (q := 5) rfl ?_
              refine zk_callv (pc := 258) X (wc := [(hm, .inr (5, [.ref mr, .ref mc, .int mp, .int mb, .int mi, .int me, .int ml, .int mo, .int mt, .int (nI mS)])), (mr, .inl (cmr, 4, .inl fr)), (mc, .inl (cmc, 32, .inl fc))]) (wr := [(hr, .inr (2, [.ref hj, .ref ri, .int (nI rw), .int rt, .int rq, .int rc])), (ri, .inl (cR, 16, .inl fi)), (hj, .inr (1, [.ref jb, .int (nI jn), .int jm, .int jS, .int jl])), (jb, .inl (cJ, 300, .inl fb))]) [0, 1, 2] [3, 4, 5, 6] rfl rfl (by decide) (by decide) (by decide) (zk_runV X (C := R_M) (tysC := [(cmr, .int), (cmc, .int)]) (As := [.int o, .int (fr (zk_ix3 a)), .int b]) (rest := []) (c_M_turn l dC dI hm mr mc cmr cmc o (fr (zk_ix3 a)) b fr fc mp mb mi me ml mo mt mS) [0, 1] rfl (ci := 5) rfl 0 rfl (zk_cwV 3 X.1.2.2.2.2 (zk_goodT tw_278) rfl rfl rfl (zk_m tw_276) (zk_m tw_277) (zk_m tw_529) (zk_m tw_8) rfl (by decide +kernel) ⟨Nat.le_of_ble_eq_true rfl, Nat.le_of_ble_eq_true rfl⟩) rfl rfl (Nat.le_of_ble_eq_true rfl) ⟨Nat.zero_le _, Nat.zero_le _⟩ d_M_perform_258) ?_
              rintro ⟨mp_258, mi_258, me_258⟩ w258
              refine zk_ws (ws' := [(hr, .inr (2, [.ref hj, .ref ri, .int (nI rw), .int rt, .int rq, .int rc])), (ri, .inl (cR, 16, .inl fi)), (hj, .inr (1, [.ref jb, .int (nI jn), .int jm, .int jS, .int jl])), (jb, .inl (cJ, 300, .inl fb)), (hm, .inr (5, [.ref mr, .ref mc, .int mp_258, .int mb, .int mi_258, .int me_258, .int ml, .int mo, .int mt, .int (nI mS)])), (mr, .inl (cmr, 4, .inl fr)), (mc, .inl (cmc, 32, .inl fc))]) rfl ?_
              try dsimp only at w258
              rw [← w258] at hq
              try dsimp only at hq
              exact zk_vret (pc := 261) X hQ hRt hLk (fr, fc, mp_258, mi_258, me_258, ml, mo, fi, rw, rt, fb, jn, jm, jS, jl) ⟨hq.symm, (show rw ≤ 16 by omega), (show jn ≤ 300 by omega)⟩ [4, 5, 6, 0, 1, 2, 3] rfl (by decide) d_M_perform_261
            · have hq := hq.trans (if_neg h16_5)
              rcases Decidable.em (o = 6) with h16_6 | h16_6
              · have hq := hq.trans (if_pos h16_6)
                refine zk_tableIn (pc := 16) X (tgt := 248) 6 h16_6 d_M_perform_16 (by decide) (by decide) rfl (by decide) ?_
                refine zk_aload_n (pc := 248) X d_M_perform_248 rfl (q := 2) rfl ?_
                refine zk_iload_n (pc := 249) X d_M_perform_249 rfl (q := 3) rfl ?_
                refine zk_aload_n (pc := 250) X d_M_perform_250 rfl (q := 2) rfl ?_
                refine zk_get (pc := 251) X (ci := 5) (v := .ref mr) in_M 0 rfl rfl 0 (by decide) (zk_m tw_120) rfl d_M_perform_251 ?_
                refine zk_iload (pc := 254) X d_M_perform_254 (q := 1) rfl ?_
                refine zk_iald (pc := 256) X 1 0 (zk_ix3 a) rfl rfl (zk_ix3_eq a) (zk_ix3_lt a) (by decide) d_M_perform_256 ?_
                refine zk_iload_n (pc := 257) X d_M_perform_257 rfl (q := 5) rfl ?_
                refine zk_callv (pc := 258) X (wc := [(hm, .inr (5, [.ref mr, .ref mc, .int mp, .int mb, .int mi, .int me, .int ml, .int mo, .int mt, .int (nI mS)])), (mr, .inl (cmr, 4, .inl fr)), (mc, .inl (cmc, 32, .inl fc))]) (wr := [(hr, .inr (2, [.ref hj, .ref ri, .int (nI rw), .int rt, .int rq, .int rc])), (ri, .inl (cR, 16, .inl fi)), (hj, .inr (1, [.ref jb, .int (nI jn), .int jm, .int jS, .int jl])), (jb, .inl (cJ, 300, .inl fb))]) [0, 1, 2] [3, 4, 5, 6] rfl rfl (by decide) (by decide) (by decide) (zk_runV X (C := R_M) (tysC := [(cmr, .int), (cmc, .int)]) (As := [.int o, .int (fr (zk_ix3 a)), .int b]) (rest := []) (c_M_turn l dC dI hm mr mc cmr cmc o (fr (zk_ix3 a)) b fr fc mp mb mi me ml mo mt mS) [0, 1] rfl (ci := 5) rfl 0 rfl (zk_cwV 3 X.1.2.2.2.2 (zk_goodT tw_278) rfl rfl rfl (zk_m tw_276) (zk_m tw_277) (zk_m tw_529) (zk_m tw_8) rfl (by decide +kernel) ⟨Nat.le_of_ble_eq_true rfl, Nat.le_of_ble_eq_true rfl⟩) rfl rfl (Nat.le_of_ble_eq_true rfl) ⟨Nat.zero_le _, Nat.zero_le _⟩ d_M_perform_258) ?_
                rintro ⟨mp_258, mi_258, me_258⟩ w258
                refine zk_ws (ws' := [(hr, .inr (2, [.ref hj, .ref ri, .int (nI rw), .int rt, .int rq, .int rc])), (ri, .inl (cR, 16, .inl fi)), (hj, .inr (1, [.ref jb, .int (nI jn), .int jm, .int jS, .int jl])), (jb, .inl (cJ, 300, .inl fb)), (hm, .inr (5, [.ref mr, .ref mc, .int mp_258, .int mb, .int mi_258, .int me_258, .int ml, .int mo, .int mt, .int (nI mS)])), (mr, .inl (cmr, 4, .inl fr)), (mc, .inl (cmc, 32, .inl fc))]) rfl ?_
                try dsimp only at w258
                rw [← w258] at hq
                try dsimp only at hq
                exact zk_vret (pc := 261) X hQ hRt hLk (fr, fc, mp_258, mi_258, me_258, ml, mo, fi, rw, rt, fb, jn, jm, jS, jl) ⟨hq.symm, (show rw ≤ 16 by omega), (show jn ≤ 300 by omega)⟩ [4, 5, 6, 0, 1, 2, 3] rfl (by decide) d_M_perform_261
              · have hq := hq.trans (if_neg h16_6)
                rcases Decidable.em (o = 7) with h16_7 | h16_7
                · have hq := hq.trans (if_pos h16_7)
                  refine zk_tableIn (pc := 16) X (tgt := 157) 7 h16_7 d_M_perform_16 (by decide) (by decide) rfl (by decide) ?_
                  refine zk_aload_n (pc := 157) X d_M_perform_157 rfl (q := 2) rfl ?_
                  refine zk_get (pc := 158) X (ci := 5) (v := .ref mr) in_M 0 rfl rfl 0 (by decide) (zk_m tw_120) rfl d_M_perform_158 ?_
                  refine zk_iload (pc := 161) X d_M_perform_161 (q := 1) rfl ?_
                  refine zk_aload (pc := 163) X d_M_perform_163 (q := 6) rfl ?_
                  refine zk_aload_n (pc := 165) X d_M_perform_165 rfl (q := 2) rfl ?_
                  refine zk_get (pc := 166) X (ci := 5) (v := .int (nI mS)) in_M 0 rfl rfl 9 (by decide) (zk_m tw_129) rfl d_M_perform_166 ?_
                  refine zk_calli (pc := 169) X (wc := [(hr, .inr (2, [.ref hj, .ref ri, .int (nI rw), .int rt, .int rq, .int rc])), (ri, .inl (cR, 16, .inl fi)), (hj, .inr (1, [.ref jb, .int (nI jn), .int jm, .int jS, .int jl])), (jb, .inl (cJ, 300, .inl fb))]) (wr := [(hm, .inr (5, [.ref mr, .ref mc, .int mp, .int mb, .int mi, .int me, .int ml, .int mo, .int mt, .int (nI mS)])), (mr, .inl (cmr, 4, .inl fr)), (mc, .inl (cmc, 32, .inl fc))]) [3, 4, 5, 6] [0, 1, 2] rfl rfl (by decide) (by decide) (by decide) (zk_runU X (tysC := [(cR, .int), (cJ, .int)]) (As := [.int (nI mS)]) (rest := [.int (a &&& 3), .ref mr]) (c_R_takeInput l dC dI hr hj ri jb cR cJ (nI mS) fi rw rt rq rc fb jn jm jS jl (by omega) (by omega)) [2, 3] rfl (ci := 2) rfl 3 rfl (zk_cwA 1 X.1.2.2.2.2 (zk_goodT tw_259) rfl rfl rfl (zk_m tw_255) (zk_m tw_256) (zk_m tw_257) (zk_m tw_258) (zk_m tw_5) X.2.2.2.2.2.2.2.2.2.1 (by decide +kernel) ⟨Nat.le_of_ble_eq_true rfl, Nat.le_of_ble_eq_true rfl⟩) rfl rfl (Nat.le_of_ble_eq_true rfl) ⟨Nat.zero_le _, Nat.zero_le _⟩ d_M_perform_169) ?_
                  rintro r169 ⟨fi_169, rw_169, fb_169, jn_169, jm_169, jS_169, jl_169⟩ ⟨w169, f169_0, f169_1⟩
                  have f169_0 : rw_169 ≤ 16 := f169_0
                  have f169_1 : jn_169 ≤ 300 := f169_1
                  refine zk_ws (ws' := [(hm, .inr (5, [.ref mr, .ref mc, .int mp, .int mb, .int mi, .int me, .int ml, .int mo, .int mt, .int (nI mS)])), (mr, .inl (cmr, 4, .inl fr)), (mc, .inl (cmc, 32, .inl fc)), (hr, .inr (2, [.ref hj, .ref ri, .int (nI rw_169), .int rt, .int rq, .int rc])), (ri, .inl (cR, 16, .inl fi_169)), (hj, .inr (1, [.ref jb, .int (nI jn_169), .int jm_169, .int jS_169, .int jl_169])), (jb, .inl (cJ, 300, .inl fb_169))]) rfl ?_
                  try dsimp only at w169
                  rw [← w169] at hq
                  try dsimp only at hq
                  refine zk_iast (pc := 172) X 1 0 (ws' := [(hm, .inr (5, [.ref mr, .ref mc, .int mp, .int mb, .int mi, .int me, .int ml, .int mo, .int mt, .int (nI mS)])), (mr, .inl (cmr, 4, .inl (upd fr (zk_ix3 a) r169))), (mc, .inl (cmc, 32, .inl fc)), (hr, .inr (2, [.ref hj, .ref ri, .int (nI rw_169), .int rt, .int rq, .int rc])), (ri, .inl (cR, 16, .inl fi_169)), (hj, .inr (1, [.ref jb, .int (nI jn_169), .int jm_169, .int jS_169, .int jl_169])), (jb, .inl (cJ, 300, .inl fb_169))]) (zk_ix3 a) rfl rfl (zk_ix3_eq a) (zk_ix3_lt a) (by decide) d_M_perform_172 rfl ?_
                  refine zk_goto (pc := 173) X (tgt := 261) d_M_perform_173 (by decide) ?_
                  exact zk_vret (pc := 261) X hQ hRt hLk ((upd fr (zk_ix3 a) r169), fc, mp, mi, me, ml, mo, fi_169, rw_169, rt, fb_169, jn_169, jm_169, jS_169, jl_169) ⟨hq.symm, (show rw_169 ≤ 16 by omega), (show jn_169 ≤ 300 by omega)⟩ [0, 1, 2, 3, 4, 5, 6] rfl (by decide) d_M_perform_261
                · have hq := hq.trans (if_neg h16_7)
                  rcases Decidable.em (o = 8) with h16_8 | h16_8
                  · have hq := hq.trans (if_pos h16_8)
                    refine zk_tableIn (pc := 16) X (tgt := 176) 8 h16_8 d_M_perform_16 (by decide) (by decide) rfl (by decide) ?_
                    refine zk_aload_n (pc := 176) X d_M_perform_176 rfl (q := 2) rfl ?_
                    refine zk_get (pc := 177) X (ci := 5) (v := .ref mr) in_M 0 rfl rfl 0 (by decide) (zk_m tw_120) rfl d_M_perform_177 ?_
                    refine zk_iload (pc := 180) X d_M_perform_180 (q := 1) rfl ?_
                    refine zk_aload (pc := 182) X d_M_perform_182 (q := 6) rfl ?_
                    refine zk_aload_n (pc := 184) X d_M_perform_184 rfl (q := 2) rfl ?_
                    refine zk_get (pc := 185) X (ci := 5) (v := .int (nI mS)) in_M 0 rfl rfl 9 (by decide) (zk_m tw_129) rfl d_M_perform_185 ?_
                    refine zk_calli (pc := 188) X (wc := [(hr, .inr (2, [.ref hj, .ref ri, .int (nI rw), .int rt, .int rq, .int rc])), (ri, .inl (cR, 16, .inl fi)), (hj, .inr (1, [.ref jb, .int (nI jn), .int jm, .int jS, .int jl])), (jb, .inl (cJ, 300, .inl fb))]) (wr := [(hm, .inr (5, [.ref mr, .ref mc, .int mp, .int mb, .int mi, .int me, .int ml, .int mo, .int mt, .int (nI mS)])), (mr, .inl (cmr, 4, .inl fr)), (mc, .inl (cmc, 32, .inl fc))]) [3, 4, 5, 6] [0, 1, 2] rfl rfl (by decide) (by decide) (by decide) (zk_runU X (tysC := [(cR, .int), (cJ, .int)]) (As := [.int (nI mS)]) (rest := [.int (a &&& 3), .ref mr]) (c_R_readClock l dC dI hr hj ri jb cR cJ (nI mS) fi rw rt rq rc fb jn jm jS jl (by omega)) [2, 3] rfl (ci := 2) rfl 3 rfl (zk_cwA 1 X.1.2.2.2.2 (zk_goodT tw_271) rfl rfl rfl (zk_m tw_267) (zk_m tw_268) (zk_m tw_269) (zk_m tw_270) (zk_m tw_5) X.2.2.2.2.2.2.2.2.2.2.1 (by decide +kernel) ⟨Nat.le_of_ble_eq_true rfl, Nat.le_of_ble_eq_true rfl⟩) rfl rfl (Nat.le_of_ble_eq_true rfl) ⟨Nat.zero_le _, Nat.zero_le _⟩ d_M_perform_188) ?_
                    rintro r188 ⟨rt_188, fb_188, jn_188, jm_188, jS_188, jl_188⟩ ⟨w188, f188_0⟩
                    have f188_0 : jn_188 ≤ 300 := f188_0
                    refine zk_ws (ws' := [(hm, .inr (5, [.ref mr, .ref mc, .int mp, .int mb, .int mi, .int me, .int ml, .int mo, .int mt, .int (nI mS)])), (mr, .inl (cmr, 4, .inl fr)), (mc, .inl (cmc, 32, .inl fc)), (hr, .inr (2, [.ref hj, .ref ri, .int (nI rw), .int rt_188, .int rq, .int rc])), (ri, .inl (cR, 16, .inl fi)), (hj, .inr (1, [.ref jb, .int (nI jn_188), .int jm_188, .int jS_188, .int jl_188])), (jb, .inl (cJ, 300, .inl fb_188))]) rfl ?_
                    try dsimp only at w188
                    rw [← w188] at hq
                    try dsimp only at hq
                    refine zk_iast (pc := 191) X 1 0 (ws' := [(hm, .inr (5, [.ref mr, .ref mc, .int mp, .int mb, .int mi, .int me, .int ml, .int mo, .int mt, .int (nI mS)])), (mr, .inl (cmr, 4, .inl (upd fr (zk_ix3 a) r188))), (mc, .inl (cmc, 32, .inl fc)), (hr, .inr (2, [.ref hj, .ref ri, .int (nI rw), .int rt_188, .int rq, .int rc])), (ri, .inl (cR, 16, .inl fi)), (hj, .inr (1, [.ref jb, .int (nI jn_188), .int jm_188, .int jS_188, .int jl_188])), (jb, .inl (cJ, 300, .inl fb_188))]) (zk_ix3 a) rfl rfl (zk_ix3_eq a) (zk_ix3_lt a) (by decide) d_M_perform_191 rfl ?_
                    refine zk_goto (pc := 192) X (tgt := 261) d_M_perform_192 (by decide) ?_
                    exact zk_vret (pc := 261) X hQ hRt hLk ((upd fr (zk_ix3 a) r188), fc, mp, mi, me, ml, mo, fi, rw, rt_188, fb_188, jn_188, jm_188, jS_188, jl_188) ⟨hq.symm, (show rw ≤ 16 by omega), (show jn_188 ≤ 300 by omega)⟩ [0, 1, 2, 3, 4, 5, 6] rfl (by decide) d_M_perform_261
                  · have hq := hq.trans (if_neg h16_8)
                    rcases Decidable.em (o = 9) with h16_9 | h16_9
                    · have hq := hq.trans (if_pos h16_9)
                      refine zk_tableIn (pc := 16) X (tgt := 195) 9 h16_9 d_M_perform_16 (by decide) (by decide) rfl (by decide) ?_
                      refine zk_aload_n (pc := 195) X d_M_perform_195 rfl (q := 2) rfl ?_
                      refine zk_aload_n (pc := 196) X d_M_perform_196 rfl (q := 2) rfl ?_
                      refine zk_get (pc := 197) X (ci := 5) (v := .int ml) in_M 0 rfl rfl 6 (by decide) (zk_m tw_126) rfl d_M_perform_197 ?_
                      refine zk_ldc (pc := 200) X (v := 1103515245) d_M_perform_200 (zk_m tw_275) ?_
                      refine zk_imul (pc := 202) X (v := (ml * 1103515245)) d_M_perform_202 rfl ?_
                      refine zk_sipush (pc := 203) X (v := 12345) d_M_perform_203 (by decide) ?_
                      refine zk_iadd (pc := 206) X (v := ((ml * 1103515245) + 12345)) d_M_perform_206 rfl ?_
                      refine zk_put (pc := 207) X (ty := .int) (v := .int ((ml * 1103515245) + 12345)) (ws' := [(hm, .inr (5, [.ref mr, .ref mc, .int mp, .int mb, .int mi, .int me, .int ((ml * 1103515245) + 12345), .int mo, .int mt, .int (nI mS)])), (mr, .inl (cmr, 4, .inl fr)), (mc, .inl (cmc, 32, .inl fc)), (hr, .inr (2, [.ref hj, .ref ri, .int (nI rw), .int rt, .int rq, .int rc])), (ri, .inl (cR, 16, .inl fi)), (hj, .inr (1, [.ref jb, .int (nI jn), .int jm, .int jS, .int jl])), (jb, .inl (cJ, 300, .inl fb))]) in_M tok_M nok_M 0 rfl rfl 6 (by decide) (zk_m tw_126) rfl rfl rfl rfl (Nat.le_of_ble_eq_true rfl) d_M_perform_207 rfl ?_
                      refine zk_aload_n (pc := 210) X d_M_perform_210 rfl (q := 2) rfl ?_
                      refine zk_get (pc := 211) X (ci := 5) (v := .ref mr) in_M 0 rfl rfl 0 (by decide) (zk_m tw_120) rfl d_M_perform_211 ?_
                      refine zk_iload (pc := 214) X d_M_perform_214 (q := 1) rfl ?_
                      refine zk_aload_n (pc := 216) X d_M_perform_216 rfl (q := 2) rfl ?_
                      refine zk_get (pc := 217) X (ci := 5) (v := .int ((ml * 1103515245) + 12345)) in_M 0 rfl rfl 6 (by decide) (zk_m tw_126) rfl d_M_perform_217 ?_
                      refine zk_bipush (pc := 220) X (v := 16) d_M_perform_220 (by decide) ?_
                      refine zk_iushr (pc := 222) X (v := (zf_ushr ((ml * 1103515245) + 12345) 16)) d_M_perform_222 rfl ?_
                      refine zk_iast (pc := 223) X 1 0 (ws' := [(hm, .inr (5, [.ref mr, .ref mc, .int mp, .int mb, .int mi, .int me, .int ((ml * 1103515245) + 12345), .int mo, .int mt, .int (nI mS)])), (mr, .inl (cmr, 4, .inl (upd fr (zk_ix3 a) (zf_ushr ((ml * 1103515245) + 12345) 16)))), (mc, .inl (cmc, 32, .inl fc)), (hr, .inr (2, [.ref hj, .ref ri, .int (nI rw), .int rt, .int rq, .int rc])), (ri, .inl (cR, 16, .inl fi)), (hj, .inr (1, [.ref jb, .int (nI jn), .int jm, .int jS, .int jl])), (jb, .inl (cJ, 300, .inl fb))]) (zk_ix3 a) rfl rfl (zk_ix3_eq a) (zk_ix3_lt a) (by decide) d_M_perform_223 rfl ?_
                      refine zk_goto (pc := 224) X (tgt := 261) d_M_perform_224 (by decide) ?_
                      exact zk_vret (pc := 261) X hQ hRt hLk ((upd fr (zk_ix3 a) (zf_ushr ((ml * 1103515245) + 12345) 16)), fc, mp, mi, me, ((ml * 1103515245) + 12345), mo, fi, rw, rt, fb, jn, jm, jS, jl) ⟨hq.symm, (show rw ≤ 16 by omega), (show jn ≤ 300 by omega)⟩ [0, 1, 2, 3, 4, 5, 6] rfl (by decide) d_M_perform_261
                    · have hq := hq.trans (if_neg h16_9)
                      rcases Decidable.em (o = 10) with h16_10 | h16_10
                      · have hq := hq.trans (if_pos h16_10)
                        refine zk_tableIn (pc := 16) X (tgt := 227) 10 h16_10 d_M_perform_16 (by decide) (by decide) rfl (by decide) ?_
                        refine zk_aload_n (pc := 227) X d_M_perform_227 rfl (q := 2) rfl ?_
                        refine zk_aload_n (pc := 228) X d_M_perform_228 rfl (q := 2) rfl ?_
                        refine zk_get (pc := 229) X (ci := 5) (v := .int mo) in_M 0 rfl rfl 7 (by decide) (zk_m tw_127) rfl d_M_perform_229 ?_
                        refine zk_aload_n (pc := 232) X d_M_perform_232 rfl (q := 2) rfl ?_
                        refine zk_get (pc := 233) X (ci := 5) (v := .ref mr) in_M 0 rfl rfl 0 (by decide) (zk_m tw_120) rfl d_M_perform_233 ?_
                        refine zk_iload (pc := 236) X d_M_perform_236 (q := 1) rfl ?_
                        refine zk_iald (pc := 238) X 1 0 (zk_ix3 a) rfl rfl (zk_ix3_eq a) (zk_ix3_lt a) (by decide) d_M_perform_238 ?_
                        refine zk_calli (pc := 239) X (wc := []) (wr := [(hm, .inr (5, [.ref mr, .ref mc, .int mp, .int mb, .int mi, .int me, .int ml, .int mo, .int mt, .int (nI mS)])), (mr, .inl (cmr, 4, .inl fr)), (mc, .inl (cmc, 32, .inl fc)), (hr, .inr (2, [.ref hj, .ref ri, .int (nI rw), .int rt, .int rq, .int rc])), (ri, .inl (cR, 16, .inl fi)), (hj, .inr (1, [.ref jb, .int (nI jn), .int jm, .int jS, .int jl])), (jb, .inl (cJ, 300, .inl fb))]) [] [0, 1, 2, 3, 4, 5, 6] rfl rfl (by decide) (by decide) (by decide) (zk_runSN X (tysC := []) (As := [.int mo, .int (fr (zk_ix3 a))]) (rest := [.ref hm]) (c_X_mix l dC dI mo (fr (zk_ix3 a))) [] rfl ⟨va_cnB 2 X.1.2.2.2.2 (zk_goodT tw_233) rfl rfl rfl X.2.2.2.2.2.2.2.2.2.2.2 (X.1.2.2.2.2 _ (zk_m tw_1)) (by decide +kernel) ⟨Nat.le_of_ble_eq_true rfl, Nat.le_of_ble_eq_true rfl⟩, X.1.2.2.2.2 _ (zk_m tw_232), trivial⟩ rfl rfl (Nat.le_of_ble_eq_true rfl) ⟨Nat.zero_le _, Nat.zero_le _⟩ d_M_perform_239) ?_
                        rintro r239 ⟨⟩ w239
                        refine zk_ws (ws' := [(hm, .inr (5, [.ref mr, .ref mc, .int mp, .int mb, .int mi, .int me, .int ml, .int mo, .int mt, .int (nI mS)])), (mr, .inl (cmr, 4, .inl fr)), (mc, .inl (cmc, 32, .inl fc)), (hr, .inr (2, [.ref hj, .ref ri, .int (nI rw), .int rt, .int rq, .int rc])), (ri, .inl (cR, 16, .inl fi)), (hj, .inr (1, [.ref jb, .int (nI jn), .int jm, .int jS, .int jl])), (jb, .inl (cJ, 300, .inl fb))]) rfl ?_
                        subst w239
                        refine zk_put (pc := 242) X (ty := .int) (v := .int (sp_X_mix mo (fr (zk_ix3 a)))) (ws' := [(hm, .inr (5, [.ref mr, .ref mc, .int mp, .int mb, .int mi, .int me, .int ml, .int (sp_X_mix mo (fr (zk_ix3 a))), .int mt, .int (nI mS)])), (mr, .inl (cmr, 4, .inl fr)), (mc, .inl (cmc, 32, .inl fc)), (hr, .inr (2, [.ref hj, .ref ri, .int (nI rw), .int rt, .int rq, .int rc])), (ri, .inl (cR, 16, .inl fi)), (hj, .inr (1, [.ref jb, .int (nI jn), .int jm, .int jS, .int jl])), (jb, .inl (cJ, 300, .inl fb))]) in_M tok_M nok_M 0 rfl rfl 7 (by decide) (zk_m tw_127) rfl rfl rfl rfl (Nat.le_of_ble_eq_true rfl) d_M_perform_242 rfl ?_
                        refine zk_goto (pc := 245) X (tgt := 261) d_M_perform_245 (by decide) ?_
                        exact zk_vret (pc := 261) X hQ hRt hLk (fr, fc, mp, mi, me, ml, (sp_X_mix mo (fr (zk_ix3 a))), fi, rw, rt, fb, jn, jm, jS, jl) ⟨hq.symm, (show rw ≤ 16 by omega), (show jn ≤ 300 by omega)⟩ [0, 1, 2, 3, 4, 5, 6] rfl (by decide) d_M_perform_261
                      · have hq := hq.trans (if_neg h16_10)
                        refine zk_tableOut (pc := 16) X (tgt := 248) d_M_perform_16 (by have g0 := lv_neT (k := 0) (a := 0) h16_0 (by decide); have g1 := lv_neT (k := 1) (a := 1) h16_1 (by decide); have g2 := lv_neT (k := 2) (a := 2) h16_2 (by decide); have g3 := lv_neT (k := 3) (a := 3) h16_3 (by decide); have g4 := lv_neT (k := 4) (a := 4) h16_4 (by decide); have g5 := lv_neT (k := 5) (a := 5) h16_5 (by decide); have g6 := lv_neT (k := 6) (a := 6) h16_6 (by decide); have g7 := lv_neT (k := 7) (a := 7) h16_7 (by decide); have g8 := lv_neT (k := 8) (a := 8) h16_8 (by decide); have g9 := lv_neT (k := 9) (a := 9) h16_9 (by decide); have g10 := lv_neT (k := 10) (a := 10) h16_10 (by decide); omega) (by decide) ?_
                        refine zk_aload_n (pc := 248) X d_M_perform_248 rfl (q := 2) rfl ?_
                        refine zk_iload_n (pc := 249) X d_M_perform_249 rfl (q := 3) rfl ?_
                        refine zk_aload_n (pc := 250) X d_M_perform_250 rfl (q := 2) rfl ?_
                        refine zk_get (pc := 251) X (ci := 5) (v := .ref mr) in_M 0 rfl rfl 0 (by decide) (zk_m tw_120) rfl d_M_perform_251 ?_
                        refine zk_iload (pc := 254) X d_M_perform_254 (q := 1) rfl ?_
                        refine zk_iald (pc := 256) X 1 0 (zk_ix3 a) rfl rfl (zk_ix3_eq a) (zk_ix3_lt a) (by decide) d_M_perform_256 ?_
                        refine zk_iload_n (pc := 257) X d_M_perform_257 rfl (q := 5) rfl ?_
                        refine zk_callv (pc := 258) X (wc := [(hm, .inr (5, [.ref mr, .ref mc, .int mp, .int mb, .int mi, .int me, .int ml, .int mo, .int mt, .int (nI mS)])), (mr, .inl (cmr, 4, .inl fr)), (mc, .inl (cmc, 32, .inl fc))]) (wr := [(hr, .inr (2, [.ref hj, .ref ri, .int (nI rw), .int rt, .int rq, .int rc])), (ri, .inl (cR, 16, .inl fi)), (hj, .inr (1, [.ref jb, .int (nI jn), .int jm, .int jS, .int jl])), (jb, .inl (cJ, 300, .inl fb))]) [0, 1, 2] [3, 4, 5, 6] rfl rfl (by decide) (by decide) (by decide) (zk_runV X (C := R_M) (tysC := [(cmr, .int), (cmc, .int)]) (As := [.int o, .int (fr (zk_ix3 a)), .int b]) (rest := []) (c_M_turn l dC dI hm mr mc cmr cmc o (fr (zk_ix3 a)) b fr fc mp mb mi me ml mo mt mS) [0, 1] rfl (ci := 5) rfl 0 rfl (zk_cwV 3 X.1.2.2.2.2 (zk_goodT tw_278) rfl rfl rfl (zk_m tw_276) (zk_m tw_277) (zk_m tw_529) (zk_m tw_8) rfl (by decide +kernel) ⟨Nat.le_of_ble_eq_true rfl, Nat.le_of_ble_eq_true rfl⟩) rfl rfl (Nat.le_of_ble_eq_true rfl) ⟨Nat.zero_le _, Nat.zero_le _⟩ d_M_perform_258) ?_
                        rintro ⟨mp_258, mi_258, me_258⟩ w258
                        refine zk_ws (ws' := [(hr, .inr (2, [.ref hj, .ref ri, .int (nI rw), .int rt, .int rq, .int rc])), (ri, .inl (cR, 16, .inl fi)), (hj, .inr (1, [.ref jb, .int (nI jn), .int jm, .int jS, .int jl])), (jb, .inl (cJ, 300, .inl fb)), (hm, .inr (5, [.ref mr, .ref mc, .int mp_258, .int mb, .int mi_258, .int me_258, .int ml, .int mo, .int mt, .int (nI mS)])), (mr, .inl (cmr, 4, .inl fr)), (mc, .inl (cmc, 32, .inl fc))]) rfl ?_
                        try dsimp only at w258
                        rw [← w258] at hq
                        try dsimp only at hq
                        exact zk_vret (pc := 261) X hQ hRt hLk (fr, fc, mp_258, mi_258, me_258, ml, mo, fi, rw, rt, fb, jn, jm, jS, jl) ⟨hq.symm, (show rw ≤ 16 by omega), (show jn ≤ 300 by omega)⟩ [4, 5, 6, 0, 1, 2, 3] rfl (by decide) d_M_perform_261
def sp_M_stepR_125 (mt : Int32) (mS : Nat) (fr1 : Nat → Int32) (fc1 : Nat → Int32) (mp1 : Int32) (mb1 : Int32) (mi1 : Int32) (me1 : Int32) (ml1 : Int32) (mo1 : Int32) (fi1 : Nat → Int32) (rw1 : Nat) (rt1 : Int32) (rq1 : Int32) (fb1 : Nat → Int32) (jn1 : Nat) (jm1 : Int32) (jS1 : Int32) (jl1 : Int32) : Int32 × (Nat → Int32) × (Nat → Int32) × Int32 × Int32 × Int32 × Int32 × Int32 × Int32 × Int32 × Nat × Int32 × (Nat → Int32) × Nat × Int32 × (Nat → Int32) × Nat × Int32 × Int32 × Int32 :=
  (fun mt_126 =>
    (1, fr1, fc1, mp1, mb1, mi1, me1, ml1, mo1, mt_126, mS + 1, rq1, fi1, rw1, rt1, fb1, jn1, jm1, jS1, jl1)) (sp_M_followTrace fr1 mp1 mo1 mt)
def sp_M_stepR_68 (fr : Nat → Int32) (fc : Nat → Int32) (mp : Int32) (mb : Int32) (mi : Int32) (me : Int32) (ml : Int32) (mo : Int32) (mt : Int32) (mS : Nat) (fo : Nat → Int32) (ff : Nat → Int32) (fs : Nat → Int32) (pn : Nat) (fi : Nat → Int32) (rw : Nat) (rt : Int32) (rc : Int32) (rq1 : Int32) (fb1 : Nat → Int32) (jn1 : Nat) (jm1 : Int32) (jS1 : Int32) (jl1 : Int32) : Int32 × (Nat → Int32) × (Nat → Int32) × Int32 × Int32 × Int32 × Int32 × Int32 × Int32 × Int32 × Nat × Int32 × (Nat → Int32) × Nat × Int32 × (Nat → Int32) × Nat × Int32 × Int32 × Int32 :=
  if (sp_P_has mp pn) = 0 then
    sp_M_stepR_125 mt mS fr fc mp mb mi 1 ml mo fi rw rt rq1 fb1 jn1 jm1 jS1 jl1
  else
    (match sp_M_performR (fo mp.toNatClampNeg) (ff mp.toNatClampNeg) (fs mp.toNatClampNeg) fr fc (mp + 1) mb mi me ml mo (mS + 1) fi rw rt rc fb1 jn1 jm1 jS1 jl1 with
    | (fr_114, fc_114, mp_114, mi_114, me_114, ml_114, mo_114, fi_114, rw_114, rt_114, fb_114, jn_114, jm_114, jS_114, jl_114) =>
      sp_M_stepR_125 mt mS fr_114 fc_114 mp_114 mb mi_114 me_114 ml_114 mo_114 fi_114 rw_114 rt_114 rq1 fb_114 jn_114 jm_114 jS_114 jl_114)
def sp_M_stepR (fr : Nat → Int32) (fc : Nat → Int32) (mp : Int32) (mb : Int32) (mi : Int32) (me : Int32) (ml : Int32) (mo : Int32) (mt : Int32) (mS : Nat) (fo : Nat → Int32) (ff : Nat → Int32) (fs : Nat → Int32) (pn : Nat) (fi : Nat → Int32) (rw : Nat) (rt : Int32) (rq : Int32) (rc : Int32) (fb : Nat → Int32) (jn : Nat) (jm : Int32) (jS : Int32) (jl : Int32) : Int32 × (Nat → Int32) × (Nat → Int32) × Int32 × Int32 × Int32 × Int32 × Int32 × Int32 × Int32 × Nat × Int32 × (Nat → Int32) × Nat × Int32 × (Nat → Int32) × Nat × Int32 × Int32 × Int32 :=
  if me = 0 then
    if mi = 0 then
      if (sp_P_has 16 pn) = 0 then
        sp_M_stepR_68 fr fc mp mb mi me ml mo mt mS fo ff fs pn fi rw rt rc rq fb jn jm jS jl
      else
        (match sp_R_takeInterrupt (nI (mS + 1)) rq fb jn jm jS jl with
        | (r40, rq_40, fb_40, jn_40, jm_40, jS_40, jl_40) =>
          if r40 = 0 then
            sp_M_stepR_68 fr fc mp mb mi me ml mo mt mS fo ff fs pn fi rw rt rc rq_40 fb_40 jn_40 jm_40 jS_40 jl_40
          else
            sp_M_stepR_125 mt mS fr fc 16 mp 1 me ml mo fi rw rt rq_40 fb_40 jn_40 jm_40 jS_40 jl_40)
    else
      sp_M_stepR_68 fr fc mp mb mi me ml mo mt mS fo ff fs pn fi rw rt rc rq fb jn jm jS jl
  else
    (0, fr, fc, mp, mb, mi, me, ml, mo, mt, mS, rq, fi, rw, rt, fb, jn, jm, jS, jl)
abbrev rm_M_stepR : Room := { frames := 6, cells := 0, slots := 0, locals := 138 }
set_option maxHeartbeats 4000000 in
set_option maxRecDepth 100000 in
theorem c_M_stepR (l : Launch) (dC : Nat → ClassId) (dI : Nat → Nat → Nat) (hm mr mc hp po pf ps hr hj ri jb : Nat) (cmr cmc cPo cPf cPs cR cJ : ClassId) (fr : Nat → Int32) (fc : Nat → Int32) (mp : Int32) (mb : Int32) (mi : Int32) (me : Int32) (ml : Int32) (mo : Int32) (mt : Int32) (mS : Nat) (fo : Nat → Int32) (ff : Nat → Int32) (fs : Nat → Int32) (pn : Nat) (fi : Nat → Int32) (rw : Nat) (rt : Int32) (rq : Int32) (rc : Int32) (fb : Nat → Int32) (jn : Nat) (jm : Int32) (jS : Int32) (jl : Int32) (hpn : pn ≤ 24) (hrw : rw ≤ 16) (hjn : jn ≤ 300) : zk_Ci l y_M_step w_M_step rm_M_stepR (dC, dI) vwCl [.ref hm, .ref hp, .ref hr] [(hm, .inr (5, [.ref mr, .ref mc, .int mp, .int mb, .int mi, .int me, .int ml, .int mo, .int mt, .int (nI mS)])), (mr, .inl (cmr, 4, .inl fr)), (mc, .inl (cmc, 32, .inl fc)), (hp, .inr (0, [.ref po, .ref pf, .ref ps, .int (nI pn)])), (po, .inl (cPo, 24, .inl fo)), (pf, .inl (cPf, 24, .inl ff)), (ps, .inl (cPs, 24, .inl fs)), (hr, .inr (2, [.ref hj, .ref ri, .int (nI rw), .int rt, .int rq, .int rc])), (ri, .inl (cR, 16, .inl fi)), (hj, .inr (1, [.ref jb, .int (nI jn), .int jm, .int jS, .int jl])), (jb, .inl (cJ, 300, .inl fb))] [(cmr, .int), (cmc, .int), (cPo, .int), (cPf, .int), (cPs, .int), (cR, .int), (cJ, .int)] (fun (r : Int32) (u : (Nat → Int32) × (Nat → Int32) × Int32 × Int32 × Int32 × Int32 × Int32 × Int32 × Int32 × Nat × Int32 × (Nat → Int32) × Nat × Int32 × (Nat → Int32) × Nat × Int32 × Int32 × Int32) => (r, u) = sp_M_stepR fr fc mp mb mi me ml mo mt mS fo ff fs pn fi rw rt rq rc fb jn jm jS jl ∧ (u.2.2.2.2.2.2.2.2.2.2.2.2.1 ≤ 16) ∧ (u.2.2.2.2.2.2.2.2.2.2.2.2.2.2.2.1 ≤ 300)) (fun u => [(hm, .inr (5, [.ref mr, .ref mc, .int u.2.2.1, .int u.2.2.2.1, .int u.2.2.2.2.1, .int u.2.2.2.2.2.1, .int u.2.2.2.2.2.2.1, .int u.2.2.2.2.2.2.2.1, .int u.2.2.2.2.2.2.2.2.1, .int (nI u.2.2.2.2.2.2.2.2.2.1)])), (mr, .inl (cmr, 4, .inl u.1)), (mc, .inl (cmc, 32, .inl u.2.1)), (hp, .inr (0, [.ref po, .ref pf, .ref ps, .int (nI pn)])), (po, .inl (cPo, 24, .inl fo)), (pf, .inl (cPf, 24, .inl ff)), (ps, .inl (cPs, 24, .inl fs)), (hr, .inr (2, [.ref hj, .ref ri, .int (nI u.2.2.2.2.2.2.2.2.2.2.2.2.1), .int u.2.2.2.2.2.2.2.2.2.2.2.2.2.1, .int u.2.2.2.2.2.2.2.2.2.2.1, .int rc])), (ri, .inl (cR, 16, .inl u.2.2.2.2.2.2.2.2.2.2.2.1)), (hj, .inr (1, [.ref jb, .int (nI u.2.2.2.2.2.2.2.2.2.2.2.2.2.2.2.1), .int u.2.2.2.2.2.2.2.2.2.2.2.2.2.2.2.2.1, .int u.2.2.2.2.2.2.2.2.2.2.2.2.2.2.2.2.2.1, .int u.2.2.2.2.2.2.2.2.2.2.2.2.2.2.2.2.2.2])), (jb, .inl (cJ, 300, .inl u.2.2.2.2.2.2.2.2.2.2.2.2.2.2.1))]) := by
  refine zk_enteri (cc := b_M_step) (maxL := 4) (ret := some .boolean) (by decide) rfl (Nat.le_of_ble_eq_true rfl) ?_
  intro p e s m args below meth c A Q hQ X hRt hLk
  have cut125 : ∀ (fr1 : Nat → Int32) (fc1 : Nat → Int32) (mp1 : Int32) (mb1 : Int32) (mi1 : Int32) (me1 : Int32) (ml1 : Int32) (mo1 : Int32) (fi1 : Nat → Int32) (rw1 : Nat) (rt1 : Int32) (rq1 : Int32) (fb1 : Nat → Int32) (jn1 : Nat) (jm1 : Int32) (jS1 : Int32) (jl1 : Int32), rw1 ≤ 16 → jn1 ≤ 300 → sp_M_stepR fr fc mp mb mi me ml mo mt mS fo ff fs pn fi rw rt rq rc fb jn jm jS jl = sp_M_stepR_125 mt mS fr1 fc1 mp1 mb1 mi1 me1 ml1 mo1 fi1 rw1 rt1 rq1 fb1 jn1 jm1 jS1 jl1 → zk_Z p l e rm_M_stepR s m args below meth c Q A (dC, dI) vwCl 4 0 0 [(hm, .inr (5, [.ref mr, .ref mc, .int mp1, .int mb1, .int mi1, .int me1, .int ml1, .int mo1, .int mt, .int (nI (mS + 1))])), (mr, .inl (cmr, 4, .inl fr1)), (mc, .inl (cmc, 32, .inl fc1)), (hp, .inr (0, [.ref po, .ref pf, .ref ps, .int (nI pn)])), (po, .inl (cPo, 24, .inl fo)), (pf, .inl (cPf, 24, .inl ff)), (ps, .inl (cPs, 24, .inl fs)), (hr, .inr (2, [.ref hj, .ref ri, .int (nI rw1), .int rt1, .int rq1, .int rc])), (ri, .inl (cR, 16, .inl fi1)), (hj, .inr (1, [.ref jb, .int (nI jn1), .int jm1, .int jS1, .int jl1])), (jb, .inl (cJ, 300, .inl fb1))] [(0, .ref hm), (1, .ref hp), (2, .ref hr)] [] 125 := by
    intro fr1 fc1 mp1 mb1 mi1 me1 ml1 mo1 fi1 rw1 rt1 rq1 fb1 jn1 jm1 jS1 jl1 hw1 hn1 hq
    rw [sp_M_stepR_125] at hq
    refine zk_aload_n (pc := 125) X d_M_step_125 rfl (q := 0) rfl ?_
    refine zk_callv (pc := 126) X (wc := [(hm, .inr (5, [.ref mr, .ref mc, .int mp1, .int mb1, .int mi1, .int me1, .int ml1, .int mo1, .int mt, .int (nI (mS + 1))])), (mr, .inl (cmr, 4, .inl fr1)), (mc, .inl (cmc, 32, .inl fc1))]) (wr := [(hp, .inr (0, [.ref po, .ref pf, .ref ps, .int (nI pn)])), (po, .inl (cPo, 24, .inl fo)), (pf, .inl (cPf, 24, .inl ff)), (ps, .inl (cPs, 24, .inl fs)), (hr, .inr (2, [.ref hj, .ref ri, .int (nI rw1), .int rt1, .int rq1, .int rc])), (ri, .inl (cR, 16, .inl fi1)), (hj, .inr (1, [.ref jb, .int (nI jn1), .int jm1, .int jS1, .int jl1])), (jb, .inl (cJ, 300, .inl fb1))]) [0, 1, 2] [3, 4, 5, 6, 7, 8, 9, 10] rfl rfl (by decide) (by decide) (by decide) (zk_runV X (C := R_M) (tysC := [(cmr, .int), (cmc, .int)]) (As := []) (rest := []) (c_M_followTrace l dC dI hm mr mc cmr cmc fr1 fc1 mp1 mb1 mi1 me1 ml1 mo1 mt (mS + 1)) [0, 1] rfl (ci := 5) rfl 0 rfl (zk_cwV 0 X.1.2.2.2.2 (zk_goodT tw_281) rfl rfl rfl (zk_m tw_279) (zk_m tw_280) (zk_m tw_530) (zk_m tw_8) rfl (by decide +kernel) ⟨Nat.le_of_ble_eq_true rfl, Nat.le_of_ble_eq_true rfl⟩) rfl rfl (Nat.le_of_ble_eq_true rfl) ⟨Nat.zero_le _, Nat.zero_le _⟩ d_M_step_126) ?_
    rintro mt_126 w126
    refine zk_ws (ws' := [(hp, .inr (0, [.ref po, .ref pf, .ref ps, .int (nI pn)])), (po, .inl (cPo, 24, .inl fo)), (pf, .inl (cPf, 24, .inl ff)), (ps, .inl (cPs, 24, .inl fs)), (hr, .inr (2, [.ref hj, .ref ri, .int (nI rw1), .int rt1, .int rq1, .int rc])), (ri, .inl (cR, 16, .inl fi1)), (hj, .inr (1, [.ref jb, .int (nI jn1), .int jm1, .int jS1, .int jl1])), (jb, .inl (cJ, 300, .inl fb1)), (hm, .inr (5, [.ref mr, .ref mc, .int mp1, .int mb1, .int mi1, .int me1, .int ml1, .int mo1, .int mt_126, .int (nI (mS + 1))])), (mr, .inl (cmr, 4, .inl fr1)), (mc, .inl (cmc, 32, .inl fc1))]) rfl ?_
    try dsimp only at w126
    rw [← w126] at hq
    try dsimp only at hq
    refine zk_iconst (pc := 129) X (v := 1) d_M_step_129 rfl ?_
    exact zk_zret (pc := 130) X hQ hRt hLk rfl (fr1, fc1, mp1, mb1, mi1, me1, ml1, mo1, mt_126, mS + 1, rq1, fi1, rw1, rt1, fb1, jn1, jm1, jS1, jl1) ⟨hq.symm, (show rw1 ≤ 16 by omega), (show jn1 ≤ 300 by omega)⟩ [8, 9, 10, 0, 1, 2, 3, 4, 5, 6, 7] rfl (by decide) d_M_step_130
  have cut68 : ∀ (rq1 : Int32) (fb1 : Nat → Int32) (jn1 : Nat) (jm1 : Int32) (jS1 : Int32) (jl1 : Int32), jn1 ≤ 300 → sp_M_stepR fr fc mp mb mi me ml mo mt mS fo ff fs pn fi rw rt rq rc fb jn jm jS jl = sp_M_stepR_68 fr fc mp mb mi me ml mo mt mS fo ff fs pn fi rw rt rc rq1 fb1 jn1 jm1 jS1 jl1 → zk_Z p l e rm_M_stepR s m args below meth c Q A (dC, dI) vwCl 4 0 0 [(hm, .inr (5, [.ref mr, .ref mc, .int mp, .int mb, .int mi, .int me, .int ml, .int mo, .int mt, .int (nI (mS + 1))])), (mr, .inl (cmr, 4, .inl fr)), (mc, .inl (cmc, 32, .inl fc)), (hp, .inr (0, [.ref po, .ref pf, .ref ps, .int (nI pn)])), (po, .inl (cPo, 24, .inl fo)), (pf, .inl (cPf, 24, .inl ff)), (ps, .inl (cPs, 24, .inl fs)), (hr, .inr (2, [.ref hj, .ref ri, .int (nI rw), .int rt, .int rq1, .int rc])), (ri, .inl (cR, 16, .inl fi)), (hj, .inr (1, [.ref jb, .int (nI jn1), .int jm1, .int jS1, .int jl1])), (jb, .inl (cJ, 300, .inl fb1))] [(0, .ref hm), (1, .ref hp), (2, .ref hr)] [] 68 := by
    intro rq1 fb1 jn1 jm1 jS1 jl1 hn1 hq
    rw [sp_M_stepR_68] at hq
    refine zk_aload_n (pc := 68) X d_M_step_68 rfl (q := 1) rfl ?_
    refine zk_aload_n (pc := 69) X d_M_step_69 rfl (q := 0) rfl ?_
    refine zk_get (pc := 70) X (ci := 5) (v := .int mp) in_M 0 rfl rfl 2 (by decide) (zk_m tw_122) rfl d_M_step_70 ?_
    refine zk_calli (pc := 73) X (wc := [(hp, .inr (0, [.ref po, .ref pf, .ref ps, .int (nI pn)])), (po, .inl (cPo, 24, .inl fo)), (pf, .inl (cPf, 24, .inl ff)), (ps, .inl (cPs, 24, .inl fs))]) (wr := [(hm, .inr (5, [.ref mr, .ref mc, .int mp, .int mb, .int mi, .int me, .int ml, .int mo, .int mt, .int (nI (mS + 1))])), (mr, .inl (cmr, 4, .inl fr)), (mc, .inl (cmc, 32, .inl fc)), (hr, .inr (2, [.ref hj, .ref ri, .int (nI rw), .int rt, .int rq1, .int rc])), (ri, .inl (cR, 16, .inl fi)), (hj, .inr (1, [.ref jb, .int (nI jn1), .int jm1, .int jS1, .int jl1])), (jb, .inl (cJ, 300, .inl fb1))]) [3, 4, 5, 6] [0, 1, 2, 7, 8, 9, 10] rfl rfl (by decide) (by decide) (by decide) (zk_runV X (C := R_P) (tysC := [(cPo, .int), (cPf, .int), (cPs, .int)]) (As := [.int mp]) (rest := []) (c_P_has l dC dI hp po pf ps cPo cPf cPs mp fo ff fs pn) [2, 3, 4] rfl (ci := 0) rfl 3 rfl (zk_cwV 1 X.1.2.2.2.2 (zk_goodT tw_215) rfl rfl rfl (zk_m tw_212) (zk_m tw_213) (zk_m tw_214) (zk_m tw_2) rfl (by decide +kernel) ⟨Nat.le_of_ble_eq_true rfl, Nat.le_of_ble_eq_true rfl⟩) rfl rfl (Nat.le_of_ble_eq_true rfl) ⟨Nat.zero_le _, Nat.zero_le _⟩ d_M_step_73) ?_
    rintro r73 ⟨⟩ ⟨w73, f73_0⟩
    have f73_0 : zk_hs r73 mp pn := f73_0
    refine zk_ws (ws' := [(hm, .inr (5, [.ref mr, .ref mc, .int mp, .int mb, .int mi, .int me, .int ml, .int mo, .int mt, .int (nI (mS + 1))])), (mr, .inl (cmr, 4, .inl fr)), (mc, .inl (cmc, 32, .inl fc)), (hr, .inr (2, [.ref hj, .ref ri, .int (nI rw), .int rt, .int rq1, .int rc])), (ri, .inl (cR, 16, .inl fi)), (hj, .inr (1, [.ref jb, .int (nI jn1), .int jm1, .int jS1, .int jl1])), (jb, .inl (cJ, 300, .inl fb1)), (hp, .inr (0, [.ref po, .ref pf, .ref ps, .int (nI pn)])), (po, .inl (cPo, 24, .inl fo)), (pf, .inl (cPf, 24, .inl ff)), (ps, .inl (cPs, 24, .inl fs))]) rfl ?_
    subst w73
    refine zk_if_eq (pc := 76) X (tgt := 120) d_M_step_76 (by decide) (fun h76 => ?_) (fun h76 => ?_)
    · have hq := hq.trans (if_pos h76)
      refine zk_aload_n (pc := 120) X d_M_step_120 rfl (q := 0) rfl ?_
      refine zk_iconst (pc := 121) X (v := 1) d_M_step_121 rfl ?_
      refine zk_put (pc := 122) X (ty := .boolean) (v := .int 1) (ws' := [(hm, .inr (5, [.ref mr, .ref mc, .int mp, .int mb, .int mi, .int 1, .int ml, .int mo, .int mt, .int (nI (mS + 1))])), (mr, .inl (cmr, 4, .inl fr)), (mc, .inl (cmc, 32, .inl fc)), (hr, .inr (2, [.ref hj, .ref ri, .int (nI rw), .int rt, .int rq1, .int rc])), (ri, .inl (cR, 16, .inl fi)), (hj, .inr (1, [.ref jb, .int (nI jn1), .int jm1, .int jS1, .int jl1])), (jb, .inl (cJ, 300, .inl fb1)), (hp, .inr (0, [.ref po, .ref pf, .ref ps, .int (nI pn)])), (po, .inl (cPo, 24, .inl fo)), (pf, .inl (cPf, 24, .inl ff)), (ps, .inl (cPs, 24, .inl fs))]) in_M tok_M nok_M 0 rfl rfl 5 (by decide) (zk_m tw_125) rfl rfl rfl rfl (Nat.le_of_ble_eq_true rfl) d_M_step_122 rfl ?_
      refine zk_perm (ws' := [(hm, .inr (5, [.ref mr, .ref mc, .int mp, .int mb, .int mi, .int 1, .int ml, .int mo, .int mt, .int (nI (mS + 1))])), (mr, .inl (cmr, 4, .inl fr)), (mc, .inl (cmc, 32, .inl fc)), (hp, .inr (0, [.ref po, .ref pf, .ref ps, .int (nI pn)])), (po, .inl (cPo, 24, .inl fo)), (pf, .inl (cPf, 24, .inl ff)), (ps, .inl (cPs, 24, .inl fs)), (hr, .inr (2, [.ref hj, .ref ri, .int (nI rw), .int rt, .int rq1, .int rc])), (ri, .inl (cR, 16, .inl fi)), (hj, .inr (1, [.ref jb, .int (nI jn1), .int jm1, .int jS1, .int jl1])), (jb, .inl (cJ, 300, .inl fb1))]) [0, 1, 2, 7, 8, 9, 10, 3, 4, 5, 6] rfl (by decide) ?_
      exact cut125 fr fc mp mb mi 1 ml mo fi rw rt rq1 fb1 jn1 jm1 jS1 jl1 (by omega) (by omega) hq
    · have hq := hq.trans (if_neg h76)
      refine zk_aload_n (pc := 79) X d_M_step_79 rfl (q := 0) rfl ?_
      refine zk_get (pc := 80) X (ci := 5) (v := .int mp) in_M 0 rfl rfl 2 (by decide) (zk_m tw_122) rfl d_M_step_80 ?_
      refine zk_istore_n (pc := 83) X (i := 3) (lv' := [(3, .int mp), (0, .ref hm), (1, .ref hp), (2, .ref hr)]) d_M_step_83 rfl (by decide) rfl ?_
      refine zk_aload_n (pc := 84) X d_M_step_84 rfl (q := 1) rfl ?_
      refine zk_dup (pc := 85) X d_M_step_85 rfl ?_
      refine zk_get (pc := 86) X (ci := 5) (v := .int mp) in_M 0 rfl rfl 2 (by decide) (zk_m tw_122) rfl d_M_step_86 ?_
      refine zk_iconst (pc := 89) X (v := 1) d_M_step_89 rfl ?_
      refine zk_iadd (pc := 90) X (v := (mp + 1)) d_M_step_90 rfl ?_
      refine zk_put (pc := 91) X (ty := .int) (v := .int (mp + 1)) (ws' := [(hm, .inr (5, [.ref mr, .ref mc, .int (mp + 1), .int mb, .int mi, .int me, .int ml, .int mo, .int mt, .int (nI (mS + 1))])), (mr, .inl (cmr, 4, .inl fr)), (mc, .inl (cmc, 32, .inl fc)), (hr, .inr (2, [.ref hj, .ref ri, .int (nI rw), .int rt, .int rq1, .int rc])), (ri, .inl (cR, 16, .inl fi)), (hj, .inr (1, [.ref jb, .int (nI jn1), .int jm1, .int jS1, .int jl1])), (jb, .inl (cJ, 300, .inl fb1)), (hp, .inr (0, [.ref po, .ref pf, .ref ps, .int (nI pn)])), (po, .inl (cPo, 24, .inl fo)), (pf, .inl (cPf, 24, .inl ff)), (ps, .inl (cPs, 24, .inl fs))]) in_M tok_M nok_M 0 rfl rfl 2 (by decide) (zk_m tw_122) rfl rfl rfl rfl (Nat.le_of_ble_eq_true rfl) d_M_step_91 rfl ?_
      refine zk_aload_n (pc := 94) X d_M_step_94 rfl (q := 1) rfl ?_
      refine zk_aload_n (pc := 95) X d_M_step_95 rfl (q := 2) rfl ?_
      refine zk_get (pc := 96) X (ci := 0) (v := .ref po) in_P 7 rfl rfl 0 (by decide) (zk_m tw_26) rfl d_M_step_96 ?_
      refine zk_iload_n (pc := 99) X d_M_step_99 rfl (q := 0) rfl ?_
      refine zk_iald (pc := 100) X 8 2 (mp.toNatClampNeg) rfl rfl (zk_hasI f73_0 h76).1 (zk_hasL f73_0 h76 hpn) (by decide) d_M_step_100 ?_
      refine zk_aload_n (pc := 101) X d_M_step_101 rfl (q := 2) rfl ?_
      refine zk_get (pc := 102) X (ci := 0) (v := .ref pf) in_P 7 rfl rfl 1 (by decide) (zk_m tw_28) rfl d_M_step_102 ?_
      refine zk_iload_n (pc := 105) X d_M_step_105 rfl (q := 0) rfl ?_
      refine zk_iald (pc := 106) X 9 3 (mp.toNatClampNeg) rfl rfl (zk_hasI f73_0 h76).1 (zk_hasL f73_0 h76 hpn) (by decide) d_M_step_106 ?_
      refine zk_aload_n (pc := 107) X d_M_step_107 rfl (q := 2) rfl ?_
      refine zk_get (pc := 108) X (ci := 0) (v := .ref ps) in_P 7 rfl rfl 2 (by decide) (zk_m tw_30) rfl d_M_step_108 ?_
      refine zk_iload_n (pc := 111) X d_M_step_111 rfl (q := 0) rfl ?_
      refine zk_iald (pc := 112) X 10 4 (mp.toNatClampNeg) rfl rfl (zk_hasI f73_0 h76).1 (zk_hasL f73_0 h76 hpn) (by decide) d_M_step_112 ?_
      refine zk_aload_n (pc := 113) X d_M_step_113 rfl (q := 3) rfl ?_
      refine zk_callv (pc := 114) X (wc := [(hm, .inr (5, [.ref mr, .ref mc, .int (mp + 1), .int mb, .int mi, .int me, .int ml, .int mo, .int mt, .int (nI (mS + 1))])), (mr, .inl (cmr, 4, .inl fr)), (mc, .inl (cmc, 32, .inl fc)), (hr, .inr (2, [.ref hj, .ref ri, .int (nI rw), .int rt, .int rq1, .int rc])), (ri, .inl (cR, 16, .inl fi)), (hj, .inr (1, [.ref jb, .int (nI jn1), .int jm1, .int jS1, .int jl1])), (jb, .inl (cJ, 300, .inl fb1))]) (wr := [(hp, .inr (0, [.ref po, .ref pf, .ref ps, .int (nI pn)])), (po, .inl (cPo, 24, .inl fo)), (pf, .inl (cPf, 24, .inl ff)), (ps, .inl (cPs, 24, .inl fs))]) [0, 1, 2, 3, 4, 5, 6] [7, 8, 9, 10] rfl rfl (by decide) (by decide) (by decide) (zk_runV X (C := R_M) (tysC := [(cmr, .int), (cmc, .int), (cR, .int), (cJ, .int)]) (As := [.int (fo mp.toNatClampNeg), .int (ff mp.toNatClampNeg), .int (fs mp.toNatClampNeg), .ref hr]) (rest := []) (c_M_performR l dC dI hm mr mc hr hj ri jb cmr cmc cR cJ (fo mp.toNatClampNeg) (ff mp.toNatClampNeg) (fs mp.toNatClampNeg) fr fc (mp + 1) mb mi me ml mo mt (mS + 1) fi rw rt rq1 rc fb1 jn1 jm1 jS1 jl1 (by omega) (by omega)) [0, 1, 5, 6] rfl (ci := 5) rfl 0 rfl (zk_cwV 4 X.1.2.2.2.2 (zk_goodT tw_254) rfl rfl rfl (zk_m tw_252) (zk_m tw_253) (zk_m tw_528) (zk_m tw_8) rfl (by decide +kernel) ⟨Nat.le_of_ble_eq_true rfl, Nat.le_of_ble_eq_true rfl⟩) rfl rfl (Nat.le_of_ble_eq_true rfl) ⟨Nat.zero_le _, Nat.zero_le _⟩ d_M_step_114) ?_
      rintro ⟨fr_114, fc_114, mp_114, mi_114, me_114, ml_114, mo_114, fi_114, rw_114, rt_114, fb_114, jn_114, jm_114, jS_114, jl_114⟩ ⟨w114, f114_0, f114_1⟩
      have f114_0 : rw_114 ≤ 16 := f114_0
      have f114_1 : jn_114 ≤ 300 := f114_1
      refine zk_ws (ws' := [(hp, .inr (0, [.ref po, .ref pf, .ref ps, .int (nI pn)])), (po, .inl (cPo, 24, .inl fo)), (pf, .inl (cPf, 24, .inl ff)), (ps, .inl (cPs, 24, .inl fs)), (hm, .inr (5, [.ref mr, .ref mc, .int mp_114, .int mb, .int mi_114, .int me_114, .int ml_114, .int mo_114, .int mt, .int (nI (mS + 1))])), (mr, .inl (cmr, 4, .inl fr_114)), (mc, .inl (cmc, 32, .inl fc_114)), (hr, .inr (2, [.ref hj, .ref ri, .int (nI rw_114), .int rt_114, .int rq1, .int rc])), (ri, .inl (cR, 16, .inl fi_114)), (hj, .inr (1, [.ref jb, .int (nI jn_114), .int jm_114, .int jS_114, .int jl_114])), (jb, .inl (cJ, 300, .inl fb_114))]) rfl ?_
      try dsimp only at w114
      rw [← w114] at hq
      try dsimp only at hq
      refine zk_goto (pc := 117) X (tgt := 125) d_M_step_117 (by decide) ?_
      refine zk_perm (ws' := [(hm, .inr (5, [.ref mr, .ref mc, .int mp_114, .int mb, .int mi_114, .int me_114, .int ml_114, .int mo_114, .int mt, .int (nI (mS + 1))])), (mr, .inl (cmr, 4, .inl fr_114)), (mc, .inl (cmc, 32, .inl fc_114)), (hp, .inr (0, [.ref po, .ref pf, .ref ps, .int (nI pn)])), (po, .inl (cPo, 24, .inl fo)), (pf, .inl (cPf, 24, .inl ff)), (ps, .inl (cPs, 24, .inl fs)), (hr, .inr (2, [.ref hj, .ref ri, .int (nI rw_114), .int rt_114, .int rq1, .int rc])), (ri, .inl (cR, 16, .inl fi_114)), (hj, .inr (1, [.ref jb, .int (nI jn_114), .int jm_114, .int jS_114, .int jl_114])), (jb, .inl (cJ, 300, .inl fb_114))]) [4, 5, 6, 0, 1, 2, 3, 7, 8, 9, 10] rfl (by decide) ?_
      refine zk_lv (lv' := [(0, .ref hm), (1, .ref hp), (2, .ref hr)]) [1, 2, 3] rfl ?_
      exact cut125 fr_114 fc_114 mp_114 mb mi_114 me_114 ml_114 mo_114 fi_114 rw_114 rt_114 rq1 fb_114 jn_114 jm_114 jS_114 jl_114 (by omega) (by omega) hq
  have hq := sp_M_stepR.eq_1 fr fc mp mb mi me ml mo mt mS fo ff fs pn fi rw rt rq rc fb jn jm jS jl
  refine zk_lv (lv' := [(0, .ref hm), (1, .ref hp), (2, .ref hr)]) [0, 1, 2] rfl ?_
  refine zk_aload_n (pc := 0) X d_M_step_0 rfl (q := 0) rfl ?_
  refine zk_get (pc := 1) X (ci := 5) (v := .int me) in_M 0 rfl rfl 5 (by decide) (zk_m tw_125) rfl d_M_step_1 ?_
  refine zk_if_eq (pc := 4) X (tgt := 9) d_M_step_4 (by decide) (fun h4 => ?_) (fun h4 => ?_)
  · have hq := hq.trans (if_pos h4)
    refine zk_aload_n (pc := 9) X d_M_step_9 rfl (q := 0) rfl ?_
    refine zk_dup (pc := 10) X d_M_step_10 rfl ?_
    refine zk_get (pc := 11) X (ci := 5) (v := .int (nI mS)) in_M 0 rfl rfl 9 (by decide) (zk_m tw_129) rfl d_M_step_11 ?_
    refine zk_iconst (pc := 14) X (v := 1) d_M_step_14 rfl ?_
    refine zk_iadd (pc := 15) X (v := nI (mS + 1)) d_M_step_15 (nI_add (mS) (1)) ?_
    refine zk_put (pc := 16) X (ty := .int) (v := .int (nI (mS + 1))) (ws' := [(hm, .inr (5, [.ref mr, .ref mc, .int mp, .int mb, .int mi, .int me, .int ml, .int mo, .int mt, .int (nI (mS + 1))])), (mr, .inl (cmr, 4, .inl fr)), (mc, .inl (cmc, 32, .inl fc)), (hp, .inr (0, [.ref po, .ref pf, .ref ps, .int (nI pn)])), (po, .inl (cPo, 24, .inl fo)), (pf, .inl (cPf, 24, .inl ff)), (ps, .inl (cPs, 24, .inl fs)), (hr, .inr (2, [.ref hj, .ref ri, .int (nI rw), .int rt, .int rq, .int rc])), (ri, .inl (cR, 16, .inl fi)), (hj, .inr (1, [.ref jb, .int (nI jn), .int jm, .int jS, .int jl])), (jb, .inl (cJ, 300, .inl fb))]) in_M tok_M nok_M 0 rfl rfl 9 (by decide) (zk_m tw_129) rfl rfl rfl rfl (Nat.le_of_ble_eq_true rfl) d_M_step_16 rfl ?_
    refine zk_aload_n (pc := 19) X d_M_step_19 rfl (q := 0) rfl ?_
    refine zk_get (pc := 20) X (ci := 5) (v := .int mi) in_M 0 rfl rfl 4 (by decide) (zk_m tw_124) rfl d_M_step_20 ?_
    refine zk_if_ne (pc := 23) X (tgt := 68) d_M_step_23 (by decide) (fun h23 => ?_) (fun h23 => ?_)
    · have hq := hq.trans (if_neg h23)
      exact cut68 rq fb jn jm jS jl (by omega) hq
    · have hq := hq.trans (if_pos h23)
      refine zk_aload_n (pc := 26) X d_M_step_26 rfl (q := 1) rfl ?_
      refine zk_bipush (pc := 27) X (v := 16) d_M_step_27 (by decide) ?_
      refine zk_calli (pc := 29) X (wc := [(hp, .inr (0, [.ref po, .ref pf, .ref ps, .int (nI pn)])), (po, .inl (cPo, 24, .inl fo)), (pf, .inl (cPf, 24, .inl ff)), (ps, .inl (cPs, 24, .inl fs))]) (wr := [(hm, .inr (5, [.ref mr, .ref mc, .int mp, .int mb, .int mi, .int me, .int ml, .int mo, .int mt, .int (nI (mS + 1))])), (mr, .inl (cmr, 4, .inl fr)), (mc, .inl (cmc, 32, .inl fc)), (hr, .inr (2, [.ref hj, .ref ri, .int (nI rw), .int rt, .int rq, .int rc])), (ri, .inl (cR, 16, .inl fi)), (hj, .inr (1, [.ref jb, .int (nI jn), .int jm, .int jS, .int jl])), (jb, .inl (cJ, 300, .inl fb))]) [3, 4, 5, 6] [0, 1, 2, 7, 8, 9, 10] rfl rfl (by decide) (by decide) (by decide) (zk_runV X (C := R_P) (tysC := [(cPo, .int), (cPf, .int), (cPs, .int)]) (As := [.int 16]) (rest := []) (c_P_has l dC dI hp po pf ps cPo cPf cPs 16 fo ff fs pn) [2, 3, 4] rfl (ci := 0) rfl 3 rfl (zk_cwV 1 X.1.2.2.2.2 (zk_goodT tw_215) rfl rfl rfl (zk_m tw_212) (zk_m tw_213) (zk_m tw_214) (zk_m tw_2) rfl (by decide +kernel) ⟨Nat.le_of_ble_eq_true rfl, Nat.le_of_ble_eq_true rfl⟩) rfl rfl (Nat.le_of_ble_eq_true rfl) ⟨Nat.zero_le _, Nat.zero_le _⟩ d_M_step_29) ?_
      rintro r29 ⟨⟩ ⟨w29, f29_0⟩
      have f29_0 : zk_hs r29 16 pn := f29_0
      refine zk_ws (ws' := [(hm, .inr (5, [.ref mr, .ref mc, .int mp, .int mb, .int mi, .int me, .int ml, .int mo, .int mt, .int (nI (mS + 1))])), (mr, .inl (cmr, 4, .inl fr)), (mc, .inl (cmc, 32, .inl fc)), (hr, .inr (2, [.ref hj, .ref ri, .int (nI rw), .int rt, .int rq, .int rc])), (ri, .inl (cR, 16, .inl fi)), (hj, .inr (1, [.ref jb, .int (nI jn), .int jm, .int jS, .int jl])), (jb, .inl (cJ, 300, .inl fb)), (hp, .inr (0, [.ref po, .ref pf, .ref ps, .int (nI pn)])), (po, .inl (cPo, 24, .inl fo)), (pf, .inl (cPf, 24, .inl ff)), (ps, .inl (cPs, 24, .inl fs))]) rfl ?_
      subst w29
      refine zk_if_eq (pc := 32) X (tgt := 68) d_M_step_32 (by decide) (fun h32 => ?_) (fun h32 => ?_)
      · have hq := hq.trans (if_pos h32)
        refine zk_perm (ws' := [(hm, .inr (5, [.ref mr, .ref mc, .int mp, .int mb, .int mi, .int me, .int ml, .int mo, .int mt, .int (nI (mS + 1))])), (mr, .inl (cmr, 4, .inl fr)), (mc, .inl (cmc, 32, .inl fc)), (hp, .inr (0, [.ref po, .ref pf, .ref ps, .int (nI pn)])), (po, .inl (cPo, 24, .inl fo)), (pf, .inl (cPf, 24, .inl ff)), (ps, .inl (cPs, 24, .inl fs)), (hr, .inr (2, [.ref hj, .ref ri, .int (nI rw), .int rt, .int rq, .int rc])), (ri, .inl (cR, 16, .inl fi)), (hj, .inr (1, [.ref jb, .int (nI jn), .int jm, .int jS, .int jl])), (jb, .inl (cJ, 300, .inl fb))]) [0, 1, 2, 7, 8, 9, 10, 3, 4, 5, 6] rfl (by decide) ?_
        exact cut68 rq fb jn jm jS jl (by omega) hq
      · have hq := hq.trans (if_neg h32)
        refine zk_aload_n (pc := 35) X d_M_step_35 rfl (q := 2) rfl ?_
        refine zk_aload_n (pc := 36) X d_M_step_36 rfl (q := 0) rfl ?_
        refine zk_get (pc := 37) X (ci := 5) (v := .int (nI (mS + 1))) in_M 0 rfl rfl 9 (by decide) (zk_m tw_129) rfl d_M_step_37 ?_
        refine zk_calli (pc := 40) X (wc := [(hr, .inr (2, [.ref hj, .ref ri, .int (nI rw), .int rt, .int rq, .int rc])), (ri, .inl (cR, 16, .inl fi)), (hj, .inr (1, [.ref jb, .int (nI jn), .int jm, .int jS, .int jl])), (jb, .inl (cJ, 300, .inl fb))]) (wr := [(hm, .inr (5, [.ref mr, .ref mc, .int mp, .int mb, .int mi, .int me, .int ml, .int mo, .int mt, .int (nI (mS + 1))])), (mr, .inl (cmr, 4, .inl fr)), (mc, .inl (cmc, 32, .inl fc)), (hp, .inr (0, [.ref po, .ref pf, .ref ps, .int (nI pn)])), (po, .inl (cPo, 24, .inl fo)), (pf, .inl (cPf, 24, .inl ff)), (ps, .inl (cPs, 24, .inl fs))]) [3, 4, 5, 6] [0, 1, 2, 7, 8, 9, 10] rfl rfl (by decide) (by decide) (by decide) (zk_runU X (tysC := [(cR, .int), (cJ, .int)]) (As := [.int (nI (mS + 1))]) (rest := []) (c_R_takeInterrupt l dC dI hr hj ri jb cR cJ (nI (mS + 1)) fi rw rt rq rc fb jn jm jS jl (by omega)) [5, 6] rfl (ci := 2) rfl 3 rfl (zk_cwA 1 X.1.2.2.2.2 (zk_goodT tw_220) rfl rfl rfl (zk_m tw_216) (zk_m tw_217) (zk_m tw_218) (zk_m tw_219) (zk_m tw_5) X.2.2.2.2.2.2.2.1 (by decide +kernel) ⟨Nat.le_of_ble_eq_true rfl, Nat.le_of_ble_eq_true rfl⟩) rfl rfl (Nat.le_of_ble_eq_true rfl) ⟨Nat.zero_le _, Nat.zero_le _⟩ d_M_step_40) ?_
        rintro r40 ⟨rq_40, fb_40, jn_40, jm_40, jS_40, jl_40⟩ ⟨w40, f40_0⟩
        have f40_0 : jn_40 ≤ 300 := f40_0
        refine zk_ws (ws' := [(hm, .inr (5, [.ref mr, .ref mc, .int mp, .int mb, .int mi, .int me, .int ml, .int mo, .int mt, .int (nI (mS + 1))])), (mr, .inl (cmr, 4, .inl fr)), (mc, .inl (cmc, 32, .inl fc)), (hp, .inr (0, [.ref po, .ref pf, .ref ps, .int (nI pn)])), (po, .inl (cPo, 24, .inl fo)), (pf, .inl (cPf, 24, .inl ff)), (ps, .inl (cPs, 24, .inl fs)), (hr, .inr (2, [.ref hj, .ref ri, .int (nI rw), .int rt, .int rq_40, .int rc])), (ri, .inl (cR, 16, .inl fi)), (hj, .inr (1, [.ref jb, .int (nI jn_40), .int jm_40, .int jS_40, .int jl_40])), (jb, .inl (cJ, 300, .inl fb_40))]) rfl ?_
        try dsimp only at w40
        rw [← w40] at hq
        try dsimp only at hq
        refine zk_if_eq (pc := 43) X (tgt := 68) d_M_step_43 (by decide) (fun h43 => ?_) (fun h43 => ?_)
        · have hq := hq.trans (if_pos h43)
          exact cut68 rq_40 fb_40 jn_40 jm_40 jS_40 jl_40 (by omega) hq
        · have hq := hq.trans (if_neg h43)
          refine zk_aload_n (pc := 46) X d_M_step_46 rfl (q := 0) rfl ?_
          refine zk_aload_n (pc := 47) X d_M_step_47 rfl (q := 0) rfl ?_
          refine zk_get (pc := 48) X (ci := 5) (v := .int mp) in_M 0 rfl rfl 2 (by decide) (zk_m tw_122) rfl d_M_step_48 ?_
          refine zk_put (pc := 51) X (ty := .int) (v := .int mp) (ws' := [(hm, .inr (5, [.ref mr, .ref mc, .int mp, .int mp, .int mi, .int me, .int ml, .int mo, .int mt, .int (nI (mS + 1))])), (mr, .inl (cmr, 4, .inl fr)), (mc, .inl (cmc, 32, .inl fc)), (hp, .inr (0, [.ref po, .ref pf, .ref ps, .int (nI pn)])), (po, .inl (cPo, 24, .inl fo)), (pf, .inl (cPf, 24, .inl ff)), (ps, .inl (cPs, 24, .inl fs)), (hr, .inr (2, [.ref hj, .ref ri, .int (nI rw), .int rt, .int rq_40, .int rc])), (ri, .inl (cR, 16, .inl fi)), (hj, .inr (1, [.ref jb, .int (nI jn_40), .int jm_40, .int jS_40, .int jl_40])), (jb, .inl (cJ, 300, .inl fb_40))]) in_M tok_M nok_M 0 rfl rfl 3 (by decide) (zk_m tw_123) rfl rfl rfl rfl (Nat.le_of_ble_eq_true rfl) d_M_step_51 rfl ?_
          refine zk_aload_n (pc := 54) X d_M_step_54 rfl (q := 0) rfl ?_
          refine zk_bipush (pc := 55) X (v := 16) d_M_step_55 (by decide) ?_
          refine zk_put (pc := 57) X (ty := .int) (v := .int 16) (ws' := [(hm, .inr (5, [.ref mr, .ref mc, .int 16, .int mp, .int mi, .int me, .int ml, .int mo, .int mt, .int (nI (mS + 1))])), (mr, .inl (cmr, 4, .inl fr)), (mc, .inl (cmc, 32, .inl fc)), (hp, .inr (0, [.ref po, .ref pf, .ref ps, .int (nI pn)])), (po, .inl (cPo, 24, .inl fo)), (pf, .inl (cPf, 24, .inl ff)), (ps, .inl (cPs, 24, .inl fs)), (hr, .inr (2, [.ref hj, .ref ri, .int (nI rw), .int rt, .int rq_40, .int rc])), (ri, .inl (cR, 16, .inl fi)), (hj, .inr (1, [.ref jb, .int (nI jn_40), .int jm_40, .int jS_40, .int jl_40])), (jb, .inl (cJ, 300, .inl fb_40))]) in_M tok_M nok_M 0 rfl rfl 2 (by decide) (zk_m tw_122) rfl rfl rfl rfl (Nat.le_of_ble_eq_true rfl) d_M_step_57 rfl ?_
          refine zk_aload_n (pc := 60) X d_M_step_60 rfl (q := 0) rfl ?_
          refine zk_iconst (pc := 61) X (v := 1) d_M_step_61 rfl ?_
          refine zk_put (pc := 62) X (ty := .boolean) (v := .int 1) (ws' := [(hm, .inr (5, [.ref mr, .ref mc, .int 16, .int mp, .int 1, .int me, .int ml, .int mo, .int mt, .int (nI (mS + 1))])), (mr, .inl (cmr, 4, .inl fr)), (mc, .inl (cmc, 32, .inl fc)), (hp, .inr (0, [.ref po, .ref pf, .ref ps, .int (nI pn)])), (po, .inl (cPo, 24, .inl fo)), (pf, .inl (cPf, 24, .inl ff)), (ps, .inl (cPs, 24, .inl fs)), (hr, .inr (2, [.ref hj, .ref ri, .int (nI rw), .int rt, .int rq_40, .int rc])), (ri, .inl (cR, 16, .inl fi)), (hj, .inr (1, [.ref jb, .int (nI jn_40), .int jm_40, .int jS_40, .int jl_40])), (jb, .inl (cJ, 300, .inl fb_40))]) in_M tok_M nok_M 0 rfl rfl 4 (by decide) (zk_m tw_124) rfl rfl rfl rfl (Nat.le_of_ble_eq_true rfl) d_M_step_62 rfl ?_
          refine zk_goto (pc := 65) X (tgt := 125) d_M_step_65 (by decide) ?_
          exact cut125 fr fc 16 mp 1 me ml mo fi rw rt rq_40 fb_40 jn_40 jm_40 jS_40 jl_40 (by omega) (by omega) hq
  · have hq := hq.trans (if_neg h4)
    refine zk_iconst (pc := 7) X (v := 0) d_M_step_7 rfl ?_
    exact zk_zret (pc := 8) X hQ hRt hLk rfl (fr, fc, mp, mb, mi, me, ml, mo, mt, mS, rq, fi, rw, rt, fb, jn, jm, jS, jl) ⟨hq.symm, (show rw ≤ 16 by omega), (show jn ≤ 300 by omega)⟩ [0, 1, 2, 3, 4, 5, 6, 7, 8, 9, 10] rfl (by decide) d_M_step_8
end
section
def sp_M_performT (o : Int32) (a : Int32) (b : Int32) (fr : Nat → Int32) (fc : Nat → Int32) (mp : Int32) (mb : Int32) (mi : Int32) (me : Int32) (ml : Int32) (mo : Int32) (mS : Nat) (tt : Int32) (dp : Nat) (de : Int32) (dB : Int32) (ds : Int64) (dk : Int32) (dv : Int32) (fb : Nat → Int32) (jn : Nat) : (Nat → Int32) × (Nat → Int32) × Int32 × Int32 × Int32 × Int32 × Int32 × Int32 × Nat × Int32 × Int32 × Int64 × Int32 × Int32 :=
  if o = 0 then
    ((upd fr (zk_ix3 a) b), fc, mp, mi, me, ml, mo, tt, dp, de, dB, ds, dk, dv)
  else if o = 1 then
    ((upd fr (zk_ix3 a) ((fr (zk_ix3 a)) + (fr (zk_ix3 b)))), fc, mp, mi, me, ml, mo, tt, dp, de, dB, ds, dk, dv)
  else if o = 2 then
    ((upd fr (zk_ix3 a) ((fr (zk_ix3 a)) - (fr (zk_ix3 b)))), fc, mp, mi, me, ml, mo, tt, dp, de, dB, ds, dk, dv)
  else if o = 3 then
    ((upd fr (zk_ix3 a) (fc (zk_ix31 (fr (zk_ix3 b))))), fc, mp, mi, me, ml, mo, tt, dp, de, dB, ds, dk, dv)
  else if o = 4 then
    (fr, (upd fc (zk_ix31 (fr (zk_ix3 b))) (fr (zk_ix3 a))), mp, mi, me, ml, mo, tt, dp, de, dB, ds, dk, dv)
  else if o = 5 then
    (match sp_M_turn o (fr (zk_ix3 a)) b mp mb mi me with
    | (mp_258, mi_258, me_258) =>
      (fr, fc, mp_258, mi_258, me_258, ml, mo, tt, dp, de, dB, ds, dk, dv))
  else if o = 6 then
    (match sp_M_turn o (fr (zk_ix3 a)) b mp mb mi me with
    | (mp_258, mi_258, me_258) =>
      (fr, fc, mp_258, mi_258, me_258, ml, mo, tt, dp, de, dB, ds, dk, dv))
  else if o = 7 then
    (match sp_T_takeInput (nI mS) dp de dB ds dk dv fb jn with
    | (r169, dp_169, de_169, dB_169, ds_169, dk_169, dv_169) =>
      ((upd fr (zk_ix3 a) r169), fc, mp, mi, me, ml, mo, tt, dp_169, de_169, dB_169, ds_169, dk_169, dv_169))
  else if o = 8 then
    (match sp_T_readClock (nI mS) tt dp de dB ds dk dv fb jn with
    | (r188, tt_188, dp_188, de_188, dB_188, ds_188, dk_188, dv_188) =>
      ((upd fr (zk_ix3 a) r188), fc, mp, mi, me, ml, mo, tt_188, dp_188, de_188, dB_188, ds_188, dk_188, dv_188))
  else if o = 9 then
    ((upd fr (zk_ix3 a) (zf_ushr ((ml * 1103515245) + 12345) 16)), fc, mp, mi, me, ((ml * 1103515245) + 12345), mo, tt, dp, de, dB, ds, dk, dv)
  else if o = 10 then
    (fr, fc, mp, mi, me, ml, (sp_X_mix mo (fr (zk_ix3 a))), tt, dp, de, dB, ds, dk, dv)
  else (match sp_M_turn o (fr (zk_ix3 a)) b mp mb mi me with
  | (mp_258, mi_258, me_258) =>
    (fr, fc, mp_258, mi_258, me_258, ml, mo, tt, dp, de, dB, ds, dk, dv))
abbrev rm_M_performT : Room := { frames := 5, cells := 0, slots := 0, locals := 111 }
set_option maxHeartbeats 4000000 in
set_option maxRecDepth 100000 in
theorem c_M_performT (l : Launch) (dC : Nat → ClassId) (dI : Nat → Nat → Nat) (hm mr mc ht hd hj jb : Nat) (cmr cmc cJ : ClassId) (o : Int32) (a : Int32) (b : Int32) (fr : Nat → Int32) (fc : Nat → Int32) (mp : Int32) (mb : Int32) (mi : Int32) (me : Int32) (ml : Int32) (mo : Int32) (mt : Int32) (mS : Nat) (tt : Int32) (dp : Nat) (de : Int32) (dB : Int32) (ds : Int64) (dk : Int32) (dv : Int32) (fb : Nat → Int32) (jn : Nat) (jm : Int32) (jS : Int32) (jl : Int32) (hjn : jn ≤ 300) (hdp : dp ≤ jn) : zk_Cv l y_M_perform w_M_perform rm_M_performT (dC, dI) vwCl [.ref hm, .int o, .int a, .int b, .ref ht] [(hm, .inr (5, [.ref mr, .ref mc, .int mp, .int mb, .int mi, .int me, .int ml, .int mo, .int mt, .int (nI mS)])), (mr, .inl (cmr, 4, .inl fr)), (mc, .inl (cmc, 32, .inl fc)), (ht, .inr (3, [.ref hd, .int tt])), (hd, .inr (4, [.ref hj, .int (nI dp), .int de, .int dB, .long ds, .int dk, .int dv])), (hj, .inr (1, [.ref jb, .int (nI jn), .int jm, .int jS, .int jl])), (jb, .inl (cJ, 300, .inl fb))] [(cmr, .int), (cmc, .int), (cJ, .int)] (fun (u : (Nat → Int32) × (Nat → Int32) × Int32 × Int32 × Int32 × Int32 × Int32 × Int32 × Nat × Int32 × Int32 × Int64 × Int32 × Int32) => u = sp_M_performT o a b fr fc mp mb mi me ml mo mS tt dp de dB ds dk dv fb jn ∧ (u.2.2.2.2.2.2.2.2.1 ≤ jn)) (fun u => [(hm, .inr (5, [.ref mr, .ref mc, .int u.2.2.1, .int mb, .int u.2.2.2.1, .int u.2.2.2.2.1, .int u.2.2.2.2.2.1, .int u.2.2.2.2.2.2.1, .int mt, .int (nI mS)])), (mr, .inl (cmr, 4, .inl u.1)), (mc, .inl (cmc, 32, .inl u.2.1)), (ht, .inr (3, [.ref hd, .int u.2.2.2.2.2.2.2.1])), (hd, .inr (4, [.ref hj, .int (nI u.2.2.2.2.2.2.2.2.1), .int u.2.2.2.2.2.2.2.2.2.1, .int u.2.2.2.2.2.2.2.2.2.2.1, .long u.2.2.2.2.2.2.2.2.2.2.2.1, .int u.2.2.2.2.2.2.2.2.2.2.2.2.1, .int u.2.2.2.2.2.2.2.2.2.2.2.2.2])), (hj, .inr (1, [.ref jb, .int (nI jn), .int jm, .int jS, .int jl])), (jb, .inl (cJ, 300, .inl fb))]) := by
  refine zk_enterv (cc := b_M_perform) (maxL := 7) (ret := none) (by decide) rfl (Nat.le_of_ble_eq_true rfl) ?_
  intro p e s m args below meth c A Q hQ X hRt hLk
  have hq := sp_M_performT.eq_1 o a b fr fc mp mb mi me ml mo mS tt dp de dB ds dk dv fb jn
  refine zk_lv (lv' := [(0, .ref hm), (1, .int o), (2, .int a), (3, .int b), (4, .ref ht)]) [0, 1, 2, 3, 4] rfl ?_
  refine zk_iload_n (pc := 0) X d_M_perform_0 rfl (q := 2) rfl ?_
  refine zk_iconst (pc := 1) X (v := 3) d_M_perform_1 rfl ?_
  refine zk_iand (pc := 2) X (v := (a &&& 3)) d_M_perform_2 rfl ?_
  refine zk_istore (pc := 3) X (i := 5) (lv' := [(5, .int (a &&& 3)), (0, .ref hm), (1, .int o), (2, .int a), (3, .int b), (4, .ref ht)]) d_M_perform_3 (by decide) rfl ?_
  refine zk_aload_n (pc := 5) X d_M_perform_5 rfl (q := 1) rfl ?_
  refine zk_get (pc := 6) X (ci := 5) (v := .ref mr) in_M 0 rfl rfl 0 (by decide) (zk_m tw_120) rfl d_M_perform_6 ?_
  refine zk_iload_n (pc := 9) X d_M_perform_9 rfl (q := 4) rfl ?_
  refine zk_iconst (pc := 10) X (v := 3) d_M_perform_10 rfl ?_
  refine zk_iand (pc := 11) X (v := (b &&& 3)) d_M_perform_11 rfl ?_
  refine zk_iald (pc := 12) X 1 0 (zk_ix3 b) rfl rfl (zk_ix3_eq b) (zk_ix3_lt b) (by decide) d_M_perform_12 ?_
  refine zk_istore (pc := 13) X (i := 6) (lv' := [(6, .int (fr (zk_ix3 b))), (5, .int (a &&& 3)), (0, .ref hm), (1, .int o), (2, .int a), (3, .int b), (4, .ref ht)]) d_M_perform_13 (by decide) rfl ?_
  refine zk_iload_n (pc := 15) X d_M_perform_15 rfl (q := 3) rfl ?_
  rcases Decidable.em (o = 0) with h16_0 | h16_0
  · have hq := hq.trans (if_pos h16_0)
    refine zk_tableIn (pc := 16) X (tgt := 76) 0 h16_0 d_M_perform_16 (by decide) (by decide) rfl (by decide) ?_
    refine zk_aload_n (pc := 76) X d_M_perform_76 rfl (q := 2) rfl ?_
    refine zk_get (pc := 77) X (ci := 5) (v := .ref mr) in_M 0 rfl rfl 0 (by decide) (zk_m tw_120) rfl d_M_perform_77 ?_
    refine zk_iload (pc := 80) X d_M_perform_80 (q := 1) rfl ?_
    refine zk_iload_n (pc := 82) X d_M_perform_82 rfl (q := 5) rfl ?_
    refine zk_iast (pc := 83) X 1 0 (ws' := [(hm, .inr (5, [.ref mr, .ref mc, .int mp, .int mb, .int mi, .int me, .int ml, .int mo, .int mt, .int (nI mS)])), (mr, .inl (cmr, 4, .inl (upd fr (zk_ix3 a) b))), (mc, .inl (cmc, 32, .inl fc)), (ht, .inr (3, [.ref hd, .int tt])), (hd, .inr (4, [.ref hj, .int (nI dp), .int de, .int dB, .long ds, .int dk, .int dv])), (hj, .inr (1, [.ref jb, .int (nI jn), .int jm, .int jS, .int jl])), (jb, .inl (cJ, 300, .inl fb))]) (zk_ix3 a) rfl rfl (zk_ix3_eq a) (zk_ix3_lt a) (by decide) d_M_perform_83 rfl ?_
    refine zk_goto (pc := 84) X (tgt := 261) d_M_perform_84 (by decide) ?_
    exact zk_vret (pc := 261) X hQ hRt hLk ((upd fr (zk_ix3 a) b), fc, mp, mi, me, ml, mo, tt, dp, de, dB, ds, dk, dv) ⟨hq.symm, (show dp ≤ jn by omega)⟩ [0, 1, 2, 3, 4, 5, 6] rfl (by decide) d_M_perform_261
  · have hq := hq.trans (if_neg h16_0)
    rcases Decidable.em (o = 1) with h16_1 | h16_1
    · have hq := hq.trans (if_pos h16_1)
      refine zk_tableIn (pc := 16) X (tgt := 87) 1 h16_1 d_M_perform_16 (by decide) (by decide) rfl (by decide) ?_
      refine zk_aload_n (pc := 87) X d_M_perform_87 rfl (q := 2) rfl ?_
      refine zk_get (pc := 88) X (ci := 5) (v := .ref mr) in_M 0 rfl rfl 0 (by decide) (zk_m tw_120) rfl d_M_perform_88 ?_
      refine zk_iload (pc := 91) X d_M_perform_91 (q := 1) rfl ?_
      refine zk_dup2 (pc := 93) X d_M_perform_93 rfl rfl ?_
      refine zk_iald (pc := 94) X 1 0 (zk_ix3 a) rfl rfl (zk_ix3_eq a) (zk_ix3_lt a) (by decide) d_M_perform_94 ?_
      refine zk_iload (pc := 95) X d_M_perform_95 (q := 0) rfl ?_
      refine zk_iadd (pc := 97) X (v := ((fr (zk_ix3 a)) + (fr (zk_ix3 b)))) d_M_perform_97 rfl ?_
      refine zk_iast (pc := 98) X 1 0 (ws' := [(hm, .inr (5, [.ref mr, .ref mc, .int mp, .int mb, .int mi, .int me, .int ml, .int mo, .int mt, .int (nI mS)])), (mr, .inl (cmr, 4, .inl (upd fr (zk_ix3 a) ((fr (zk_ix3 a)) + (fr (zk_ix3 b)))))), (mc, .inl (cmc, 32, .inl fc)), (ht, .inr (3, [.ref hd, .int tt])), (hd, .inr (4, [.ref hj, .int (nI dp), .int de, .int dB, .long ds, .int dk, .int dv])), (hj, .inr (1, [.ref jb, .int (nI jn), .int jm, .int jS, .int jl])), (jb, .inl (cJ, 300, .inl fb))]) (zk_ix3 a) rfl rfl (zk_ix3_eq a) (zk_ix3_lt a) (by decide) d_M_perform_98 rfl ?_
      refine zk_goto (pc := 99) X (tgt := 261) d_M_perform_99 (by decide) ?_
      exact zk_vret (pc := 261) X hQ hRt hLk ((upd fr (zk_ix3 a) ((fr (zk_ix3 a)) + (fr (zk_ix3 b)))), fc, mp, mi, me, ml, mo, tt, dp, de, dB, ds, dk, dv) ⟨hq.symm, (show dp ≤ jn by omega)⟩ [0, 1, 2, 3, 4, 5, 6] rfl (by decide) d_M_perform_261
    · have hq := hq.trans (if_neg h16_1)
      rcases Decidable.em (o = 2) with h16_2 | h16_2
      · have hq := hq.trans (if_pos h16_2)
        refine zk_tableIn (pc := 16) X (tgt := 102) 2 h16_2 d_M_perform_16 (by decide) (by decide) rfl (by decide) ?_
        refine zk_aload_n (pc := 102) X d_M_perform_102 rfl (q := 2) rfl ?_
        refine zk_get (pc := 103) X (ci := 5) (v := .ref mr) in_M 0 rfl rfl 0 (by decide) (zk_m tw_120) rfl d_M_perform_103 ?_
        refine zk_iload (pc := 106) X d_M_perform_106 (q := 1) rfl ?_
        refine zk_dup2 (pc := 108) X d_M_perform_108 rfl rfl ?_
        refine zk_iald (pc := 109) X 1 0 (zk_ix3 a) rfl rfl (zk_ix3_eq a) (zk_ix3_lt a) (by decide) d_M_perform_109 ?_
        refine zk_iload (pc := 110) X d_M_perform_110 (q := 0) rfl ?_
        refine zk_isub (pc := 112) X (v := ((fr (zk_ix3 a)) - (fr (zk_ix3 b)))) d_M_perform_112 rfl ?_
        refine zk_iast (pc := 113) X 1 0 (ws' := [(hm, .inr (5, [.ref mr, .ref mc, .int mp, .int mb, .int mi, .int me, .int ml, .int mo, .int mt, .int (nI mS)])), (mr, .inl (cmr, 4, .inl (upd fr (zk_ix3 a) ((fr (zk_ix3 a)) - (fr (zk_ix3 b)))))), (mc, .inl (cmc, 32, .inl fc)), (ht, .inr (3, [.ref hd, .int tt])), (hd, .inr (4, [.ref hj, .int (nI dp), .int de, .int dB, .long ds, .int dk, .int dv])), (hj, .inr (1, [.ref jb, .int (nI jn), .int jm, .int jS, .int jl])), (jb, .inl (cJ, 300, .inl fb))]) (zk_ix3 a) rfl rfl (zk_ix3_eq a) (zk_ix3_lt a) (by decide) d_M_perform_113 rfl ?_
        refine zk_goto (pc := 114) X (tgt := 261) d_M_perform_114 (by decide) ?_
        exact zk_vret (pc := 261) X hQ hRt hLk ((upd fr (zk_ix3 a) ((fr (zk_ix3 a)) - (fr (zk_ix3 b)))), fc, mp, mi, me, ml, mo, tt, dp, de, dB, ds, dk, dv) ⟨hq.symm, (show dp ≤ jn by omega)⟩ [0, 1, 2, 3, 4, 5, 6] rfl (by decide) d_M_perform_261
      · have hq := hq.trans (if_neg h16_2)
        rcases Decidable.em (o = 3) with h16_3 | h16_3
        · have hq := hq.trans (if_pos h16_3)
          refine zk_tableIn (pc := 16) X (tgt := 117) 3 h16_3 d_M_perform_16 (by decide) (by decide) rfl (by decide) ?_
          refine zk_aload_n (pc := 117) X d_M_perform_117 rfl (q := 2) rfl ?_
          refine zk_get (pc := 118) X (ci := 5) (v := .ref mr) in_M 0 rfl rfl 0 (by decide) (zk_m tw_120) rfl d_M_perform_118 ?_
          refine zk_iload (pc := 121) X d_M_perform_121 (q := 1) rfl ?_
          refine zk_aload_n (pc := 123) X d_M_perform_123 rfl (q := 2) rfl ?_
          refine zk_get (pc := 124) X (ci := 5) (v := .ref mc) in_M 0 rfl rfl 1 (by decide) (zk_m tw_121) rfl d_M_perform_124 ?_
          refine zk_iload (pc := 127) X d_M_perform_127 (q := 0) rfl ?_
          refine zk_bipush (pc := 129) X (v := 31) d_M_perform_129 (by decide) ?_
          refine zk_iand (pc := 131) X (v := ((fr (zk_ix3 b)) &&& 31)) d_M_perform_131 rfl ?_
          refine zk_iald (pc := 132) X 2 1 (zk_ix31 (fr (zk_ix3 b))) rfl rfl (zk_ix31_eq (fr (zk_ix3 b))) (zk_ix31_lt (fr (zk_ix3 b))) (by decide) d_M_perform_132 ?_
          refine zk_iast (pc := 133) X 1 0 (ws' := [(hm, .inr (5, [.ref mr, .ref mc, .int mp, .int mb, .int mi, .int me, .int ml, .int mo, .int mt, .int (nI mS)])), (mr, .inl (cmr, 4, .inl (upd fr (zk_ix3 a) (fc (zk_ix31 (fr (zk_ix3 b))))))), (mc, .inl (cmc, 32, .inl fc)), (ht, .inr (3, [.ref hd, .int tt])), (hd, .inr (4, [.ref hj, .int (nI dp), .int de, .int dB, .long ds, .int dk, .int dv])), (hj, .inr (1, [.ref jb, .int (nI jn), .int jm, .int jS, .int jl])), (jb, .inl (cJ, 300, .inl fb))]) (zk_ix3 a) rfl rfl (zk_ix3_eq a) (zk_ix3_lt a) (by decide) d_M_perform_133 rfl ?_
          refine zk_goto (pc := 134) X (tgt := 261) d_M_perform_134 (by decide) ?_
          exact zk_vret (pc := 261) X hQ hRt hLk ((upd fr (zk_ix3 a) (fc (zk_ix31 (fr (zk_ix3 b))))), fc, mp, mi, me, ml, mo, tt, dp, de, dB, ds, dk, dv) ⟨hq.symm, (show dp ≤ jn by omega)⟩ [0, 1, 2, 3, 4, 5, 6] rfl (by decide) d_M_perform_261
        · have hq := hq.trans (if_neg h16_3)
          rcases Decidable.em (o = 4) with h16_4 | h16_4
          · have hq := hq.trans (if_pos h16_4)
            refine zk_tableIn (pc := 16) X (tgt := 137) 4 h16_4 d_M_perform_16 (by decide) (by decide) rfl (by decide) ?_
            refine zk_aload_n (pc := 137) X d_M_perform_137 rfl (q := 2) rfl ?_
            refine zk_get (pc := 138) X (ci := 5) (v := .ref mc) in_M 0 rfl rfl 1 (by decide) (zk_m tw_121) rfl d_M_perform_138 ?_
            refine zk_iload (pc := 141) X d_M_perform_141 (q := 0) rfl ?_
            refine zk_bipush (pc := 143) X (v := 31) d_M_perform_143 (by decide) ?_
            refine zk_iand (pc := 145) X (v := ((fr (zk_ix3 b)) &&& 31)) d_M_perform_145 rfl ?_
            refine zk_aload_n (pc := 146) X d_M_perform_146 rfl (q := 2) rfl ?_
            refine zk_get (pc := 147) X (ci := 5) (v := .ref mr) in_M 0 rfl rfl 0 (by decide) (zk_m tw_120) rfl d_M_perform_147 ?_
            refine zk_iload (pc := 150) X d_M_perform_150 (q := 1) rfl ?_
            refine zk_iald (pc := 152) X 1 0 (zk_ix3 a) rfl rfl (zk_ix3_eq a) (zk_ix3_lt a) (by decide) d_M_perform_152 ?_
            refine zk_iast (pc := 153) X 2 1 (ws' := [(hm, .inr (5, [.ref mr, .ref mc, .int mp, .int mb, .int mi, .int me, .int ml, .int mo, .int mt, .int (nI mS)])), (mr, .inl (cmr, 4, .inl fr)), (mc, .inl (cmc, 32, .inl (upd fc (zk_ix31 (fr (zk_ix3 b))) (fr (zk_ix3 a))))), (ht, .inr (3, [.ref hd, .int tt])), (hd, .inr (4, [.ref hj, .int (nI dp), .int de, .int dB, .long ds, .int dk, .int dv])), (hj, .inr (1, [.ref jb, .int (nI jn), .int jm, .int jS, .int jl])), (jb, .inl (cJ, 300, .inl fb))]) (zk_ix31 (fr (zk_ix3 b))) rfl rfl (zk_ix31_eq (fr (zk_ix3 b))) (zk_ix31_lt (fr (zk_ix3 b))) (by decide) d_M_perform_153 rfl ?_
            refine zk_goto (pc := 154) X (tgt := 261) d_M_perform_154 (by decide) ?_
            exact zk_vret (pc := 261) X hQ hRt hLk (fr, (upd fc (zk_ix31 (fr (zk_ix3 b))) (fr (zk_ix3 a))), mp, mi, me, ml, mo, tt, dp, de, dB, ds, dk, dv) ⟨hq.symm, (show dp ≤ jn by omega)⟩ [0, 1, 2, 3, 4, 5, 6] rfl (by decide) d_M_perform_261
          · have hq := hq.trans (if_neg h16_4)
            rcases Decidable.em (o = 5) with h16_5 | h16_5
            · have hq := hq.trans (if_pos h16_5)
              refine zk_tableIn (pc := 16) X (tgt := 248) 5 h16_5 d_M_perform_16 (by decide) (by decide) rfl (by decide) ?_
              refine zk_aload_n (pc := 248) X d_M_perform_248 rfl (q := 2) rfl ?_
              refine zk_iload_n (pc := 249) X d_M_perform_249 rfl (q := 3) rfl ?_
              refine zk_aload_n (pc := 250) X d_M_perform_250 rfl (q := 2) rfl ?_
              refine zk_get (pc := 251) X (ci := 5) (v := .ref mr) in_M 0 rfl rfl 0 (by decide) (zk_m tw_120) rfl d_M_perform_251 ?_
              refine zk_iload (pc := 254) X d_M_perform_254 (q := 1) rfl ?_
              refine zk_iald (pc := 256) X 1 0 (zk_ix3 a) rfl rfl (zk_ix3_eq a) (zk_ix3_lt a) (by decide) d_M_perform_256 ?_
              refine zk_iload_n (pc := 257) X d_M_perform_257 rfl (q := 5) rfl ?_
              refine zk_callv (pc := 258) X (wc := [(hm, .inr (5, [.ref mr, .ref mc, .int mp, .int mb, .int mi, .int me, .int ml, .int mo, .int mt, .int (nI mS)])), (mr, .inl (cmr, 4, .inl fr)), (mc, .inl (cmc, 32, .inl fc))]) (wr := [(ht, .inr (3, [.ref hd, .int tt])), (hd, .inr (4, [.ref hj, .int (nI dp), .int de, .int dB, .long ds, .int dk, .int dv])), (hj, .inr (1, [.ref jb, .int (nI jn), .int jm, .int jS, .int jl])), (jb, .inl (cJ, 300, .inl fb))]) [0, 1, 2] [3, 4, 5, 6] rfl rfl (by decide) (by decide) (by decide) (zk_runV X (C := R_M) (tysC := [(cmr, .int), (cmc, .int)]) (As := [.int o, .int (fr (zk_ix3 a)), .int b]) (rest := []) (c_M_turn l dC dI hm mr mc cmr cmc o (fr (zk_ix3 a)) b fr fc mp mb mi me ml mo mt mS) [0, 1] rfl (ci := 5) rfl 0 rfl (zk_cwV 3 X.1.2.2.2.2 (zk_goodT tw_278) rfl rfl rfl (zk_m tw_276) (zk_m tw_277) (zk_m tw_529) (zk_m tw_8) rfl (by decide +kernel) ⟨Nat.le_of_ble_eq_true rfl, Nat.le_of_ble_eq_true rfl⟩) rfl rfl (Nat.le_of_ble_eq_true rfl) ⟨Nat.zero_le _, Nat.zero_le _⟩ d_M_perform_258) ?_
              rintro ⟨mp_258, mi_258, me_258⟩ w258
              refine zk_ws (ws' := [(ht, .inr (3, [.ref hd, .int tt])), (hd, .inr (4, [.ref hj, .int (nI dp), .int de, .int dB, .long ds, .int dk, .int dv])), (hj, .inr (1, [.ref jb, .int (nI jn), .int jm, .int jS, .int jl])), (jb, .inl (cJ, 300, .inl fb)), (hm, .inr (5, [.ref mr, .ref mc, .int mp_258, .int mb, .int mi_258, .int me_258, .int ml, .int mo, .int mt, .int (nI mS)])), (mr, .inl (cmr, 4, .inl fr)), (mc, .inl (cmc, 32, .inl fc))]) rfl ?_
              try dsimp only at w258
              rw [← w258] at hq
              try dsimp only at hq
              exact zk_vret (pc := 261) X hQ hRt hLk (fr, fc, mp_258, mi_258, me_258, ml, mo, tt, dp, de, dB, ds, dk, dv) ⟨hq.symm, (show dp ≤ jn by omega)⟩ [4, 5, 6, 0, 1, 2, 3] rfl (by decide) d_M_perform_261
            · have hq := hq.trans (if_neg h16_5)
              rcases Decidable.em (o = 6) with h16_6 | h16_6
              · have hq := hq.trans (if_pos h16_6)
                refine zk_tableIn (pc := 16) X (tgt := 248) 6 h16_6 d_M_perform_16 (by decide) (by decide) rfl (by decide) ?_
                refine zk_aload_n (pc := 248) X d_M_perform_248 rfl (q := 2) rfl ?_
                refine zk_iload_n (pc := 249) X d_M_perform_249 rfl (q := 3) rfl ?_
                refine zk_aload_n (pc := 250) X d_M_perform_250 rfl (q := 2) rfl ?_
                refine zk_get (pc := 251) X (ci := 5) (v := .ref mr) in_M 0 rfl rfl 0 (by decide) (zk_m tw_120) rfl d_M_perform_251 ?_
                refine zk_iload (pc := 254) X d_M_perform_254 (q := 1) rfl ?_
                refine zk_iald (pc := 256) X 1 0 (zk_ix3 a) rfl rfl (zk_ix3_eq a) (zk_ix3_lt a) (by decide) d_M_perform_256 ?_
                refine zk_iload_n (pc := 257) X d_M_perform_257 rfl (q := 5) rfl ?_
                refine zk_callv (pc := 258) X (wc := [(hm, .inr (5, [.ref mr, .ref mc, .int mp, .int mb, .int mi, .int me, .int ml, .int mo, .int mt, .int (nI mS)])), (mr, .inl (cmr, 4, .inl fr)), (mc, .inl (cmc, 32, .inl fc))]) (wr := [(ht, .inr (3, [.ref hd, .int tt])), (hd, .inr (4, [.ref hj, .int (nI dp), .int de, .int dB, .long ds, .int dk, .int dv])), (hj, .inr (1, [.ref jb, .int (nI jn), .int jm, .int jS, .int jl])), (jb, .inl (cJ, 300, .inl fb))]) [0, 1, 2] [3, 4, 5, 6] rfl rfl (by decide) (by decide) (by decide) (zk_runV X (C := R_M) (tysC := [(cmr, .int), (cmc, .int)]) (As := [.int o, .int (fr (zk_ix3 a)), .int b]) (rest := []) (c_M_turn l dC dI hm mr mc cmr cmc o (fr (zk_ix3 a)) b fr fc mp mb mi me ml mo mt mS) [0, 1] rfl (ci := 5) rfl 0 rfl (zk_cwV 3 X.1.2.2.2.2 (zk_goodT tw_278) rfl rfl rfl (zk_m tw_276) (zk_m tw_277) (zk_m tw_529) (zk_m tw_8) rfl (by decide +kernel) ⟨Nat.le_of_ble_eq_true rfl, Nat.le_of_ble_eq_true rfl⟩) rfl rfl (Nat.le_of_ble_eq_true rfl) ⟨Nat.zero_le _, Nat.zero_le _⟩ d_M_perform_258) ?_
                rintro ⟨mp_258, mi_258, me_258⟩ w258
                refine zk_ws (ws' := [(ht, .inr (3, [.ref hd, .int tt])), (hd, .inr (4, [.ref hj, .int (nI dp), .int de, .int dB, .long ds, .int dk, .int dv])), (hj, .inr (1, [.ref jb, .int (nI jn), .int jm, .int jS, .int jl])), (jb, .inl (cJ, 300, .inl fb)), (hm, .inr (5, [.ref mr, .ref mc, .int mp_258, .int mb, .int mi_258, .int me_258, .int ml, .int mo, .int mt, .int (nI mS)])), (mr, .inl (cmr, 4, .inl fr)), (mc, .inl (cmc, 32, .inl fc))]) rfl ?_
                try dsimp only at w258
                rw [← w258] at hq
                try dsimp only at hq
                exact zk_vret (pc := 261) X hQ hRt hLk (fr, fc, mp_258, mi_258, me_258, ml, mo, tt, dp, de, dB, ds, dk, dv) ⟨hq.symm, (show dp ≤ jn by omega)⟩ [4, 5, 6, 0, 1, 2, 3] rfl (by decide) d_M_perform_261
              · have hq := hq.trans (if_neg h16_6)
                rcases Decidable.em (o = 7) with h16_7 | h16_7
                · have hq := hq.trans (if_pos h16_7)
                  refine zk_tableIn (pc := 16) X (tgt := 157) 7 h16_7 d_M_perform_16 (by decide) (by decide) rfl (by decide) ?_
                  refine zk_aload_n (pc := 157) X d_M_perform_157 rfl (q := 2) rfl ?_
                  refine zk_get (pc := 158) X (ci := 5) (v := .ref mr) in_M 0 rfl rfl 0 (by decide) (zk_m tw_120) rfl d_M_perform_158 ?_
                  refine zk_iload (pc := 161) X d_M_perform_161 (q := 1) rfl ?_
                  refine zk_aload (pc := 163) X d_M_perform_163 (q := 6) rfl ?_
                  refine zk_aload_n (pc := 165) X d_M_perform_165 rfl (q := 2) rfl ?_
                  refine zk_get (pc := 166) X (ci := 5) (v := .int (nI mS)) in_M 0 rfl rfl 9 (by decide) (zk_m tw_129) rfl d_M_perform_166 ?_
                  refine zk_calli (pc := 169) X (wc := [(ht, .inr (3, [.ref hd, .int tt])), (hd, .inr (4, [.ref hj, .int (nI dp), .int de, .int dB, .long ds, .int dk, .int dv])), (hj, .inr (1, [.ref jb, .int (nI jn), .int jm, .int jS, .int jl])), (jb, .inl (cJ, 300, .inl fb))]) (wr := [(hm, .inr (5, [.ref mr, .ref mc, .int mp, .int mb, .int mi, .int me, .int ml, .int mo, .int mt, .int (nI mS)])), (mr, .inl (cmr, 4, .inl fr)), (mc, .inl (cmc, 32, .inl fc))]) [3, 4, 5, 6] [0, 1, 2] rfl rfl (by decide) (by decide) (by decide) (zk_runU X (tysC := [(cJ, .int)]) (As := [.int (nI mS)]) (rest := [.int (a &&& 3), .ref mr]) (c_T_takeInput l dC dI ht hd hj jb cJ (nI mS) tt dp de dB ds dk dv fb jn jm jS jl (by omega) (by omega)) [2] rfl (ci := 3) rfl 3 rfl (zk_cwA 1 X.1.2.2.2.2 (zk_goodT tw_266) rfl rfl rfl (zk_m tw_255) (zk_m tw_256) (zk_m tw_264) (zk_m tw_265) (zk_m tw_6) X.2.2.2.2.2.2.2.2.2.1 (by decide +kernel) ⟨Nat.le_of_ble_eq_true rfl, Nat.le_of_ble_eq_true rfl⟩) rfl rfl (Nat.le_of_ble_eq_true rfl) ⟨Nat.zero_le _, Nat.zero_le _⟩ d_M_perform_169) ?_
                  rintro r169 ⟨dp_169, de_169, dB_169, ds_169, dk_169, dv_169⟩ ⟨w169, f169_0⟩
                  have f169_0 : dp_169 ≤ jn := f169_0
                  refine zk_ws (ws' := [(hm, .inr (5, [.ref mr, .ref mc, .int mp, .int mb, .int mi, .int me, .int ml, .int mo, .int mt, .int (nI mS)])), (mr, .inl (cmr, 4, .inl fr)), (mc, .inl (cmc, 32, .inl fc)), (ht, .inr (3, [.ref hd, .int tt])), (hd, .inr (4, [.ref hj, .int (nI dp_169), .int de_169, .int dB_169, .long ds_169, .int dk_169, .int dv_169])), (hj, .inr (1, [.ref jb, .int (nI jn), .int jm, .int jS, .int jl])), (jb, .inl (cJ, 300, .inl fb))]) rfl ?_
                  try dsimp only at w169
                  rw [← w169] at hq
                  try dsimp only at hq
                  refine zk_iast (pc := 172) X 1 0 (ws' := [(hm, .inr (5, [.ref mr, .ref mc, .int mp, .int mb, .int mi, .int me, .int ml, .int mo, .int mt, .int (nI mS)])), (mr, .inl (cmr, 4, .inl (upd fr (zk_ix3 a) r169))), (mc, .inl (cmc, 32, .inl fc)), (ht, .inr (3, [.ref hd, .int tt])), (hd, .inr (4, [.ref hj, .int (nI dp_169), .int de_169, .int dB_169, .long ds_169, .int dk_169, .int dv_169])), (hj, .inr (1, [.ref jb, .int (nI jn), .int jm, .int jS, .int jl])), (jb, .inl (cJ, 300, .inl fb))]) (zk_ix3 a) rfl rfl (zk_ix3_eq a) (zk_ix3_lt a) (by decide) d_M_perform_172 rfl ?_
                  refine zk_goto (pc := 173) X (tgt := 261) d_M_perform_173 (by decide) ?_
                  exact zk_vret (pc := 261) X hQ hRt hLk ((upd fr (zk_ix3 a) r169), fc, mp, mi, me, ml, mo, tt, dp_169, de_169, dB_169, ds_169, dk_169, dv_169) ⟨hq.symm, (show dp_169 ≤ jn by omega)⟩ [0, 1, 2, 3, 4, 5, 6] rfl (by decide) d_M_perform_261
                · have hq := hq.trans (if_neg h16_7)
                  rcases Decidable.em (o = 8) with h16_8 | h16_8
                  · have hq := hq.trans (if_pos h16_8)
                    refine zk_tableIn (pc := 16) X (tgt := 176) 8 h16_8 d_M_perform_16 (by decide) (by decide) rfl (by decide) ?_
                    refine zk_aload_n (pc := 176) X d_M_perform_176 rfl (q := 2) rfl ?_
                    refine zk_get (pc := 177) X (ci := 5) (v := .ref mr) in_M 0 rfl rfl 0 (by decide) (zk_m tw_120) rfl d_M_perform_177 ?_
                    refine zk_iload (pc := 180) X d_M_perform_180 (q := 1) rfl ?_
                    refine zk_aload (pc := 182) X d_M_perform_182 (q := 6) rfl ?_
                    refine zk_aload_n (pc := 184) X d_M_perform_184 rfl (q := 2) rfl ?_
                    refine zk_get (pc := 185) X (ci := 5) (v := .int (nI mS)) in_M 0 rfl rfl 9 (by decide) (zk_m tw_129) rfl d_M_perform_185 ?_
                    refine zk_calli (pc := 188) X (wc := [(ht, .inr (3, [.ref hd, .int tt])), (hd, .inr (4, [.ref hj, .int (nI dp), .int de, .int dB, .long ds, .int dk, .int dv])), (hj, .inr (1, [.ref jb, .int (nI jn), .int jm, .int jS, .int jl])), (jb, .inl (cJ, 300, .inl fb))]) (wr := [(hm, .inr (5, [.ref mr, .ref mc, .int mp, .int mb, .int mi, .int me, .int ml, .int mo, .int mt, .int (nI mS)])), (mr, .inl (cmr, 4, .inl fr)), (mc, .inl (cmc, 32, .inl fc))]) [3, 4, 5, 6] [0, 1, 2] rfl rfl (by decide) (by decide) (by decide) (zk_runU X (tysC := [(cJ, .int)]) (As := [.int (nI mS)]) (rest := [.int (a &&& 3), .ref mr]) (c_T_readClock l dC dI ht hd hj jb cJ (nI mS) tt dp de dB ds dk dv fb jn jm jS jl (by omega) (by omega)) [2] rfl (ci := 3) rfl 3 rfl (zk_cwA 1 X.1.2.2.2.2 (zk_goodT tw_274) rfl rfl rfl (zk_m tw_267) (zk_m tw_268) (zk_m tw_272) (zk_m tw_273) (zk_m tw_6) X.2.2.2.2.2.2.2.2.2.2.1 (by decide +kernel) ⟨Nat.le_of_ble_eq_true rfl, Nat.le_of_ble_eq_true rfl⟩) rfl rfl (Nat.le_of_ble_eq_true rfl) ⟨Nat.zero_le _, Nat.zero_le _⟩ d_M_perform_188) ?_
                    rintro r188 ⟨tt_188, dp_188, de_188, dB_188, ds_188, dk_188, dv_188⟩ ⟨w188, f188_0⟩
                    have f188_0 : dp_188 ≤ jn := f188_0
                    refine zk_ws (ws' := [(hm, .inr (5, [.ref mr, .ref mc, .int mp, .int mb, .int mi, .int me, .int ml, .int mo, .int mt, .int (nI mS)])), (mr, .inl (cmr, 4, .inl fr)), (mc, .inl (cmc, 32, .inl fc)), (ht, .inr (3, [.ref hd, .int tt_188])), (hd, .inr (4, [.ref hj, .int (nI dp_188), .int de_188, .int dB_188, .long ds_188, .int dk_188, .int dv_188])), (hj, .inr (1, [.ref jb, .int (nI jn), .int jm, .int jS, .int jl])), (jb, .inl (cJ, 300, .inl fb))]) rfl ?_
                    try dsimp only at w188
                    rw [← w188] at hq
                    try dsimp only at hq
                    refine zk_iast (pc := 191) X 1 0 (ws' := [(hm, .inr (5, [.ref mr, .ref mc, .int mp, .int mb, .int mi, .int me, .int ml, .int mo, .int mt, .int (nI mS)])), (mr, .inl (cmr, 4, .inl (upd fr (zk_ix3 a) r188))), (mc, .inl (cmc, 32, .inl fc)), (ht, .inr (3, [.ref hd, .int tt_188])), (hd, .inr (4, [.ref hj, .int (nI dp_188), .int de_188, .int dB_188, .long ds_188, .int dk_188, .int dv_188])), (hj, .inr (1, [.ref jb, .int (nI jn), .int jm, .int jS, .int jl])), (jb, .inl (cJ, 300, .inl fb))]) (zk_ix3 a) rfl rfl (zk_ix3_eq a) (zk_ix3_lt a) (by decide) d_M_perform_191 rfl ?_
                    refine zk_goto (pc := 192) X (tgt := 261) d_M_perform_192 (by decide) ?_
                    exact zk_vret (pc := 261) X hQ hRt hLk ((upd fr (zk_ix3 a) r188), fc, mp, mi, me, ml, mo, tt_188, dp_188, de_188, dB_188, ds_188, dk_188, dv_188) ⟨hq.symm, (show dp_188 ≤ jn by omega)⟩ [0, 1, 2, 3, 4, 5, 6] rfl (by decide) d_M_perform_261
                  · have hq := hq.trans (if_neg h16_8)
                    rcases Decidable.em (o = 9) with h16_9 | h16_9
                    · have hq := hq.trans (if_pos h16_9)
                      refine zk_tableIn (pc := 16) X (tgt := 195) 9 h16_9 d_M_perform_16 (by decide) (by decide) rfl (by decide) ?_
                      refine zk_aload_n (pc := 195) X d_M_perform_195 rfl (q := 2) rfl ?_
                      refine zk_aload_n (pc := 196) X d_M_perform_196 rfl (q := 2) rfl ?_
                      refine zk_get (pc := 197) X (ci := 5) (v := .int ml) in_M 0 rfl rfl 6 (by decide) (zk_m tw_126) rfl d_M_perform_197 ?_
                      refine zk_ldc (pc := 200) X (v := 1103515245) d_M_perform_200 (zk_m tw_275) ?_
                      refine zk_imul (pc := 202) X (v := (ml * 1103515245)) d_M_perform_202 rfl ?_
                      refine zk_sipush (pc := 203) X (v := 12345) d_M_perform_203 (by decide) ?_
                      refine zk_iadd (pc := 206) X (v := ((ml * 1103515245) + 12345)) d_M_perform_206 rfl ?_
                      refine zk_put (pc := 207) X (ty := .int) (v := .int ((ml * 1103515245) + 12345)) (ws' := [(hm, .inr (5, [.ref mr, .ref mc, .int mp, .int mb, .int mi, .int me, .int ((ml * 1103515245) + 12345), .int mo, .int mt, .int (nI mS)])), (mr, .inl (cmr, 4, .inl fr)), (mc, .inl (cmc, 32, .inl fc)), (ht, .inr (3, [.ref hd, .int tt])), (hd, .inr (4, [.ref hj, .int (nI dp), .int de, .int dB, .long ds, .int dk, .int dv])), (hj, .inr (1, [.ref jb, .int (nI jn), .int jm, .int jS, .int jl])), (jb, .inl (cJ, 300, .inl fb))]) in_M tok_M nok_M 0 rfl rfl 6 (by decide) (zk_m tw_126) rfl rfl rfl rfl (Nat.le_of_ble_eq_true rfl) d_M_perform_207 rfl ?_
                      refine zk_aload_n (pc := 210) X d_M_perform_210 rfl (q := 2) rfl ?_
                      refine zk_get (pc := 211) X (ci := 5) (v := .ref mr) in_M 0 rfl rfl 0 (by decide) (zk_m tw_120) rfl d_M_perform_211 ?_
                      refine zk_iload (pc := 214) X d_M_perform_214 (q := 1) rfl ?_
                      refine zk_aload_n (pc := 216) X d_M_perform_216 rfl (q := 2) rfl ?_
                      refine zk_get (pc := 217) X (ci := 5) (v := .int ((ml * 1103515245) + 12345)) in_M 0 rfl rfl 6 (by decide) (zk_m tw_126) rfl d_M_perform_217 ?_
                      refine zk_bipush (pc := 220) X (v := 16) d_M_perform_220 (by decide) ?_
                      refine zk_iushr (pc := 222) X (v := (zf_ushr ((ml * 1103515245) + 12345) 16)) d_M_perform_222 rfl ?_
                      refine zk_iast (pc := 223) X 1 0 (ws' := [(hm, .inr (5, [.ref mr, .ref mc, .int mp, .int mb, .int mi, .int me, .int ((ml * 1103515245) + 12345), .int mo, .int mt, .int (nI mS)])), (mr, .inl (cmr, 4, .inl (upd fr (zk_ix3 a) (zf_ushr ((ml * 1103515245) + 12345) 16)))), (mc, .inl (cmc, 32, .inl fc)), (ht, .inr (3, [.ref hd, .int tt])), (hd, .inr (4, [.ref hj, .int (nI dp), .int de, .int dB, .long ds, .int dk, .int dv])), (hj, .inr (1, [.ref jb, .int (nI jn), .int jm, .int jS, .int jl])), (jb, .inl (cJ, 300, .inl fb))]) (zk_ix3 a) rfl rfl (zk_ix3_eq a) (zk_ix3_lt a) (by decide) d_M_perform_223 rfl ?_
                      refine zk_goto (pc := 224) X (tgt := 261) d_M_perform_224 (by decide) ?_
                      exact zk_vret (pc := 261) X hQ hRt hLk ((upd fr (zk_ix3 a) (zf_ushr ((ml * 1103515245) + 12345) 16)), fc, mp, mi, me, ((ml * 1103515245) + 12345), mo, tt, dp, de, dB, ds, dk, dv) ⟨hq.symm, (show dp ≤ jn by omega)⟩ [0, 1, 2, 3, 4, 5, 6] rfl (by decide) d_M_perform_261
                    · have hq := hq.trans (if_neg h16_9)
                      rcases Decidable.em (o = 10) with h16_10 | h16_10
                      · have hq := hq.trans (if_pos h16_10)
                        refine zk_tableIn (pc := 16) X (tgt := 227) 10 h16_10 d_M_perform_16 (by decide) (by decide) rfl (by decide) ?_
                        refine zk_aload_n (pc := 227) X d_M_perform_227 rfl (q := 2) rfl ?_
                        refine zk_aload_n (pc := 228) X d_M_perform_228 rfl (q := 2) rfl ?_
                        refine zk_get (pc := 229) X (ci := 5) (v := .int mo) in_M 0 rfl rfl 7 (by decide) (zk_m tw_127) rfl d_M_perform_229 ?_
                        refine zk_aload_n (pc := 232) X d_M_perform_232 rfl (q := 2) rfl ?_
                        refine zk_get (pc := 233) X (ci := 5) (v := .ref mr) in_M 0 rfl rfl 0 (by decide) (zk_m tw_120) rfl d_M_perform_233 ?_
                        refine zk_iload (pc := 236) X d_M_perform_236 (q := 1) rfl ?_
                        refine zk_iald (pc := 238) X 1 0 (zk_ix3 a) rfl rfl (zk_ix3_eq a) (zk_ix3_lt a) (by decide) d_M_perform_238 ?_
                        refine zk_calli (pc := 239) X (wc := []) (wr := [(hm, .inr (5, [.ref mr, .ref mc, .int mp, .int mb, .int mi, .int me, .int ml, .int mo, .int mt, .int (nI mS)])), (mr, .inl (cmr, 4, .inl fr)), (mc, .inl (cmc, 32, .inl fc)), (ht, .inr (3, [.ref hd, .int tt])), (hd, .inr (4, [.ref hj, .int (nI dp), .int de, .int dB, .long ds, .int dk, .int dv])), (hj, .inr (1, [.ref jb, .int (nI jn), .int jm, .int jS, .int jl])), (jb, .inl (cJ, 300, .inl fb))]) [] [0, 1, 2, 3, 4, 5, 6] rfl rfl (by decide) (by decide) (by decide) (zk_runSN X (tysC := []) (As := [.int mo, .int (fr (zk_ix3 a))]) (rest := [.ref hm]) (c_X_mix l dC dI mo (fr (zk_ix3 a))) [] rfl ⟨va_cnB 2 X.1.2.2.2.2 (zk_goodT tw_233) rfl rfl rfl X.2.2.2.2.2.2.2.2.2.2.2 (X.1.2.2.2.2 _ (zk_m tw_1)) (by decide +kernel) ⟨Nat.le_of_ble_eq_true rfl, Nat.le_of_ble_eq_true rfl⟩, X.1.2.2.2.2 _ (zk_m tw_232), trivial⟩ rfl rfl (Nat.le_of_ble_eq_true rfl) ⟨Nat.zero_le _, Nat.zero_le _⟩ d_M_perform_239) ?_
                        rintro r239 ⟨⟩ w239
                        refine zk_ws (ws' := [(hm, .inr (5, [.ref mr, .ref mc, .int mp, .int mb, .int mi, .int me, .int ml, .int mo, .int mt, .int (nI mS)])), (mr, .inl (cmr, 4, .inl fr)), (mc, .inl (cmc, 32, .inl fc)), (ht, .inr (3, [.ref hd, .int tt])), (hd, .inr (4, [.ref hj, .int (nI dp), .int de, .int dB, .long ds, .int dk, .int dv])), (hj, .inr (1, [.ref jb, .int (nI jn), .int jm, .int jS, .int jl])), (jb, .inl (cJ, 300, .inl fb))]) rfl ?_
                        subst w239
                        refine zk_put (pc := 242) X (ty := .int) (v := .int (sp_X_mix mo (fr (zk_ix3 a)))) (ws' := [(hm, .inr (5, [.ref mr, .ref mc, .int mp, .int mb, .int mi, .int me, .int ml, .int (sp_X_mix mo (fr (zk_ix3 a))), .int mt, .int (nI mS)])), (mr, .inl (cmr, 4, .inl fr)), (mc, .inl (cmc, 32, .inl fc)), (ht, .inr (3, [.ref hd, .int tt])), (hd, .inr (4, [.ref hj, .int (nI dp), .int de, .int dB, .long ds, .int dk, .int dv])), (hj, .inr (1, [.ref jb, .int (nI jn), .int jm, .int jS, .int jl])), (jb, .inl (cJ, 300, .inl fb))]) in_M tok_M nok_M 0 rfl rfl 7 (by decide) (zk_m tw_127) rfl rfl rfl rfl (Nat.le_of_ble_eq_true rfl) d_M_perform_242 rfl ?_
                        refine zk_goto (pc := 245) X (tgt := 261) d_M_perform_245 (by decide) ?_
                        exact zk_vret (pc := 261) X hQ hRt hLk (fr, fc, mp, mi, me, ml, (sp_X_mix mo (fr (zk_ix3 a))), tt, dp, de, dB, ds, dk, dv) ⟨hq.symm, (show dp ≤ jn by omega)⟩ [0, 1, 2, 3, 4, 5, 6] rfl (by decide) d_M_perform_261
                      · have hq := hq.trans (if_neg h16_10)
                        refine zk_tableOut (pc := 16) X (tgt := 248) d_M_perform_16 (by have g0 := lv_neT (k := 0) (a := 0) h16_0 (by decide); have g1 := lv_neT (k := 1) (a := 1) h16_1 (by decide); have g2 := lv_neT (k := 2) (a := 2) h16_2 (by decide); have g3 := lv_neT (k := 3) (a := 3) h16_3 (by decide); have g4 := lv_neT (k := 4) (a := 4) h16_4 (by decide); have g5 := lv_neT (k := 5) (a := 5) h16_5 (by decide); have g6 := lv_neT (k := 6) (a := 6) h16_6 (by decide); have g7 := lv_neT (k := 7) (a := 7) h16_7 (by decide); have g8 := lv_neT (k := 8) (a := 8) h16_8 (by decide); have g9 := lv_neT (k := 9) (a := 9) h16_9 (by decide); have g10 := lv_neT (k := 10) (a := 10) h16_10 (by decide); omega) (by decide) ?_
                        refine zk_aload_n (pc := 248) X d_M_perform_248 rfl (q := 2) rfl ?_
                        refine zk_iload_n (pc := 249) X d_M_perform_249 rfl (q := 3) rfl ?_
                        refine zk_aload_n (pc := 250) X d_M_perform_250 rfl (q := 2) rfl ?_
                        refine zk_get (pc := 251) X (ci := 5) (v := .ref mr) in_M 0 rfl rfl 0 (by decide) (zk_m tw_120) rfl d_M_perform_251 ?_
                        refine zk_iload (pc := 254) X d_M_perform_254 (q := 1) rfl ?_
                        refine zk_iald (pc := 256) X 1 0 (zk_ix3 a) rfl rfl (zk_ix3_eq a) (zk_ix3_lt a) (by decide) d_M_perform_256 ?_
                        refine zk_iload_n (pc := 257) X d_M_perform_257 rfl (q := 5) rfl ?_
                        refine zk_callv (pc := 258) X (wc := [(hm, .inr (5, [.ref mr, .ref mc, .int mp, .int mb, .int mi, .int me, .int ml, .int mo, .int mt, .int (nI mS)])), (mr, .inl (cmr, 4, .inl fr)), (mc, .inl (cmc, 32, .inl fc))]) (wr := [(ht, .inr (3, [.ref hd, .int tt])), (hd, .inr (4, [.ref hj, .int (nI dp), .int de, .int dB, .long ds, .int dk, .int dv])), (hj, .inr (1, [.ref jb, .int (nI jn), .int jm, .int jS, .int jl])), (jb, .inl (cJ, 300, .inl fb))]) [0, 1, 2] [3, 4, 5, 6] rfl rfl (by decide) (by decide) (by decide) (zk_runV X (C := R_M) (tysC := [(cmr, .int), (cmc, .int)]) (As := [.int o, .int (fr (zk_ix3 a)), .int b]) (rest := []) (c_M_turn l dC dI hm mr mc cmr cmc o (fr (zk_ix3 a)) b fr fc mp mb mi me ml mo mt mS) [0, 1] rfl (ci := 5) rfl 0 rfl (zk_cwV 3 X.1.2.2.2.2 (zk_goodT tw_278) rfl rfl rfl (zk_m tw_276) (zk_m tw_277) (zk_m tw_529) (zk_m tw_8) rfl (by decide +kernel) ⟨Nat.le_of_ble_eq_true rfl, Nat.le_of_ble_eq_true rfl⟩) rfl rfl (Nat.le_of_ble_eq_true rfl) ⟨Nat.zero_le _, Nat.zero_le _⟩ d_M_perform_258) ?_
                        rintro ⟨mp_258, mi_258, me_258⟩ w258
                        refine zk_ws (ws' := [(ht, .inr (3, [.ref hd, .int tt])), (hd, .inr (4, [.ref hj, .int (nI dp), .int de, .int dB, .long ds, .int dk, .int dv])), (hj, .inr (1, [.ref jb, .int (nI jn), .int jm, .int jS, .int jl])), (jb, .inl (cJ, 300, .inl fb)), (hm, .inr (5, [.ref mr, .ref mc, .int mp_258, .int mb, .int mi_258, .int me_258, .int ml, .int mo, .int mt, .int (nI mS)])), (mr, .inl (cmr, 4, .inl fr)), (mc, .inl (cmc, 32, .inl fc))]) rfl ?_
                        try dsimp only at w258
                        rw [← w258] at hq
                        try dsimp only at hq
                        exact zk_vret (pc := 261) X hQ hRt hLk (fr, fc, mp_258, mi_258, me_258, ml, mo, tt, dp, de, dB, ds, dk, dv) ⟨hq.symm, (show dp ≤ jn by omega)⟩ [4, 5, 6, 0, 1, 2, 3] rfl (by decide) d_M_perform_261
def sp_M_stepT_125 (mt : Int32) (mS : Nat) (fr1 : Nat → Int32) (fc1 : Nat → Int32) (mp1 : Int32) (mb1 : Int32) (mi1 : Int32) (me1 : Int32) (ml1 : Int32) (mo1 : Int32) (tt1 : Int32) (dp1 : Nat) (de1 : Int32) (dB1 : Int32) (ds1 : Int64) (dk1 : Int32) (dv1 : Int32) : Int32 × (Nat → Int32) × (Nat → Int32) × Int32 × Int32 × Int32 × Int32 × Int32 × Int32 × Int32 × Nat × Int32 × Nat × Int32 × Int32 × Int64 × Int32 × Int32 :=
  (fun mt_126 =>
    (1, fr1, fc1, mp1, mb1, mi1, me1, ml1, mo1, mt_126, mS + 1, tt1, dp1, de1, dB1, ds1, dk1, dv1)) (sp_M_followTrace fr1 mp1 mo1 mt)
def sp_M_stepT_68 (fr : Nat → Int32) (fc : Nat → Int32) (mp : Int32) (mb : Int32) (mi : Int32) (me : Int32) (ml : Int32) (mo : Int32) (mt : Int32) (mS : Nat) (fo : Nat → Int32) (ff : Nat → Int32) (fs : Nat → Int32) (pn : Nat) (tt : Int32) (fb : Nat → Int32) (jn : Nat) (dp1 : Nat) (de1 : Int32) (dB1 : Int32) (ds1 : Int64) (dk1 : Int32) (dv1 : Int32) : Int32 × (Nat → Int32) × (Nat → Int32) × Int32 × Int32 × Int32 × Int32 × Int32 × Int32 × Int32 × Nat × Int32 × Nat × Int32 × Int32 × Int64 × Int32 × Int32 :=
  if (sp_P_has mp pn) = 0 then
    sp_M_stepT_125 mt mS fr fc mp mb mi 1 ml mo tt dp1 de1 dB1 ds1 dk1 dv1
  else
    (match sp_M_performT (fo mp.toNatClampNeg) (ff mp.toNatClampNeg) (fs mp.toNatClampNeg) fr fc (mp + 1) mb mi me ml mo (mS + 1) tt dp1 de1 dB1 ds1 dk1 dv1 fb jn with
    | (fr_114, fc_114, mp_114, mi_114, me_114, ml_114, mo_114, tt_114, dp_114, de_114, dB_114, ds_114, dk_114, dv_114) =>
      sp_M_stepT_125 mt mS fr_114 fc_114 mp_114 mb mi_114 me_114 ml_114 mo_114 tt_114 dp_114 de_114 dB_114 ds_114 dk_114 dv_114)
def sp_M_stepT (fr : Nat → Int32) (fc : Nat → Int32) (mp : Int32) (mb : Int32) (mi : Int32) (me : Int32) (ml : Int32) (mo : Int32) (mt : Int32) (mS : Nat) (fo : Nat → Int32) (ff : Nat → Int32) (fs : Nat → Int32) (pn : Nat) (tt : Int32) (dp : Nat) (de : Int32) (dB : Int32) (ds : Int64) (dk : Int32) (dv : Int32) (fb : Nat → Int32) (jn : Nat) : Int32 × (Nat → Int32) × (Nat → Int32) × Int32 × Int32 × Int32 × Int32 × Int32 × Int32 × Int32 × Nat × Int32 × Nat × Int32 × Int32 × Int64 × Int32 × Int32 :=
  if me = 0 then
    if mi = 0 then
      if (sp_P_has 16 pn) = 0 then
        sp_M_stepT_68 fr fc mp mb mi me ml mo mt mS fo ff fs pn tt fb jn dp de dB ds dk dv
      else
        (match sp_T_takeInterrupt (nI (mS + 1)) dp de dB ds dk dv fb jn with
        | (r40, dp_40, de_40, dB_40, ds_40, dk_40, dv_40) =>
          if r40 = 0 then
            sp_M_stepT_68 fr fc mp mb mi me ml mo mt mS fo ff fs pn tt fb jn dp_40 de_40 dB_40 ds_40 dk_40 dv_40
          else
            sp_M_stepT_125 mt mS fr fc 16 mp 1 me ml mo tt dp_40 de_40 dB_40 ds_40 dk_40 dv_40)
    else
      sp_M_stepT_68 fr fc mp mb mi me ml mo mt mS fo ff fs pn tt fb jn dp de dB ds dk dv
  else
    (0, fr, fc, mp, mb, mi, me, ml, mo, mt, mS, tt, dp, de, dB, ds, dk, dv)
abbrev rm_M_stepT : Room := { frames := 6, cells := 0, slots := 0, locals := 137 }
set_option maxHeartbeats 4000000 in
set_option maxRecDepth 100000 in
theorem c_M_stepT (l : Launch) (dC : Nat → ClassId) (dI : Nat → Nat → Nat) (hm mr mc hp po pf ps ht hd hj jb : Nat) (cmr cmc cPo cPf cPs cJ : ClassId) (fr : Nat → Int32) (fc : Nat → Int32) (mp : Int32) (mb : Int32) (mi : Int32) (me : Int32) (ml : Int32) (mo : Int32) (mt : Int32) (mS : Nat) (fo : Nat → Int32) (ff : Nat → Int32) (fs : Nat → Int32) (pn : Nat) (tt : Int32) (dp : Nat) (de : Int32) (dB : Int32) (ds : Int64) (dk : Int32) (dv : Int32) (fb : Nat → Int32) (jn : Nat) (jm : Int32) (jS : Int32) (jl : Int32) (hpn : pn ≤ 24) (hjn : jn ≤ 300) (hdp : dp ≤ jn) : zk_Ci l y_M_step w_M_step rm_M_stepT (dC, dI) vwCl [.ref hm, .ref hp, .ref ht] [(hm, .inr (5, [.ref mr, .ref mc, .int mp, .int mb, .int mi, .int me, .int ml, .int mo, .int mt, .int (nI mS)])), (mr, .inl (cmr, 4, .inl fr)), (mc, .inl (cmc, 32, .inl fc)), (hp, .inr (0, [.ref po, .ref pf, .ref ps, .int (nI pn)])), (po, .inl (cPo, 24, .inl fo)), (pf, .inl (cPf, 24, .inl ff)), (ps, .inl (cPs, 24, .inl fs)), (ht, .inr (3, [.ref hd, .int tt])), (hd, .inr (4, [.ref hj, .int (nI dp), .int de, .int dB, .long ds, .int dk, .int dv])), (hj, .inr (1, [.ref jb, .int (nI jn), .int jm, .int jS, .int jl])), (jb, .inl (cJ, 300, .inl fb))] [(cmr, .int), (cmc, .int), (cPo, .int), (cPf, .int), (cPs, .int), (cJ, .int)] (fun (r : Int32) (u : (Nat → Int32) × (Nat → Int32) × Int32 × Int32 × Int32 × Int32 × Int32 × Int32 × Int32 × Nat × Int32 × Nat × Int32 × Int32 × Int64 × Int32 × Int32) => (r, u) = sp_M_stepT fr fc mp mb mi me ml mo mt mS fo ff fs pn tt dp de dB ds dk dv fb jn ∧ (u.2.2.2.2.2.2.2.2.2.2.2.1 ≤ jn)) (fun u => [(hm, .inr (5, [.ref mr, .ref mc, .int u.2.2.1, .int u.2.2.2.1, .int u.2.2.2.2.1, .int u.2.2.2.2.2.1, .int u.2.2.2.2.2.2.1, .int u.2.2.2.2.2.2.2.1, .int u.2.2.2.2.2.2.2.2.1, .int (nI u.2.2.2.2.2.2.2.2.2.1)])), (mr, .inl (cmr, 4, .inl u.1)), (mc, .inl (cmc, 32, .inl u.2.1)), (hp, .inr (0, [.ref po, .ref pf, .ref ps, .int (nI pn)])), (po, .inl (cPo, 24, .inl fo)), (pf, .inl (cPf, 24, .inl ff)), (ps, .inl (cPs, 24, .inl fs)), (ht, .inr (3, [.ref hd, .int u.2.2.2.2.2.2.2.2.2.2.1])), (hd, .inr (4, [.ref hj, .int (nI u.2.2.2.2.2.2.2.2.2.2.2.1), .int u.2.2.2.2.2.2.2.2.2.2.2.2.1, .int u.2.2.2.2.2.2.2.2.2.2.2.2.2.1, .long u.2.2.2.2.2.2.2.2.2.2.2.2.2.2.1, .int u.2.2.2.2.2.2.2.2.2.2.2.2.2.2.2.1, .int u.2.2.2.2.2.2.2.2.2.2.2.2.2.2.2.2])), (hj, .inr (1, [.ref jb, .int (nI jn), .int jm, .int jS, .int jl])), (jb, .inl (cJ, 300, .inl fb))]) := by
  refine zk_enteri (cc := b_M_step) (maxL := 4) (ret := some .boolean) (by decide) rfl (Nat.le_of_ble_eq_true rfl) ?_
  intro p e s m args below meth c A Q hQ X hRt hLk
  have cut125 : ∀ (fr1 : Nat → Int32) (fc1 : Nat → Int32) (mp1 : Int32) (mb1 : Int32) (mi1 : Int32) (me1 : Int32) (ml1 : Int32) (mo1 : Int32) (tt1 : Int32) (dp1 : Nat) (de1 : Int32) (dB1 : Int32) (ds1 : Int64) (dk1 : Int32) (dv1 : Int32), dp1 ≤ jn → sp_M_stepT fr fc mp mb mi me ml mo mt mS fo ff fs pn tt dp de dB ds dk dv fb jn = sp_M_stepT_125 mt mS fr1 fc1 mp1 mb1 mi1 me1 ml1 mo1 tt1 dp1 de1 dB1 ds1 dk1 dv1 → zk_Z p l e rm_M_stepT s m args below meth c Q A (dC, dI) vwCl 4 0 0 [(hm, .inr (5, [.ref mr, .ref mc, .int mp1, .int mb1, .int mi1, .int me1, .int ml1, .int mo1, .int mt, .int (nI (mS + 1))])), (mr, .inl (cmr, 4, .inl fr1)), (mc, .inl (cmc, 32, .inl fc1)), (hp, .inr (0, [.ref po, .ref pf, .ref ps, .int (nI pn)])), (po, .inl (cPo, 24, .inl fo)), (pf, .inl (cPf, 24, .inl ff)), (ps, .inl (cPs, 24, .inl fs)), (ht, .inr (3, [.ref hd, .int tt1])), (hd, .inr (4, [.ref hj, .int (nI dp1), .int de1, .int dB1, .long ds1, .int dk1, .int dv1])), (hj, .inr (1, [.ref jb, .int (nI jn), .int jm, .int jS, .int jl])), (jb, .inl (cJ, 300, .inl fb))] [(0, .ref hm), (1, .ref hp), (2, .ref ht)] [] 125 := by
    intro fr1 fc1 mp1 mb1 mi1 me1 ml1 mo1 tt1 dp1 de1 dB1 ds1 dk1 dv1 hd1 hq
    rw [sp_M_stepT_125] at hq
    refine zk_aload_n (pc := 125) X d_M_step_125 rfl (q := 0) rfl ?_
    refine zk_callv (pc := 126) X (wc := [(hm, .inr (5, [.ref mr, .ref mc, .int mp1, .int mb1, .int mi1, .int me1, .int ml1, .int mo1, .int mt, .int (nI (mS + 1))])), (mr, .inl (cmr, 4, .inl fr1)), (mc, .inl (cmc, 32, .inl fc1))]) (wr := [(hp, .inr (0, [.ref po, .ref pf, .ref ps, .int (nI pn)])), (po, .inl (cPo, 24, .inl fo)), (pf, .inl (cPf, 24, .inl ff)), (ps, .inl (cPs, 24, .inl fs)), (ht, .inr (3, [.ref hd, .int tt1])), (hd, .inr (4, [.ref hj, .int (nI dp1), .int de1, .int dB1, .long ds1, .int dk1, .int dv1])), (hj, .inr (1, [.ref jb, .int (nI jn), .int jm, .int jS, .int jl])), (jb, .inl (cJ, 300, .inl fb))]) [0, 1, 2] [3, 4, 5, 6, 7, 8, 9, 10] rfl rfl (by decide) (by decide) (by decide) (zk_runV X (C := R_M) (tysC := [(cmr, .int), (cmc, .int)]) (As := []) (rest := []) (c_M_followTrace l dC dI hm mr mc cmr cmc fr1 fc1 mp1 mb1 mi1 me1 ml1 mo1 mt (mS + 1)) [0, 1] rfl (ci := 5) rfl 0 rfl (zk_cwV 0 X.1.2.2.2.2 (zk_goodT tw_281) rfl rfl rfl (zk_m tw_279) (zk_m tw_280) (zk_m tw_530) (zk_m tw_8) rfl (by decide +kernel) ⟨Nat.le_of_ble_eq_true rfl, Nat.le_of_ble_eq_true rfl⟩) rfl rfl (Nat.le_of_ble_eq_true rfl) ⟨Nat.zero_le _, Nat.zero_le _⟩ d_M_step_126) ?_
    rintro mt_126 w126
    refine zk_ws (ws' := [(hp, .inr (0, [.ref po, .ref pf, .ref ps, .int (nI pn)])), (po, .inl (cPo, 24, .inl fo)), (pf, .inl (cPf, 24, .inl ff)), (ps, .inl (cPs, 24, .inl fs)), (ht, .inr (3, [.ref hd, .int tt1])), (hd, .inr (4, [.ref hj, .int (nI dp1), .int de1, .int dB1, .long ds1, .int dk1, .int dv1])), (hj, .inr (1, [.ref jb, .int (nI jn), .int jm, .int jS, .int jl])), (jb, .inl (cJ, 300, .inl fb)), (hm, .inr (5, [.ref mr, .ref mc, .int mp1, .int mb1, .int mi1, .int me1, .int ml1, .int mo1, .int mt_126, .int (nI (mS + 1))])), (mr, .inl (cmr, 4, .inl fr1)), (mc, .inl (cmc, 32, .inl fc1))]) rfl ?_
    try dsimp only at w126
    rw [← w126] at hq
    try dsimp only at hq
    refine zk_iconst (pc := 129) X (v := 1) d_M_step_129 rfl ?_
    exact zk_zret (pc := 130) X hQ hRt hLk rfl (fr1, fc1, mp1, mb1, mi1, me1, ml1, mo1, mt_126, mS + 1, tt1, dp1, de1, dB1, ds1, dk1, dv1) ⟨hq.symm, (show dp1 ≤ jn by omega)⟩ [8, 9, 10, 0, 1, 2, 3, 4, 5, 6, 7] rfl (by decide) d_M_step_130
  have cut68 : ∀ (dp1 : Nat) (de1 : Int32) (dB1 : Int32) (ds1 : Int64) (dk1 : Int32) (dv1 : Int32), dp1 ≤ jn → sp_M_stepT fr fc mp mb mi me ml mo mt mS fo ff fs pn tt dp de dB ds dk dv fb jn = sp_M_stepT_68 fr fc mp mb mi me ml mo mt mS fo ff fs pn tt fb jn dp1 de1 dB1 ds1 dk1 dv1 → zk_Z p l e rm_M_stepT s m args below meth c Q A (dC, dI) vwCl 4 0 0 [(hm, .inr (5, [.ref mr, .ref mc, .int mp, .int mb, .int mi, .int me, .int ml, .int mo, .int mt, .int (nI (mS + 1))])), (mr, .inl (cmr, 4, .inl fr)), (mc, .inl (cmc, 32, .inl fc)), (hp, .inr (0, [.ref po, .ref pf, .ref ps, .int (nI pn)])), (po, .inl (cPo, 24, .inl fo)), (pf, .inl (cPf, 24, .inl ff)), (ps, .inl (cPs, 24, .inl fs)), (ht, .inr (3, [.ref hd, .int tt])), (hd, .inr (4, [.ref hj, .int (nI dp1), .int de1, .int dB1, .long ds1, .int dk1, .int dv1])), (hj, .inr (1, [.ref jb, .int (nI jn), .int jm, .int jS, .int jl])), (jb, .inl (cJ, 300, .inl fb))] [(0, .ref hm), (1, .ref hp), (2, .ref ht)] [] 68 := by
    intro dp1 de1 dB1 ds1 dk1 dv1 hd1 hq
    rw [sp_M_stepT_68] at hq
    refine zk_aload_n (pc := 68) X d_M_step_68 rfl (q := 1) rfl ?_
    refine zk_aload_n (pc := 69) X d_M_step_69 rfl (q := 0) rfl ?_
    refine zk_get (pc := 70) X (ci := 5) (v := .int mp) in_M 0 rfl rfl 2 (by decide) (zk_m tw_122) rfl d_M_step_70 ?_
    refine zk_calli (pc := 73) X (wc := [(hp, .inr (0, [.ref po, .ref pf, .ref ps, .int (nI pn)])), (po, .inl (cPo, 24, .inl fo)), (pf, .inl (cPf, 24, .inl ff)), (ps, .inl (cPs, 24, .inl fs))]) (wr := [(hm, .inr (5, [.ref mr, .ref mc, .int mp, .int mb, .int mi, .int me, .int ml, .int mo, .int mt, .int (nI (mS + 1))])), (mr, .inl (cmr, 4, .inl fr)), (mc, .inl (cmc, 32, .inl fc)), (ht, .inr (3, [.ref hd, .int tt])), (hd, .inr (4, [.ref hj, .int (nI dp1), .int de1, .int dB1, .long ds1, .int dk1, .int dv1])), (hj, .inr (1, [.ref jb, .int (nI jn), .int jm, .int jS, .int jl])), (jb, .inl (cJ, 300, .inl fb))]) [3, 4, 5, 6] [0, 1, 2, 7, 8, 9, 10] rfl rfl (by decide) (by decide) (by decide) (zk_runV X (C := R_P) (tysC := [(cPo, .int), (cPf, .int), (cPs, .int)]) (As := [.int mp]) (rest := []) (c_P_has l dC dI hp po pf ps cPo cPf cPs mp fo ff fs pn) [2, 3, 4] rfl (ci := 0) rfl 3 rfl (zk_cwV 1 X.1.2.2.2.2 (zk_goodT tw_215) rfl rfl rfl (zk_m tw_212) (zk_m tw_213) (zk_m tw_214) (zk_m tw_2) rfl (by decide +kernel) ⟨Nat.le_of_ble_eq_true rfl, Nat.le_of_ble_eq_true rfl⟩) rfl rfl (Nat.le_of_ble_eq_true rfl) ⟨Nat.zero_le _, Nat.zero_le _⟩ d_M_step_73) ?_
    rintro r73 ⟨⟩ ⟨w73, f73_0⟩
    have f73_0 : zk_hs r73 mp pn := f73_0
    refine zk_ws (ws' := [(hm, .inr (5, [.ref mr, .ref mc, .int mp, .int mb, .int mi, .int me, .int ml, .int mo, .int mt, .int (nI (mS + 1))])), (mr, .inl (cmr, 4, .inl fr)), (mc, .inl (cmc, 32, .inl fc)), (ht, .inr (3, [.ref hd, .int tt])), (hd, .inr (4, [.ref hj, .int (nI dp1), .int de1, .int dB1, .long ds1, .int dk1, .int dv1])), (hj, .inr (1, [.ref jb, .int (nI jn), .int jm, .int jS, .int jl])), (jb, .inl (cJ, 300, .inl fb)), (hp, .inr (0, [.ref po, .ref pf, .ref ps, .int (nI pn)])), (po, .inl (cPo, 24, .inl fo)), (pf, .inl (cPf, 24, .inl ff)), (ps, .inl (cPs, 24, .inl fs))]) rfl ?_
    subst w73
    refine zk_if_eq (pc := 76) X (tgt := 120) d_M_step_76 (by decide) (fun h76 => ?_) (fun h76 => ?_)
    · have hq := hq.trans (if_pos h76)
      refine zk_aload_n (pc := 120) X d_M_step_120 rfl (q := 0) rfl ?_
      refine zk_iconst (pc := 121) X (v := 1) d_M_step_121 rfl ?_
      refine zk_put (pc := 122) X (ty := .boolean) (v := .int 1) (ws' := [(hm, .inr (5, [.ref mr, .ref mc, .int mp, .int mb, .int mi, .int 1, .int ml, .int mo, .int mt, .int (nI (mS + 1))])), (mr, .inl (cmr, 4, .inl fr)), (mc, .inl (cmc, 32, .inl fc)), (ht, .inr (3, [.ref hd, .int tt])), (hd, .inr (4, [.ref hj, .int (nI dp1), .int de1, .int dB1, .long ds1, .int dk1, .int dv1])), (hj, .inr (1, [.ref jb, .int (nI jn), .int jm, .int jS, .int jl])), (jb, .inl (cJ, 300, .inl fb)), (hp, .inr (0, [.ref po, .ref pf, .ref ps, .int (nI pn)])), (po, .inl (cPo, 24, .inl fo)), (pf, .inl (cPf, 24, .inl ff)), (ps, .inl (cPs, 24, .inl fs))]) in_M tok_M nok_M 0 rfl rfl 5 (by decide) (zk_m tw_125) rfl rfl rfl rfl (Nat.le_of_ble_eq_true rfl) d_M_step_122 rfl ?_
      refine zk_perm (ws' := [(hm, .inr (5, [.ref mr, .ref mc, .int mp, .int mb, .int mi, .int 1, .int ml, .int mo, .int mt, .int (nI (mS + 1))])), (mr, .inl (cmr, 4, .inl fr)), (mc, .inl (cmc, 32, .inl fc)), (hp, .inr (0, [.ref po, .ref pf, .ref ps, .int (nI pn)])), (po, .inl (cPo, 24, .inl fo)), (pf, .inl (cPf, 24, .inl ff)), (ps, .inl (cPs, 24, .inl fs)), (ht, .inr (3, [.ref hd, .int tt])), (hd, .inr (4, [.ref hj, .int (nI dp1), .int de1, .int dB1, .long ds1, .int dk1, .int dv1])), (hj, .inr (1, [.ref jb, .int (nI jn), .int jm, .int jS, .int jl])), (jb, .inl (cJ, 300, .inl fb))]) [0, 1, 2, 7, 8, 9, 10, 3, 4, 5, 6] rfl (by decide) ?_
      exact cut125 fr fc mp mb mi 1 ml mo tt dp1 de1 dB1 ds1 dk1 dv1 (by omega) hq
    · have hq := hq.trans (if_neg h76)
      refine zk_aload_n (pc := 79) X d_M_step_79 rfl (q := 0) rfl ?_
      refine zk_get (pc := 80) X (ci := 5) (v := .int mp) in_M 0 rfl rfl 2 (by decide) (zk_m tw_122) rfl d_M_step_80 ?_
      refine zk_istore_n (pc := 83) X (i := 3) (lv' := [(3, .int mp), (0, .ref hm), (1, .ref hp), (2, .ref ht)]) d_M_step_83 rfl (by decide) rfl ?_
      refine zk_aload_n (pc := 84) X d_M_step_84 rfl (q := 1) rfl ?_
      refine zk_dup (pc := 85) X d_M_step_85 rfl ?_
      refine zk_get (pc := 86) X (ci := 5) (v := .int mp) in_M 0 rfl rfl 2 (by decide) (zk_m tw_122) rfl d_M_step_86 ?_
      refine zk_iconst (pc := 89) X (v := 1) d_M_step_89 rfl ?_
      refine zk_iadd (pc := 90) X (v := (mp + 1)) d_M_step_90 rfl ?_
      refine zk_put (pc := 91) X (ty := .int) (v := .int (mp + 1)) (ws' := [(hm, .inr (5, [.ref mr, .ref mc, .int (mp + 1), .int mb, .int mi, .int me, .int ml, .int mo, .int mt, .int (nI (mS + 1))])), (mr, .inl (cmr, 4, .inl fr)), (mc, .inl (cmc, 32, .inl fc)), (ht, .inr (3, [.ref hd, .int tt])), (hd, .inr (4, [.ref hj, .int (nI dp1), .int de1, .int dB1, .long ds1, .int dk1, .int dv1])), (hj, .inr (1, [.ref jb, .int (nI jn), .int jm, .int jS, .int jl])), (jb, .inl (cJ, 300, .inl fb)), (hp, .inr (0, [.ref po, .ref pf, .ref ps, .int (nI pn)])), (po, .inl (cPo, 24, .inl fo)), (pf, .inl (cPf, 24, .inl ff)), (ps, .inl (cPs, 24, .inl fs))]) in_M tok_M nok_M 0 rfl rfl 2 (by decide) (zk_m tw_122) rfl rfl rfl rfl (Nat.le_of_ble_eq_true rfl) d_M_step_91 rfl ?_
      refine zk_aload_n (pc := 94) X d_M_step_94 rfl (q := 1) rfl ?_
      refine zk_aload_n (pc := 95) X d_M_step_95 rfl (q := 2) rfl ?_
      refine zk_get (pc := 96) X (ci := 0) (v := .ref po) in_P 7 rfl rfl 0 (by decide) (zk_m tw_26) rfl d_M_step_96 ?_
      refine zk_iload_n (pc := 99) X d_M_step_99 rfl (q := 0) rfl ?_
      refine zk_iald (pc := 100) X 8 2 (mp.toNatClampNeg) rfl rfl (zk_hasI f73_0 h76).1 (zk_hasL f73_0 h76 hpn) (by decide) d_M_step_100 ?_
      refine zk_aload_n (pc := 101) X d_M_step_101 rfl (q := 2) rfl ?_
      refine zk_get (pc := 102) X (ci := 0) (v := .ref pf) in_P 7 rfl rfl 1 (by decide) (zk_m tw_28) rfl d_M_step_102 ?_
      refine zk_iload_n (pc := 105) X d_M_step_105 rfl (q := 0) rfl ?_
      refine zk_iald (pc := 106) X 9 3 (mp.toNatClampNeg) rfl rfl (zk_hasI f73_0 h76).1 (zk_hasL f73_0 h76 hpn) (by decide) d_M_step_106 ?_
      refine zk_aload_n (pc := 107) X d_M_step_107 rfl (q := 2) rfl ?_
      refine zk_get (pc := 108) X (ci := 0) (v := .ref ps) in_P 7 rfl rfl 2 (by decide) (zk_m tw_30) rfl d_M_step_108 ?_
      refine zk_iload_n (pc := 111) X d_M_step_111 rfl (q := 0) rfl ?_
      refine zk_iald (pc := 112) X 10 4 (mp.toNatClampNeg) rfl rfl (zk_hasI f73_0 h76).1 (zk_hasL f73_0 h76 hpn) (by decide) d_M_step_112 ?_
      refine zk_aload_n (pc := 113) X d_M_step_113 rfl (q := 3) rfl ?_
      refine zk_callv (pc := 114) X (wc := [(hm, .inr (5, [.ref mr, .ref mc, .int (mp + 1), .int mb, .int mi, .int me, .int ml, .int mo, .int mt, .int (nI (mS + 1))])), (mr, .inl (cmr, 4, .inl fr)), (mc, .inl (cmc, 32, .inl fc)), (ht, .inr (3, [.ref hd, .int tt])), (hd, .inr (4, [.ref hj, .int (nI dp1), .int de1, .int dB1, .long ds1, .int dk1, .int dv1])), (hj, .inr (1, [.ref jb, .int (nI jn), .int jm, .int jS, .int jl])), (jb, .inl (cJ, 300, .inl fb))]) (wr := [(hp, .inr (0, [.ref po, .ref pf, .ref ps, .int (nI pn)])), (po, .inl (cPo, 24, .inl fo)), (pf, .inl (cPf, 24, .inl ff)), (ps, .inl (cPs, 24, .inl fs))]) [0, 1, 2, 3, 4, 5, 6] [7, 8, 9, 10] rfl rfl (by decide) (by decide) (by decide) (zk_runV X (C := R_M) (tysC := [(cmr, .int), (cmc, .int), (cJ, .int)]) (As := [.int (fo mp.toNatClampNeg), .int (ff mp.toNatClampNeg), .int (fs mp.toNatClampNeg), .ref ht]) (rest := []) (c_M_performT l dC dI hm mr mc ht hd hj jb cmr cmc cJ (fo mp.toNatClampNeg) (ff mp.toNatClampNeg) (fs mp.toNatClampNeg) fr fc (mp + 1) mb mi me ml mo mt (mS + 1) tt dp1 de1 dB1 ds1 dk1 dv1 fb jn jm jS jl (by omega) (by omega)) [0, 1, 5] rfl (ci := 5) rfl 0 rfl (zk_cwV 4 X.1.2.2.2.2 (zk_goodT tw_254) rfl rfl rfl (zk_m tw_252) (zk_m tw_253) (zk_m tw_528) (zk_m tw_8) rfl (by decide +kernel) ⟨Nat.le_of_ble_eq_true rfl, Nat.le_of_ble_eq_true rfl⟩) rfl rfl (Nat.le_of_ble_eq_true rfl) ⟨Nat.zero_le _, Nat.zero_le _⟩ d_M_step_114) ?_
      rintro ⟨fr_114, fc_114, mp_114, mi_114, me_114, ml_114, mo_114, tt_114, dp_114, de_114, dB_114, ds_114, dk_114, dv_114⟩ ⟨w114, f114_0⟩
      have f114_0 : dp_114 ≤ jn := f114_0
      refine zk_ws (ws' := [(hp, .inr (0, [.ref po, .ref pf, .ref ps, .int (nI pn)])), (po, .inl (cPo, 24, .inl fo)), (pf, .inl (cPf, 24, .inl ff)), (ps, .inl (cPs, 24, .inl fs)), (hm, .inr (5, [.ref mr, .ref mc, .int mp_114, .int mb, .int mi_114, .int me_114, .int ml_114, .int mo_114, .int mt, .int (nI (mS + 1))])), (mr, .inl (cmr, 4, .inl fr_114)), (mc, .inl (cmc, 32, .inl fc_114)), (ht, .inr (3, [.ref hd, .int tt_114])), (hd, .inr (4, [.ref hj, .int (nI dp_114), .int de_114, .int dB_114, .long ds_114, .int dk_114, .int dv_114])), (hj, .inr (1, [.ref jb, .int (nI jn), .int jm, .int jS, .int jl])), (jb, .inl (cJ, 300, .inl fb))]) rfl ?_
      try dsimp only at w114
      rw [← w114] at hq
      try dsimp only at hq
      refine zk_goto (pc := 117) X (tgt := 125) d_M_step_117 (by decide) ?_
      refine zk_perm (ws' := [(hm, .inr (5, [.ref mr, .ref mc, .int mp_114, .int mb, .int mi_114, .int me_114, .int ml_114, .int mo_114, .int mt, .int (nI (mS + 1))])), (mr, .inl (cmr, 4, .inl fr_114)), (mc, .inl (cmc, 32, .inl fc_114)), (hp, .inr (0, [.ref po, .ref pf, .ref ps, .int (nI pn)])), (po, .inl (cPo, 24, .inl fo)), (pf, .inl (cPf, 24, .inl ff)), (ps, .inl (cPs, 24, .inl fs)), (ht, .inr (3, [.ref hd, .int tt_114])), (hd, .inr (4, [.ref hj, .int (nI dp_114), .int de_114, .int dB_114, .long ds_114, .int dk_114, .int dv_114])), (hj, .inr (1, [.ref jb, .int (nI jn), .int jm, .int jS, .int jl])), (jb, .inl (cJ, 300, .inl fb))]) [4, 5, 6, 0, 1, 2, 3, 7, 8, 9, 10] rfl (by decide) ?_
      refine zk_lv (lv' := [(0, .ref hm), (1, .ref hp), (2, .ref ht)]) [1, 2, 3] rfl ?_
      exact cut125 fr_114 fc_114 mp_114 mb mi_114 me_114 ml_114 mo_114 tt_114 dp_114 de_114 dB_114 ds_114 dk_114 dv_114 (by omega) hq
  have hq := sp_M_stepT.eq_1 fr fc mp mb mi me ml mo mt mS fo ff fs pn tt dp de dB ds dk dv fb jn
  refine zk_lv (lv' := [(0, .ref hm), (1, .ref hp), (2, .ref ht)]) [0, 1, 2] rfl ?_
  refine zk_aload_n (pc := 0) X d_M_step_0 rfl (q := 0) rfl ?_
  refine zk_get (pc := 1) X (ci := 5) (v := .int me) in_M 0 rfl rfl 5 (by decide) (zk_m tw_125) rfl d_M_step_1 ?_
  refine zk_if_eq (pc := 4) X (tgt := 9) d_M_step_4 (by decide) (fun h4 => ?_) (fun h4 => ?_)
  · have hq := hq.trans (if_pos h4)
    refine zk_aload_n (pc := 9) X d_M_step_9 rfl (q := 0) rfl ?_
    refine zk_dup (pc := 10) X d_M_step_10 rfl ?_
    refine zk_get (pc := 11) X (ci := 5) (v := .int (nI mS)) in_M 0 rfl rfl 9 (by decide) (zk_m tw_129) rfl d_M_step_11 ?_
    refine zk_iconst (pc := 14) X (v := 1) d_M_step_14 rfl ?_
    refine zk_iadd (pc := 15) X (v := nI (mS + 1)) d_M_step_15 (nI_add (mS) (1)) ?_
    refine zk_put (pc := 16) X (ty := .int) (v := .int (nI (mS + 1))) (ws' := [(hm, .inr (5, [.ref mr, .ref mc, .int mp, .int mb, .int mi, .int me, .int ml, .int mo, .int mt, .int (nI (mS + 1))])), (mr, .inl (cmr, 4, .inl fr)), (mc, .inl (cmc, 32, .inl fc)), (hp, .inr (0, [.ref po, .ref pf, .ref ps, .int (nI pn)])), (po, .inl (cPo, 24, .inl fo)), (pf, .inl (cPf, 24, .inl ff)), (ps, .inl (cPs, 24, .inl fs)), (ht, .inr (3, [.ref hd, .int tt])), (hd, .inr (4, [.ref hj, .int (nI dp), .int de, .int dB, .long ds, .int dk, .int dv])), (hj, .inr (1, [.ref jb, .int (nI jn), .int jm, .int jS, .int jl])), (jb, .inl (cJ, 300, .inl fb))]) in_M tok_M nok_M 0 rfl rfl 9 (by decide) (zk_m tw_129) rfl rfl rfl rfl (Nat.le_of_ble_eq_true rfl) d_M_step_16 rfl ?_
    refine zk_aload_n (pc := 19) X d_M_step_19 rfl (q := 0) rfl ?_
    refine zk_get (pc := 20) X (ci := 5) (v := .int mi) in_M 0 rfl rfl 4 (by decide) (zk_m tw_124) rfl d_M_step_20 ?_
    refine zk_if_ne (pc := 23) X (tgt := 68) d_M_step_23 (by decide) (fun h23 => ?_) (fun h23 => ?_)
    · have hq := hq.trans (if_neg h23)
      exact cut68 dp de dB ds dk dv (by omega) hq
    · have hq := hq.trans (if_pos h23)
      refine zk_aload_n (pc := 26) X d_M_step_26 rfl (q := 1) rfl ?_
      refine zk_bipush (pc := 27) X (v := 16) d_M_step_27 (by decide) ?_
      refine zk_calli (pc := 29) X (wc := [(hp, .inr (0, [.ref po, .ref pf, .ref ps, .int (nI pn)])), (po, .inl (cPo, 24, .inl fo)), (pf, .inl (cPf, 24, .inl ff)), (ps, .inl (cPs, 24, .inl fs))]) (wr := [(hm, .inr (5, [.ref mr, .ref mc, .int mp, .int mb, .int mi, .int me, .int ml, .int mo, .int mt, .int (nI (mS + 1))])), (mr, .inl (cmr, 4, .inl fr)), (mc, .inl (cmc, 32, .inl fc)), (ht, .inr (3, [.ref hd, .int tt])), (hd, .inr (4, [.ref hj, .int (nI dp), .int de, .int dB, .long ds, .int dk, .int dv])), (hj, .inr (1, [.ref jb, .int (nI jn), .int jm, .int jS, .int jl])), (jb, .inl (cJ, 300, .inl fb))]) [3, 4, 5, 6] [0, 1, 2, 7, 8, 9, 10] rfl rfl (by decide) (by decide) (by decide) (zk_runV X (C := R_P) (tysC := [(cPo, .int), (cPf, .int), (cPs, .int)]) (As := [.int 16]) (rest := []) (c_P_has l dC dI hp po pf ps cPo cPf cPs 16 fo ff fs pn) [2, 3, 4] rfl (ci := 0) rfl 3 rfl (zk_cwV 1 X.1.2.2.2.2 (zk_goodT tw_215) rfl rfl rfl (zk_m tw_212) (zk_m tw_213) (zk_m tw_214) (zk_m tw_2) rfl (by decide +kernel) ⟨Nat.le_of_ble_eq_true rfl, Nat.le_of_ble_eq_true rfl⟩) rfl rfl (Nat.le_of_ble_eq_true rfl) ⟨Nat.zero_le _, Nat.zero_le _⟩ d_M_step_29) ?_
      rintro r29 ⟨⟩ ⟨w29, f29_0⟩
      have f29_0 : zk_hs r29 16 pn := f29_0
      refine zk_ws (ws' := [(hm, .inr (5, [.ref mr, .ref mc, .int mp, .int mb, .int mi, .int me, .int ml, .int mo, .int mt, .int (nI (mS + 1))])), (mr, .inl (cmr, 4, .inl fr)), (mc, .inl (cmc, 32, .inl fc)), (ht, .inr (3, [.ref hd, .int tt])), (hd, .inr (4, [.ref hj, .int (nI dp), .int de, .int dB, .long ds, .int dk, .int dv])), (hj, .inr (1, [.ref jb, .int (nI jn), .int jm, .int jS, .int jl])), (jb, .inl (cJ, 300, .inl fb)), (hp, .inr (0, [.ref po, .ref pf, .ref ps, .int (nI pn)])), (po, .inl (cPo, 24, .inl fo)), (pf, .inl (cPf, 24, .inl ff)), (ps, .inl (cPs, 24, .inl fs))]) rfl ?_
      subst w29
      refine zk_if_eq (pc := 32) X (tgt := 68) d_M_step_32 (by decide) (fun h32 => ?_) (fun h32 => ?_)
      · have hq := hq.trans (if_pos h32)
        refine zk_perm (ws' := [(hm, .inr (5, [.ref mr, .ref mc, .int mp, .int mb, .int mi, .int me, .int ml, .int mo, .int mt, .int (nI (mS + 1))])), (mr, .inl (cmr, 4, .inl fr)), (mc, .inl (cmc, 32, .inl fc)), (hp, .inr (0, [.ref po, .ref pf, .ref ps, .int (nI pn)])), (po, .inl (cPo, 24, .inl fo)), (pf, .inl (cPf, 24, .inl ff)), (ps, .inl (cPs, 24, .inl fs)), (ht, .inr (3, [.ref hd, .int tt])), (hd, .inr (4, [.ref hj, .int (nI dp), .int de, .int dB, .long ds, .int dk, .int dv])), (hj, .inr (1, [.ref jb, .int (nI jn), .int jm, .int jS, .int jl])), (jb, .inl (cJ, 300, .inl fb))]) [0, 1, 2, 7, 8, 9, 10, 3, 4, 5, 6] rfl (by decide) ?_
        exact cut68 dp de dB ds dk dv (by omega) hq
      · have hq := hq.trans (if_neg h32)
        refine zk_aload_n (pc := 35) X d_M_step_35 rfl (q := 2) rfl ?_
        refine zk_aload_n (pc := 36) X d_M_step_36 rfl (q := 0) rfl ?_
        refine zk_get (pc := 37) X (ci := 5) (v := .int (nI (mS + 1))) in_M 0 rfl rfl 9 (by decide) (zk_m tw_129) rfl d_M_step_37 ?_
        refine zk_calli (pc := 40) X (wc := [(ht, .inr (3, [.ref hd, .int tt])), (hd, .inr (4, [.ref hj, .int (nI dp), .int de, .int dB, .long ds, .int dk, .int dv])), (hj, .inr (1, [.ref jb, .int (nI jn), .int jm, .int jS, .int jl])), (jb, .inl (cJ, 300, .inl fb))]) (wr := [(hm, .inr (5, [.ref mr, .ref mc, .int mp, .int mb, .int mi, .int me, .int ml, .int mo, .int mt, .int (nI (mS + 1))])), (mr, .inl (cmr, 4, .inl fr)), (mc, .inl (cmc, 32, .inl fc)), (hp, .inr (0, [.ref po, .ref pf, .ref ps, .int (nI pn)])), (po, .inl (cPo, 24, .inl fo)), (pf, .inl (cPf, 24, .inl ff)), (ps, .inl (cPs, 24, .inl fs))]) [3, 4, 5, 6] [0, 1, 2, 7, 8, 9, 10] rfl rfl (by decide) (by decide) (by decide) (zk_runU X (tysC := [(cJ, .int)]) (As := [.int (nI (mS + 1))]) (rest := []) (c_T_takeInterrupt l dC dI ht hd hj jb cJ (nI (mS + 1)) tt dp de dB ds dk dv fb jn jm jS jl (by omega) (by omega)) [5] rfl (ci := 3) rfl 3 rfl (zk_cwA 1 X.1.2.2.2.2 (zk_goodT tw_237) rfl rfl rfl (zk_m tw_216) (zk_m tw_217) (zk_m tw_235) (zk_m tw_236) (zk_m tw_6) X.2.2.2.2.2.2.2.1 (by decide +kernel) ⟨Nat.le_of_ble_eq_true rfl, Nat.le_of_ble_eq_true rfl⟩) rfl rfl (Nat.le_of_ble_eq_true rfl) ⟨Nat.zero_le _, Nat.zero_le _⟩ d_M_step_40) ?_
        rintro r40 ⟨dp_40, de_40, dB_40, ds_40, dk_40, dv_40⟩ ⟨w40, f40_0, f40_1⟩
        have f40_0 : dp_40 ≤ jn := f40_0
        have f40_1 : zk_b01 r40 := f40_1
        refine zk_ws (ws' := [(hm, .inr (5, [.ref mr, .ref mc, .int mp, .int mb, .int mi, .int me, .int ml, .int mo, .int mt, .int (nI (mS + 1))])), (mr, .inl (cmr, 4, .inl fr)), (mc, .inl (cmc, 32, .inl fc)), (hp, .inr (0, [.ref po, .ref pf, .ref ps, .int (nI pn)])), (po, .inl (cPo, 24, .inl fo)), (pf, .inl (cPf, 24, .inl ff)), (ps, .inl (cPs, 24, .inl fs)), (ht, .inr (3, [.ref hd, .int tt])), (hd, .inr (4, [.ref hj, .int (nI dp_40), .int de_40, .int dB_40, .long ds_40, .int dk_40, .int dv_40])), (hj, .inr (1, [.ref jb, .int (nI jn), .int jm, .int jS, .int jl])), (jb, .inl (cJ, 300, .inl fb))]) rfl ?_
        try dsimp only at w40
        rw [← w40] at hq
        try dsimp only at hq
        refine zk_if_eq (pc := 43) X (tgt := 68) d_M_step_43 (by decide) (fun h43 => ?_) (fun h43 => ?_)
        · have hq := hq.trans (if_pos h43)
          exact cut68 dp_40 de_40 dB_40 ds_40 dk_40 dv_40 (by omega) hq
        · have hq := hq.trans (if_neg h43)
          refine zk_aload_n (pc := 46) X d_M_step_46 rfl (q := 0) rfl ?_
          refine zk_aload_n (pc := 47) X d_M_step_47 rfl (q := 0) rfl ?_
          refine zk_get (pc := 48) X (ci := 5) (v := .int mp) in_M 0 rfl rfl 2 (by decide) (zk_m tw_122) rfl d_M_step_48 ?_
          refine zk_put (pc := 51) X (ty := .int) (v := .int mp) (ws' := [(hm, .inr (5, [.ref mr, .ref mc, .int mp, .int mp, .int mi, .int me, .int ml, .int mo, .int mt, .int (nI (mS + 1))])), (mr, .inl (cmr, 4, .inl fr)), (mc, .inl (cmc, 32, .inl fc)), (hp, .inr (0, [.ref po, .ref pf, .ref ps, .int (nI pn)])), (po, .inl (cPo, 24, .inl fo)), (pf, .inl (cPf, 24, .inl ff)), (ps, .inl (cPs, 24, .inl fs)), (ht, .inr (3, [.ref hd, .int tt])), (hd, .inr (4, [.ref hj, .int (nI dp_40), .int de_40, .int dB_40, .long ds_40, .int dk_40, .int dv_40])), (hj, .inr (1, [.ref jb, .int (nI jn), .int jm, .int jS, .int jl])), (jb, .inl (cJ, 300, .inl fb))]) in_M tok_M nok_M 0 rfl rfl 3 (by decide) (zk_m tw_123) rfl rfl rfl rfl (Nat.le_of_ble_eq_true rfl) d_M_step_51 rfl ?_
          refine zk_aload_n (pc := 54) X d_M_step_54 rfl (q := 0) rfl ?_
          refine zk_bipush (pc := 55) X (v := 16) d_M_step_55 (by decide) ?_
          refine zk_put (pc := 57) X (ty := .int) (v := .int 16) (ws' := [(hm, .inr (5, [.ref mr, .ref mc, .int 16, .int mp, .int mi, .int me, .int ml, .int mo, .int mt, .int (nI (mS + 1))])), (mr, .inl (cmr, 4, .inl fr)), (mc, .inl (cmc, 32, .inl fc)), (hp, .inr (0, [.ref po, .ref pf, .ref ps, .int (nI pn)])), (po, .inl (cPo, 24, .inl fo)), (pf, .inl (cPf, 24, .inl ff)), (ps, .inl (cPs, 24, .inl fs)), (ht, .inr (3, [.ref hd, .int tt])), (hd, .inr (4, [.ref hj, .int (nI dp_40), .int de_40, .int dB_40, .long ds_40, .int dk_40, .int dv_40])), (hj, .inr (1, [.ref jb, .int (nI jn), .int jm, .int jS, .int jl])), (jb, .inl (cJ, 300, .inl fb))]) in_M tok_M nok_M 0 rfl rfl 2 (by decide) (zk_m tw_122) rfl rfl rfl rfl (Nat.le_of_ble_eq_true rfl) d_M_step_57 rfl ?_
          refine zk_aload_n (pc := 60) X d_M_step_60 rfl (q := 0) rfl ?_
          refine zk_iconst (pc := 61) X (v := 1) d_M_step_61 rfl ?_
          refine zk_put (pc := 62) X (ty := .boolean) (v := .int 1) (ws' := [(hm, .inr (5, [.ref mr, .ref mc, .int 16, .int mp, .int 1, .int me, .int ml, .int mo, .int mt, .int (nI (mS + 1))])), (mr, .inl (cmr, 4, .inl fr)), (mc, .inl (cmc, 32, .inl fc)), (hp, .inr (0, [.ref po, .ref pf, .ref ps, .int (nI pn)])), (po, .inl (cPo, 24, .inl fo)), (pf, .inl (cPf, 24, .inl ff)), (ps, .inl (cPs, 24, .inl fs)), (ht, .inr (3, [.ref hd, .int tt])), (hd, .inr (4, [.ref hj, .int (nI dp_40), .int de_40, .int dB_40, .long ds_40, .int dk_40, .int dv_40])), (hj, .inr (1, [.ref jb, .int (nI jn), .int jm, .int jS, .int jl])), (jb, .inl (cJ, 300, .inl fb))]) in_M tok_M nok_M 0 rfl rfl 4 (by decide) (zk_m tw_124) rfl rfl rfl rfl (Nat.le_of_ble_eq_true rfl) d_M_step_62 rfl ?_
          refine zk_goto (pc := 65) X (tgt := 125) d_M_step_65 (by decide) ?_
          exact cut125 fr fc 16 mp 1 me ml mo tt dp_40 de_40 dB_40 ds_40 dk_40 dv_40 (by omega) hq
  · have hq := hq.trans (if_neg h4)
    refine zk_iconst (pc := 7) X (v := 0) d_M_step_7 rfl ?_
    exact zk_zret (pc := 8) X hQ hRt hLk rfl (fr, fc, mp, mb, mi, me, ml, mo, mt, mS, tt, dp, de, dB, ds, dk, dv) ⟨hq.symm, (show dp ≤ jn by omega)⟩ [0, 1, 2, 3, 4, 5, 6, 7, 8, 9, 10] rfl (by decide) d_M_step_8
end
section
def sp_M_looksLike_31 (fc : Nat → Int32) (kfc : Nat → Int32) : Nat → Nat → Int32
  | 0, j => 0
  | fuel + 1, j =>
    if 32 ≤ j then
      1
    else
      if (fc j) = (kfc j) then
        sp_M_looksLike_31 fc kfc fuel (j + 1)
      else
        0
def sp_M_looksLike_2 (fr : Nat → Int32) (fc : Nat → Int32) (mp : Int32) (mi : Int32) (me : Int32) (mo : Int32) (mt : Int32) (mS : Nat) (kfr : Nat → Int32) (kfc : Nat → Int32) (kp : Int32) (ki : Int32) (ke : Int32) (ko : Int32) (kt : Int32) (kS : Nat) : Nat → Nat → Int32
  | 0, j => 0
  | fuel + 1, j =>
    if 10 ≤ j then
      sp_M_looksLike_31 fc kfc 33 0
    else
      if (sp_M_stateOf (nI j) fr mp mi me mo mt mS) = (sp_M_stateOf (nI j) kfr kp ki ke ko kt kS) then
        sp_M_looksLike_2 fr fc mp mi me mo mt mS kfr kfc kp ki ke ko kt kS fuel (j + 1)
      else
        0
def sp_M_looksLike (fr : Nat → Int32) (fc : Nat → Int32) (mp : Int32) (mi : Int32) (me : Int32) (mo : Int32) (mt : Int32) (mS : Nat) (kfr : Nat → Int32) (kfc : Nat → Int32) (kp : Int32) (ki : Int32) (ke : Int32) (ko : Int32) (kt : Int32) (kS : Nat) : Int32 :=
  sp_M_looksLike_2 fr fc mp mi me mo mt mS kfr kfc kp ki ke ko kt kS 11 0
abbrev rm_M_looksLike : Room := { frames := 1, cells := 0, slots := 0, locals := 21 }
set_option maxHeartbeats 4000000 in
set_option maxRecDepth 100000 in
theorem c_M_looksLike (l : Launch) (dC : Nat → ClassId) (dI : Nat → Nat → Nat) (hm mr mc hk kr kc : Nat) (cmr cmc ckr ckc : ClassId) (fr : Nat → Int32) (fc : Nat → Int32) (mp : Int32) (mb : Int32) (mi : Int32) (me : Int32) (ml : Int32) (mo : Int32) (mt : Int32) (mS : Nat) (kfr : Nat → Int32) (kfc : Nat → Int32) (kp : Int32) (kb : Int32) (ki : Int32) (ke : Int32) (kl : Int32) (ko : Int32) (kt : Int32) (kS : Nat) : zk_Ci l y_M_looksLike w_M_looksLike rm_M_looksLike (dC, dI) vwCl [.ref hm, .ref hk] [(hm, .inr (5, [.ref mr, .ref mc, .int mp, .int mb, .int mi, .int me, .int ml, .int mo, .int mt, .int (nI mS)])), (mr, .inl (cmr, 4, .inl fr)), (mc, .inl (cmc, 32, .inl fc)), (hk, .inr (5, [.ref kr, .ref kc, .int kp, .int kb, .int ki, .int ke, .int kl, .int ko, .int kt, .int (nI kS)])), (kr, .inl (ckr, 4, .inl kfr)), (kc, .inl (ckc, 32, .inl kfc))] [(cmr, .int), (cmc, .int), (ckr, .int), (ckc, .int)] (fun (r : Int32) (u : Unit) => r = sp_M_looksLike fr fc mp mi me mo mt mS kfr kfc kp ki ke ko kt kS) (fun _ => [(hm, .inr (5, [.ref mr, .ref mc, .int mp, .int mb, .int mi, .int me, .int ml, .int mo, .int mt, .int (nI mS)])), (mr, .inl (cmr, 4, .inl fr)), (mc, .inl (cmc, 32, .inl fc)), (hk, .inr (5, [.ref kr, .ref kc, .int kp, .int kb, .int ki, .int ke, .int kl, .int ko, .int kt, .int (nI kS)])), (kr, .inl (ckr, 4, .inl kfr)), (kc, .inl (ckc, 32, .inl kfc))]) := by
  refine zk_enteri (cc := b_M_looksLike) (maxL := 3) (ret := some .boolean) (by decide) rfl (Nat.le_of_ble_eq_true rfl) ?_
  intro p e s m args below meth c A Q hQ X hRt hLk
  have cut31 : ∀ (fuel : Nat) (j : Nat), j ≤ 32 → 32 - j < fuel → sp_M_looksLike fr fc mp mi me mo mt mS kfr kfc kp ki ke ko kt kS = sp_M_looksLike_31 fc kfc fuel j → zk_Z p l e rm_M_looksLike s m args below meth c Q A (dC, dI) vwCl 3 0 0 [(hm, .inr (5, [.ref mr, .ref mc, .int mp, .int mb, .int mi, .int me, .int ml, .int mo, .int mt, .int (nI mS)])), (mr, .inl (cmr, 4, .inl fr)), (mc, .inl (cmc, 32, .inl fc)), (hk, .inr (5, [.ref kr, .ref kc, .int kp, .int kb, .int ki, .int ke, .int kl, .int ko, .int kt, .int (nI kS)])), (kr, .inl (ckr, 4, .inl kfr)), (kc, .inl (ckc, 32, .inl kfc))] [(0, .ref hm), (1, .ref hk), (2, .int (nI j))] [] 31 := by
    intro fuel
    induction fuel with
    | zero => intro j hjj hMs; exact absurd hMs (Nat.not_lt_zero _)
    | succ fuel ih =>
      intro j hjj hMs hq
      rw [sp_M_looksLike_31] at hq
      refine zk_iload_n (pc := 31) X d_M_looksLike_31 rfl (q := 2) rfl ?_
      refine zk_bipush (pc := 32) X (v := 32) d_M_looksLike_32 (by decide) ?_
      refine zk_icmpN_ge (pc := 34) X (tgt := 60) (j) (32) rfl rfl (by omega) (by omega) d_M_looksLike_34 (by decide) (fun h34 => ?_) (fun h34 => ?_)
      · have hq := hq.trans (if_pos h34)
        refine zk_iconst (pc := 60) X (v := 1) d_M_looksLike_60 rfl ?_
        exact zk_zret (pc := 61) X hQ hRt hLk rfl () hq.symm [0, 1, 2, 3, 4, 5] rfl (by decide) d_M_looksLike_61
      · have hq := hq.trans (if_neg h34)
        refine zk_aload_n (pc := 37) X d_M_looksLike_37 rfl (q := 0) rfl ?_
        refine zk_get (pc := 38) X (ci := 5) (v := .ref mc) in_M 0 rfl rfl 1 (by decide) (zk_m tw_121) rfl d_M_looksLike_38 ?_
        refine zk_iload_n (pc := 41) X d_M_looksLike_41 rfl (q := 2) rfl ?_
        refine zk_iald (pc := 42) X 2 1 (j) rfl rfl rfl (by omega) (by decide) d_M_looksLike_42 ?_
        refine zk_aload_n (pc := 43) X d_M_looksLike_43 rfl (q := 1) rfl ?_
        refine zk_get (pc := 44) X (ci := 5) (v := .ref kc) in_M 3 rfl rfl 1 (by decide) (zk_m tw_121) rfl d_M_looksLike_44 ?_
        refine zk_iload_n (pc := 47) X d_M_looksLike_47 rfl (q := 2) rfl ?_
        refine zk_iald (pc := 48) X 5 3 (j) rfl rfl rfl (by omega) (by decide) d_M_looksLike_48 ?_
        refine zk_icmp_eq (pc := 49) X (tgt := 54) d_M_looksLike_49 (by decide) (fun h49 => ?_) (fun h49 => ?_)
        · have hq := hq.trans (if_pos h49)
          refine zk_iinc (pc := 54) X (k0 := 2) (v := nI (j + 1)) (lv' := [(2, .int (nI (j + 1))), (0, .ref hm), (1, .ref hk)]) d_M_looksLike_54 rfl (nI_add (j) 1) (by decide) rfl ?_
          refine zk_goto (pc := 57) X (tgt := 31) d_M_looksLike_57 (by decide) ?_
          refine zk_lv (lv' := [(0, .ref hm), (1, .ref hk), (2, .int (nI (j + 1)))]) [1, 2, 0] rfl ?_
          exact ih (j + 1) (by omega) (by omega) hq
        · have hq := hq.trans (if_neg h49)
          refine zk_iconst (pc := 52) X (v := 0) d_M_looksLike_52 rfl ?_
          exact zk_zret (pc := 53) X hQ hRt hLk rfl () hq.symm [0, 1, 2, 3, 4, 5] rfl (by decide) d_M_looksLike_53
  have cut2 : ∀ (fuel : Nat) (j : Nat), j ≤ 10 → 10 - j < fuel → sp_M_looksLike fr fc mp mi me mo mt mS kfr kfc kp ki ke ko kt kS = sp_M_looksLike_2 fr fc mp mi me mo mt mS kfr kfc kp ki ke ko kt kS fuel j → zk_Z p l e rm_M_looksLike s m args below meth c Q A (dC, dI) vwCl 3 0 0 [(hm, .inr (5, [.ref mr, .ref mc, .int mp, .int mb, .int mi, .int me, .int ml, .int mo, .int mt, .int (nI mS)])), (mr, .inl (cmr, 4, .inl fr)), (mc, .inl (cmc, 32, .inl fc)), (hk, .inr (5, [.ref kr, .ref kc, .int kp, .int kb, .int ki, .int ke, .int kl, .int ko, .int kt, .int (nI kS)])), (kr, .inl (ckr, 4, .inl kfr)), (kc, .inl (ckc, 32, .inl kfc))] [(0, .ref hm), (1, .ref hk), (2, .int (nI j))] [] 2 := by
    intro fuel
    induction fuel with
    | zero => intro j hjj hMs; exact absurd hMs (Nat.not_lt_zero _)
    | succ fuel ih =>
      intro j hjj hMs hq
      rw [sp_M_looksLike_2] at hq
      refine zk_iload_n (pc := 2) X d_M_looksLike_2 rfl (q := 2) rfl ?_
      refine zk_bipush (pc := 3) X (v := 10) d_M_looksLike_3 (by decide) ?_
      refine zk_icmpN_ge (pc := 5) X (tgt := 29) (j) (10) rfl rfl (by omega) (by omega) d_M_looksLike_5 (by decide) (fun h5 => ?_) (fun h5 => ?_)
      · have hq := hq.trans (if_pos h5)
        refine zk_iconst (pc := 29) X (v := 0) d_M_looksLike_29 rfl ?_
        refine zk_istore_n (pc := 30) X (i := 2) (lv' := [(2, .int 0), (0, .ref hm), (1, .ref hk)]) d_M_looksLike_30 rfl (by decide) rfl ?_
        refine zk_lv (lv' := [(0, .ref hm), (1, .ref hk), (2, .int 0)]) [1, 2, 0] rfl ?_
        exact cut31 (33) 0 (by omega) (by omega) hq
      · have hq := hq.trans (if_neg h5)
        refine zk_aload_n (pc := 8) X d_M_looksLike_8 rfl (q := 0) rfl ?_
        refine zk_iload_n (pc := 9) X d_M_looksLike_9 rfl (q := 2) rfl ?_
        refine zk_calli (pc := 10) X (wc := [(hm, .inr (5, [.ref mr, .ref mc, .int mp, .int mb, .int mi, .int me, .int ml, .int mo, .int mt, .int (nI mS)])), (mr, .inl (cmr, 4, .inl fr)), (mc, .inl (cmc, 32, .inl fc))]) (wr := [(hk, .inr (5, [.ref kr, .ref kc, .int kp, .int kb, .int ki, .int ke, .int kl, .int ko, .int kt, .int (nI kS)])), (kr, .inl (ckr, 4, .inl kfr)), (kc, .inl (ckc, 32, .inl kfc))]) [0, 1, 2] [3, 4, 5] rfl rfl (by decide) (by decide) (by decide) (zk_runV X (C := R_M) (tysC := [(cmr, .int), (cmc, .int)]) (As := [.int (nI j)]) (rest := []) (c_M_stateOf l dC dI hm mr mc cmr cmc (nI j) fr fc mp mb mi me ml mo mt mS) [0, 1] rfl (ci := 5) rfl 0 rfl (zk_cwV 1 X.1.2.2.2.2 (zk_goodT tw_331) rfl rfl rfl (zk_m tw_328) (zk_m tw_329) (zk_m tw_330) (zk_m tw_8) rfl (by decide +kernel) ⟨Nat.le_of_ble_eq_true rfl, Nat.le_of_ble_eq_true rfl⟩) rfl rfl (Nat.le_of_ble_eq_true rfl) ⟨Nat.zero_le _, Nat.zero_le _⟩ d_M_looksLike_10) ?_
        rintro r10 ⟨⟩ w10
        refine zk_ws (ws' := [(hk, .inr (5, [.ref kr, .ref kc, .int kp, .int kb, .int ki, .int ke, .int kl, .int ko, .int kt, .int (nI kS)])), (kr, .inl (ckr, 4, .inl kfr)), (kc, .inl (ckc, 32, .inl kfc)), (hm, .inr (5, [.ref mr, .ref mc, .int mp, .int mb, .int mi, .int me, .int ml, .int mo, .int mt, .int (nI mS)])), (mr, .inl (cmr, 4, .inl fr)), (mc, .inl (cmc, 32, .inl fc))]) rfl ?_
        subst w10
        refine zk_aload_n (pc := 13) X d_M_looksLike_13 rfl (q := 1) rfl ?_
        refine zk_iload_n (pc := 14) X d_M_looksLike_14 rfl (q := 2) rfl ?_
        refine zk_calli (pc := 15) X (wc := [(hk, .inr (5, [.ref kr, .ref kc, .int kp, .int kb, .int ki, .int ke, .int kl, .int ko, .int kt, .int (nI kS)])), (kr, .inl (ckr, 4, .inl kfr)), (kc, .inl (ckc, 32, .inl kfc))]) (wr := [(hm, .inr (5, [.ref mr, .ref mc, .int mp, .int mb, .int mi, .int me, .int ml, .int mo, .int mt, .int (nI mS)])), (mr, .inl (cmr, 4, .inl fr)), (mc, .inl (cmc, 32, .inl fc))]) [0, 1, 2] [3, 4, 5] rfl rfl (by decide) (by decide) (by decide) (zk_runV X (C := R_M) (tysC := [(ckr, .int), (ckc, .int)]) (As := [.int (nI j)]) (rest := [.int (sp_M_stateOf (nI j) fr mp mi me mo mt mS)]) (c_M_stateOf l dC dI hk kr kc ckr ckc (nI j) kfr kfc kp kb ki ke kl ko kt kS) [2, 3] rfl (ci := 5) rfl 0 rfl (zk_cwV 1 X.1.2.2.2.2 (zk_goodT tw_331) rfl rfl rfl (zk_m tw_328) (zk_m tw_329) (zk_m tw_330) (zk_m tw_8) rfl (by decide +kernel) ⟨Nat.le_of_ble_eq_true rfl, Nat.le_of_ble_eq_true rfl⟩) rfl rfl (Nat.le_of_ble_eq_true rfl) ⟨Nat.zero_le _, Nat.zero_le _⟩ d_M_looksLike_15) ?_
        rintro r15 ⟨⟩ w15
        refine zk_ws (ws' := [(hm, .inr (5, [.ref mr, .ref mc, .int mp, .int mb, .int mi, .int me, .int ml, .int mo, .int mt, .int (nI mS)])), (mr, .inl (cmr, 4, .inl fr)), (mc, .inl (cmc, 32, .inl fc)), (hk, .inr (5, [.ref kr, .ref kc, .int kp, .int kb, .int ki, .int ke, .int kl, .int ko, .int kt, .int (nI kS)])), (kr, .inl (ckr, 4, .inl kfr)), (kc, .inl (ckc, 32, .inl kfc))]) rfl ?_
        subst w15
        refine zk_icmp_eq (pc := 18) X (tgt := 23) d_M_looksLike_18 (by decide) (fun h18 => ?_) (fun h18 => ?_)
        · have hq := hq.trans (if_pos h18)
          refine zk_iinc (pc := 23) X (k0 := 2) (v := nI (j + 1)) (lv' := [(2, .int (nI (j + 1))), (0, .ref hm), (1, .ref hk)]) d_M_looksLike_23 rfl (nI_add (j) 1) (by decide) rfl ?_
          refine zk_goto (pc := 26) X (tgt := 2) d_M_looksLike_26 (by decide) ?_
          refine zk_lv (lv' := [(0, .ref hm), (1, .ref hk), (2, .int (nI (j + 1)))]) [1, 2, 0] rfl ?_
          exact ih (j + 1) (by omega) (by omega) hq
        · have hq := hq.trans (if_neg h18)
          refine zk_iconst (pc := 21) X (v := 0) d_M_looksLike_21 rfl ?_
          exact zk_zret (pc := 22) X hQ hRt hLk rfl () hq.symm [0, 1, 2, 3, 4, 5] rfl (by decide) d_M_looksLike_22
  have hq := sp_M_looksLike.eq_1 fr fc mp mi me mo mt mS kfr kfc kp ki ke ko kt kS
  refine zk_lv (lv' := [(0, .ref hm), (1, .ref hk)]) [0, 1] rfl ?_
  refine zk_iconst (pc := 0) X (v := 0) d_M_looksLike_0 rfl ?_
  refine zk_istore_n (pc := 1) X (i := 2) (lv' := [(2, .int 0), (0, .ref hm), (1, .ref hk)]) d_M_looksLike_1 rfl (by decide) rfl ?_
  refine zk_lv (lv' := [(0, .ref hm), (1, .ref hk), (2, .int 0)]) [1, 2, 0] rfl ?_
  exact cut2 (11) 0 (by omega) (by omega) hq
def sp_A_fill_5 (v : Int32) (n : Nat) : Nat → Nat → (Nat → Int32) → (Nat → Int32)
  | 0, j, f1 => f1
  | fuel + 1, j, f1 =>
    if n ≤ j then
      f1
    else
      sp_A_fill_5 v n fuel (j + 1) (upd f1 j v)
def sp_A_fill (v : Int32) (f : Nat → Int32) (n : Nat) : (Nat → Int32) :=
  sp_A_fill_5 v n (n + 1) 0 f
abbrev rm_A_fill : Room := { frames := 0, cells := 0, slots := 0, locals := 0 }
set_option maxHeartbeats 4000000 in
set_option maxRecDepth 100000 in
theorem c_A_fill (l : Launch) (dC : Nat → ClassId) (dI : Nat → Nat → Nat) (q : Nat) (cQ : ClassId) (v : Int32) (f : Nat → Int32) (n : Nat) (hn : n ≤ 1000) : zk_Cv l y_A_fill w_A_fill rm_A_fill (dC, dI) vwCl [.ref q, .int v] [(q, .inl (cQ, n, .inl f))] [(cQ, .int)] (fun (u : (Nat → Int32)) => u = sp_A_fill v f n) (fun u => [(q, .inl (cQ, n, .inl u))]) := by
  refine zk_enterv (cc := b_A_fill) (maxL := 4) (ret := none) (by decide) rfl (Nat.le_of_ble_eq_true rfl) ?_
  intro p e s m args below meth c A Q hQ X hRt hLk
  have cut5 : ∀ (fuel : Nat) (j : Nat) (f1 : Nat → Int32), j ≤ n → n - j < fuel → sp_A_fill v f n = sp_A_fill_5 v n fuel j f1 → zk_Z p l e rm_A_fill s m args below meth c Q A (dC, dI) vwCl 4 0 0 [(q, .inl (cQ, n, .inl f1))] [(0, .ref q), (1, .int v), (2, .int (nI j)), (3, .int (nI n))] [] 5 := by
    intro fuel
    induction fuel with
    | zero => intro j f1 hjj hMs; exact absurd hMs (Nat.not_lt_zero _)
    | succ fuel ih =>
      intro j f1 hjj hMs hq
      rw [sp_A_fill_5] at hq
      refine zk_iload_n (pc := 5) X d_A_fill_5 rfl (q := 2) rfl ?_
      refine zk_iload_n (pc := 6) X d_A_fill_6 rfl (q := 3) rfl ?_
      refine zk_icmpN_ge (pc := 7) X (tgt := 20) (j) (n) rfl rfl (by omega) (by omega) d_A_fill_7 (by decide) (fun h7 => ?_) (fun h7 => ?_)
      · have hq := hq.trans (if_pos h7)
        exact zk_vret (pc := 20) X hQ hRt hLk f1 hq.symm [0] rfl (by decide) d_A_fill_20
      · have hq := hq.trans (if_neg h7)
        refine zk_aload_n (pc := 10) X d_A_fill_10 rfl (q := 0) rfl ?_
        refine zk_iload_n (pc := 11) X d_A_fill_11 rfl (q := 2) rfl ?_
        refine zk_iload_n (pc := 12) X d_A_fill_12 rfl (q := 1) rfl ?_
        refine zk_iast (pc := 13) X 0 0 (ws' := [(q, .inl (cQ, n, .inl (upd f1 j v)))]) (j) rfl rfl rfl (by omega) (by omega) d_A_fill_13 rfl ?_
        refine zk_iinc (pc := 14) X (k0 := 2) (v := nI (j + 1)) (lv' := [(2, .int (nI (j + 1))), (0, .ref q), (1, .int v), (3, .int (nI n))]) d_A_fill_14 rfl (nI_add (j) 1) (by decide) rfl ?_
        refine zk_goto (pc := 17) X (tgt := 5) d_A_fill_17 (by decide) ?_
        refine zk_lv (lv' := [(0, .ref q), (1, .int v), (2, .int (nI (j + 1))), (3, .int (nI n))]) [1, 2, 0, 3] rfl ?_
        exact ih (j + 1) (upd f1 j v) (by omega) (by omega) hq
  have hq := sp_A_fill.eq_1 v f n
  refine zk_lv (lv' := [(0, .ref q), (1, .int v)]) [0, 1] rfl ?_
  refine zk_iconst (pc := 0) X (v := 0) d_A_fill_0 rfl ?_
  refine zk_istore_n (pc := 1) X (i := 2) (lv' := [(2, .int 0), (0, .ref q), (1, .int v)]) d_A_fill_1 rfl (by decide) rfl ?_
  refine zk_aload_n (pc := 2) X d_A_fill_2 rfl (q := 1) rfl ?_
  refine zk_alen (pc := 3) X 0 0 (v := nI n) rfl rfl rfl d_A_fill_3 ?_
  refine zk_istore_n (pc := 4) X (i := 3) (lv' := [(3, .int (nI n)), (2, .int 0), (0, .ref q), (1, .int v)]) d_A_fill_4 rfl (by decide) rfl ?_
  refine zk_lv (lv' := [(0, .ref q), (1, .int v), (2, .int 0), (3, .int (nI n))]) [2, 3, 1, 0] rfl ?_
  exact cut5 (n + 1) 0 f (by omega) (by omega) hq
def sp_M_restart (seed : Int32) (fr : Nat → Int32) (fc : Nat → Int32) : (Nat → Int32) × (Nat → Int32) × Int32 × Int32 × Int32 × Int32 × Int32 × Int32 × Int32 × Nat :=
  (fun f_5 =>
    (fun f_13 =>
      (f_5, f_13, 0, 0, 0, 0, seed, 0, 0, 0)) (sp_A_fill 0 fc 32)) (sp_A_fill 0 fr 4)
abbrev rm_M_restart : Room := { frames := 1, cells := 0, slots := 0, locals := 23 }
set_option maxHeartbeats 4000000 in
set_option maxRecDepth 100000 in
theorem c_M_restart (l : Launch) (dC : Nat → ClassId) (dI : Nat → Nat → Nat) (hm mr mc : Nat) (cmr cmc : ClassId) (seed : Int32) (fr : Nat → Int32) (fc : Nat → Int32) (mp : Int32) (mb : Int32) (mi : Int32) (me : Int32) (ml : Int32) (mo : Int32) (mt : Int32) (mS : Nat) : zk_Cv l y_M_restart w_M_restart rm_M_restart (dC, dI) vwCl [.ref hm, .int seed] [(hm, .inr (5, [.ref mr, .ref mc, .int mp, .int mb, .int mi, .int me, .int ml, .int mo, .int mt, .int (nI mS)])), (mr, .inl (cmr, 4, .inl fr)), (mc, .inl (cmc, 32, .inl fc))] [(cmr, .int), (cmc, .int)] (fun (u : (Nat → Int32) × (Nat → Int32) × Int32 × Int32 × Int32 × Int32 × Int32 × Int32 × Int32 × Nat) => u = sp_M_restart seed fr fc) (fun u => [(hm, .inr (5, [.ref mr, .ref mc, .int u.2.2.1, .int u.2.2.2.1, .int u.2.2.2.2.1, .int u.2.2.2.2.2.1, .int u.2.2.2.2.2.2.1, .int u.2.2.2.2.2.2.2.1, .int u.2.2.2.2.2.2.2.2.1, .int (nI u.2.2.2.2.2.2.2.2.2)])), (mr, .inl (cmr, 4, .inl u.1)), (mc, .inl (cmc, 32, .inl u.2.1))]) := by
  refine zk_enterv (cc := b_M_restart) (maxL := 2) (ret := none) (by decide) rfl (Nat.le_of_ble_eq_true rfl) ?_
  intro p e s m args below meth c A Q hQ X hRt hLk
  have hq := sp_M_restart.eq_1 seed fr fc
  refine zk_lv (lv' := [(0, .ref hm), (1, .int seed)]) [0, 1] rfl ?_
  refine zk_aload_n (pc := 0) X d_M_restart_0 rfl (q := 0) rfl ?_
  refine zk_get (pc := 1) X (ci := 5) (v := .ref mr) in_M 0 rfl rfl 0 (by decide) (zk_m tw_120) rfl d_M_restart_1 ?_
  refine zk_iconst (pc := 4) X (v := 0) d_M_restart_4 rfl ?_
  refine zk_callv (pc := 5) X (wc := [(mr, .inl (cmr, 4, .inl fr))]) (wr := [(hm, .inr (5, [.ref mr, .ref mc, .int mp, .int mb, .int mi, .int me, .int ml, .int mo, .int mt, .int (nI mS)])), (mc, .inl (cmc, 32, .inl fc))]) [1] [0, 2] rfl rfl (by decide) (by decide) (by decide) (zk_runS X (tysC := [(cmr, .int)]) (As := [.ref mr, .int 0]) (rest := []) (c_A_fill l dC dI mr cmr 0 fr 4 (by omega)) [0] rfl (zk_cwS 2 X.1.2.2.2.2 (zk_goodT tw_178) rfl rfl rfl (zk_m tw_176) (zk_m tw_177) (zk_m tw_10) (by decide +kernel) ⟨Nat.le_of_ble_eq_true rfl, Nat.le_of_ble_eq_true rfl⟩) rfl rfl (Nat.le_of_ble_eq_true rfl) ⟨Nat.zero_le _, Nat.zero_le _⟩ d_M_restart_5) ?_
  rintro f_5 w5
  refine zk_ws (ws' := [(hm, .inr (5, [.ref mr, .ref mc, .int mp, .int mb, .int mi, .int me, .int ml, .int mo, .int mt, .int (nI mS)])), (mc, .inl (cmc, 32, .inl fc)), (mr, .inl (cmr, 4, .inl f_5))]) rfl ?_
  try dsimp only at w5
  rw [← w5] at hq
  try dsimp only at hq
  refine zk_aload_n (pc := 8) X d_M_restart_8 rfl (q := 0) rfl ?_
  refine zk_get (pc := 9) X (ci := 5) (v := .ref mc) in_M 0 rfl rfl 1 (by decide) (zk_m tw_121) rfl d_M_restart_9 ?_
  refine zk_iconst (pc := 12) X (v := 0) d_M_restart_12 rfl ?_
  refine zk_callv (pc := 13) X (wc := [(mc, .inl (cmc, 32, .inl fc))]) (wr := [(hm, .inr (5, [.ref mr, .ref mc, .int mp, .int mb, .int mi, .int me, .int ml, .int mo, .int mt, .int (nI mS)])), (mr, .inl (cmr, 4, .inl f_5))]) [1] [0, 2] rfl rfl (by decide) (by decide) (by decide) (zk_runS X (tysC := [(cmc, .int)]) (As := [.ref mc, .int 0]) (rest := []) (c_A_fill l dC dI mc cmc 0 fc 32 (by omega)) [1] rfl (zk_cwS 2 X.1.2.2.2.2 (zk_goodT tw_178) rfl rfl rfl (zk_m tw_176) (zk_m tw_177) (zk_m tw_10) (by decide +kernel) ⟨Nat.le_of_ble_eq_true rfl, Nat.le_of_ble_eq_true rfl⟩) rfl rfl (Nat.le_of_ble_eq_true rfl) ⟨Nat.zero_le _, Nat.zero_le _⟩ d_M_restart_13) ?_
  rintro f_13 w13
  refine zk_ws (ws' := [(hm, .inr (5, [.ref mr, .ref mc, .int mp, .int mb, .int mi, .int me, .int ml, .int mo, .int mt, .int (nI mS)])), (mr, .inl (cmr, 4, .inl f_5)), (mc, .inl (cmc, 32, .inl f_13))]) rfl ?_
  try dsimp only at w13
  rw [← w13] at hq
  try dsimp only at hq
  refine zk_aload_n (pc := 16) X d_M_restart_16 rfl (q := 0) rfl ?_
  refine zk_iconst (pc := 17) X (v := 0) d_M_restart_17 rfl ?_
  refine zk_put (pc := 18) X (ty := .int) (v := .int 0) (ws' := [(hm, .inr (5, [.ref mr, .ref mc, .int 0, .int mb, .int mi, .int me, .int ml, .int mo, .int mt, .int (nI mS)])), (mr, .inl (cmr, 4, .inl f_5)), (mc, .inl (cmc, 32, .inl f_13))]) in_M tok_M nok_M 0 rfl rfl 2 (by decide) (zk_m tw_122) rfl rfl rfl rfl (Nat.le_of_ble_eq_true rfl) d_M_restart_18 rfl ?_
  refine zk_aload_n (pc := 21) X d_M_restart_21 rfl (q := 0) rfl ?_
  refine zk_iconst (pc := 22) X (v := 0) d_M_restart_22 rfl ?_
  refine zk_put (pc := 23) X (ty := .int) (v := .int 0) (ws' := [(hm, .inr (5, [.ref mr, .ref mc, .int 0, .int 0, .int mi, .int me, .int ml, .int mo, .int mt, .int (nI mS)])), (mr, .inl (cmr, 4, .inl f_5)), (mc, .inl (cmc, 32, .inl f_13))]) in_M tok_M nok_M 0 rfl rfl 3 (by decide) (zk_m tw_123) rfl rfl rfl rfl (Nat.le_of_ble_eq_true rfl) d_M_restart_23 rfl ?_
  refine zk_aload_n (pc := 26) X d_M_restart_26 rfl (q := 0) rfl ?_
  refine zk_iconst (pc := 27) X (v := 0) d_M_restart_27 rfl ?_
  refine zk_put (pc := 28) X (ty := .boolean) (v := .int 0) (ws' := [(hm, .inr (5, [.ref mr, .ref mc, .int 0, .int 0, .int 0, .int me, .int ml, .int mo, .int mt, .int (nI mS)])), (mr, .inl (cmr, 4, .inl f_5)), (mc, .inl (cmc, 32, .inl f_13))]) in_M tok_M nok_M 0 rfl rfl 4 (by decide) (zk_m tw_124) rfl rfl rfl rfl (Nat.le_of_ble_eq_true rfl) d_M_restart_28 rfl ?_
  refine zk_aload_n (pc := 31) X d_M_restart_31 rfl (q := 0) rfl ?_
  refine zk_iconst (pc := 32) X (v := 0) d_M_restart_32 rfl ?_
  refine zk_put (pc := 33) X (ty := .boolean) (v := .int 0) (ws' := [(hm, .inr (5, [.ref mr, .ref mc, .int 0, .int 0, .int 0, .int 0, .int ml, .int mo, .int mt, .int (nI mS)])), (mr, .inl (cmr, 4, .inl f_5)), (mc, .inl (cmc, 32, .inl f_13))]) in_M tok_M nok_M 0 rfl rfl 5 (by decide) (zk_m tw_125) rfl rfl rfl rfl (Nat.le_of_ble_eq_true rfl) d_M_restart_33 rfl ?_
  refine zk_aload_n (pc := 36) X d_M_restart_36 rfl (q := 0) rfl ?_
  refine zk_iload_n (pc := 37) X d_M_restart_37 rfl (q := 1) rfl ?_
  refine zk_put (pc := 38) X (ty := .int) (v := .int seed) (ws' := [(hm, .inr (5, [.ref mr, .ref mc, .int 0, .int 0, .int 0, .int 0, .int seed, .int mo, .int mt, .int (nI mS)])), (mr, .inl (cmr, 4, .inl f_5)), (mc, .inl (cmc, 32, .inl f_13))]) in_M tok_M nok_M 0 rfl rfl 6 (by decide) (zk_m tw_126) rfl rfl rfl rfl (Nat.le_of_ble_eq_true rfl) d_M_restart_38 rfl ?_
  refine zk_aload_n (pc := 41) X d_M_restart_41 rfl (q := 0) rfl ?_
  refine zk_iconst (pc := 42) X (v := 0) d_M_restart_42 rfl ?_
  refine zk_put (pc := 43) X (ty := .int) (v := .int 0) (ws' := [(hm, .inr (5, [.ref mr, .ref mc, .int 0, .int 0, .int 0, .int 0, .int seed, .int 0, .int mt, .int (nI mS)])), (mr, .inl (cmr, 4, .inl f_5)), (mc, .inl (cmc, 32, .inl f_13))]) in_M tok_M nok_M 0 rfl rfl 7 (by decide) (zk_m tw_127) rfl rfl rfl rfl (Nat.le_of_ble_eq_true rfl) d_M_restart_43 rfl ?_
  refine zk_aload_n (pc := 46) X d_M_restart_46 rfl (q := 0) rfl ?_
  refine zk_iconst (pc := 47) X (v := 0) d_M_restart_47 rfl ?_
  refine zk_put (pc := 48) X (ty := .int) (v := .int 0) (ws' := [(hm, .inr (5, [.ref mr, .ref mc, .int 0, .int 0, .int 0, .int 0, .int seed, .int 0, .int 0, .int (nI mS)])), (mr, .inl (cmr, 4, .inl f_5)), (mc, .inl (cmc, 32, .inl f_13))]) in_M tok_M nok_M 0 rfl rfl 8 (by decide) (zk_m tw_128) rfl rfl rfl rfl (Nat.le_of_ble_eq_true rfl) d_M_restart_48 rfl ?_
  refine zk_aload_n (pc := 51) X d_M_restart_51 rfl (q := 0) rfl ?_
  refine zk_iconst (pc := 52) X (v := 0) d_M_restart_52 rfl ?_
  refine zk_put (pc := 53) X (ty := .int) (v := .int 0) (ws' := [(hm, .inr (5, [.ref mr, .ref mc, .int 0, .int 0, .int 0, .int 0, .int seed, .int 0, .int 0, .int 0])), (mr, .inl (cmr, 4, .inl f_5)), (mc, .inl (cmc, 32, .inl f_13))]) in_M tok_M nok_M 0 rfl rfl 9 (by decide) (zk_m tw_129) rfl rfl rfl rfl (Nat.le_of_ble_eq_true rfl) d_M_restart_53 rfl ?_
  exact zk_vret (pc := 56) X hQ hRt hLk (f_5, f_13, 0, 0, 0, 0, seed, 0, 0, 0) hq.symm [0, 1, 2] rfl (by decide) d_M_restart_56
end
section
def sp_X_add (o : Int32) (a : Int32) (b : Int32) (xb : Int32) (fo : Nat → Int32) (ff : Nat → Int32) (fs : Nat → Int32) (pn : Nat) : Int32 × (Nat → Int32) × (Nat → Int32) × (Nat → Int32) × Nat :=
  if xb = 0 then
    if (sp_X_isInstruction o b) = 0 then
      ((-1), fo, ff, fs, pn)
    else
      (match sp_P_append o a b fo ff fs pn with
      | (r24, fo_24, ff_24, fs_24, pn_24) =>
        (r24, fo_24, ff_24, fs_24, pn_24))
  else
    ((-1), fo, ff, fs, pn)
abbrev rm_X_add : Room := { frames := 1, cells := 0, slots := 0, locals := 23 }
set_option maxHeartbeats 4000000 in
set_option maxRecDepth 100000 in
theorem c_X_add (l : Launch) (dC : Nat → ClassId) (dI : Nat → Nat → Nat) (hx hp hj hr ht hm hk po pf ps : Nat) (cPo cPf cPs : ClassId) (o : Int32) (a : Int32) (b : Int32) (xs : Int32) (xb : Int32) (fo : Nat → Int32) (ff : Nat → Int32) (fs : Nat → Int32) (pn : Nat) (hpn : pn ≤ 24) : zk_Ci l y_X_add w_X_add rm_X_add (dC, dI) vwCl [.ref hx, .int o, .int a, .int b] [(hx, .inr (6, [.int xs, .ref hp, .ref hj, .ref hr, .ref ht, .ref hm, .ref hk, .int xb])), (hp, .inr (0, [.ref po, .ref pf, .ref ps, .int (nI pn)])), (po, .inl (cPo, 24, .inl fo)), (pf, .inl (cPf, 24, .inl ff)), (ps, .inl (cPs, 24, .inl fs))] [(cPo, .int), (cPf, .int), (cPs, .int)] (fun (r : Int32) (u : (Nat → Int32) × (Nat → Int32) × (Nat → Int32) × Nat) => (r, u) = sp_X_add o a b xb fo ff fs pn ∧ (u.2.2.2 ≤ 24)) (fun u => [(hx, .inr (6, [.int xs, .ref hp, .ref hj, .ref hr, .ref ht, .ref hm, .ref hk, .int xb])), (hp, .inr (0, [.ref po, .ref pf, .ref ps, .int (nI u.2.2.2)])), (po, .inl (cPo, 24, .inl u.1)), (pf, .inl (cPf, 24, .inl u.2.1)), (ps, .inl (cPs, 24, .inl u.2.2.1))]) := by
  refine zk_enteri (cc := b_X_add) (maxL := 4) (ret := some .int) (by decide) rfl (Nat.le_of_ble_eq_true rfl) ?_
  intro p e s m args below meth c A Q hQ X hRt hLk
  have hq := sp_X_add.eq_1 o a b xb fo ff fs pn
  refine zk_lv (lv' := [(0, .ref hx), (1, .int o), (2, .int a), (3, .int b)]) [0, 1, 2, 3] rfl ?_
  refine zk_aload_n (pc := 0) X d_X_add_0 rfl (q := 0) rfl ?_
  refine zk_get (pc := 1) X (ci := 6) (v := .int xb) in_X 0 rfl rfl 7 (by decide) (zk_m tw_148) rfl d_X_add_1 ?_
  refine zk_if_ne (pc := 4) X (tgt := 15) d_X_add_4 (by decide) (fun h4 => ?_) (fun h4 => ?_)
  · have hq := hq.trans (if_neg h4)
    refine zk_iconst (pc := 15) X (v := (-1)) d_X_add_15 rfl ?_
    exact zk_iret (pc := 16) X hQ hRt hLk (fo, ff, fs, pn) ⟨hq.symm, (show pn ≤ 24 by omega)⟩ [0, 1, 2, 3, 4] rfl (by decide) d_X_add_16
  · have hq := hq.trans (if_pos h4)
    refine zk_iload_n (pc := 7) X d_X_add_7 rfl (q := 1) rfl ?_
    refine zk_iload_n (pc := 8) X d_X_add_8 rfl (q := 3) rfl ?_
    refine zk_calli (pc := 9) X (wc := []) (wr := [(hx, .inr (6, [.int xs, .ref hp, .ref hj, .ref hr, .ref ht, .ref hm, .ref hk, .int xb])), (hp, .inr (0, [.ref po, .ref pf, .ref ps, .int (nI pn)])), (po, .inl (cPo, 24, .inl fo)), (pf, .inl (cPf, 24, .inl ff)), (ps, .inl (cPs, 24, .inl fs))]) [] [0, 1, 2, 3, 4] rfl rfl (by decide) (by decide) (by decide) (zk_runS X (tysC := []) (As := [.int o, .int b]) (rest := []) (c_X_isInstruction l dC dI o b) [] rfl (zk_cwS 2 X.1.2.2.2.2 (zk_goodT tw_163) rfl rfl rfl (zk_m tw_161) (zk_m tw_162) (zk_m tw_1) (by decide +kernel) ⟨Nat.le_of_ble_eq_true rfl, Nat.le_of_ble_eq_true rfl⟩) rfl rfl (Nat.le_of_ble_eq_true rfl) ⟨Nat.zero_le _, Nat.zero_le _⟩ d_X_add_9) ?_
    rintro r9 ⟨⟩ w9
    refine zk_ws (ws' := [(hx, .inr (6, [.int xs, .ref hp, .ref hj, .ref hr, .ref ht, .ref hm, .ref hk, .int xb])), (hp, .inr (0, [.ref po, .ref pf, .ref ps, .int (nI pn)])), (po, .inl (cPo, 24, .inl fo)), (pf, .inl (cPf, 24, .inl ff)), (ps, .inl (cPs, 24, .inl fs))]) rfl ?_
    subst w9
    refine zk_if_ne (pc := 12) X (tgt := 17) d_X_add_12 (by decide) (fun h12 => ?_) (fun h12 => ?_)
    · have hq := hq.trans (if_neg h12)
      refine zk_aload_n (pc := 17) X d_X_add_17 rfl (q := 0) rfl ?_
      refine zk_get (pc := 18) X (ci := 6) (v := .ref hp) in_X 0 rfl rfl 1 (by decide) (zk_m tw_142) rfl d_X_add_18 ?_
      refine zk_iload_n (pc := 21) X d_X_add_21 rfl (q := 1) rfl ?_
      refine zk_iload_n (pc := 22) X d_X_add_22 rfl (q := 2) rfl ?_
      refine zk_iload_n (pc := 23) X d_X_add_23 rfl (q := 3) rfl ?_
      refine zk_calli (pc := 24) X (wc := [(hp, .inr (0, [.ref po, .ref pf, .ref ps, .int (nI pn)])), (po, .inl (cPo, 24, .inl fo)), (pf, .inl (cPf, 24, .inl ff)), (ps, .inl (cPs, 24, .inl fs))]) (wr := [(hx, .inr (6, [.int xs, .ref hp, .ref hj, .ref hr, .ref ht, .ref hm, .ref hk, .int xb]))]) [1, 2, 3, 4] [0] rfl rfl (by decide) (by decide) (by decide) (zk_runV X (C := R_P) (tysC := [(cPo, .int), (cPf, .int), (cPs, .int)]) (As := [.int o, .int a, .int b]) (rest := []) (c_P_append l dC dI hp po pf ps cPo cPf cPs o a b fo ff fs pn (by omega)) [0, 1, 2] rfl (ci := 0) rfl 1 rfl (zk_cwV 3 X.1.2.2.2.2 (zk_goodT tw_167) rfl rfl rfl (zk_m tw_164) (zk_m tw_165) (zk_m tw_166) (zk_m tw_2) rfl (by decide +kernel) ⟨Nat.le_of_ble_eq_true rfl, Nat.le_of_ble_eq_true rfl⟩) rfl rfl (Nat.le_of_ble_eq_true rfl) ⟨Nat.zero_le _, Nat.zero_le _⟩ d_X_add_24) ?_
      rintro r24 ⟨fo_24, ff_24, fs_24, pn_24⟩ ⟨w24, f24_0⟩
      have f24_0 : pn_24 ≤ 24 := f24_0
      refine zk_ws (ws' := [(hx, .inr (6, [.int xs, .ref hp, .ref hj, .ref hr, .ref ht, .ref hm, .ref hk, .int xb])), (hp, .inr (0, [.ref po, .ref pf, .ref ps, .int (nI pn_24)])), (po, .inl (cPo, 24, .inl fo_24)), (pf, .inl (cPf, 24, .inl ff_24)), (ps, .inl (cPs, 24, .inl fs_24))]) rfl ?_
      try dsimp only at w24
      rw [← w24] at hq
      try dsimp only at hq
      exact zk_iret (pc := 27) X hQ hRt hLk (fo_24, ff_24, fs_24, pn_24) ⟨hq.symm, (show pn_24 ≤ 24 by omega)⟩ [0, 1, 2, 3, 4] rfl (by decide) d_X_add_27
    · have hq := hq.trans (if_pos h12)
      refine zk_iconst (pc := 15) X (v := (-1)) d_X_add_15 rfl ?_
      exact zk_iret (pc := 16) X hQ hRt hLk (fo, ff, fs, pn) ⟨hq.symm, (show pn ≤ 24 by omega)⟩ [0, 1, 2, 3, 4] rfl (by decide) d_X_add_16
def sp_X_input (v : Int32) (fi : Nat → Int32) (rw : Nat) : Int32 × (Nat → Int32) × Nat :=
  (match sp_R_addInput v fi rw with
  | (r5, fi_5, rw_5) =>
    (r5, fi_5, rw_5))
abbrev rm_X_input : Room := { frames := 1, cells := 0, slots := 0, locals := 21 }
set_option maxHeartbeats 4000000 in
set_option maxRecDepth 100000 in
theorem c_X_input (l : Launch) (dC : Nat → ClassId) (dI : Nat → Nat → Nat) (hx hp hj hr ht hm hk ri : Nat) (cR : ClassId) (v : Int32) (xs : Int32) (xb : Int32) (fi : Nat → Int32) (rw : Nat) (rt : Int32) (rq : Int32) (rc : Int32) (hrw : rw ≤ 16) : zk_Ci l y_X_input w_X_input rm_X_input (dC, dI) vwCl [.ref hx, .int v] [(hx, .inr (6, [.int xs, .ref hp, .ref hj, .ref hr, .ref ht, .ref hm, .ref hk, .int xb])), (hr, .inr (2, [.ref hj, .ref ri, .int (nI rw), .int rt, .int rq, .int rc])), (ri, .inl (cR, 16, .inl fi))] [(cR, .int)] (fun (r : Int32) (u : (Nat → Int32) × Nat) => (r, u) = sp_X_input v fi rw ∧ (u.2 ≤ 16)) (fun u => [(hx, .inr (6, [.int xs, .ref hp, .ref hj, .ref hr, .ref ht, .ref hm, .ref hk, .int xb])), (hr, .inr (2, [.ref hj, .ref ri, .int (nI u.2), .int rt, .int rq, .int rc])), (ri, .inl (cR, 16, .inl u.1))]) := by
  refine zk_enteri (cc := b_X_input) (maxL := 2) (ret := some .int) (by decide) rfl (Nat.le_of_ble_eq_true rfl) ?_
  intro p e s m args below meth c A Q hQ X hRt hLk
  have hq := sp_X_input.eq_1 v fi rw
  refine zk_lv (lv' := [(0, .ref hx), (1, .int v)]) [0, 1] rfl ?_
  refine zk_aload_n (pc := 0) X d_X_input_0 rfl (q := 0) rfl ?_
  refine zk_get (pc := 1) X (ci := 6) (v := .ref hr) in_X 0 rfl rfl 3 (by decide) (zk_m tw_144) rfl d_X_input_1 ?_
  refine zk_iload_n (pc := 4) X d_X_input_4 rfl (q := 1) rfl ?_
  refine zk_calli (pc := 5) X (wc := [(hr, .inr (2, [.ref hj, .ref ri, .int (nI rw), .int rt, .int rq, .int rc])), (ri, .inl (cR, 16, .inl fi))]) (wr := [(hx, .inr (6, [.int xs, .ref hp, .ref hj, .ref hr, .ref ht, .ref hm, .ref hk, .int xb]))]) [1, 2] [0] rfl rfl (by decide) (by decide) (by decide) (zk_runV X (C := R_R) (tysC := [(cR, .int)]) (As := [.int v]) (rest := []) (c_R_addInput l dC dI hr hj ri cR v fi rw rt rq rc (by omega)) [0] rfl (ci := 2) rfl 1 rfl (zk_cwV 1 X.1.2.2.2.2 (zk_goodT tw_194) rfl rfl rfl (zk_m tw_191) (zk_m tw_192) (zk_m tw_193) (zk_m tw_5) rfl (by decide +kernel) ⟨Nat.le_of_ble_eq_true rfl, Nat.le_of_ble_eq_true rfl⟩) rfl rfl (Nat.le_of_ble_eq_true rfl) ⟨Nat.zero_le _, Nat.zero_le _⟩ d_X_input_5) ?_
  rintro r5 ⟨fi_5, rw_5⟩ ⟨w5, f5_0⟩
  have f5_0 : rw_5 ≤ 16 := f5_0
  refine zk_ws (ws' := [(hx, .inr (6, [.int xs, .ref hp, .ref hj, .ref hr, .ref ht, .ref hm, .ref hk, .int xb])), (hr, .inr (2, [.ref hj, .ref ri, .int (nI rw_5), .int rt, .int rq, .int rc])), (ri, .inl (cR, 16, .inl fi_5))]) rfl ?_
  try dsimp only at w5
  rw [← w5] at hq
  try dsimp only at hq
  exact zk_iret (pc := 8) X hQ hRt hLk (fi_5, rw_5) ⟨hq.symm, (show rw_5 ≤ 16 by omega)⟩ [0, 1, 2] rfl (by decide) d_X_input_8
def sp_X_request (rq : Int32) : Int32 × Int32 :=
  if rq = 0 then
    (1, 1)
  else
    (0, rq)
abbrev rm_X_request : Room := { frames := 0, cells := 0, slots := 0, locals := 0 }
set_option maxHeartbeats 4000000 in
set_option maxRecDepth 100000 in
theorem c_X_request (l : Launch) (dC : Nat → ClassId) (dI : Nat → Nat → Nat) (hx hp hj hr ht hm hk ri : Nat) (cR : ClassId) (xs : Int32) (xb : Int32) (fi : Nat → Int32) (rw : Nat) (rt : Int32) (rq : Int32) (rc : Int32) : zk_Ci l y_X_request w_X_request rm_X_request (dC, dI) vwCl [.ref hx] [(hx, .inr (6, [.int xs, .ref hp, .ref hj, .ref hr, .ref ht, .ref hm, .ref hk, .int xb])), (hr, .inr (2, [.ref hj, .ref ri, .int (nI rw), .int rt, .int rq, .int rc])), (ri, .inl (cR, 16, .inl fi))] [(cR, .int)] (fun (r : Int32) (u : Int32) => (r, u) = sp_X_request rq) (fun u => [(hx, .inr (6, [.int xs, .ref hp, .ref hj, .ref hr, .ref ht, .ref hm, .ref hk, .int xb])), (hr, .inr (2, [.ref hj, .ref ri, .int (nI rw), .int rt, .int u, .int rc])), (ri, .inl (cR, 16, .inl fi))]) := by
  refine zk_enteri (cc := b_X_request) (maxL := 1) (ret := some .boolean) (by decide) rfl (Nat.le_of_ble_eq_true rfl) ?_
  intro p e s m args below meth c A Q hQ X hRt hLk
  have hq := sp_X_request.eq_1 rq
  refine zk_lv (lv' := [(0, .ref hx)]) [0] rfl ?_
  refine zk_aload_n (pc := 0) X d_X_request_0 rfl (q := 0) rfl ?_
  refine zk_get (pc := 1) X (ci := 6) (v := .ref hr) in_X 0 rfl rfl 3 (by decide) (zk_m tw_144) rfl d_X_request_1 ?_
  refine zk_get (pc := 4) X (ci := 2) (v := .int rq) in_R 1 rfl rfl 4 (by decide) (zk_m tw_71) rfl d_X_request_4 ?_
  refine zk_if_eq (pc := 7) X (tgt := 12) d_X_request_7 (by decide) (fun h7 => ?_) (fun h7 => ?_)
  · have hq := hq.trans (if_pos h7)
    refine zk_aload_n (pc := 12) X d_X_request_12 rfl (q := 0) rfl ?_
    refine zk_get (pc := 13) X (ci := 6) (v := .ref hr) in_X 0 rfl rfl 3 (by decide) (zk_m tw_144) rfl d_X_request_13 ?_
    refine zk_iconst (pc := 16) X (v := 1) d_X_request_16 rfl ?_
    refine zk_put (pc := 17) X (ty := .boolean) (v := .int 1) (ws' := [(hx, .inr (6, [.int xs, .ref hp, .ref hj, .ref hr, .ref ht, .ref hm, .ref hk, .int xb])), (hr, .inr (2, [.ref hj, .ref ri, .int (nI rw), .int rt, .int 1, .int rc])), (ri, .inl (cR, 16, .inl fi))]) in_R tok_R nok_R 1 rfl rfl 4 (by decide) (zk_m tw_71) rfl rfl rfl rfl (Nat.le_of_ble_eq_true rfl) d_X_request_17 rfl ?_
    refine zk_iconst (pc := 20) X (v := 1) d_X_request_20 rfl ?_
    exact zk_zret (pc := 21) X hQ hRt hLk rfl 1 hq.symm [0, 1, 2] rfl (by decide) d_X_request_21
  · have hq := hq.trans (if_neg h7)
    refine zk_iconst (pc := 10) X (v := 0) d_X_request_10 rfl ?_
    exact zk_zret (pc := 11) X hQ hRt hLk rfl rq hq.symm [0, 1, 2] rfl (by decide) d_X_request_11
def sp_X_pass (n : Int32) (rc : Int32) : Int32 × Int32 :=
  if n < 1 then
    (0, rc)
  else
    if n ≤ 1000000 then
      (1, (rc + n))
    else
      (0, rc)
abbrev rm_X_pass : Room := { frames := 0, cells := 0, slots := 0, locals := 0 }
set_option maxHeartbeats 4000000 in
set_option maxRecDepth 100000 in
theorem c_X_pass (l : Launch) (dC : Nat → ClassId) (dI : Nat → Nat → Nat) (hx hp hj hr ht hm hk ri : Nat) (cR : ClassId) (n : Int32) (xs : Int32) (xb : Int32) (fi : Nat → Int32) (rw : Nat) (rt : Int32) (rq : Int32) (rc : Int32) : zk_Ci l y_X_pass w_X_pass rm_X_pass (dC, dI) vwCl [.ref hx, .int n] [(hx, .inr (6, [.int xs, .ref hp, .ref hj, .ref hr, .ref ht, .ref hm, .ref hk, .int xb])), (hr, .inr (2, [.ref hj, .ref ri, .int (nI rw), .int rt, .int rq, .int rc])), (ri, .inl (cR, 16, .inl fi))] [(cR, .int)] (fun (r : Int32) (u : Int32) => (r, u) = sp_X_pass n rc) (fun u => [(hx, .inr (6, [.int xs, .ref hp, .ref hj, .ref hr, .ref ht, .ref hm, .ref hk, .int xb])), (hr, .inr (2, [.ref hj, .ref ri, .int (nI rw), .int rt, .int rq, .int u])), (ri, .inl (cR, 16, .inl fi))]) := by
  refine zk_enteri (cc := b_X_pass) (maxL := 2) (ret := some .boolean) (by decide) rfl (Nat.le_of_ble_eq_true rfl) ?_
  intro p e s m args below meth c A Q hQ X hRt hLk
  have hq := sp_X_pass.eq_1 n rc
  refine zk_lv (lv' := [(0, .ref hx), (1, .int n)]) [0, 1] rfl ?_
  refine zk_iload_n (pc := 0) X d_X_pass_0 rfl (q := 1) rfl ?_
  refine zk_iconst (pc := 1) X (v := 1) d_X_pass_1 rfl ?_
  refine zk_icmp_lt (pc := 2) X (tgt := 11) d_X_pass_2 (by decide) (fun h2 => ?_) (fun h2 => ?_)
  · have hq := hq.trans (if_pos h2)
    refine zk_iconst (pc := 11) X (v := 0) d_X_pass_11 rfl ?_
    exact zk_zret (pc := 12) X hQ hRt hLk rfl rc hq.symm [0, 1, 2] rfl (by decide) d_X_pass_12
  · have hq := hq.trans (if_neg h2)
    refine zk_iload_n (pc := 5) X d_X_pass_5 rfl (q := 1) rfl ?_
    refine zk_ldc (pc := 6) X (v := 1000000) d_X_pass_6 (zk_m tw_203) ?_
    refine zk_icmp_le (pc := 8) X (tgt := 13) d_X_pass_8 (by decide) (fun h8 => ?_) (fun h8 => ?_)
    · have hq := hq.trans (if_pos h8)
      refine zk_aload_n (pc := 13) X d_X_pass_13 rfl (q := 0) rfl ?_
      refine zk_get (pc := 14) X (ci := 6) (v := .ref hr) in_X 0 rfl rfl 3 (by decide) (zk_m tw_144) rfl d_X_pass_14 ?_
      refine zk_dup (pc := 17) X d_X_pass_17 rfl ?_
      refine zk_get (pc := 18) X (ci := 2) (v := .int rc) in_R 1 rfl rfl 5 (by decide) (zk_m tw_73) rfl d_X_pass_18 ?_
      refine zk_iload_n (pc := 21) X d_X_pass_21 rfl (q := 1) rfl ?_
      refine zk_iadd (pc := 22) X (v := (rc + n)) d_X_pass_22 rfl ?_
      refine zk_put (pc := 23) X (ty := .int) (v := .int (rc + n)) (ws' := [(hx, .inr (6, [.int xs, .ref hp, .ref hj, .ref hr, .ref ht, .ref hm, .ref hk, .int xb])), (hr, .inr (2, [.ref hj, .ref ri, .int (nI rw), .int rt, .int rq, .int (rc + n)])), (ri, .inl (cR, 16, .inl fi))]) in_R tok_R nok_R 1 rfl rfl 5 (by decide) (zk_m tw_73) rfl rfl rfl rfl (Nat.le_of_ble_eq_true rfl) d_X_pass_23 rfl ?_
      refine zk_iconst (pc := 26) X (v := 1) d_X_pass_26 rfl ?_
      exact zk_zret (pc := 27) X hQ hRt hLk rfl (rc + n) hq.symm [0, 1, 2] rfl (by decide) d_X_pass_27
    · have hq := hq.trans (if_neg h8)
      refine zk_iconst (pc := 11) X (v := 0) d_X_pass_11 rfl ?_
      exact zk_zret (pc := 12) X hQ hRt hLk rfl rc hq.symm [0, 1, 2] rfl (by decide) d_X_pass_12
def sp_X_log (jn : Nat) : Int32 :=
  nI jn
abbrev rm_X_log : Room := { frames := 0, cells := 0, slots := 0, locals := 0 }
set_option maxHeartbeats 4000000 in
set_option maxRecDepth 100000 in
theorem c_X_log (l : Launch) (dC : Nat → ClassId) (dI : Nat → Nat → Nat) (hx hp hj hr ht hm hk jb : Nat) (cJ : ClassId) (xs : Int32) (xb : Int32) (fb : Nat → Int32) (jn : Nat) (jm : Int32) (jS : Int32) (jl : Int32) : zk_Ci l y_X_log w_X_log rm_X_log (dC, dI) vwCl [.ref hx] [(hx, .inr (6, [.int xs, .ref hp, .ref hj, .ref hr, .ref ht, .ref hm, .ref hk, .int xb])), (hj, .inr (1, [.ref jb, .int (nI jn), .int jm, .int jS, .int jl])), (jb, .inl (cJ, 300, .inl fb))] [(cJ, .int)] (fun (r : Int32) (u : Unit) => r = sp_X_log jn) (fun _ => [(hx, .inr (6, [.int xs, .ref hp, .ref hj, .ref hr, .ref ht, .ref hm, .ref hk, .int xb])), (hj, .inr (1, [.ref jb, .int (nI jn), .int jm, .int jS, .int jl])), (jb, .inl (cJ, 300, .inl fb))]) := by
  refine zk_enteri (cc := b_X_log) (maxL := 1) (ret := some .int) (by decide) rfl (Nat.le_of_ble_eq_true rfl) ?_
  intro p e s m args below meth c A Q hQ X hRt hLk
  have hq := sp_X_log.eq_1 jn
  refine zk_lv (lv' := [(0, .ref hx)]) [0] rfl ?_
  refine zk_aload_n (pc := 0) X d_X_log_0 rfl (q := 0) rfl ?_
  refine zk_get (pc := 1) X (ci := 6) (v := .ref hj) in_X 0 rfl rfl 2 (by decide) (zk_m tw_143) rfl d_X_log_1 ?_
  refine zk_get (pc := 4) X (ci := 1) (v := .int (nI jn)) in_J 1 rfl rfl 1 (by decide) (zk_m tw_47) rfl d_X_log_4 ?_
  exact zk_iret (pc := 7) X hQ hRt hLk () hq.symm [0, 1, 2] rfl (by decide) d_X_log_7
def sp_X_entries (jm : Int32) : Int32 :=
  jm
abbrev rm_X_entries : Room := { frames := 0, cells := 0, slots := 0, locals := 0 }
set_option maxHeartbeats 4000000 in
set_option maxRecDepth 100000 in
theorem c_X_entries (l : Launch) (dC : Nat → ClassId) (dI : Nat → Nat → Nat) (hx hp hj hr ht hm hk jb : Nat) (cJ : ClassId) (xs : Int32) (xb : Int32) (fb : Nat → Int32) (jn : Nat) (jm : Int32) (jS : Int32) (jl : Int32) : zk_Ci l y_X_entries w_X_entries rm_X_entries (dC, dI) vwCl [.ref hx] [(hx, .inr (6, [.int xs, .ref hp, .ref hj, .ref hr, .ref ht, .ref hm, .ref hk, .int xb])), (hj, .inr (1, [.ref jb, .int (nI jn), .int jm, .int jS, .int jl])), (jb, .inl (cJ, 300, .inl fb))] [(cJ, .int)] (fun (r : Int32) (u : Unit) => r = sp_X_entries jm) (fun _ => [(hx, .inr (6, [.int xs, .ref hp, .ref hj, .ref hr, .ref ht, .ref hm, .ref hk, .int xb])), (hj, .inr (1, [.ref jb, .int (nI jn), .int jm, .int jS, .int jl])), (jb, .inl (cJ, 300, .inl fb))]) := by
  refine zk_enteri (cc := b_X_entries) (maxL := 1) (ret := some .int) (by decide) rfl (Nat.le_of_ble_eq_true rfl) ?_
  intro p e s m args below meth c A Q hQ X hRt hLk
  have hq := sp_X_entries.eq_1 jm
  refine zk_lv (lv' := [(0, .ref hx)]) [0] rfl ?_
  refine zk_aload_n (pc := 0) X d_X_entries_0 rfl (q := 0) rfl ?_
  refine zk_get (pc := 1) X (ci := 6) (v := .ref hj) in_X 0 rfl rfl 2 (by decide) (zk_m tw_143) rfl d_X_entries_1 ?_
  refine zk_get (pc := 4) X (ci := 1) (v := .int jm) in_J 1 rfl rfl 2 (by decide) (zk_m tw_49) rfl d_X_entries_4 ?_
  exact zk_iret (pc := 7) X hQ hRt hLk () hq.symm [0, 1, 2] rfl (by decide) d_X_entries_7
def sp_X_seal (jS : Int32) : Int32 :=
  jS
abbrev rm_X_seal : Room := { frames := 0, cells := 0, slots := 0, locals := 0 }
set_option maxHeartbeats 4000000 in
set_option maxRecDepth 100000 in
theorem c_X_seal (l : Launch) (dC : Nat → ClassId) (dI : Nat → Nat → Nat) (hx hp hj hr ht hm hk jb : Nat) (cJ : ClassId) (xs : Int32) (xb : Int32) (fb : Nat → Int32) (jn : Nat) (jm : Int32) (jS : Int32) (jl : Int32) : zk_Ci l y_X_seal w_X_seal rm_X_seal (dC, dI) vwCl [.ref hx] [(hx, .inr (6, [.int xs, .ref hp, .ref hj, .ref hr, .ref ht, .ref hm, .ref hk, .int xb])), (hj, .inr (1, [.ref jb, .int (nI jn), .int jm, .int jS, .int jl])), (jb, .inl (cJ, 300, .inl fb))] [(cJ, .int)] (fun (r : Int32) (u : Unit) => r = sp_X_seal jS) (fun _ => [(hx, .inr (6, [.int xs, .ref hp, .ref hj, .ref hr, .ref ht, .ref hm, .ref hk, .int xb])), (hj, .inr (1, [.ref jb, .int (nI jn), .int jm, .int jS, .int jl])), (jb, .inl (cJ, 300, .inl fb))]) := by
  refine zk_enteri (cc := b_X_seal) (maxL := 1) (ret := some .int) (by decide) rfl (Nat.le_of_ble_eq_true rfl) ?_
  intro p e s m args below meth c A Q hQ X hRt hLk
  have hq := sp_X_seal.eq_1 jS
  refine zk_lv (lv' := [(0, .ref hx)]) [0] rfl ?_
  refine zk_aload_n (pc := 0) X d_X_seal_0 rfl (q := 0) rfl ?_
  refine zk_get (pc := 1) X (ci := 6) (v := .ref hj) in_X 0 rfl rfl 2 (by decide) (zk_m tw_143) rfl d_X_seal_1 ?_
  refine zk_get (pc := 4) X (ci := 1) (v := .int jS) in_J 1 rfl rfl 3 (by decide) (zk_m tw_51) rfl d_X_seal_4 ?_
  exact zk_iret (pc := 7) X hQ hRt hLk () hq.symm [0, 1, 2] rfl (by decide) d_X_seal_7
def sp_X_at (i : Int32) (fb : Nat → Int32) (jn : Nat) : Int32 :=
  if (sp_J_has i jn) = 0 then
    (-1)
  else
    (fb i.toNatClampNeg)
abbrev rm_X_at : Room := { frames := 1, cells := 0, slots := 0, locals := 21 }
set_option maxHeartbeats 4000000 in
set_option maxRecDepth 100000 in
theorem c_X_at (l : Launch) (dC : Nat → ClassId) (dI : Nat → Nat → Nat) (hx hp hj hr ht hm hk jb : Nat) (cJ : ClassId) (i : Int32) (xs : Int32) (xb : Int32) (fb : Nat → Int32) (jn : Nat) (jm : Int32) (jS : Int32) (jl : Int32) (hjn : jn ≤ 300) : zk_Ci l y_X_at w_X_at rm_X_at (dC, dI) vwCl [.ref hx, .int i] [(hx, .inr (6, [.int xs, .ref hp, .ref hj, .ref hr, .ref ht, .ref hm, .ref hk, .int xb])), (hj, .inr (1, [.ref jb, .int (nI jn), .int jm, .int jS, .int jl])), (jb, .inl (cJ, 300, .inl fb))] [(cJ, .int)] (fun (r : Int32) (u : Unit) => r = sp_X_at i fb jn) (fun _ => [(hx, .inr (6, [.int xs, .ref hp, .ref hj, .ref hr, .ref ht, .ref hm, .ref hk, .int xb])), (hj, .inr (1, [.ref jb, .int (nI jn), .int jm, .int jS, .int jl])), (jb, .inl (cJ, 300, .inl fb))]) := by
  refine zk_enteri (cc := b_X_at) (maxL := 2) (ret := some .int) (by decide) rfl (Nat.le_of_ble_eq_true rfl) ?_
  intro p e s m args below meth c A Q hQ X hRt hLk
  have hq := sp_X_at.eq_1 i fb jn
  refine zk_lv (lv' := [(0, .ref hx), (1, .int i)]) [0, 1] rfl ?_
  refine zk_aload_n (pc := 0) X d_X_at_0 rfl (q := 0) rfl ?_
  refine zk_get (pc := 1) X (ci := 6) (v := .ref hj) in_X 0 rfl rfl 2 (by decide) (zk_m tw_143) rfl d_X_at_1 ?_
  refine zk_iload_n (pc := 4) X d_X_at_4 rfl (q := 1) rfl ?_
  refine zk_calli (pc := 5) X (wc := [(hj, .inr (1, [.ref jb, .int (nI jn), .int jm, .int jS, .int jl])), (jb, .inl (cJ, 300, .inl fb))]) (wr := [(hx, .inr (6, [.int xs, .ref hp, .ref hj, .ref hr, .ref ht, .ref hm, .ref hk, .int xb]))]) [1, 2] [0] rfl rfl (by decide) (by decide) (by decide) (zk_runV X (C := R_J) (tysC := [(cJ, .int)]) (As := [.int i]) (rest := []) (c_J_has l dC dI hj jb cJ i fb jn jm jS jl) [0] rfl (ci := 1) rfl 1 rfl (zk_cwV 1 X.1.2.2.2.2 (zk_goodT tw_248) rfl rfl rfl (zk_m tw_290) (zk_m tw_246) (zk_m tw_247) (zk_m tw_3) rfl (by decide +kernel) ⟨Nat.le_of_ble_eq_true rfl, Nat.le_of_ble_eq_true rfl⟩) rfl rfl (Nat.le_of_ble_eq_true rfl) ⟨Nat.zero_le _, Nat.zero_le _⟩ d_X_at_5) ?_
  rintro r5 ⟨⟩ ⟨w5, f5_0⟩
  have f5_0 : zk_hs r5 i jn := f5_0
  refine zk_ws (ws' := [(hx, .inr (6, [.int xs, .ref hp, .ref hj, .ref hr, .ref ht, .ref hm, .ref hk, .int xb])), (hj, .inr (1, [.ref jb, .int (nI jn), .int jm, .int jS, .int jl])), (jb, .inl (cJ, 300, .inl fb))]) rfl ?_
  subst w5
  refine zk_if_eq (pc := 8) X (tgt := 23) d_X_at_8 (by decide) (fun h8 => ?_) (fun h8 => ?_)
  · have hq := hq.trans (if_pos h8)
    refine zk_iconst (pc := 23) X (v := (-1)) d_X_at_23 rfl ?_
    exact zk_iret (pc := 24) X hQ hRt hLk () hq.symm [0, 1, 2] rfl (by decide) d_X_at_24
  · have hq := hq.trans (if_neg h8)
    refine zk_aload_n (pc := 11) X d_X_at_11 rfl (q := 0) rfl ?_
    refine zk_get (pc := 12) X (ci := 6) (v := .ref hj) in_X 0 rfl rfl 2 (by decide) (zk_m tw_143) rfl d_X_at_12 ?_
    refine zk_get (pc := 15) X (ci := 1) (v := .ref jb) in_J 1 rfl rfl 0 (by decide) (zk_m tw_45) rfl d_X_at_15 ?_
    refine zk_iload_n (pc := 18) X d_X_at_18 rfl (q := 1) rfl ?_
    refine zk_iald (pc := 19) X 2 0 (i.toNatClampNeg) rfl rfl (zk_hasI f5_0 h8).1 (zk_hasL f5_0 h8 hjn) (by decide) d_X_at_19 ?_
    refine zk_goto (pc := 20) X (tgt := 24) d_X_at_20 (by decide) ?_
    exact zk_iret (pc := 24) X hQ hRt hLk () hq.symm [0, 1, 2] rfl (by decide) d_X_at_24
def sp_X_change (i : Int32) (v : Int32) (fb : Nat → Int32) (jn : Nat) : Int32 × (Nat → Int32) :=
  if (sp_J_has i jn) = 0 then
    (0, fb)
  else
    if v < 0 then
      (0, fb)
    else
      if v ≤ 255 then
        (1, (upd fb i.toNatClampNeg v))
      else
        (0, fb)
abbrev rm_X_change : Room := { frames := 1, cells := 0, slots := 0, locals := 21 }
set_option maxHeartbeats 4000000 in
set_option maxRecDepth 100000 in
theorem c_X_change (l : Launch) (dC : Nat → ClassId) (dI : Nat → Nat → Nat) (hx hp hj hr ht hm hk jb : Nat) (cJ : ClassId) (i : Int32) (v : Int32) (xs : Int32) (xb : Int32) (fb : Nat → Int32) (jn : Nat) (jm : Int32) (jS : Int32) (jl : Int32) (hjn : jn ≤ 300) : zk_Ci l y_X_change w_X_change rm_X_change (dC, dI) vwCl [.ref hx, .int i, .int v] [(hx, .inr (6, [.int xs, .ref hp, .ref hj, .ref hr, .ref ht, .ref hm, .ref hk, .int xb])), (hj, .inr (1, [.ref jb, .int (nI jn), .int jm, .int jS, .int jl])), (jb, .inl (cJ, 300, .inl fb))] [(cJ, .int)] (fun (r : Int32) (u : (Nat → Int32)) => (r, u) = sp_X_change i v fb jn) (fun u => [(hx, .inr (6, [.int xs, .ref hp, .ref hj, .ref hr, .ref ht, .ref hm, .ref hk, .int xb])), (hj, .inr (1, [.ref jb, .int (nI jn), .int jm, .int jS, .int jl])), (jb, .inl (cJ, 300, .inl u))]) := by
  refine zk_enteri (cc := b_X_change) (maxL := 3) (ret := some .boolean) (by decide) rfl (Nat.le_of_ble_eq_true rfl) ?_
  intro p e s m args below meth c A Q hQ X hRt hLk
  have hq := sp_X_change.eq_1 i v fb jn
  refine zk_lv (lv' := [(0, .ref hx), (1, .int i), (2, .int v)]) [0, 1, 2] rfl ?_
  refine zk_aload_n (pc := 0) X d_X_change_0 rfl (q := 0) rfl ?_
  refine zk_get (pc := 1) X (ci := 6) (v := .ref hj) in_X 0 rfl rfl 2 (by decide) (zk_m tw_143) rfl d_X_change_1 ?_
  refine zk_iload_n (pc := 4) X d_X_change_4 rfl (q := 1) rfl ?_
  refine zk_calli (pc := 5) X (wc := [(hj, .inr (1, [.ref jb, .int (nI jn), .int jm, .int jS, .int jl])), (jb, .inl (cJ, 300, .inl fb))]) (wr := [(hx, .inr (6, [.int xs, .ref hp, .ref hj, .ref hr, .ref ht, .ref hm, .ref hk, .int xb]))]) [1, 2] [0] rfl rfl (by decide) (by decide) (by decide) (zk_runV X (C := R_J) (tysC := [(cJ, .int)]) (As := [.int i]) (rest := []) (c_J_has l dC dI hj jb cJ i fb jn jm jS jl) [0] rfl (ci := 1) rfl 1 rfl (zk_cwV 1 X.1.2.2.2.2 (zk_goodT tw_248) rfl rfl rfl (zk_m tw_290) (zk_m tw_246) (zk_m tw_247) (zk_m tw_3) rfl (by decide +kernel) ⟨Nat.le_of_ble_eq_true rfl, Nat.le_of_ble_eq_true rfl⟩) rfl rfl (Nat.le_of_ble_eq_true rfl) ⟨Nat.zero_le _, Nat.zero_le _⟩ d_X_change_5) ?_
  rintro r5 ⟨⟩ ⟨w5, f5_0⟩
  have f5_0 : zk_hs r5 i jn := f5_0
  refine zk_ws (ws' := [(hx, .inr (6, [.int xs, .ref hp, .ref hj, .ref hr, .ref ht, .ref hm, .ref hk, .int xb])), (hj, .inr (1, [.ref jb, .int (nI jn), .int jm, .int jS, .int jl])), (jb, .inl (cJ, 300, .inl fb))]) rfl ?_
  subst w5
  refine zk_if_eq (pc := 8) X (tgt := 22) d_X_change_8 (by decide) (fun h8 => ?_) (fun h8 => ?_)
  · have hq := hq.trans (if_pos h8)
    refine zk_iconst (pc := 22) X (v := 0) d_X_change_22 rfl ?_
    exact zk_zret (pc := 23) X hQ hRt hLk rfl fb hq.symm [0, 1, 2] rfl (by decide) d_X_change_23
  · have hq := hq.trans (if_neg h8)
    refine zk_iload_n (pc := 11) X d_X_change_11 rfl (q := 2) rfl ?_
    refine zk_if_lt (pc := 12) X (tgt := 22) d_X_change_12 (by decide) (fun h12 => ?_) (fun h12 => ?_)
    · have hq := hq.trans (if_pos h12)
      refine zk_iconst (pc := 22) X (v := 0) d_X_change_22 rfl ?_
      exact zk_zret (pc := 23) X hQ hRt hLk rfl fb hq.symm [0, 1, 2] rfl (by decide) d_X_change_23
    · have hq := hq.trans (if_neg h12)
      refine zk_iload_n (pc := 15) X d_X_change_15 rfl (q := 2) rfl ?_
      refine zk_sipush (pc := 16) X (v := 255) d_X_change_16 (by decide) ?_
      refine zk_icmp_le (pc := 19) X (tgt := 24) d_X_change_19 (by decide) (fun h19 => ?_) (fun h19 => ?_)
      · have hq := hq.trans (if_pos h19)
        refine zk_aload_n (pc := 24) X d_X_change_24 rfl (q := 0) rfl ?_
        refine zk_get (pc := 25) X (ci := 6) (v := .ref hj) in_X 0 rfl rfl 2 (by decide) (zk_m tw_143) rfl d_X_change_25 ?_
        refine zk_get (pc := 28) X (ci := 1) (v := .ref jb) in_J 1 rfl rfl 0 (by decide) (zk_m tw_45) rfl d_X_change_28 ?_
        refine zk_iload_n (pc := 31) X d_X_change_31 rfl (q := 1) rfl ?_
        refine zk_iload_n (pc := 32) X d_X_change_32 rfl (q := 2) rfl ?_
        refine zk_iast (pc := 33) X 2 0 (ws' := [(hx, .inr (6, [.int xs, .ref hp, .ref hj, .ref hr, .ref ht, .ref hm, .ref hk, .int xb])), (hj, .inr (1, [.ref jb, .int (nI jn), .int jm, .int jS, .int jl])), (jb, .inl (cJ, 300, .inl (upd fb i.toNatClampNeg v)))]) (i.toNatClampNeg) rfl rfl (zk_hasI f5_0 h8).1 (zk_hasL f5_0 h8 hjn) (by decide) d_X_change_33 rfl ?_
        refine zk_iconst (pc := 34) X (v := 1) d_X_change_34 rfl ?_
        exact zk_zret (pc := 35) X hQ hRt hLk rfl (upd fb i.toNatClampNeg v) hq.symm [0, 1, 2] rfl (by decide) d_X_change_35
      · have hq := hq.trans (if_neg h19)
        refine zk_iconst (pc := 22) X (v := 0) d_X_change_22 rfl ?_
        exact zk_zret (pc := 23) X hQ hRt hLk rfl fb hq.symm [0, 1, 2] rfl (by decide) d_X_change_23
def sp_X_machineOf (which : Int32) (hm : Nat) (hk : Nat) : Option Nat :=
  if which = 0 then
    (some hm)
  else
    if which = 1 then
      (some hk)
    else
      none
abbrev rm_X_machineOf : Room := { frames := 0, cells := 0, slots := 0, locals := 0 }
set_option maxHeartbeats 4000000 in
set_option maxRecDepth 100000 in
theorem c_X_machineOf (l : Launch) (dC : Nat → ClassId) (dI : Nat → Nat → Nat) (hx hp hj hr ht hm hk : Nat) (which : Int32) (xs : Int32) (xb : Int32) : zk_Cq l y_X_machineOf w_X_machineOf rm_X_machineOf (dC, dI) vwCl [.ref hx, .int which] [(hx, .inr (6, [.int xs, .ref hp, .ref hj, .ref hr, .ref ht, .ref hm, .ref hk, .int xb]))] [] (fun (r : Option Nat) (u : Unit) => r = sp_X_machineOf which hm hk) (fun _ => [(hx, .inr (6, [.int xs, .ref hp, .ref hj, .ref hr, .ref ht, .ref hm, .ref hk, .int xb]))]) := by
  refine zk_enterq (cc := b_X_machineOf) (maxL := 2) (ret := (some (.object "RetoldRun$Machine"))) (by decide) rfl (Nat.le_of_ble_eq_true rfl) ?_
  intro p e s m args below meth c A Q hQ X hRt hLk
  have hq := sp_X_machineOf.eq_1 which hm hk
  refine zk_lv (lv' := [(0, .ref hx), (1, .int which)]) [0, 1] rfl ?_
  refine zk_iload_n (pc := 0) X d_X_machineOf_0 rfl (q := 1) rfl ?_
  refine zk_if_ne (pc := 1) X (tgt := 9) d_X_machineOf_1 (by decide) (fun h1 => ?_) (fun h1 => ?_)
  · have hq := hq.trans (if_neg h1)
    refine zk_iload_n (pc := 9) X d_X_machineOf_9 rfl (q := 1) rfl ?_
    refine zk_iconst (pc := 10) X (v := 1) d_X_machineOf_10 rfl ?_
    refine zk_icmp_ne (pc := 11) X (tgt := 21) d_X_machineOf_11 (by decide) (fun h11 => ?_) (fun h11 => ?_)
    · have hq := hq.trans (if_neg h11)
      refine zk_null (pc := 21) X d_X_machineOf_21 ?_
      exact zk_aret (pc := 22) (v := none) X hQ hRt hLk (Or.inl ⟨_, rfl⟩) () hq.symm [0] rfl (by decide) d_X_machineOf_22
    · have hq := hq.trans (if_pos h11)
      refine zk_aload_n (pc := 14) X d_X_machineOf_14 rfl (q := 0) rfl ?_
      refine zk_get (pc := 15) X (ci := 6) (v := .ref hk) in_X 0 rfl rfl 6 (by decide) (zk_m tw_147) rfl d_X_machineOf_15 ?_
      refine zk_goto (pc := 18) X (tgt := 22) d_X_machineOf_18 (by decide) ?_
      exact zk_aret (pc := 22) (v := (some hk)) X hQ hRt hLk (Or.inl ⟨_, rfl⟩) () hq.symm [0] rfl (by decide) d_X_machineOf_22
  · have hq := hq.trans (if_pos h1)
    refine zk_aload_n (pc := 4) X d_X_machineOf_4 rfl (q := 0) rfl ?_
    refine zk_get (pc := 5) X (ci := 6) (v := .ref hm) in_X 0 rfl rfl 5 (by decide) (zk_m tw_146) rfl d_X_machineOf_5 ?_
    exact zk_aret (pc := 8) (v := (some hm)) X hQ hRt hLk (Or.inl ⟨_, rfl⟩) () hq.symm [0] rfl (by decide) d_X_machineOf_8
def sp_X_state (which : Int32) (what : Int32) (fr : Nat → Int32) (mp : Int32) (mi : Int32) (me : Int32) (mo : Int32) (mt : Int32) (mS : Nat) (kfr : Nat → Int32) (kp : Int32) (ki : Int32) (ke : Int32) (ko : Int32) (kt : Int32) (kS : Nat) : Int32 :=
  if which = 0 then
    (sp_M_stateOf what fr mp mi me mo mt mS)
  else if which = 1 then
    (sp_M_stateOf what kfr kp ki ke ko kt kS)
  else 0
abbrev rm_X_state : Room := { frames := 1, cells := 0, slots := 0, locals := 21 }
set_option maxHeartbeats 4000000 in
set_option maxRecDepth 100000 in
theorem c_X_state (l : Launch) (dC : Nat → ClassId) (dI : Nat → Nat → Nat) (hx hp hj hr ht hm hk mr mc kr kc : Nat) (cmr cmc ckr ckc : ClassId) (which : Int32) (what : Int32) (xs : Int32) (xb : Int32) (fr : Nat → Int32) (fc : Nat → Int32) (mp : Int32) (mb : Int32) (mi : Int32) (me : Int32) (ml : Int32) (mo : Int32) (mt : Int32) (mS : Nat) (kfr : Nat → Int32) (kfc : Nat → Int32) (kp : Int32) (kb : Int32) (ki : Int32) (ke : Int32) (kl : Int32) (ko : Int32) (kt : Int32) (kS : Nat) : zk_Ci l y_X_state w_X_state rm_X_state (dC, dI) vwCl [.ref hx, .int which, .int what] [(hx, .inr (6, [.int xs, .ref hp, .ref hj, .ref hr, .ref ht, .ref hm, .ref hk, .int xb])), (hm, .inr (5, [.ref mr, .ref mc, .int mp, .int mb, .int mi, .int me, .int ml, .int mo, .int mt, .int (nI mS)])), (mr, .inl (cmr, 4, .inl fr)), (mc, .inl (cmc, 32, .inl fc)), (hk, .inr (5, [.ref kr, .ref kc, .int kp, .int kb, .int ki, .int ke, .int kl, .int ko, .int kt, .int (nI kS)])), (kr, .inl (ckr, 4, .inl kfr)), (kc, .inl (ckc, 32, .inl kfc))] [(cmr, .int), (cmc, .int), (ckr, .int), (ckc, .int)] (fun (r : Int32) (u : Unit) => r = sp_X_state which what fr mp mi me mo mt mS kfr kp ki ke ko kt kS) (fun _ => [(hx, .inr (6, [.int xs, .ref hp, .ref hj, .ref hr, .ref ht, .ref hm, .ref hk, .int xb])), (hm, .inr (5, [.ref mr, .ref mc, .int mp, .int mb, .int mi, .int me, .int ml, .int mo, .int mt, .int (nI mS)])), (mr, .inl (cmr, 4, .inl fr)), (mc, .inl (cmc, 32, .inl fc)), (hk, .inr (5, [.ref kr, .ref kc, .int kp, .int kb, .int ki, .int ke, .int kl, .int ko, .int kt, .int (nI kS)])), (kr, .inl (ckr, 4, .inl kfr)), (kc, .inl (ckc, 32, .inl kfc))]) := by
  refine zk_enteri (cc := b_X_state) (maxL := 4) (ret := some .int) (by decide) rfl (Nat.le_of_ble_eq_true rfl) ?_
  intro p e s m args below meth c A Q hQ X hRt hLk
  have hq := sp_X_state.eq_1 which what fr mp mi me mo mt mS kfr kp ki ke ko kt kS
  refine zk_lv (lv' := [(0, .ref hx), (1, .int which), (2, .int what)]) [0, 1, 2] rfl ?_
  refine zk_aload_n (pc := 0) X d_X_state_0 rfl (q := 0) rfl ?_
  refine zk_iload_n (pc := 1) X d_X_state_1 rfl (q := 1) rfl ?_
  refine zk_callq (pc := 2) X (wc := [(hx, .inr (6, [.int xs, .ref hp, .ref hj, .ref hr, .ref ht, .ref hm, .ref hk, .int xb]))]) (wr := [(hm, .inr (5, [.ref mr, .ref mc, .int mp, .int mb, .int mi, .int me, .int ml, .int mo, .int mt, .int (nI mS)])), (mr, .inl (cmr, 4, .inl fr)), (mc, .inl (cmc, 32, .inl fc)), (hk, .inr (5, [.ref kr, .ref kc, .int kp, .int kb, .int ki, .int ke, .int kl, .int ko, .int kt, .int (nI kS)])), (kr, .inl (ckr, 4, .inl kfr)), (kc, .inl (ckc, 32, .inl kfc))]) [0] [1, 2, 3, 4, 5, 6] rfl rfl (by decide) (by decide) (by decide) (zk_runV X (C := R_X) (tysC := []) (As := [.int which]) (rest := []) (c_X_machineOf l dC dI hx hp hj hr ht hm hk which xs xb) [] rfl (ci := 6) rfl 0 rfl (zk_cwV 1 X.1.2.2.2.2 (zk_goodT tw_338) rfl rfl rfl (zk_m tw_336) (zk_m tw_337) (zk_m tw_531) (zk_m tw_1) rfl (by decide +kernel) ⟨Nat.le_of_ble_eq_true rfl, Nat.le_of_ble_eq_true rfl⟩) rfl rfl (Nat.le_of_ble_eq_true rfl) ⟨Nat.zero_le _, Nat.zero_le _⟩ d_X_state_2) ?_
  rintro r2 ⟨⟩ w2
  refine zk_ws (ws' := [(hm, .inr (5, [.ref mr, .ref mc, .int mp, .int mb, .int mi, .int me, .int ml, .int mo, .int mt, .int (nI mS)])), (mr, .inl (cmr, 4, .inl fr)), (mc, .inl (cmc, 32, .inl fc)), (hk, .inr (5, [.ref kr, .ref kc, .int kp, .int kb, .int ki, .int ke, .int kl, .int ko, .int kt, .int (nI kS)])), (kr, .inl (ckr, 4, .inl kfr)), (kc, .inl (ckc, 32, .inl kfc)), (hx, .inr (6, [.int xs, .ref hp, .ref hj, .ref hr, .ref ht, .ref hm, .ref hk, .int xb]))]) rfl ?_
  subst w2
  rcases Decidable.em (which = 0) with h2_0 | h2_0
  · have hq := hq.trans (if_pos h2_0)
    refine zk_top (v' := .ref hm) (by rw [sp_X_machineOf.eq_1 which hm hk, if_pos h2_0]; rfl) ?_
    refine zk_astore_n (pc := 5) X (i := 3) (lv' := [(3, .ref hm), (0, .ref hx), (1, .int which), (2, .int what)]) d_X_state_5 rfl (by decide) rfl ?_
    refine zk_aload_n (pc := 6) X d_X_state_6 rfl (q := 0) rfl ?_
    refine zk_ifnonnull (pc := 7) X (tgt := 14) d_X_state_7 (by decide) ?_
    refine zk_aload_n (pc := 14) X d_X_state_14 rfl (q := 0) rfl ?_
    refine zk_iload_n (pc := 15) X d_X_state_15 rfl (q := 3) rfl ?_
    refine zk_calli (pc := 16) X (wc := [(hm, .inr (5, [.ref mr, .ref mc, .int mp, .int mb, .int mi, .int me, .int ml, .int mo, .int mt, .int (nI mS)])), (mr, .inl (cmr, 4, .inl fr)), (mc, .inl (cmc, 32, .inl fc))]) (wr := [(hk, .inr (5, [.ref kr, .ref kc, .int kp, .int kb, .int ki, .int ke, .int kl, .int ko, .int kt, .int (nI kS)])), (kr, .inl (ckr, 4, .inl kfr)), (kc, .inl (ckc, 32, .inl kfc)), (hx, .inr (6, [.int xs, .ref hp, .ref hj, .ref hr, .ref ht, .ref hm, .ref hk, .int xb]))]) [0, 1, 2] [3, 4, 5, 6] rfl rfl (by decide) (by decide) (by decide) (zk_runV X (C := R_M) (tysC := [(cmr, .int), (cmc, .int)]) (As := [.int what]) (rest := []) (c_M_stateOf l dC dI hm mr mc cmr cmc what fr fc mp mb mi me ml mo mt mS) [0, 1] rfl (ci := 5) rfl 0 rfl (zk_cwV 1 X.1.2.2.2.2 (zk_goodT tw_331) rfl rfl rfl (zk_m tw_339) (zk_m tw_329) (zk_m tw_330) (zk_m tw_8) rfl (by decide +kernel) ⟨Nat.le_of_ble_eq_true rfl, Nat.le_of_ble_eq_true rfl⟩) rfl rfl (Nat.le_of_ble_eq_true rfl) ⟨Nat.zero_le _, Nat.zero_le _⟩ d_X_state_16) ?_
    rintro r16 ⟨⟩ w16
    refine zk_ws (ws' := [(hk, .inr (5, [.ref kr, .ref kc, .int kp, .int kb, .int ki, .int ke, .int kl, .int ko, .int kt, .int (nI kS)])), (kr, .inl (ckr, 4, .inl kfr)), (kc, .inl (ckc, 32, .inl kfc)), (hx, .inr (6, [.int xs, .ref hp, .ref hj, .ref hr, .ref ht, .ref hm, .ref hk, .int xb])), (hm, .inr (5, [.ref mr, .ref mc, .int mp, .int mb, .int mi, .int me, .int ml, .int mo, .int mt, .int (nI mS)])), (mr, .inl (cmr, 4, .inl fr)), (mc, .inl (cmc, 32, .inl fc))]) rfl ?_
    subst w16
    exact zk_iret (pc := 19) X hQ hRt hLk () hq.symm [3, 4, 5, 6, 0, 1, 2] rfl (by decide) d_X_state_19
  · have hq := hq.trans (if_neg h2_0)
    rcases Decidable.em (which = 1) with h2_1 | h2_1
    · have hq := hq.trans (if_pos h2_1)
      refine zk_top (v' := .ref hk) (by rw [sp_X_machineOf.eq_1 which hm hk, if_neg h2_0, if_pos h2_1]; rfl) ?_
      refine zk_astore_n (pc := 5) X (i := 3) (lv' := [(3, .ref hk), (0, .ref hx), (1, .int which), (2, .int what)]) d_X_state_5 rfl (by decide) rfl ?_
      refine zk_aload_n (pc := 6) X d_X_state_6 rfl (q := 0) rfl ?_
      refine zk_ifnonnull (pc := 7) X (tgt := 14) d_X_state_7 (by decide) ?_
      refine zk_aload_n (pc := 14) X d_X_state_14 rfl (q := 0) rfl ?_
      refine zk_iload_n (pc := 15) X d_X_state_15 rfl (q := 3) rfl ?_
      refine zk_calli (pc := 16) X (wc := [(hk, .inr (5, [.ref kr, .ref kc, .int kp, .int kb, .int ki, .int ke, .int kl, .int ko, .int kt, .int (nI kS)])), (kr, .inl (ckr, 4, .inl kfr)), (kc, .inl (ckc, 32, .inl kfc))]) (wr := [(hm, .inr (5, [.ref mr, .ref mc, .int mp, .int mb, .int mi, .int me, .int ml, .int mo, .int mt, .int (nI mS)])), (mr, .inl (cmr, 4, .inl fr)), (mc, .inl (cmc, 32, .inl fc)), (hx, .inr (6, [.int xs, .ref hp, .ref hj, .ref hr, .ref ht, .ref hm, .ref hk, .int xb]))]) [3, 4, 5] [0, 1, 2, 6] rfl rfl (by decide) (by decide) (by decide) (zk_runV X (C := R_M) (tysC := [(ckr, .int), (ckc, .int)]) (As := [.int what]) (rest := []) (c_M_stateOf l dC dI hk kr kc ckr ckc what kfr kfc kp kb ki ke kl ko kt kS) [2, 3] rfl (ci := 5) rfl 3 rfl (zk_cwV 1 X.1.2.2.2.2 (zk_goodT tw_331) rfl rfl rfl (zk_m tw_339) (zk_m tw_329) (zk_m tw_330) (zk_m tw_8) rfl (by decide +kernel) ⟨Nat.le_of_ble_eq_true rfl, Nat.le_of_ble_eq_true rfl⟩) rfl rfl (Nat.le_of_ble_eq_true rfl) ⟨Nat.zero_le _, Nat.zero_le _⟩ d_X_state_16) ?_
      rintro r16 ⟨⟩ w16
      refine zk_ws (ws' := [(hm, .inr (5, [.ref mr, .ref mc, .int mp, .int mb, .int mi, .int me, .int ml, .int mo, .int mt, .int (nI mS)])), (mr, .inl (cmr, 4, .inl fr)), (mc, .inl (cmc, 32, .inl fc)), (hx, .inr (6, [.int xs, .ref hp, .ref hj, .ref hr, .ref ht, .ref hm, .ref hk, .int xb])), (hk, .inr (5, [.ref kr, .ref kc, .int kp, .int kb, .int ki, .int ke, .int kl, .int ko, .int kt, .int (nI kS)])), (kr, .inl (ckr, 4, .inl kfr)), (kc, .inl (ckc, 32, .inl kfc))]) rfl ?_
      subst w16
      exact zk_iret (pc := 19) X hQ hRt hLk () hq.symm [3, 0, 1, 2, 4, 5, 6] rfl (by decide) d_X_state_19
    · have hq := hq.trans (if_neg h2_1)
      refine zk_top (v' := .null) (by rw [sp_X_machineOf.eq_1 which hm hk, if_neg h2_0, if_neg h2_1]; rfl) ?_
      refine zk_astore_nN (pc := 5) X (i := 3) (lv' := [(3, .null), (0, .ref hx), (1, .int which), (2, .int what)]) d_X_state_5 rfl (by decide) rfl ?_
      refine zk_aload_nN (pc := 6) X d_X_state_6 rfl (q := 0) rfl ?_
      refine zk_ifnonnullN (pc := 7) X d_X_state_7 ?_
      refine zk_iconst (pc := 10) X (v := 0) d_X_state_10 rfl ?_
      refine zk_goto (pc := 11) X (tgt := 19) d_X_state_11 (by decide) ?_
      exact zk_iret (pc := 19) X hQ hRt hLk () hq.symm [6, 0, 1, 2, 3, 4, 5] rfl (by decide) d_X_state_19
def sp_X_cell (which : Int32) (i : Int32) (fc : Nat → Int32) (kfc : Nat → Int32) : Int32 :=
  if which = 0 then
    (sp_M_cellOf i fc)
  else if which = 1 then
    (sp_M_cellOf i kfc)
  else 0
abbrev rm_X_cell : Room := { frames := 1, cells := 0, slots := 0, locals := 21 }
set_option maxHeartbeats 4000000 in
set_option maxRecDepth 100000 in
theorem c_X_cell (l : Launch) (dC : Nat → ClassId) (dI : Nat → Nat → Nat) (hx hp hj hr ht hm hk mr mc kr kc : Nat) (cmr cmc ckr ckc : ClassId) (which : Int32) (i : Int32) (xs : Int32) (xb : Int32) (fr : Nat → Int32) (fc : Nat → Int32) (mp : Int32) (mb : Int32) (mi : Int32) (me : Int32) (ml : Int32) (mo : Int32) (mt : Int32) (mS : Nat) (kfr : Nat → Int32) (kfc : Nat → Int32) (kp : Int32) (kb : Int32) (ki : Int32) (ke : Int32) (kl : Int32) (ko : Int32) (kt : Int32) (kS : Nat) : zk_Ci l y_X_cell w_X_cell rm_X_cell (dC, dI) vwCl [.ref hx, .int which, .int i] [(hx, .inr (6, [.int xs, .ref hp, .ref hj, .ref hr, .ref ht, .ref hm, .ref hk, .int xb])), (hm, .inr (5, [.ref mr, .ref mc, .int mp, .int mb, .int mi, .int me, .int ml, .int mo, .int mt, .int (nI mS)])), (mr, .inl (cmr, 4, .inl fr)), (mc, .inl (cmc, 32, .inl fc)), (hk, .inr (5, [.ref kr, .ref kc, .int kp, .int kb, .int ki, .int ke, .int kl, .int ko, .int kt, .int (nI kS)])), (kr, .inl (ckr, 4, .inl kfr)), (kc, .inl (ckc, 32, .inl kfc))] [(cmr, .int), (cmc, .int), (ckr, .int), (ckc, .int)] (fun (r : Int32) (u : Unit) => r = sp_X_cell which i fc kfc) (fun _ => [(hx, .inr (6, [.int xs, .ref hp, .ref hj, .ref hr, .ref ht, .ref hm, .ref hk, .int xb])), (hm, .inr (5, [.ref mr, .ref mc, .int mp, .int mb, .int mi, .int me, .int ml, .int mo, .int mt, .int (nI mS)])), (mr, .inl (cmr, 4, .inl fr)), (mc, .inl (cmc, 32, .inl fc)), (hk, .inr (5, [.ref kr, .ref kc, .int kp, .int kb, .int ki, .int ke, .int kl, .int ko, .int kt, .int (nI kS)])), (kr, .inl (ckr, 4, .inl kfr)), (kc, .inl (ckc, 32, .inl kfc))]) := by
  refine zk_enteri (cc := b_X_cell) (maxL := 4) (ret := some .int) (by decide) rfl (Nat.le_of_ble_eq_true rfl) ?_
  intro p e s m args below meth c A Q hQ X hRt hLk
  have hq := sp_X_cell.eq_1 which i fc kfc
  refine zk_lv (lv' := [(0, .ref hx), (1, .int which), (2, .int i)]) [0, 1, 2] rfl ?_
  refine zk_aload_n (pc := 0) X d_X_cell_0 rfl (q := 0) rfl ?_
  refine zk_iload_n (pc := 1) X d_X_cell_1 rfl (q := 1) rfl ?_
  refine zk_callq (pc := 2) X (wc := [(hx, .inr (6, [.int xs, .ref hp, .ref hj, .ref hr, .ref ht, .ref hm, .ref hk, .int xb]))]) (wr := [(hm, .inr (5, [.ref mr, .ref mc, .int mp, .int mb, .int mi, .int me, .int ml, .int mo, .int mt, .int (nI mS)])), (mr, .inl (cmr, 4, .inl fr)), (mc, .inl (cmc, 32, .inl fc)), (hk, .inr (5, [.ref kr, .ref kc, .int kp, .int kb, .int ki, .int ke, .int kl, .int ko, .int kt, .int (nI kS)])), (kr, .inl (ckr, 4, .inl kfr)), (kc, .inl (ckc, 32, .inl kfc))]) [0] [1, 2, 3, 4, 5, 6] rfl rfl (by decide) (by decide) (by decide) (zk_runV X (C := R_X) (tysC := []) (As := [.int which]) (rest := []) (c_X_machineOf l dC dI hx hp hj hr ht hm hk which xs xb) [] rfl (ci := 6) rfl 0 rfl (zk_cwV 1 X.1.2.2.2.2 (zk_goodT tw_338) rfl rfl rfl (zk_m tw_336) (zk_m tw_337) (zk_m tw_531) (zk_m tw_1) rfl (by decide +kernel) ⟨Nat.le_of_ble_eq_true rfl, Nat.le_of_ble_eq_true rfl⟩) rfl rfl (Nat.le_of_ble_eq_true rfl) ⟨Nat.zero_le _, Nat.zero_le _⟩ d_X_cell_2) ?_
  rintro r2 ⟨⟩ w2
  refine zk_ws (ws' := [(hm, .inr (5, [.ref mr, .ref mc, .int mp, .int mb, .int mi, .int me, .int ml, .int mo, .int mt, .int (nI mS)])), (mr, .inl (cmr, 4, .inl fr)), (mc, .inl (cmc, 32, .inl fc)), (hk, .inr (5, [.ref kr, .ref kc, .int kp, .int kb, .int ki, .int ke, .int kl, .int ko, .int kt, .int (nI kS)])), (kr, .inl (ckr, 4, .inl kfr)), (kc, .inl (ckc, 32, .inl kfc)), (hx, .inr (6, [.int xs, .ref hp, .ref hj, .ref hr, .ref ht, .ref hm, .ref hk, .int xb]))]) rfl ?_
  subst w2
  rcases Decidable.em (which = 0) with h2_0 | h2_0
  · have hq := hq.trans (if_pos h2_0)
    refine zk_top (v' := .ref hm) (by rw [sp_X_machineOf.eq_1 which hm hk, if_pos h2_0]; rfl) ?_
    refine zk_astore_n (pc := 5) X (i := 3) (lv' := [(3, .ref hm), (0, .ref hx), (1, .int which), (2, .int i)]) d_X_cell_5 rfl (by decide) rfl ?_
    refine zk_aload_n (pc := 6) X d_X_cell_6 rfl (q := 0) rfl ?_
    refine zk_ifnonnull (pc := 7) X (tgt := 14) d_X_cell_7 (by decide) ?_
    refine zk_aload_n (pc := 14) X d_X_cell_14 rfl (q := 0) rfl ?_
    refine zk_iload_n (pc := 15) X d_X_cell_15 rfl (q := 3) rfl ?_
    refine zk_calli (pc := 16) X (wc := [(hm, .inr (5, [.ref mr, .ref mc, .int mp, .int mb, .int mi, .int me, .int ml, .int mo, .int mt, .int (nI mS)])), (mr, .inl (cmr, 4, .inl fr)), (mc, .inl (cmc, 32, .inl fc))]) (wr := [(hk, .inr (5, [.ref kr, .ref kc, .int kp, .int kb, .int ki, .int ke, .int kl, .int ko, .int kt, .int (nI kS)])), (kr, .inl (ckr, 4, .inl kfr)), (kc, .inl (ckc, 32, .inl kfc)), (hx, .inr (6, [.int xs, .ref hp, .ref hj, .ref hr, .ref ht, .ref hm, .ref hk, .int xb]))]) [0, 1, 2] [3, 4, 5, 6] rfl rfl (by decide) (by decide) (by decide) (zk_runV X (C := R_M) (tysC := [(cmr, .int), (cmc, .int)]) (As := [.int i]) (rest := []) (c_M_cellOf l dC dI hm mr mc cmr cmc i fr fc mp mb mi me ml mo mt mS) [0, 1] rfl (ci := 5) rfl 0 rfl (zk_cwV 1 X.1.2.2.2.2 (zk_goodT tw_347) rfl rfl rfl (zk_m tw_344) (zk_m tw_345) (zk_m tw_346) (zk_m tw_8) rfl (by decide +kernel) ⟨Nat.le_of_ble_eq_true rfl, Nat.le_of_ble_eq_true rfl⟩) rfl rfl (Nat.le_of_ble_eq_true rfl) ⟨Nat.zero_le _, Nat.zero_le _⟩ d_X_cell_16) ?_
    rintro r16 ⟨⟩ w16
    refine zk_ws (ws' := [(hk, .inr (5, [.ref kr, .ref kc, .int kp, .int kb, .int ki, .int ke, .int kl, .int ko, .int kt, .int (nI kS)])), (kr, .inl (ckr, 4, .inl kfr)), (kc, .inl (ckc, 32, .inl kfc)), (hx, .inr (6, [.int xs, .ref hp, .ref hj, .ref hr, .ref ht, .ref hm, .ref hk, .int xb])), (hm, .inr (5, [.ref mr, .ref mc, .int mp, .int mb, .int mi, .int me, .int ml, .int mo, .int mt, .int (nI mS)])), (mr, .inl (cmr, 4, .inl fr)), (mc, .inl (cmc, 32, .inl fc))]) rfl ?_
    subst w16
    exact zk_iret (pc := 19) X hQ hRt hLk () hq.symm [3, 4, 5, 6, 0, 1, 2] rfl (by decide) d_X_cell_19
  · have hq := hq.trans (if_neg h2_0)
    rcases Decidable.em (which = 1) with h2_1 | h2_1
    · have hq := hq.trans (if_pos h2_1)
      refine zk_top (v' := .ref hk) (by rw [sp_X_machineOf.eq_1 which hm hk, if_neg h2_0, if_pos h2_1]; rfl) ?_
      refine zk_astore_n (pc := 5) X (i := 3) (lv' := [(3, .ref hk), (0, .ref hx), (1, .int which), (2, .int i)]) d_X_cell_5 rfl (by decide) rfl ?_
      refine zk_aload_n (pc := 6) X d_X_cell_6 rfl (q := 0) rfl ?_
      refine zk_ifnonnull (pc := 7) X (tgt := 14) d_X_cell_7 (by decide) ?_
      refine zk_aload_n (pc := 14) X d_X_cell_14 rfl (q := 0) rfl ?_
      refine zk_iload_n (pc := 15) X d_X_cell_15 rfl (q := 3) rfl ?_
      refine zk_calli (pc := 16) X (wc := [(hk, .inr (5, [.ref kr, .ref kc, .int kp, .int kb, .int ki, .int ke, .int kl, .int ko, .int kt, .int (nI kS)])), (kr, .inl (ckr, 4, .inl kfr)), (kc, .inl (ckc, 32, .inl kfc))]) (wr := [(hm, .inr (5, [.ref mr, .ref mc, .int mp, .int mb, .int mi, .int me, .int ml, .int mo, .int mt, .int (nI mS)])), (mr, .inl (cmr, 4, .inl fr)), (mc, .inl (cmc, 32, .inl fc)), (hx, .inr (6, [.int xs, .ref hp, .ref hj, .ref hr, .ref ht, .ref hm, .ref hk, .int xb]))]) [3, 4, 5] [0, 1, 2, 6] rfl rfl (by decide) (by decide) (by decide) (zk_runV X (C := R_M) (tysC := [(ckr, .int), (ckc, .int)]) (As := [.int i]) (rest := []) (c_M_cellOf l dC dI hk kr kc ckr ckc i kfr kfc kp kb ki ke kl ko kt kS) [2, 3] rfl (ci := 5) rfl 3 rfl (zk_cwV 1 X.1.2.2.2.2 (zk_goodT tw_347) rfl rfl rfl (zk_m tw_344) (zk_m tw_345) (zk_m tw_346) (zk_m tw_8) rfl (by decide +kernel) ⟨Nat.le_of_ble_eq_true rfl, Nat.le_of_ble_eq_true rfl⟩) rfl rfl (Nat.le_of_ble_eq_true rfl) ⟨Nat.zero_le _, Nat.zero_le _⟩ d_X_cell_16) ?_
      rintro r16 ⟨⟩ w16
      refine zk_ws (ws' := [(hm, .inr (5, [.ref mr, .ref mc, .int mp, .int mb, .int mi, .int me, .int ml, .int mo, .int mt, .int (nI mS)])), (mr, .inl (cmr, 4, .inl fr)), (mc, .inl (cmc, 32, .inl fc)), (hx, .inr (6, [.int xs, .ref hp, .ref hj, .ref hr, .ref ht, .ref hm, .ref hk, .int xb])), (hk, .inr (5, [.ref kr, .ref kc, .int kp, .int kb, .int ki, .int ke, .int kl, .int ko, .int kt, .int (nI kS)])), (kr, .inl (ckr, 4, .inl kfr)), (kc, .inl (ckc, 32, .inl kfc))]) rfl ?_
      subst w16
      exact zk_iret (pc := 19) X hQ hRt hLk () hq.symm [3, 0, 1, 2, 4, 5, 6] rfl (by decide) d_X_cell_19
    · have hq := hq.trans (if_neg h2_1)
      refine zk_top (v' := .null) (by rw [sp_X_machineOf.eq_1 which hm hk, if_neg h2_0, if_neg h2_1]; rfl) ?_
      refine zk_astore_nN (pc := 5) X (i := 3) (lv' := [(3, .null), (0, .ref hx), (1, .int which), (2, .int i)]) d_X_cell_5 rfl (by decide) rfl ?_
      refine zk_aload_nN (pc := 6) X d_X_cell_6 rfl (q := 0) rfl ?_
      refine zk_ifnonnullN (pc := 7) X d_X_cell_7 ?_
      refine zk_iconst (pc := 10) X (v := 0) d_X_cell_10 rfl ?_
      refine zk_goto (pc := 11) X (tgt := 19) d_X_cell_11 (by decide) ?_
      exact zk_iret (pc := 19) X hQ hRt hLk () hq.symm [6, 0, 1, 2, 3, 4, 5] rfl (by decide) d_X_cell_19
def sp_X_sealed_20 (word : Int32) : Nat → Int32 → Int32 → Int32
  | 0, res, i => 0
  | fuel + 1, res, i =>
    if i < 0 then
      res
    else
      sp_X_sealed_20 word fuel (sp_X_sealByte res ((zf_ushr word (8 * i)) &&& 255)) (i + (-1))
def sp_X_sealed (h : Int32) (word : Int32) (n : Int32) : Int32 :=
  if n < 1 then
    0
  else
    if n ≤ 4 then
      sp_X_sealed_20 word 5 h (n - 1)
    else
      0
abbrev rm_X_sealed : Room := { frames := 2, cells := 0, slots := 0, locals := 43 }
set_option maxHeartbeats 4000000 in
set_option maxRecDepth 100000 in
theorem c_X_sealed (l : Launch) (dC : Nat → ClassId) (dI : Nat → Nat → Nat) (hx hp hj hr ht hm hk : Nat) (h : Int32) (word : Int32) (n : Int32) (xs : Int32) (xb : Int32) : zk_Ci l y_X_sealed w_X_sealed rm_X_sealed (dC, dI) vwCl [.ref hx, .int h, .int word, .int n] [(hx, .inr (6, [.int xs, .ref hp, .ref hj, .ref hr, .ref ht, .ref hm, .ref hk, .int xb]))] [] (fun (r : Int32) (u : Unit) => r = sp_X_sealed h word n) (fun _ => [(hx, .inr (6, [.int xs, .ref hp, .ref hj, .ref hr, .ref ht, .ref hm, .ref hk, .int xb]))]) := by
  refine zk_enteri (cc := b_X_sealed) (maxL := 6) (ret := some .int) (by decide) rfl (Nat.le_of_ble_eq_true rfl) ?_
  intro p e s m args below meth c A Q hQ X hRt hLk
  have cut20 : ∀ (fuel : Nat) (res : Int32) (i : Int32), i.toInt < 4 → -1 ≤ i.toInt → (i.toInt + 1).toNat < fuel → sp_X_sealed h word n = sp_X_sealed_20 word fuel res i → zk_Z p l e rm_X_sealed s m args below meth c Q A (dC, dI) vwCl 6 0 0 [(hx, .inr (6, [.int xs, .ref hp, .ref hj, .ref hr, .ref ht, .ref hm, .ref hk, .int xb]))] [(0, .ref hx), (1, .int h), (2, .int word), (3, .int n), (4, .int res), (5, .int i)] [] 20 := by
    intro fuel
    induction fuel with
    | zero => intro res i hi hi0 hMs; exact absurd hMs (Nat.not_lt_zero _)
    | succ fuel ih =>
      intro res i hi hi0 hMs hq
      rw [sp_X_sealed_20] at hq
      refine zk_iload (pc := 20) X d_X_sealed_20 (q := 5) rfl ?_
      refine zk_if_lt (pc := 22) X (tgt := 49) d_X_sealed_22 (by decide) (fun h22 => ?_) (fun h22 => ?_)
      · have hq := hq.trans (if_pos h22)
        refine zk_iload (pc := 49) X d_X_sealed_49 (q := 4) rfl ?_
        exact zk_iret (pc := 51) X hQ hRt hLk () hq.symm [0] rfl (by decide) d_X_sealed_51
      · have hq := hq.trans (if_neg h22)
        refine zk_iload (pc := 25) X d_X_sealed_25 (q := 4) rfl ?_
        refine zk_iload_n (pc := 27) X d_X_sealed_27 rfl (q := 2) rfl ?_
        refine zk_bipush (pc := 28) X (v := 8) d_X_sealed_28 (by decide) ?_
        refine zk_iload (pc := 30) X d_X_sealed_30 (q := 5) rfl ?_
        refine zk_imul (pc := 32) X (v := (8 * i)) d_X_sealed_32 rfl ?_
        refine zk_iushr (pc := 33) X (v := (zf_ushr word (8 * i))) d_X_sealed_33 rfl ?_
        refine zk_sipush (pc := 34) X (v := 255) d_X_sealed_34 (by decide) ?_
        refine zk_iand (pc := 37) X (v := ((zf_ushr word (8 * i)) &&& 255)) d_X_sealed_37 rfl ?_
        refine zk_calli (pc := 38) X (wc := []) (wr := [(hx, .inr (6, [.int xs, .ref hp, .ref hj, .ref hr, .ref ht, .ref hm, .ref hk, .int xb]))]) [] [0] rfl rfl (by decide) (by decide) (by decide) (zk_runS X (tysC := []) (As := [.int res, .int ((zf_ushr word (8 * i)) &&& 255)]) (rest := []) (c_X_sealByte l dC dI res ((zf_ushr word (8 * i)) &&& 255)) [] rfl (zk_cwS 2 X.1.2.2.2.2 (zk_goodT tw_230) rfl rfl rfl (zk_m tw_352) (zk_m tw_229) (zk_m tw_1) (by decide +kernel) ⟨Nat.le_of_ble_eq_true rfl, Nat.le_of_ble_eq_true rfl⟩) rfl rfl (Nat.le_of_ble_eq_true rfl) ⟨Nat.zero_le _, Nat.zero_le _⟩ d_X_sealed_38) ?_
        rintro r38 ⟨⟩ w38
        refine zk_ws (ws' := [(hx, .inr (6, [.int xs, .ref hp, .ref hj, .ref hr, .ref ht, .ref hm, .ref hk, .int xb]))]) rfl ?_
        subst w38
        refine zk_istore (pc := 41) X (i := 4) (lv' := [(4, .int (sp_X_sealByte res ((zf_ushr word (8 * i)) &&& 255))), (0, .ref hx), (1, .int h), (2, .int word), (3, .int n), (5, .int i)]) d_X_sealed_41 (by decide) rfl ?_
        refine zk_iinc (pc := 43) X (k0 := 5) (v := (i + (-1))) (lv' := [(5, .int (i + (-1))), (4, .int (sp_X_sealByte res ((zf_ushr word (8 * i)) &&& 255))), (0, .ref hx), (1, .int h), (2, .int word), (3, .int n)]) d_X_sealed_43 rfl rfl (by decide) rfl ?_
        obtain ⟨g46, g46b⟩ := zk_dec h22
        refine zk_goto (pc := 46) X (tgt := 20) d_X_sealed_46 (by decide) ?_
        refine zk_lv (lv' := [(0, .ref hx), (1, .int h), (2, .int word), (3, .int n), (4, .int (sp_X_sealByte res ((zf_ushr word (8 * i)) &&& 255))), (5, .int (i + (-1)))]) [2, 3, 4, 5, 1, 0] rfl ?_
        exact ih (sp_X_sealByte res ((zf_ushr word (8 * i)) &&& 255)) (i + (-1)) (by omega) (by omega) (by omega) hq
  have hq := sp_X_sealed.eq_1 h word n
  refine zk_lv (lv' := [(0, .ref hx), (1, .int h), (2, .int word), (3, .int n)]) [0, 1, 2, 3] rfl ?_
  refine zk_iload_n (pc := 0) X d_X_sealed_0 rfl (q := 3) rfl ?_
  refine zk_iconst (pc := 1) X (v := 1) d_X_sealed_1 rfl ?_
  refine zk_icmp_lt (pc := 2) X (tgt := 10) d_X_sealed_2 (by decide) (fun h2 => ?_) (fun h2 => ?_)
  · have hq := hq.trans (if_pos h2)
    refine zk_iconst (pc := 10) X (v := 0) d_X_sealed_10 rfl ?_
    exact zk_iret (pc := 11) X hQ hRt hLk () hq.symm [0] rfl (by decide) d_X_sealed_11
  · have hq := hq.trans (if_neg h2)
    refine zk_iload_n (pc := 5) X d_X_sealed_5 rfl (q := 3) rfl ?_
    refine zk_iconst (pc := 6) X (v := 4) d_X_sealed_6 rfl ?_
    refine zk_icmp_le (pc := 7) X (tgt := 12) d_X_sealed_7 (by decide) (fun h7 => ?_) (fun h7 => ?_)
    · have hq := hq.trans (if_pos h7)
      refine zk_iload_n (pc := 12) X d_X_sealed_12 rfl (q := 1) rfl ?_
      refine zk_istore (pc := 13) X (i := 4) (lv' := [(4, .int h), (0, .ref hx), (1, .int h), (2, .int word), (3, .int n)]) d_X_sealed_13 (by decide) rfl ?_
      refine zk_iload_n (pc := 15) X d_X_sealed_15 rfl (q := 4) rfl ?_
      refine zk_iconst (pc := 16) X (v := 1) d_X_sealed_16 rfl ?_
      refine zk_isub (pc := 17) X (v := (n - 1)) d_X_sealed_17 rfl ?_
      refine zk_istore (pc := 18) X (i := 5) (lv' := [(5, .int (n - 1)), (4, .int h), (0, .ref hx), (1, .int h), (2, .int word), (3, .int n)]) d_X_sealed_18 (by decide) rfl ?_
      refine zk_lv (lv' := [(0, .ref hx), (1, .int h), (2, .int word), (3, .int n), (4, .int h), (5, .int (n - 1))]) [2, 3, 4, 5, 1, 0] rfl ?_
      exact cut20 (5) h (n - 1) (zk_n1 h2 h7).1 (zk_n1 h2 h7).2.1 (zk_n1 h2 h7).2.2 hq
    · have hq := hq.trans (if_neg h7)
      refine zk_iconst (pc := 10) X (v := 0) d_X_sealed_10 rfl ?_
      exact zk_iret (pc := 11) X hQ hRt hLk () hq.symm [0] rfl (by decide) d_X_sealed_11
end
section
def sp_X_clear (xs : Int32) (pn : Nat) (fr : Nat → Int32) (fc : Nat → Int32) : Int32 × Int32 × Nat × (Nat → Int32) × (Nat → Int32) × Int32 × Int32 × Int32 × Int32 × Int32 × Int32 × Int32 × Nat × Nat × Int32 × Int32 × Int32 × Nat × Int32 × Int32 × Int32 :=
  (match sp_M_restart xs fr fc with
  | (fr_24, fc_24, mp_24, mb_24, mi_24, me_24, ml_24, mo_24, mt_24, mS_24) =>
    (match sp_J_restart with
    | (jn_31, jm_31, jS_31, jl_31) =>
      (match sp_R_restart with
      | (rw_38, rt_38, rq_38, rc_38) =>
        (nI pn, 0, 0, fr_24, fc_24, mp_24, mb_24, mi_24, me_24, ml_24, mo_24, mt_24, mS_24, jn_31, jm_31, jS_31, jl_31, rw_38, rt_38, rq_38, rc_38))))
abbrev rm_X_clear : Room := { frames := 2, cells := 0, slots := 0, locals := 44 }
set_option maxHeartbeats 4000000 in
set_option maxRecDepth 100000 in
theorem c_X_clear (l : Launch) (dC : Nat → ClassId) (dI : Nat → Nat → Nat) (hx hp hj hr ht hm hk po pf ps mr mc jb ri : Nat) (cPo cPf cPs cmr cmc cJ cR : ClassId) (xs : Int32) (xb : Int32) (fo : Nat → Int32) (ff : Nat → Int32) (fs : Nat → Int32) (pn : Nat) (fr : Nat → Int32) (fc : Nat → Int32) (mp : Int32) (mb : Int32) (mi : Int32) (me : Int32) (ml : Int32) (mo : Int32) (mt : Int32) (mS : Nat) (fb : Nat → Int32) (jn : Nat) (jm : Int32) (jS : Int32) (jl : Int32) (fi : Nat → Int32) (rw : Nat) (rt : Int32) (rq : Int32) (rc : Int32) : zk_Ci l y_X_clear w_X_clear rm_X_clear (dC, dI) vwCl [.ref hx] [(hx, .inr (6, [.int xs, .ref hp, .ref hj, .ref hr, .ref ht, .ref hm, .ref hk, .int xb])), (hp, .inr (0, [.ref po, .ref pf, .ref ps, .int (nI pn)])), (po, .inl (cPo, 24, .inl fo)), (pf, .inl (cPf, 24, .inl ff)), (ps, .inl (cPs, 24, .inl fs)), (hm, .inr (5, [.ref mr, .ref mc, .int mp, .int mb, .int mi, .int me, .int ml, .int mo, .int mt, .int (nI mS)])), (mr, .inl (cmr, 4, .inl fr)), (mc, .inl (cmc, 32, .inl fc)), (hj, .inr (1, [.ref jb, .int (nI jn), .int jm, .int jS, .int jl])), (jb, .inl (cJ, 300, .inl fb)), (hr, .inr (2, [.ref hj, .ref ri, .int (nI rw), .int rt, .int rq, .int rc])), (ri, .inl (cR, 16, .inl fi))] [(cPo, .int), (cPf, .int), (cPs, .int), (cmr, .int), (cmc, .int), (cJ, .int), (cR, .int)] (fun (r : Int32) (u : Int32 × Nat × (Nat → Int32) × (Nat → Int32) × Int32 × Int32 × Int32 × Int32 × Int32 × Int32 × Int32 × Nat × Nat × Int32 × Int32 × Int32 × Nat × Int32 × Int32 × Int32) => (r, u) = sp_X_clear xs pn fr fc) (fun u => [(hx, .inr (6, [.int xs, .ref hp, .ref hj, .ref hr, .ref ht, .ref hm, .ref hk, .int u.1])), (hp, .inr (0, [.ref po, .ref pf, .ref ps, .int (nI u.2.1)])), (po, .inl (cPo, 24, .inl fo)), (pf, .inl (cPf, 24, .inl ff)), (ps, .inl (cPs, 24, .inl fs)), (hm, .inr (5, [.ref mr, .ref mc, .int u.2.2.2.2.1, .int u.2.2.2.2.2.1, .int u.2.2.2.2.2.2.1, .int u.2.2.2.2.2.2.2.1, .int u.2.2.2.2.2.2.2.2.1, .int u.2.2.2.2.2.2.2.2.2.1, .int u.2.2.2.2.2.2.2.2.2.2.1, .int (nI u.2.2.2.2.2.2.2.2.2.2.2.1)])), (mr, .inl (cmr, 4, .inl u.2.2.1)), (mc, .inl (cmc, 32, .inl u.2.2.2.1)), (hj, .inr (1, [.ref jb, .int (nI u.2.2.2.2.2.2.2.2.2.2.2.2.1), .int u.2.2.2.2.2.2.2.2.2.2.2.2.2.1, .int u.2.2.2.2.2.2.2.2.2.2.2.2.2.2.1, .int u.2.2.2.2.2.2.2.2.2.2.2.2.2.2.2.1])), (jb, .inl (cJ, 300, .inl fb)), (hr, .inr (2, [.ref hj, .ref ri, .int (nI u.2.2.2.2.2.2.2.2.2.2.2.2.2.2.2.2.1), .int u.2.2.2.2.2.2.2.2.2.2.2.2.2.2.2.2.2.1, .int u.2.2.2.2.2.2.2.2.2.2.2.2.2.2.2.2.2.2.1, .int u.2.2.2.2.2.2.2.2.2.2.2.2.2.2.2.2.2.2.2])), (ri, .inl (cR, 16, .inl fi))]) := by
  refine zk_enteri (cc := b_X_clear) (maxL := 2) (ret := some .int) (by decide) rfl (Nat.le_of_ble_eq_true rfl) ?_
  intro p e s m args below meth c A Q hQ X hRt hLk
  have hq := sp_X_clear.eq_1 xs pn fr fc
  refine zk_lv (lv' := [(0, .ref hx)]) [0] rfl ?_
  refine zk_aload_n (pc := 0) X d_X_clear_0 rfl (q := 0) rfl ?_
  refine zk_get (pc := 1) X (ci := 6) (v := .ref hp) in_X 0 rfl rfl 1 (by decide) (zk_m tw_142) rfl d_X_clear_1 ?_
  refine zk_get (pc := 4) X (ci := 0) (v := .int (nI pn)) in_P 1 rfl rfl 3 (by decide) (zk_m tw_32) rfl d_X_clear_4 ?_
  refine zk_istore_n (pc := 7) X (i := 1) (lv' := [(1, .int (nI pn)), (0, .ref hx)]) d_X_clear_7 rfl (by decide) rfl ?_
  refine zk_aload_n (pc := 8) X d_X_clear_8 rfl (q := 1) rfl ?_
  refine zk_get (pc := 9) X (ci := 6) (v := .ref hp) in_X 0 rfl rfl 1 (by decide) (zk_m tw_142) rfl d_X_clear_9 ?_
  refine zk_iconst (pc := 12) X (v := 0) d_X_clear_12 rfl ?_
  refine zk_put (pc := 13) X (ty := .int) (v := .int 0) (ws' := [(hx, .inr (6, [.int xs, .ref hp, .ref hj, .ref hr, .ref ht, .ref hm, .ref hk, .int xb])), (hp, .inr (0, [.ref po, .ref pf, .ref ps, .int 0])), (po, .inl (cPo, 24, .inl fo)), (pf, .inl (cPf, 24, .inl ff)), (ps, .inl (cPs, 24, .inl fs)), (hm, .inr (5, [.ref mr, .ref mc, .int mp, .int mb, .int mi, .int me, .int ml, .int mo, .int mt, .int (nI mS)])), (mr, .inl (cmr, 4, .inl fr)), (mc, .inl (cmc, 32, .inl fc)), (hj, .inr (1, [.ref jb, .int (nI jn), .int jm, .int jS, .int jl])), (jb, .inl (cJ, 300, .inl fb)), (hr, .inr (2, [.ref hj, .ref ri, .int (nI rw), .int rt, .int rq, .int rc])), (ri, .inl (cR, 16, .inl fi))]) in_P tok_P nok_P 1 rfl rfl 3 (by decide) (zk_m tw_32) rfl rfl rfl rfl (Nat.le_of_ble_eq_true rfl) d_X_clear_13 rfl ?_
  refine zk_aload_n (pc := 16) X d_X_clear_16 rfl (q := 1) rfl ?_
  refine zk_get (pc := 17) X (ci := 6) (v := .ref hm) in_X 0 rfl rfl 5 (by decide) (zk_m tw_146) rfl d_X_clear_17 ?_
  refine zk_aload_n (pc := 20) X d_X_clear_20 rfl (q := 1) rfl ?_
  refine zk_get (pc := 21) X (ci := 6) (v := .int xs) in_X 0 rfl rfl 0 (by decide) (zk_m tw_141) rfl d_X_clear_21 ?_
  refine zk_callv (pc := 24) X (wc := [(hm, .inr (5, [.ref mr, .ref mc, .int mp, .int mb, .int mi, .int me, .int ml, .int mo, .int mt, .int (nI mS)])), (mr, .inl (cmr, 4, .inl fr)), (mc, .inl (cmc, 32, .inl fc))]) (wr := [(hx, .inr (6, [.int xs, .ref hp, .ref hj, .ref hr, .ref ht, .ref hm, .ref hk, .int xb])), (hp, .inr (0, [.ref po, .ref pf, .ref ps, .int 0])), (po, .inl (cPo, 24, .inl fo)), (pf, .inl (cPf, 24, .inl ff)), (ps, .inl (cPs, 24, .inl fs)), (hj, .inr (1, [.ref jb, .int (nI jn), .int jm, .int jS, .int jl])), (jb, .inl (cJ, 300, .inl fb)), (hr, .inr (2, [.ref hj, .ref ri, .int (nI rw), .int rt, .int rq, .int rc])), (ri, .inl (cR, 16, .inl fi))]) [5, 6, 7] [0, 1, 2, 3, 4, 8, 9, 10, 11] rfl rfl (by decide) (by decide) (by decide) (zk_runV X (C := R_M) (tysC := [(cmr, .int), (cmc, .int)]) (As := [.int xs]) (rest := []) (c_M_restart l dC dI hm mr mc cmr cmc xs fr fc mp mb mi me ml mo mt mS) [3, 4] rfl (ci := 5) rfl 5 rfl (zk_cwV 1 X.1.2.2.2.2 (zk_goodT tw_175) rfl rfl rfl (zk_m tw_172) (zk_m tw_173) (zk_m tw_174) (zk_m tw_8) rfl (by decide +kernel) ⟨Nat.le_of_ble_eq_true rfl, Nat.le_of_ble_eq_true rfl⟩) rfl rfl (Nat.le_of_ble_eq_true rfl) ⟨Nat.zero_le _, Nat.zero_le _⟩ d_X_clear_24) ?_
  rintro ⟨fr_24, fc_24, mp_24, mb_24, mi_24, me_24, ml_24, mo_24, mt_24, mS_24⟩ w24
  refine zk_ws (ws' := [(hx, .inr (6, [.int xs, .ref hp, .ref hj, .ref hr, .ref ht, .ref hm, .ref hk, .int xb])), (hp, .inr (0, [.ref po, .ref pf, .ref ps, .int 0])), (po, .inl (cPo, 24, .inl fo)), (pf, .inl (cPf, 24, .inl ff)), (ps, .inl (cPs, 24, .inl fs)), (hj, .inr (1, [.ref jb, .int (nI jn), .int jm, .int jS, .int jl])), (jb, .inl (cJ, 300, .inl fb)), (hr, .inr (2, [.ref hj, .ref ri, .int (nI rw), .int rt, .int rq, .int rc])), (ri, .inl (cR, 16, .inl fi)), (hm, .inr (5, [.ref mr, .ref mc, .int mp_24, .int mb_24, .int mi_24, .int me_24, .int ml_24, .int mo_24, .int mt_24, .int (nI mS_24)])), (mr, .inl (cmr, 4, .inl fr_24)), (mc, .inl (cmc, 32, .inl fc_24))]) rfl ?_
  try dsimp only at w24
  rw [← w24] at hq
  try dsimp only at hq
  refine zk_aload_n (pc := 27) X d_X_clear_27 rfl (q := 1) rfl ?_
  refine zk_get (pc := 28) X (ci := 6) (v := .ref hj) in_X 0 rfl rfl 2 (by decide) (zk_m tw_143) rfl d_X_clear_28 ?_
  refine zk_callv (pc := 31) X (wc := [(hj, .inr (1, [.ref jb, .int (nI jn), .int jm, .int jS, .int jl])), (jb, .inl (cJ, 300, .inl fb))]) (wr := [(hx, .inr (6, [.int xs, .ref hp, .ref hj, .ref hr, .ref ht, .ref hm, .ref hk, .int xb])), (hp, .inr (0, [.ref po, .ref pf, .ref ps, .int 0])), (po, .inl (cPo, 24, .inl fo)), (pf, .inl (cPf, 24, .inl ff)), (ps, .inl (cPs, 24, .inl fs)), (hr, .inr (2, [.ref hj, .ref ri, .int (nI rw), .int rt, .int rq, .int rc])), (ri, .inl (cR, 16, .inl fi)), (hm, .inr (5, [.ref mr, .ref mc, .int mp_24, .int mb_24, .int mi_24, .int me_24, .int ml_24, .int mo_24, .int mt_24, .int (nI mS_24)])), (mr, .inl (cmr, 4, .inl fr_24)), (mc, .inl (cmc, 32, .inl fc_24))]) [5, 6] [0, 1, 2, 3, 4, 7, 8, 9, 10, 11] rfl rfl (by decide) (by decide) (by decide) (zk_runV X (C := R_J) (tysC := [(cJ, .int)]) (As := []) (rest := []) (c_J_restart l dC dI hj jb cJ fb jn jm jS jl) [5] rfl (ci := 1) rfl 5 rfl (zk_cwV 0 X.1.2.2.2.2 (zk_goodT tw_182) rfl rfl rfl (zk_m tw_179) (zk_m tw_180) (zk_m tw_181) (zk_m tw_3) rfl (by decide +kernel) ⟨Nat.le_of_ble_eq_true rfl, Nat.le_of_ble_eq_true rfl⟩) rfl rfl (Nat.le_of_ble_eq_true rfl) ⟨Nat.zero_le _, Nat.zero_le _⟩ d_X_clear_31) ?_
  rintro ⟨jn_31, jm_31, jS_31, jl_31⟩ w31
  refine zk_ws (ws' := [(hx, .inr (6, [.int xs, .ref hp, .ref hj, .ref hr, .ref ht, .ref hm, .ref hk, .int xb])), (hp, .inr (0, [.ref po, .ref pf, .ref ps, .int 0])), (po, .inl (cPo, 24, .inl fo)), (pf, .inl (cPf, 24, .inl ff)), (ps, .inl (cPs, 24, .inl fs)), (hr, .inr (2, [.ref hj, .ref ri, .int (nI rw), .int rt, .int rq, .int rc])), (ri, .inl (cR, 16, .inl fi)), (hm, .inr (5, [.ref mr, .ref mc, .int mp_24, .int mb_24, .int mi_24, .int me_24, .int ml_24, .int mo_24, .int mt_24, .int (nI mS_24)])), (mr, .inl (cmr, 4, .inl fr_24)), (mc, .inl (cmc, 32, .inl fc_24)), (hj, .inr (1, [.ref jb, .int (nI jn_31), .int jm_31, .int jS_31, .int jl_31])), (jb, .inl (cJ, 300, .inl fb))]) rfl ?_
  try dsimp only at w31
  rw [← w31] at hq
  try dsimp only at hq
  refine zk_aload_n (pc := 34) X d_X_clear_34 rfl (q := 1) rfl ?_
  refine zk_get (pc := 35) X (ci := 6) (v := .ref hr) in_X 0 rfl rfl 3 (by decide) (zk_m tw_144) rfl d_X_clear_35 ?_
  refine zk_callv (pc := 38) X (wc := [(hr, .inr (2, [.ref hj, .ref ri, .int (nI rw), .int rt, .int rq, .int rc])), (ri, .inl (cR, 16, .inl fi))]) (wr := [(hx, .inr (6, [.int xs, .ref hp, .ref hj, .ref hr, .ref ht, .ref hm, .ref hk, .int xb])), (hp, .inr (0, [.ref po, .ref pf, .ref ps, .int 0])), (po, .inl (cPo, 24, .inl fo)), (pf, .inl (cPf, 24, .inl ff)), (ps, .inl (cPs, 24, .inl fs)), (hm, .inr (5, [.ref mr, .ref mc, .int mp_24, .int mb_24, .int mi_24, .int me_24, .int ml_24, .int mo_24, .int mt_24, .int (nI mS_24)])), (mr, .inl (cmr, 4, .inl fr_24)), (mc, .inl (cmc, 32, .inl fc_24)), (hj, .inr (1, [.ref jb, .int (nI jn_31), .int jm_31, .int jS_31, .int jl_31])), (jb, .inl (cJ, 300, .inl fb))]) [5, 6] [0, 1, 2, 3, 4, 7, 8, 9, 10, 11] rfl rfl (by decide) (by decide) (by decide) (zk_runV X (C := R_R) (tysC := [(cR, .int)]) (As := []) (rest := []) (c_R_restart l dC dI hr hj ri cR fi rw rt rq rc) [6] rfl (ci := 2) rfl 5 rfl (zk_cwV 0 X.1.2.2.2.2 (zk_goodT tw_186) rfl rfl rfl (zk_m tw_183) (zk_m tw_184) (zk_m tw_185) (zk_m tw_5) rfl (by decide +kernel) ⟨Nat.le_of_ble_eq_true rfl, Nat.le_of_ble_eq_true rfl⟩) rfl rfl (Nat.le_of_ble_eq_true rfl) ⟨Nat.zero_le _, Nat.zero_le _⟩ d_X_clear_38) ?_
  rintro ⟨rw_38, rt_38, rq_38, rc_38⟩ w38
  refine zk_ws (ws' := [(hx, .inr (6, [.int xs, .ref hp, .ref hj, .ref hr, .ref ht, .ref hm, .ref hk, .int xb])), (hp, .inr (0, [.ref po, .ref pf, .ref ps, .int 0])), (po, .inl (cPo, 24, .inl fo)), (pf, .inl (cPf, 24, .inl ff)), (ps, .inl (cPs, 24, .inl fs)), (hm, .inr (5, [.ref mr, .ref mc, .int mp_24, .int mb_24, .int mi_24, .int me_24, .int ml_24, .int mo_24, .int mt_24, .int (nI mS_24)])), (mr, .inl (cmr, 4, .inl fr_24)), (mc, .inl (cmc, 32, .inl fc_24)), (hj, .inr (1, [.ref jb, .int (nI jn_31), .int jm_31, .int jS_31, .int jl_31])), (jb, .inl (cJ, 300, .inl fb)), (hr, .inr (2, [.ref hj, .ref ri, .int (nI rw_38), .int rt_38, .int rq_38, .int rc_38])), (ri, .inl (cR, 16, .inl fi))]) rfl ?_
  try dsimp only at w38
  rw [← w38] at hq
  try dsimp only at hq
  refine zk_aload_n (pc := 41) X d_X_clear_41 rfl (q := 1) rfl ?_
  refine zk_iconst (pc := 42) X (v := 0) d_X_clear_42 rfl ?_
  refine zk_put (pc := 43) X (ty := .boolean) (v := .int 0) (ws' := [(hx, .inr (6, [.int xs, .ref hp, .ref hj, .ref hr, .ref ht, .ref hm, .ref hk, .int 0])), (hp, .inr (0, [.ref po, .ref pf, .ref ps, .int 0])), (po, .inl (cPo, 24, .inl fo)), (pf, .inl (cPf, 24, .inl ff)), (ps, .inl (cPs, 24, .inl fs)), (hm, .inr (5, [.ref mr, .ref mc, .int mp_24, .int mb_24, .int mi_24, .int me_24, .int ml_24, .int mo_24, .int mt_24, .int (nI mS_24)])), (mr, .inl (cmr, 4, .inl fr_24)), (mc, .inl (cmc, 32, .inl fc_24)), (hj, .inr (1, [.ref jb, .int (nI jn_31), .int jm_31, .int jS_31, .int jl_31])), (jb, .inl (cJ, 300, .inl fb)), (hr, .inr (2, [.ref hj, .ref ri, .int (nI rw_38), .int rt_38, .int rq_38, .int rc_38])), (ri, .inl (cR, 16, .inl fi))]) in_X tok_X nok_X 0 rfl rfl 7 (by decide) (zk_m tw_148) rfl rfl rfl rfl (Nat.le_of_ble_eq_true rfl) d_X_clear_43 rfl ?_
  refine zk_iload_n (pc := 46) X d_X_clear_46 rfl (q := 0) rfl ?_
  exact zk_iret (pc := 47) X hQ hRt hLk (0, 0, fr_24, fc_24, mp_24, mb_24, mi_24, me_24, ml_24, mo_24, mt_24, mS_24, jn_31, jm_31, jS_31, jl_31, rw_38, rt_38, rq_38, rc_38) hq.symm [0, 1, 2, 3, 4, 5, 6, 7, 8, 9, 10, 11] rfl (by decide) d_X_clear_47
def sp_X_run_22 (n : Int32) (fo : Nat → Int32) (ff : Nat → Int32) (fs : Nat → Int32) (pn : Nat) (rc : Int32) : Nat → Nat → Nat → (Nat → Int32) → (Nat → Int32) → Int32 → Int32 → Int32 → Int32 → Int32 → Int32 → Int32 → Nat → (Nat → Int32) → Nat → Int32 → Int32 → (Nat → Int32) → Nat → Int32 → Int32 → Int32 → Int32 × Int32 × (Nat → Int32) × (Nat → Int32) × Int32 × Int32 × Int32 × Int32 × Int32 × Int32 × Int32 × Nat × (Nat → Int32) × Nat × Int32 × Int32 × (Nat → Int32) × Nat × Int32 × Int32 × Int32
  | 0, dn, j, fr1, fc1, mp1, mb1, mi1, me1, ml1, mo1, mt1, mS1, fi1, rw1, rt1, rq1, fb1, jn1, jm1, jS1, jl1 => (0, 1, fr1, fc1, mp1, mb1, mi1, me1, ml1, mo1, mt1, mS1, fi1, rw1, rt1, rq1, fb1, jn1, jm1, jS1, jl1)
  | fuel + 1, dn, j, fr1, fc1, mp1, mb1, mi1, me1, ml1, mo1, mt1, mS1, fi1, rw1, rt1, rq1, fb1, jn1, jm1, jS1, jl1 =>
    if n ≤ (nI j) then
      (nI dn, 1, fr1, fc1, mp1, mb1, mi1, me1, ml1, mo1, mt1, mS1, fi1, rw1, rt1, rq1, fb1, jn1, jm1, jS1, jl1)
    else
      if 290 < jn1 then
        (nI dn, 1, fr1, fc1, mp1, mb1, mi1, me1, ml1, mo1, mt1, mS1, fi1, rw1, rt1, rq1, fb1, jn1, jm1, jS1, jl1)
      else
        (match sp_M_stepR fr1 fc1 mp1 mb1 mi1 me1 ml1 mo1 mt1 mS1 fo ff fs pn fi1 rw1 rt1 rq1 rc fb1 jn1 jm1 jS1 jl1 with
        | (r52, fr_52, fc_52, mp_52, mb_52, mi_52, me_52, ml_52, mo_52, mt_52, mS_52, rq_52, fi_52, rw_52, rt_52, fb_52, jn_52, jm_52, jS_52, jl_52) =>
          if r52 = 0 then
            (nI dn, 1, fr_52, fc_52, mp_52, mb_52, mi_52, me_52, ml_52, mo_52, mt_52, mS_52, fi_52, rw_52, rt_52, rq_52, fb_52, jn_52, jm_52, jS_52, jl_52)
          else
            sp_X_run_22 n fo ff fs pn rc fuel (dn + 1) (j + 1) fr_52 fc_52 mp_52 mb_52 mi_52 me_52 ml_52 mo_52 mt_52 mS_52 fi_52 rw_52 rt_52 rq_52 fb_52 jn_52 jm_52 jS_52 jl_52)
def sp_X_run (n : Int32) (xb : Int32) (fo : Nat → Int32) (ff : Nat → Int32) (fs : Nat → Int32) (pn : Nat) (fr : Nat → Int32) (fc : Nat → Int32) (mp : Int32) (mb : Int32) (mi : Int32) (me : Int32) (ml : Int32) (mo : Int32) (mt : Int32) (mS : Nat) (fi : Nat → Int32) (rw : Nat) (rt : Int32) (rq : Int32) (rc : Int32) (fb : Nat → Int32) (jn : Nat) (jm : Int32) (jS : Int32) (jl : Int32) : Int32 × Int32 × (Nat → Int32) × (Nat → Int32) × Int32 × Int32 × Int32 × Int32 × Int32 × Int32 × Int32 × Nat × (Nat → Int32) × Nat × Int32 × Int32 × (Nat → Int32) × Nat × Int32 × Int32 × Int32 :=
  if n < 1 then
    ((-1), xb, fr, fc, mp, mb, mi, me, ml, mo, mt, mS, fi, rw, rt, rq, fb, jn, jm, jS, jl)
  else
    if n ≤ 100 then
      sp_X_run_22 n fo ff fs pn rc 101 0 0 fr fc mp mb mi me ml mo mt mS fi rw rt rq fb jn jm jS jl
    else
      ((-1), xb, fr, fc, mp, mb, mi, me, ml, mo, mt, mS, fi, rw, rt, rq, fb, jn, jm, jS, jl)
abbrev rm_X_run : Room := { frames := 7, cells := 0, slots := 0, locals := 161 }
set_option maxHeartbeats 4000000 in
set_option maxRecDepth 100000 in
theorem c_X_run (l : Launch) (dC : Nat → ClassId) (dI : Nat → Nat → Nat) (hx hp hj hr ht hm hk po pf ps mr mc ri jb : Nat) (cPo cPf cPs cmr cmc cR cJ : ClassId) (n : Int32) (xs : Int32) (xb : Int32) (fo : Nat → Int32) (ff : Nat → Int32) (fs : Nat → Int32) (pn : Nat) (fr : Nat → Int32) (fc : Nat → Int32) (mp : Int32) (mb : Int32) (mi : Int32) (me : Int32) (ml : Int32) (mo : Int32) (mt : Int32) (mS : Nat) (fi : Nat → Int32) (rw : Nat) (rt : Int32) (rq : Int32) (rc : Int32) (fb : Nat → Int32) (jn : Nat) (jm : Int32) (jS : Int32) (jl : Int32) (hpn : pn ≤ 24) (hrw : rw ≤ 16) (hjn : jn ≤ 300) : zk_Ci l y_X_run w_X_run rm_X_run (dC, dI) vwCl [.ref hx, .int n] [(hx, .inr (6, [.int xs, .ref hp, .ref hj, .ref hr, .ref ht, .ref hm, .ref hk, .int xb])), (hp, .inr (0, [.ref po, .ref pf, .ref ps, .int (nI pn)])), (po, .inl (cPo, 24, .inl fo)), (pf, .inl (cPf, 24, .inl ff)), (ps, .inl (cPs, 24, .inl fs)), (hm, .inr (5, [.ref mr, .ref mc, .int mp, .int mb, .int mi, .int me, .int ml, .int mo, .int mt, .int (nI mS)])), (mr, .inl (cmr, 4, .inl fr)), (mc, .inl (cmc, 32, .inl fc)), (hr, .inr (2, [.ref hj, .ref ri, .int (nI rw), .int rt, .int rq, .int rc])), (ri, .inl (cR, 16, .inl fi)), (hj, .inr (1, [.ref jb, .int (nI jn), .int jm, .int jS, .int jl])), (jb, .inl (cJ, 300, .inl fb))] [(cPo, .int), (cPf, .int), (cPs, .int), (cmr, .int), (cmc, .int), (cR, .int), (cJ, .int)] (fun (r : Int32) (u : Int32 × (Nat → Int32) × (Nat → Int32) × Int32 × Int32 × Int32 × Int32 × Int32 × Int32 × Int32 × Nat × (Nat → Int32) × Nat × Int32 × Int32 × (Nat → Int32) × Nat × Int32 × Int32 × Int32) => (r, u) = sp_X_run n xb fo ff fs pn fr fc mp mb mi me ml mo mt mS fi rw rt rq rc fb jn jm jS jl ∧ (u.2.2.2.2.2.2.2.2.2.2.2.2.1 ≤ 16) ∧ (u.2.2.2.2.2.2.2.2.2.2.2.2.2.2.2.2.1 ≤ 300)) (fun u => [(hx, .inr (6, [.int xs, .ref hp, .ref hj, .ref hr, .ref ht, .ref hm, .ref hk, .int u.1])), (hp, .inr (0, [.ref po, .ref pf, .ref ps, .int (nI pn)])), (po, .inl (cPo, 24, .inl fo)), (pf, .inl (cPf, 24, .inl ff)), (ps, .inl (cPs, 24, .inl fs)), (hm, .inr (5, [.ref mr, .ref mc, .int u.2.2.2.1, .int u.2.2.2.2.1, .int u.2.2.2.2.2.1, .int u.2.2.2.2.2.2.1, .int u.2.2.2.2.2.2.2.1, .int u.2.2.2.2.2.2.2.2.1, .int u.2.2.2.2.2.2.2.2.2.1, .int (nI u.2.2.2.2.2.2.2.2.2.2.1)])), (mr, .inl (cmr, 4, .inl u.2.1)), (mc, .inl (cmc, 32, .inl u.2.2.1)), (hr, .inr (2, [.ref hj, .ref ri, .int (nI u.2.2.2.2.2.2.2.2.2.2.2.2.1), .int u.2.2.2.2.2.2.2.2.2.2.2.2.2.1, .int u.2.2.2.2.2.2.2.2.2.2.2.2.2.2.1, .int rc])), (ri, .inl (cR, 16, .inl u.2.2.2.2.2.2.2.2.2.2.2.1)), (hj, .inr (1, [.ref jb, .int (nI u.2.2.2.2.2.2.2.2.2.2.2.2.2.2.2.2.1), .int u.2.2.2.2.2.2.2.2.2.2.2.2.2.2.2.2.2.1, .int u.2.2.2.2.2.2.2.2.2.2.2.2.2.2.2.2.2.2.1, .int u.2.2.2.2.2.2.2.2.2.2.2.2.2.2.2.2.2.2.2])), (jb, .inl (cJ, 300, .inl u.2.2.2.2.2.2.2.2.2.2.2.2.2.2.2.1))]) := by
  refine zk_enteri (cc := b_X_run) (maxL := 4) (ret := some .int) (by decide) rfl (Nat.le_of_ble_eq_true rfl) ?_
  intro p e s m args below meth c A Q hQ X hRt hLk
  have cut22 : ∀ (fuel : Nat) (dn : Nat) (j : Nat) (fr1 : Nat → Int32) (fc1 : Nat → Int32) (mp1 : Int32) (mb1 : Int32) (mi1 : Int32) (me1 : Int32) (ml1 : Int32) (mo1 : Int32) (mt1 : Int32) (mS1 : Nat) (fi1 : Nat → Int32) (rw1 : Nat) (rt1 : Int32) (rq1 : Int32) (fb1 : Nat → Int32) (jn1 : Nat) (jm1 : Int32) (jS1 : Int32) (jl1 : Int32), ¬ (100 : Int32) < n → j ≤ 100 → rw1 ≤ 16 → jn1 ≤ 300 → 100 - j < fuel → sp_X_run n xb fo ff fs pn fr fc mp mb mi me ml mo mt mS fi rw rt rq rc fb jn jm jS jl = sp_X_run_22 n fo ff fs pn rc fuel dn j fr1 fc1 mp1 mb1 mi1 me1 ml1 mo1 mt1 mS1 fi1 rw1 rt1 rq1 fb1 jn1 jm1 jS1 jl1 → zk_Z p l e rm_X_run s m args below meth c Q A (dC, dI) vwCl 4 0 0 [(hx, .inr (6, [.int xs, .ref hp, .ref hj, .ref hr, .ref ht, .ref hm, .ref hk, .int 1])), (hp, .inr (0, [.ref po, .ref pf, .ref ps, .int (nI pn)])), (po, .inl (cPo, 24, .inl fo)), (pf, .inl (cPf, 24, .inl ff)), (ps, .inl (cPs, 24, .inl fs)), (hm, .inr (5, [.ref mr, .ref mc, .int mp1, .int mb1, .int mi1, .int me1, .int ml1, .int mo1, .int mt1, .int (nI mS1)])), (mr, .inl (cmr, 4, .inl fr1)), (mc, .inl (cmc, 32, .inl fc1)), (hr, .inr (2, [.ref hj, .ref ri, .int (nI rw1), .int rt1, .int rq1, .int rc])), (ri, .inl (cR, 16, .inl fi1)), (hj, .inr (1, [.ref jb, .int (nI jn1), .int jm1, .int jS1, .int jl1])), (jb, .inl (cJ, 300, .inl fb1))] [(0, .ref hx), (1, .int n), (2, .int (nI dn)), (3, .int (nI j))] [] 22 := by
    intro fuel
    induction fuel with
    | zero => intro dn j fr1 fc1 mp1 mb1 mi1 me1 ml1 mo1 mt1 mS1 fi1 rw1 rt1 rq1 fb1 jn1 jm1 jS1 jl1 hN hjj hw1 hn1 hMs; exact absurd hMs (Nat.not_lt_zero _)
    | succ fuel ih =>
      intro dn j fr1 fc1 mp1 mb1 mi1 me1 ml1 mo1 mt1 mS1 fi1 rw1 rt1 rq1 fb1 jn1 jm1 jS1 jl1 hN hjj hw1 hn1 hMs hq
      rw [sp_X_run_22] at hq
      refine zk_iload_n (pc := 22) X d_X_run_22 rfl (q := 3) rfl ?_
      refine zk_iload_n (pc := 23) X d_X_run_23 rfl (q := 1) rfl ?_
      refine zk_icmp_ge (pc := 24) X (tgt := 70) d_X_run_24 (by decide) (fun h24 => ?_) (fun h24 => ?_)
      · have hq := hq.trans (if_pos h24)
        refine zk_iload_n (pc := 70) X d_X_run_70 rfl (q := 2) rfl ?_
        exact zk_iret (pc := 71) X hQ hRt hLk (1, fr1, fc1, mp1, mb1, mi1, me1, ml1, mo1, mt1, mS1, fi1, rw1, rt1, rq1, fb1, jn1, jm1, jS1, jl1) ⟨hq.symm, (show rw1 ≤ 16 by omega), (show jn1 ≤ 300 by omega)⟩ [0, 1, 2, 3, 4, 5, 6, 7, 8, 9, 10, 11] rfl (by decide) d_X_run_71
      · have hq := hq.trans (if_neg h24)
        have g27 : j < 100 := zk_lt100 hN h24 hjj
        refine zk_aload_n (pc := 27) X d_X_run_27 rfl (q := 0) rfl ?_
        refine zk_get (pc := 28) X (ci := 6) (v := .ref hj) in_X 0 rfl rfl 2 (by decide) (zk_m tw_143) rfl d_X_run_28 ?_
        refine zk_get (pc := 31) X (ci := 1) (v := .int (nI jn1)) in_J 10 rfl rfl 1 (by decide) (zk_m tw_47) rfl d_X_run_31 ?_
        refine zk_sipush (pc := 34) X (v := 290) d_X_run_34 (by decide) ?_
        refine zk_icmpN_gt (pc := 37) X (tgt := 70) (jn1) (290) rfl rfl (by omega) (by omega) d_X_run_37 (by decide) (fun h37 => ?_) (fun h37 => ?_)
        · have hq := hq.trans (if_pos h37)
          refine zk_iload_n (pc := 70) X d_X_run_70 rfl (q := 2) rfl ?_
          exact zk_iret (pc := 71) X hQ hRt hLk (1, fr1, fc1, mp1, mb1, mi1, me1, ml1, mo1, mt1, mS1, fi1, rw1, rt1, rq1, fb1, jn1, jm1, jS1, jl1) ⟨hq.symm, (show rw1 ≤ 16 by omega), (show jn1 ≤ 300 by omega)⟩ [0, 1, 2, 3, 4, 5, 6, 7, 8, 9, 10, 11] rfl (by decide) d_X_run_71
        · have hq := hq.trans (if_neg h37)
          refine zk_aload_n (pc := 40) X d_X_run_40 rfl (q := 0) rfl ?_
          refine zk_get (pc := 41) X (ci := 6) (v := .ref hm) in_X 0 rfl rfl 5 (by decide) (zk_m tw_146) rfl d_X_run_41 ?_
          refine zk_aload_n (pc := 44) X d_X_run_44 rfl (q := 0) rfl ?_
          refine zk_get (pc := 45) X (ci := 6) (v := .ref hp) in_X 0 rfl rfl 1 (by decide) (zk_m tw_142) rfl d_X_run_45 ?_
          refine zk_aload_n (pc := 48) X d_X_run_48 rfl (q := 0) rfl ?_
          refine zk_get (pc := 49) X (ci := 6) (v := .ref hr) in_X 0 rfl rfl 3 (by decide) (zk_m tw_144) rfl d_X_run_49 ?_
          refine zk_calli (pc := 52) X (wc := [(hm, .inr (5, [.ref mr, .ref mc, .int mp1, .int mb1, .int mi1, .int me1, .int ml1, .int mo1, .int mt1, .int (nI mS1)])), (mr, .inl (cmr, 4, .inl fr1)), (mc, .inl (cmc, 32, .inl fc1)), (hp, .inr (0, [.ref po, .ref pf, .ref ps, .int (nI pn)])), (po, .inl (cPo, 24, .inl fo)), (pf, .inl (cPf, 24, .inl ff)), (ps, .inl (cPs, 24, .inl fs)), (hr, .inr (2, [.ref hj, .ref ri, .int (nI rw1), .int rt1, .int rq1, .int rc])), (ri, .inl (cR, 16, .inl fi1)), (hj, .inr (1, [.ref jb, .int (nI jn1), .int jm1, .int jS1, .int jl1])), (jb, .inl (cJ, 300, .inl fb1))]) (wr := [(hx, .inr (6, [.int xs, .ref hp, .ref hj, .ref hr, .ref ht, .ref hm, .ref hk, .int 1]))]) [5, 6, 7, 1, 2, 3, 4, 8, 9, 10, 11] [0] rfl rfl (by decide) (by decide) (by decide) (zk_runV X (C := R_M) (tysC := [(cmr, .int), (cmc, .int), (cPo, .int), (cPf, .int), (cPs, .int), (cR, .int), (cJ, .int)]) (As := [.ref hp, .ref hr]) (rest := []) (c_M_stepR l dC dI hm mr mc hp po pf ps hr hj ri jb cmr cmc cPo cPf cPs cR cJ fr1 fc1 mp1 mb1 mi1 me1 ml1 mo1 mt1 mS1 fo ff fs pn fi1 rw1 rt1 rq1 rc fb1 jn1 jm1 jS1 jl1 (by omega) (by omega) (by omega)) [3, 4, 0, 1, 2, 5, 6] rfl (ci := 5) rfl 5 rfl (zk_cwV 2 X.1.2.2.2.2 (zk_goodT tw_211) rfl rfl rfl (zk_m tw_208) (zk_m tw_209) (zk_m tw_210) (zk_m tw_8) rfl (by decide +kernel) ⟨Nat.le_of_ble_eq_true rfl, Nat.le_of_ble_eq_true rfl⟩) rfl rfl (Nat.le_of_ble_eq_true rfl) ⟨Nat.zero_le _, Nat.zero_le _⟩ d_X_run_52) ?_
          rintro r52 ⟨fr_52, fc_52, mp_52, mb_52, mi_52, me_52, ml_52, mo_52, mt_52, mS_52, rq_52, fi_52, rw_52, rt_52, fb_52, jn_52, jm_52, jS_52, jl_52⟩ ⟨w52, f52_0, f52_1⟩
          have f52_0 : rw_52 ≤ 16 := f52_0
          have f52_1 : jn_52 ≤ 300 := f52_1
          refine zk_ws (ws' := [(hx, .inr (6, [.int xs, .ref hp, .ref hj, .ref hr, .ref ht, .ref hm, .ref hk, .int 1])), (hm, .inr (5, [.ref mr, .ref mc, .int mp_52, .int mb_52, .int mi_52, .int me_52, .int ml_52, .int mo_52, .int mt_52, .int (nI mS_52)])), (mr, .inl (cmr, 4, .inl fr_52)), (mc, .inl (cmc, 32, .inl fc_52)), (hp, .inr (0, [.ref po, .ref pf, .ref ps, .int (nI pn)])), (po, .inl (cPo, 24, .inl fo)), (pf, .inl (cPf, 24, .inl ff)), (ps, .inl (cPs, 24, .inl fs)), (hr, .inr (2, [.ref hj, .ref ri, .int (nI rw_52), .int rt_52, .int rq_52, .int rc])), (ri, .inl (cR, 16, .inl fi_52)), (hj, .inr (1, [.ref jb, .int (nI jn_52), .int jm_52, .int jS_52, .int jl_52])), (jb, .inl (cJ, 300, .inl fb_52))]) rfl ?_
          try dsimp only at w52
          rw [← w52] at hq
          try dsimp only at hq
          refine zk_if_ne (pc := 55) X (tgt := 61) d_X_run_55 (by decide) (fun h55 => ?_) (fun h55 => ?_)
          · have hq := hq.trans (if_neg h55)
            refine zk_iinc (pc := 61) X (k0 := 2) (v := nI (dn + 1)) (lv' := [(2, .int (nI (dn + 1))), (0, .ref hx), (1, .int n), (3, .int (nI j))]) d_X_run_61 rfl (nI_add (dn) 1) (by decide) rfl ?_
            refine zk_iinc (pc := 64) X (k0 := 3) (v := nI (j + 1)) (lv' := [(3, .int (nI (j + 1))), (2, .int (nI (dn + 1))), (0, .ref hx), (1, .int n)]) d_X_run_64 rfl (nI_add (j) 1) (by decide) rfl ?_
            refine zk_goto (pc := 67) X (tgt := 22) d_X_run_67 (by decide) ?_
            refine zk_perm (ws' := [(hx, .inr (6, [.int xs, .ref hp, .ref hj, .ref hr, .ref ht, .ref hm, .ref hk, .int 1])), (hp, .inr (0, [.ref po, .ref pf, .ref ps, .int (nI pn)])), (po, .inl (cPo, 24, .inl fo)), (pf, .inl (cPf, 24, .inl ff)), (ps, .inl (cPs, 24, .inl fs)), (hm, .inr (5, [.ref mr, .ref mc, .int mp_52, .int mb_52, .int mi_52, .int me_52, .int ml_52, .int mo_52, .int mt_52, .int (nI mS_52)])), (mr, .inl (cmr, 4, .inl fr_52)), (mc, .inl (cmc, 32, .inl fc_52)), (hr, .inr (2, [.ref hj, .ref ri, .int (nI rw_52), .int rt_52, .int rq_52, .int rc])), (ri, .inl (cR, 16, .inl fi_52)), (hj, .inr (1, [.ref jb, .int (nI jn_52), .int jm_52, .int jS_52, .int jl_52])), (jb, .inl (cJ, 300, .inl fb_52))]) [0, 4, 5, 6, 7, 1, 2, 3, 8, 9, 10, 11] rfl (by decide) ?_
            refine zk_lv (lv' := [(0, .ref hx), (1, .int n), (2, .int (nI (dn + 1))), (3, .int (nI (j + 1)))]) [2, 3, 1, 0] rfl ?_
            exact ih (dn + 1) (j + 1) fr_52 fc_52 mp_52 mb_52 mi_52 me_52 ml_52 mo_52 mt_52 mS_52 fi_52 rw_52 rt_52 rq_52 fb_52 jn_52 jm_52 jS_52 jl_52 hN (by omega) (by omega) (by omega) (by omega) hq
          · have hq := hq.trans (if_pos h55)
            refine zk_goto (pc := 58) X (tgt := 70) d_X_run_58 (by decide) ?_
            refine zk_iload_n (pc := 70) X d_X_run_70 rfl (q := 2) rfl ?_
            exact zk_iret (pc := 71) X hQ hRt hLk (1, fr_52, fc_52, mp_52, mb_52, mi_52, me_52, ml_52, mo_52, mt_52, mS_52, fi_52, rw_52, rt_52, rq_52, fb_52, jn_52, jm_52, jS_52, jl_52) ⟨hq.symm, (show rw_52 ≤ 16 by omega), (show jn_52 ≤ 300 by omega)⟩ [0, 4, 5, 6, 7, 1, 2, 3, 8, 9, 10, 11] rfl (by decide) d_X_run_71
  have hq := sp_X_run.eq_1 n xb fo ff fs pn fr fc mp mb mi me ml mo mt mS fi rw rt rq rc fb jn jm jS jl
  refine zk_lv (lv' := [(0, .ref hx), (1, .int n)]) [0, 1] rfl ?_
  refine zk_iload_n (pc := 0) X d_X_run_0 rfl (q := 1) rfl ?_
  refine zk_iconst (pc := 1) X (v := 1) d_X_run_1 rfl ?_
  refine zk_icmp_lt (pc := 2) X (tgt := 11) d_X_run_2 (by decide) (fun h2 => ?_) (fun h2 => ?_)
  · have hq := hq.trans (if_pos h2)
    refine zk_iconst (pc := 11) X (v := (-1)) d_X_run_11 rfl ?_
    exact zk_iret (pc := 12) X hQ hRt hLk (xb, fr, fc, mp, mb, mi, me, ml, mo, mt, mS, fi, rw, rt, rq, fb, jn, jm, jS, jl) ⟨hq.symm, (show rw ≤ 16 by omega), (show jn ≤ 300 by omega)⟩ [0, 1, 2, 3, 4, 5, 6, 7, 8, 9, 10, 11] rfl (by decide) d_X_run_12
  · have hq := hq.trans (if_neg h2)
    refine zk_iload_n (pc := 5) X d_X_run_5 rfl (q := 1) rfl ?_
    refine zk_bipush (pc := 6) X (v := 100) d_X_run_6 (by decide) ?_
    refine zk_icmp_le (pc := 8) X (tgt := 13) d_X_run_8 (by decide) (fun h8 => ?_) (fun h8 => ?_)
    · have hq := hq.trans (if_pos h8)
      refine zk_aload_n (pc := 13) X d_X_run_13 rfl (q := 0) rfl ?_
      refine zk_iconst (pc := 14) X (v := 1) d_X_run_14 rfl ?_
      refine zk_put (pc := 15) X (ty := .boolean) (v := .int 1) (ws' := [(hx, .inr (6, [.int xs, .ref hp, .ref hj, .ref hr, .ref ht, .ref hm, .ref hk, .int 1])), (hp, .inr (0, [.ref po, .ref pf, .ref ps, .int (nI pn)])), (po, .inl (cPo, 24, .inl fo)), (pf, .inl (cPf, 24, .inl ff)), (ps, .inl (cPs, 24, .inl fs)), (hm, .inr (5, [.ref mr, .ref mc, .int mp, .int mb, .int mi, .int me, .int ml, .int mo, .int mt, .int (nI mS)])), (mr, .inl (cmr, 4, .inl fr)), (mc, .inl (cmc, 32, .inl fc)), (hr, .inr (2, [.ref hj, .ref ri, .int (nI rw), .int rt, .int rq, .int rc])), (ri, .inl (cR, 16, .inl fi)), (hj, .inr (1, [.ref jb, .int (nI jn), .int jm, .int jS, .int jl])), (jb, .inl (cJ, 300, .inl fb))]) in_X tok_X nok_X 0 rfl rfl 7 (by decide) (zk_m tw_148) rfl rfl rfl rfl (Nat.le_of_ble_eq_true rfl) d_X_run_15 rfl ?_
      refine zk_iconst (pc := 18) X (v := 0) d_X_run_18 rfl ?_
      refine zk_istore_n (pc := 19) X (i := 2) (lv' := [(2, .int 0), (0, .ref hx), (1, .int n)]) d_X_run_19 rfl (by decide) rfl ?_
      refine zk_iconst (pc := 20) X (v := 0) d_X_run_20 rfl ?_
      refine zk_istore_n (pc := 21) X (i := 3) (lv' := [(3, .int 0), (2, .int 0), (0, .ref hx), (1, .int n)]) d_X_run_21 rfl (by decide) rfl ?_
      refine zk_lv (lv' := [(0, .ref hx), (1, .int n), (2, .int 0), (3, .int 0)]) [2, 3, 1, 0] rfl ?_
      exact cut22 (101) 0 0 fr fc mp mb mi me ml mo mt mS fi rw rt rq fb jn jm jS jl (Int32.not_lt.mpr h8) (by omega) (by omega) (by omega) (by omega) hq
    · have hq := hq.trans (if_neg h8)
      refine zk_iconst (pc := 11) X (v := (-1)) d_X_run_11 rfl ?_
      exact zk_iret (pc := 12) X hQ hRt hLk (xb, fr, fc, mp, mb, mi, me, ml, mo, mt, mS, fi, rw, rt, rq, fb, jn, jm, jS, jl) ⟨hq.symm, (show rw ≤ 16 by omega), (show jn ≤ 300 by omega)⟩ [0, 1, 2, 3, 4, 5, 6, 7, 8, 9, 10, 11] rfl (by decide) d_X_run_12
def sp_X_tell_95 (fr : Nat → Int32) (fc : Nat → Int32) (mp : Int32) (mi : Int32) (me : Int32) (mo : Int32) (mt : Int32) (mS : Nat) (kfr2 : Nat → Int32) (kfc2 : Nat → Int32) (kp2 : Int32) (kb2 : Int32) (ki2 : Int32) (ke2 : Int32) (kl2 : Int32) (ko2 : Int32) (kt2 : Int32) (kS2 : Nat) (tt2 : Int32) (dp2 : Nat) (de2 : Int32) (dB2 : Int32) (ds2 : Int64) (dk2 : Int32) (dv2 : Int32) : Int32 × (Nat → Int32) × (Nat → Int32) × Int32 × Int32 × Int32 × Int32 × Int32 × Int32 × Int32 × Nat × Int32 × Nat × Int32 × Int32 × Int64 × Int32 × Int32 :=
  if (sp_M_looksLike kfr2 kfc2 kp2 ki2 ke2 ko2 kt2 kS2 fr fc mp mi me mo mt mS) = 0 then
    (0, kfr2, kfc2, kp2, kb2, ki2, ke2, kl2, ko2, kt2, kS2, tt2, dp2, de2, dB2, ds2, dk2, dv2)
  else
    (1, kfr2, kfc2, kp2, kb2, ki2, ke2, kl2, ko2, kt2, kS2, tt2, dp2, de2, dB2, ds2, dk2, dv2)
def sp_X_tell_57 (fo : Nat → Int32) (ff : Nat → Int32) (fs : Nat → Int32) (pn : Nat) (fr : Nat → Int32) (fc : Nat → Int32) (mp : Int32) (mi : Int32) (me : Int32) (mo : Int32) (mt : Int32) (mS : Nat) (fb : Nat → Int32) (jn : Nat) : Nat → Nat → (Nat → Int32) → (Nat → Int32) → Int32 → Int32 → Int32 → Int32 → Int32 → Int32 → Int32 → Nat → Int32 → Nat → Int32 → Int32 → Int64 → Int32 → Int32 → Int32 × (Nat → Int32) × (Nat → Int32) × Int32 × Int32 × Int32 × Int32 × Int32 × Int32 × Int32 × Nat × Int32 × Nat × Int32 × Int32 × Int64 × Int32 × Int32
  | 0, j, kfr1, kfc1, kp1, kb1, ki1, ke1, kl1, ko1, kt1, kS1, tt1, dp1, de1, dB1, ds1, dk1, dv1 => (0, kfr1, kfc1, kp1, kb1, ki1, ke1, kl1, ko1, kt1, kS1, tt1, dp1, de1, dB1, ds1, dk1, dv1)
  | fuel + 1, j, kfr1, kfc1, kp1, kb1, ki1, ke1, kl1, ko1, kt1, kS1, tt1, dp1, de1, dB1, ds1, dk1, dv1 =>
    if mS ≤ j then
      sp_X_tell_95 fr fc mp mi me mo mt mS kfr1 kfc1 kp1 kb1 ki1 ke1 kl1 ko1 kt1 kS1 tt1 dp1 de1 dB1 ds1 dk1 dv1
    else
      (match sp_M_stepT kfr1 kfc1 kp1 kb1 ki1 ke1 kl1 ko1 kt1 kS1 fo ff fs pn tt1 dp1 de1 dB1 ds1 dk1 dv1 fb jn with
      | (r80, fr_80, fc_80, mp_80, mb_80, mi_80, me_80, ml_80, mo_80, mt_80, mS_80, tt_80, dp_80, de_80, dB_80, ds_80, dk_80, dv_80) =>
        if r80 = 0 then
          sp_X_tell_95 fr fc mp mi me mo mt mS fr_80 fc_80 mp_80 mb_80 mi_80 me_80 ml_80 mo_80 mt_80 mS_80 tt_80 dp_80 de_80 dB_80 ds_80 dk_80 dv_80
        else
          sp_X_tell_57 fo ff fs pn fr fc mp mi me mo mt mS fb jn fuel (j + 1) fr_80 fc_80 mp_80 mb_80 mi_80 me_80 ml_80 mo_80 mt_80 mS_80 tt_80 dp_80 de_80 dB_80 ds_80 dk_80 dv_80)
def sp_X_tell (sv : Int32) (n : Int32) (xs : Int32) (fo : Nat → Int32) (ff : Nat → Int32) (fs : Nat → Int32) (pn : Nat) (fr : Nat → Int32) (fc : Nat → Int32) (mp : Int32) (mi : Int32) (me : Int32) (mo : Int32) (mt : Int32) (mS : Nat) (kfr : Nat → Int32) (kfc : Nat → Int32) (kp : Int32) (kb : Int32) (ki : Int32) (ke : Int32) (kl : Int32) (ko : Int32) (kt : Int32) (kS : Nat) (tt : Int32) (dp : Nat) (de : Int32) (dB : Int32) (ds : Int64) (dk : Int32) (dv : Int32) (fb : Nat → Int32) (jn : Nat) : Int32 × (Nat → Int32) × (Nat → Int32) × Int32 × Int32 × Int32 × Int32 × Int32 × Int32 × Int32 × Nat × Int32 × Nat × Int32 × Int32 × Int64 × Int32 × Int32 :=
  if n = (nI jn) then
    if sv = (sp_J_sealNow fb jn) then
      (match sp_T_isReadable dk dv fb jn with
      | (r28, dp_28, de_28, dB_28, ds_28, dk_28, dv_28) =>
        if r28 = 0 then
          ((-2), kfr, kfc, kp, kb, ki, ke, kl, ko, kt, kS, tt, dp_28, de_28, dB_28, ds_28, dk_28, dv_28)
        else
          (match sp_M_restart xs kfr kfc with
          | (fr_45, fc_45, mp_45, mb_45, mi_45, me_45, ml_45, mo_45, mt_45, mS_45) =>
            (match sp_T_restart dk_28 dv_28 fb jn with
            | (tt_52, dp_52, de_52, dB_52, ds_52, dk_52, dv_52) =>
              sp_X_tell_57 fo ff fs pn fr fc mp mi me mo mt mS fb jn (mS + 1) 0 fr_45 fc_45 mp_45 mb_45 mi_45 me_45 ml_45 mo_45 mt_45 mS_45 tt_52 dp_52 de_52 dB_52 ds_52 dk_52 dv_52)))
    else
      ((-1), kfr, kfc, kp, kb, ki, ke, kl, ko, kt, kS, tt, dp, de, dB, ds, dk, dv)
  else
    ((-1), kfr, kfc, kp, kb, ki, ke, kl, ko, kt, kS, tt, dp, de, dB, ds, dk, dv)
abbrev rm_X_tell : Room := { frames := 7, cells := 0, slots := 0, locals := 160 }
set_option maxHeartbeats 4000000 in
set_option maxRecDepth 100000 in
theorem c_X_tell (l : Launch) (dC : Nat → ClassId) (dI : Nat → Nat → Nat) (hx hp hj hr ht hm hk po pf ps mr mc kr kc hd jb : Nat) (cPo cPf cPs cmr cmc ckr ckc cJ : ClassId) (sv : Int32) (n : Int32) (xs : Int32) (xb : Int32) (fo : Nat → Int32) (ff : Nat → Int32) (fs : Nat → Int32) (pn : Nat) (fr : Nat → Int32) (fc : Nat → Int32) (mp : Int32) (mb : Int32) (mi : Int32) (me : Int32) (ml : Int32) (mo : Int32) (mt : Int32) (mS : Nat) (kfr : Nat → Int32) (kfc : Nat → Int32) (kp : Int32) (kb : Int32) (ki : Int32) (ke : Int32) (kl : Int32) (ko : Int32) (kt : Int32) (kS : Nat) (tt : Int32) (dp : Nat) (de : Int32) (dB : Int32) (ds : Int64) (dk : Int32) (dv : Int32) (fb : Nat → Int32) (jn : Nat) (jm : Int32) (jS : Int32) (jl : Int32) (hpn : pn ≤ 24) (hjn : jn ≤ 300) (hmS : mS < 2 ^ 31) : zk_Ci l y_X_tell w_X_tell rm_X_tell (dC, dI) vwCl [.ref hx, .int sv, .int n] [(hx, .inr (6, [.int xs, .ref hp, .ref hj, .ref hr, .ref ht, .ref hm, .ref hk, .int xb])), (hp, .inr (0, [.ref po, .ref pf, .ref ps, .int (nI pn)])), (po, .inl (cPo, 24, .inl fo)), (pf, .inl (cPf, 24, .inl ff)), (ps, .inl (cPs, 24, .inl fs)), (hm, .inr (5, [.ref mr, .ref mc, .int mp, .int mb, .int mi, .int me, .int ml, .int mo, .int mt, .int (nI mS)])), (mr, .inl (cmr, 4, .inl fr)), (mc, .inl (cmc, 32, .inl fc)), (hk, .inr (5, [.ref kr, .ref kc, .int kp, .int kb, .int ki, .int ke, .int kl, .int ko, .int kt, .int (nI kS)])), (kr, .inl (ckr, 4, .inl kfr)), (kc, .inl (ckc, 32, .inl kfc)), (ht, .inr (3, [.ref hd, .int tt])), (hd, .inr (4, [.ref hj, .int (nI dp), .int de, .int dB, .long ds, .int dk, .int dv])), (hj, .inr (1, [.ref jb, .int (nI jn), .int jm, .int jS, .int jl])), (jb, .inl (cJ, 300, .inl fb))] [(cPo, .int), (cPf, .int), (cPs, .int), (cmr, .int), (cmc, .int), (ckr, .int), (ckc, .int), (cJ, .int)] (fun (r : Int32) (u : (Nat → Int32) × (Nat → Int32) × Int32 × Int32 × Int32 × Int32 × Int32 × Int32 × Int32 × Nat × Int32 × Nat × Int32 × Int32 × Int64 × Int32 × Int32) => (r, u) = sp_X_tell sv n xs fo ff fs pn fr fc mp mi me mo mt mS kfr kfc kp kb ki ke kl ko kt kS tt dp de dB ds dk dv fb jn) (fun u => [(hx, .inr (6, [.int xs, .ref hp, .ref hj, .ref hr, .ref ht, .ref hm, .ref hk, .int xb])), (hp, .inr (0, [.ref po, .ref pf, .ref ps, .int (nI pn)])), (po, .inl (cPo, 24, .inl fo)), (pf, .inl (cPf, 24, .inl ff)), (ps, .inl (cPs, 24, .inl fs)), (hm, .inr (5, [.ref mr, .ref mc, .int mp, .int mb, .int mi, .int me, .int ml, .int mo, .int mt, .int (nI mS)])), (mr, .inl (cmr, 4, .inl fr)), (mc, .inl (cmc, 32, .inl fc)), (hk, .inr (5, [.ref kr, .ref kc, .int u.2.2.1, .int u.2.2.2.1, .int u.2.2.2.2.1, .int u.2.2.2.2.2.1, .int u.2.2.2.2.2.2.1, .int u.2.2.2.2.2.2.2.1, .int u.2.2.2.2.2.2.2.2.1, .int (nI u.2.2.2.2.2.2.2.2.2.1)])), (kr, .inl (ckr, 4, .inl u.1)), (kc, .inl (ckc, 32, .inl u.2.1)), (ht, .inr (3, [.ref hd, .int u.2.2.2.2.2.2.2.2.2.2.1])), (hd, .inr (4, [.ref hj, .int (nI u.2.2.2.2.2.2.2.2.2.2.2.1), .int u.2.2.2.2.2.2.2.2.2.2.2.2.1, .int u.2.2.2.2.2.2.2.2.2.2.2.2.2.1, .long u.2.2.2.2.2.2.2.2.2.2.2.2.2.2.1, .int u.2.2.2.2.2.2.2.2.2.2.2.2.2.2.2.1, .int u.2.2.2.2.2.2.2.2.2.2.2.2.2.2.2.2])), (hj, .inr (1, [.ref jb, .int (nI jn), .int jm, .int jS, .int jl])), (jb, .inl (cJ, 300, .inl fb))]) := by
  refine zk_enteri (cc := b_X_tell) (maxL := 4) (ret := some .int) (by decide) rfl (Nat.le_of_ble_eq_true rfl) ?_
  intro p e s m args below meth c A Q hQ X hRt hLk
  have cut95 : ∀ (kfr2 : Nat → Int32) (kfc2 : Nat → Int32) (kp2 : Int32) (kb2 : Int32) (ki2 : Int32) (ke2 : Int32) (kl2 : Int32) (ko2 : Int32) (kt2 : Int32) (kS2 : Nat) (tt2 : Int32) (dp2 : Nat) (de2 : Int32) (dB2 : Int32) (ds2 : Int64) (dk2 : Int32) (dv2 : Int32), sp_X_tell sv n xs fo ff fs pn fr fc mp mi me mo mt mS kfr kfc kp kb ki ke kl ko kt kS tt dp de dB ds dk dv fb jn = sp_X_tell_95 fr fc mp mi me mo mt mS kfr2 kfc2 kp2 kb2 ki2 ke2 kl2 ko2 kt2 kS2 tt2 dp2 de2 dB2 ds2 dk2 dv2 → zk_Z p l e rm_X_tell s m args below meth c Q A (dC, dI) vwCl 4 0 0 [(hx, .inr (6, [.int xs, .ref hp, .ref hj, .ref hr, .ref ht, .ref hm, .ref hk, .int xb])), (hp, .inr (0, [.ref po, .ref pf, .ref ps, .int (nI pn)])), (po, .inl (cPo, 24, .inl fo)), (pf, .inl (cPf, 24, .inl ff)), (ps, .inl (cPs, 24, .inl fs)), (hm, .inr (5, [.ref mr, .ref mc, .int mp, .int mb, .int mi, .int me, .int ml, .int mo, .int mt, .int (nI mS)])), (mr, .inl (cmr, 4, .inl fr)), (mc, .inl (cmc, 32, .inl fc)), (hk, .inr (5, [.ref kr, .ref kc, .int kp2, .int kb2, .int ki2, .int ke2, .int kl2, .int ko2, .int kt2, .int (nI kS2)])), (kr, .inl (ckr, 4, .inl kfr2)), (kc, .inl (ckc, 32, .inl kfc2)), (ht, .inr (3, [.ref hd, .int tt2])), (hd, .inr (4, [.ref hj, .int (nI dp2), .int de2, .int dB2, .long ds2, .int dk2, .int dv2])), (hj, .inr (1, [.ref jb, .int (nI jn), .int jm, .int jS, .int jl])), (jb, .inl (cJ, 300, .inl fb))] [(0, .ref hx)] [] 95 := by
    intro kfr2 kfc2 kp2 kb2 ki2 ke2 kl2 ko2 kt2 kS2 tt2 dp2 de2 dB2 ds2 dk2 dv2  hq
    rw [sp_X_tell_95] at hq
    refine zk_aload_n (pc := 95) X d_X_tell_95 rfl (q := 0) rfl ?_
    refine zk_get (pc := 96) X (ci := 6) (v := .ref hk) in_X 0 rfl rfl 6 (by decide) (zk_m tw_147) rfl d_X_tell_96 ?_
    refine zk_aload_n (pc := 99) X d_X_tell_99 rfl (q := 0) rfl ?_
    refine zk_get (pc := 100) X (ci := 6) (v := .ref hm) in_X 0 rfl rfl 5 (by decide) (zk_m tw_146) rfl d_X_tell_100 ?_
    refine zk_calli (pc := 103) X (wc := [(hk, .inr (5, [.ref kr, .ref kc, .int kp2, .int kb2, .int ki2, .int ke2, .int kl2, .int ko2, .int kt2, .int (nI kS2)])), (kr, .inl (ckr, 4, .inl kfr2)), (kc, .inl (ckc, 32, .inl kfc2)), (hm, .inr (5, [.ref mr, .ref mc, .int mp, .int mb, .int mi, .int me, .int ml, .int mo, .int mt, .int (nI mS)])), (mr, .inl (cmr, 4, .inl fr)), (mc, .inl (cmc, 32, .inl fc))]) (wr := [(hx, .inr (6, [.int xs, .ref hp, .ref hj, .ref hr, .ref ht, .ref hm, .ref hk, .int xb])), (hp, .inr (0, [.ref po, .ref pf, .ref ps, .int (nI pn)])), (po, .inl (cPo, 24, .inl fo)), (pf, .inl (cPf, 24, .inl ff)), (ps, .inl (cPs, 24, .inl fs)), (ht, .inr (3, [.ref hd, .int tt2])), (hd, .inr (4, [.ref hj, .int (nI dp2), .int de2, .int dB2, .long ds2, .int dk2, .int dv2])), (hj, .inr (1, [.ref jb, .int (nI jn), .int jm, .int jS, .int jl])), (jb, .inl (cJ, 300, .inl fb))]) [8, 9, 10, 5, 6, 7] [0, 1, 2, 3, 4, 11, 12, 13, 14] rfl rfl (by decide) (by decide) (by decide) (zk_runV X (C := R_M) (tysC := [(ckr, .int), (ckc, .int), (cmr, .int), (cmc, .int)]) (As := [.ref hm]) (rest := []) (c_M_looksLike l dC dI hk kr kc hm mr mc ckr ckc cmr cmc kfr2 kfc2 kp2 kb2 ki2 ke2 kl2 ko2 kt2 kS2 fr fc mp mb mi me ml mo mt mS) [5, 6, 3, 4] rfl (ci := 5) rfl 8 rfl (zk_cwV 1 X.1.2.2.2.2 (zk_goodT tw_327) rfl rfl rfl (zk_m tw_324) (zk_m tw_325) (zk_m tw_326) (zk_m tw_8) rfl (by decide +kernel) ⟨Nat.le_of_ble_eq_true rfl, Nat.le_of_ble_eq_true rfl⟩) rfl rfl (Nat.le_of_ble_eq_true rfl) ⟨Nat.zero_le _, Nat.zero_le _⟩ d_X_tell_103) ?_
    rintro r103 ⟨⟩ w103
    refine zk_ws (ws' := [(hx, .inr (6, [.int xs, .ref hp, .ref hj, .ref hr, .ref ht, .ref hm, .ref hk, .int xb])), (hp, .inr (0, [.ref po, .ref pf, .ref ps, .int (nI pn)])), (po, .inl (cPo, 24, .inl fo)), (pf, .inl (cPf, 24, .inl ff)), (ps, .inl (cPs, 24, .inl fs)), (ht, .inr (3, [.ref hd, .int tt2])), (hd, .inr (4, [.ref hj, .int (nI dp2), .int de2, .int dB2, .long ds2, .int dk2, .int dv2])), (hj, .inr (1, [.ref jb, .int (nI jn), .int jm, .int jS, .int jl])), (jb, .inl (cJ, 300, .inl fb)), (hk, .inr (5, [.ref kr, .ref kc, .int kp2, .int kb2, .int ki2, .int ke2, .int kl2, .int ko2, .int kt2, .int (nI kS2)])), (kr, .inl (ckr, 4, .inl kfr2)), (kc, .inl (ckc, 32, .inl kfc2)), (hm, .inr (5, [.ref mr, .ref mc, .int mp, .int mb, .int mi, .int me, .int ml, .int mo, .int mt, .int (nI mS)])), (mr, .inl (cmr, 4, .inl fr)), (mc, .inl (cmc, 32, .inl fc))]) rfl ?_
    subst w103
    refine zk_if_eq (pc := 106) X (tgt := 113) d_X_tell_106 (by decide) (fun h106 => ?_) (fun h106 => ?_)
    · have hq := hq.trans (if_pos h106)
      refine zk_iconst (pc := 113) X (v := 0) d_X_tell_113 rfl ?_
      exact zk_iret (pc := 114) X hQ hRt hLk (kfr2, kfc2, kp2, kb2, ki2, ke2, kl2, ko2, kt2, kS2, tt2, dp2, de2, dB2, ds2, dk2, dv2) hq.symm [0, 1, 2, 3, 4, 12, 13, 14, 9, 10, 11, 5, 6, 7, 8] rfl (by decide) d_X_tell_114
    · have hq := hq.trans (if_neg h106)
      refine zk_iconst (pc := 109) X (v := 1) d_X_tell_109 rfl ?_
      refine zk_goto (pc := 110) X (tgt := 114) d_X_tell_110 (by decide) ?_
      exact zk_iret (pc := 114) X hQ hRt hLk (kfr2, kfc2, kp2, kb2, ki2, ke2, kl2, ko2, kt2, kS2, tt2, dp2, de2, dB2, ds2, dk2, dv2) hq.symm [0, 1, 2, 3, 4, 12, 13, 14, 9, 10, 11, 5, 6, 7, 8] rfl (by decide) d_X_tell_114
  have cut57 : ∀ (fuel : Nat) (j : Nat) (kfr1 : Nat → Int32) (kfc1 : Nat → Int32) (kp1 : Int32) (kb1 : Int32) (ki1 : Int32) (ke1 : Int32) (kl1 : Int32) (ko1 : Int32) (kt1 : Int32) (kS1 : Nat) (tt1 : Int32) (dp1 : Nat) (de1 : Int32) (dB1 : Int32) (ds1 : Int64) (dk1 : Int32) (dv1 : Int32), j ≤ mS → dp1 ≤ jn → mS - j < fuel → sp_X_tell sv n xs fo ff fs pn fr fc mp mi me mo mt mS kfr kfc kp kb ki ke kl ko kt kS tt dp de dB ds dk dv fb jn = sp_X_tell_57 fo ff fs pn fr fc mp mi me mo mt mS fb jn fuel j kfr1 kfc1 kp1 kb1 ki1 ke1 kl1 ko1 kt1 kS1 tt1 dp1 de1 dB1 ds1 dk1 dv1 → zk_Z p l e rm_X_tell s m args below meth c Q A (dC, dI) vwCl 4 0 0 [(hx, .inr (6, [.int xs, .ref hp, .ref hj, .ref hr, .ref ht, .ref hm, .ref hk, .int xb])), (hp, .inr (0, [.ref po, .ref pf, .ref ps, .int (nI pn)])), (po, .inl (cPo, 24, .inl fo)), (pf, .inl (cPf, 24, .inl ff)), (ps, .inl (cPs, 24, .inl fs)), (hm, .inr (5, [.ref mr, .ref mc, .int mp, .int mb, .int mi, .int me, .int ml, .int mo, .int mt, .int (nI mS)])), (mr, .inl (cmr, 4, .inl fr)), (mc, .inl (cmc, 32, .inl fc)), (hk, .inr (5, [.ref kr, .ref kc, .int kp1, .int kb1, .int ki1, .int ke1, .int kl1, .int ko1, .int kt1, .int (nI kS1)])), (kr, .inl (ckr, 4, .inl kfr1)), (kc, .inl (ckc, 32, .inl kfc1)), (ht, .inr (3, [.ref hd, .int tt1])), (hd, .inr (4, [.ref hj, .int (nI dp1), .int de1, .int dB1, .long ds1, .int dk1, .int dv1])), (hj, .inr (1, [.ref jb, .int (nI jn), .int jm, .int jS, .int jl])), (jb, .inl (cJ, 300, .inl fb))] [(0, .ref hx), (1, .int sv), (2, .int n), (3, .int (nI j))] [] 57 := by
    intro fuel
    induction fuel with
    | zero => intro j kfr1 kfc1 kp1 kb1 ki1 ke1 kl1 ko1 kt1 kS1 tt1 dp1 de1 dB1 ds1 dk1 dv1 hjj hd1 hMs; exact absurd hMs (Nat.not_lt_zero _)
    | succ fuel ih =>
      intro j kfr1 kfc1 kp1 kb1 ki1 ke1 kl1 ko1 kt1 kS1 tt1 dp1 de1 dB1 ds1 dk1 dv1 hjj hd1 hMs hq
      rw [sp_X_tell_57] at hq
      refine zk_iload_n (pc := 57) X d_X_tell_57 rfl (q := 3) rfl ?_
      refine zk_aload_n (pc := 58) X d_X_tell_58 rfl (q := 0) rfl ?_
      refine zk_get (pc := 59) X (ci := 6) (v := .ref hm) in_X 0 rfl rfl 5 (by decide) (zk_m tw_146) rfl d_X_tell_59 ?_
      refine zk_get (pc := 62) X (ci := 5) (v := .int (nI mS)) in_M 5 rfl rfl 9 (by decide) (zk_m tw_130) rfl d_X_tell_62 ?_
      refine zk_icmpN_ge (pc := 65) X (tgt := 95) (j) (mS) rfl rfl (by omega) (by omega) d_X_tell_65 (by decide) (fun h65 => ?_) (fun h65 => ?_)
      · have hq := hq.trans (if_pos h65)
        refine zk_lv (lv' := [(0, .ref hx)]) [0] rfl ?_
        exact cut95 kfr1 kfc1 kp1 kb1 ki1 ke1 kl1 ko1 kt1 kS1 tt1 dp1 de1 dB1 ds1 dk1 dv1 hq
      · have hq := hq.trans (if_neg h65)
        refine zk_aload_n (pc := 68) X d_X_tell_68 rfl (q := 0) rfl ?_
        refine zk_get (pc := 69) X (ci := 6) (v := .ref hk) in_X 0 rfl rfl 6 (by decide) (zk_m tw_147) rfl d_X_tell_69 ?_
        refine zk_aload_n (pc := 72) X d_X_tell_72 rfl (q := 0) rfl ?_
        refine zk_get (pc := 73) X (ci := 6) (v := .ref hp) in_X 0 rfl rfl 1 (by decide) (zk_m tw_142) rfl d_X_tell_73 ?_
        refine zk_aload_n (pc := 76) X d_X_tell_76 rfl (q := 0) rfl ?_
        refine zk_get (pc := 77) X (ci := 6) (v := .ref ht) in_X 0 rfl rfl 4 (by decide) (zk_m tw_145) rfl d_X_tell_77 ?_
        refine zk_calli (pc := 80) X (wc := [(hk, .inr (5, [.ref kr, .ref kc, .int kp1, .int kb1, .int ki1, .int ke1, .int kl1, .int ko1, .int kt1, .int (nI kS1)])), (kr, .inl (ckr, 4, .inl kfr1)), (kc, .inl (ckc, 32, .inl kfc1)), (hp, .inr (0, [.ref po, .ref pf, .ref ps, .int (nI pn)])), (po, .inl (cPo, 24, .inl fo)), (pf, .inl (cPf, 24, .inl ff)), (ps, .inl (cPs, 24, .inl fs)), (ht, .inr (3, [.ref hd, .int tt1])), (hd, .inr (4, [.ref hj, .int (nI dp1), .int de1, .int dB1, .long ds1, .int dk1, .int dv1])), (hj, .inr (1, [.ref jb, .int (nI jn), .int jm, .int jS, .int jl])), (jb, .inl (cJ, 300, .inl fb))]) (wr := [(hx, .inr (6, [.int xs, .ref hp, .ref hj, .ref hr, .ref ht, .ref hm, .ref hk, .int xb])), (hm, .inr (5, [.ref mr, .ref mc, .int mp, .int mb, .int mi, .int me, .int ml, .int mo, .int mt, .int (nI mS)])), (mr, .inl (cmr, 4, .inl fr)), (mc, .inl (cmc, 32, .inl fc))]) [8, 9, 10, 1, 2, 3, 4, 11, 12, 13, 14] [0, 5, 6, 7] rfl rfl (by decide) (by decide) (by decide) (zk_runV X (C := R_M) (tysC := [(ckr, .int), (ckc, .int), (cPo, .int), (cPf, .int), (cPs, .int), (cJ, .int)]) (As := [.ref hp, .ref ht]) (rest := []) (c_M_stepT l dC dI hk kr kc hp po pf ps ht hd hj jb ckr ckc cPo cPf cPs cJ kfr1 kfc1 kp1 kb1 ki1 ke1 kl1 ko1 kt1 kS1 fo ff fs pn tt1 dp1 de1 dB1 ds1 dk1 dv1 fb jn jm jS jl (by omega) (by omega) (by omega)) [5, 6, 0, 1, 2, 7] rfl (ci := 5) rfl 8 rfl (zk_cwV 2 X.1.2.2.2.2 (zk_goodT tw_211) rfl rfl rfl (zk_m tw_208) (zk_m tw_209) (zk_m tw_210) (zk_m tw_8) rfl (by decide +kernel) ⟨Nat.le_of_ble_eq_true rfl, Nat.le_of_ble_eq_true rfl⟩) rfl rfl (Nat.le_of_ble_eq_true rfl) ⟨Nat.zero_le _, Nat.zero_le _⟩ d_X_tell_80) ?_
        rintro r80 ⟨fr_80, fc_80, mp_80, mb_80, mi_80, me_80, ml_80, mo_80, mt_80, mS_80, tt_80, dp_80, de_80, dB_80, ds_80, dk_80, dv_80⟩ ⟨w80, f80_0⟩
        have f80_0 : dp_80 ≤ jn := f80_0
        refine zk_ws (ws' := [(hx, .inr (6, [.int xs, .ref hp, .ref hj, .ref hr, .ref ht, .ref hm, .ref hk, .int xb])), (hm, .inr (5, [.ref mr, .ref mc, .int mp, .int mb, .int mi, .int me, .int ml, .int mo, .int mt, .int (nI mS)])), (mr, .inl (cmr, 4, .inl fr)), (mc, .inl (cmc, 32, .inl fc)), (hk, .inr (5, [.ref kr, .ref kc, .int mp_80, .int mb_80, .int mi_80, .int me_80, .int ml_80, .int mo_80, .int mt_80, .int (nI mS_80)])), (kr, .inl (ckr, 4, .inl fr_80)), (kc, .inl (ckc, 32, .inl fc_80)), (hp, .inr (0, [.ref po, .ref pf, .ref ps, .int (nI pn)])), (po, .inl (cPo, 24, .inl fo)), (pf, .inl (cPf, 24, .inl ff)), (ps, .inl (cPs, 24, .inl fs)), (ht, .inr (3, [.ref hd, .int tt_80])), (hd, .inr (4, [.ref hj, .int (nI dp_80), .int de_80, .int dB_80, .long ds_80, .int dk_80, .int dv_80])), (hj, .inr (1, [.ref jb, .int (nI jn), .int jm, .int jS, .int jl])), (jb, .inl (cJ, 300, .inl fb))]) rfl ?_
        try dsimp only at w80
        rw [← w80] at hq
        try dsimp only at hq
        refine zk_if_ne (pc := 83) X (tgt := 89) d_X_tell_83 (by decide) (fun h83 => ?_) (fun h83 => ?_)
        · have hq := hq.trans (if_neg h83)
          refine zk_iinc (pc := 89) X (k0 := 3) (v := nI (j + 1)) (lv' := [(3, .int (nI (j + 1))), (0, .ref hx), (1, .int sv), (2, .int n)]) d_X_tell_89 rfl (nI_add (j) 1) (by decide) rfl ?_
          refine zk_goto (pc := 92) X (tgt := 57) d_X_tell_92 (by decide) ?_
          refine zk_perm (ws' := [(hx, .inr (6, [.int xs, .ref hp, .ref hj, .ref hr, .ref ht, .ref hm, .ref hk, .int xb])), (hp, .inr (0, [.ref po, .ref pf, .ref ps, .int (nI pn)])), (po, .inl (cPo, 24, .inl fo)), (pf, .inl (cPf, 24, .inl ff)), (ps, .inl (cPs, 24, .inl fs)), (hm, .inr (5, [.ref mr, .ref mc, .int mp, .int mb, .int mi, .int me, .int ml, .int mo, .int mt, .int (nI mS)])), (mr, .inl (cmr, 4, .inl fr)), (mc, .inl (cmc, 32, .inl fc)), (hk, .inr (5, [.ref kr, .ref kc, .int mp_80, .int mb_80, .int mi_80, .int me_80, .int ml_80, .int mo_80, .int mt_80, .int (nI mS_80)])), (kr, .inl (ckr, 4, .inl fr_80)), (kc, .inl (ckc, 32, .inl fc_80)), (ht, .inr (3, [.ref hd, .int tt_80])), (hd, .inr (4, [.ref hj, .int (nI dp_80), .int de_80, .int dB_80, .long ds_80, .int dk_80, .int dv_80])), (hj, .inr (1, [.ref jb, .int (nI jn), .int jm, .int jS, .int jl])), (jb, .inl (cJ, 300, .inl fb))]) [0, 7, 8, 9, 10, 1, 2, 3, 4, 5, 6, 11, 12, 13, 14] rfl (by decide) ?_
          refine zk_lv (lv' := [(0, .ref hx), (1, .int sv), (2, .int n), (3, .int (nI (j + 1)))]) [1, 2, 3, 0] rfl ?_
          exact ih (j + 1) fr_80 fc_80 mp_80 mb_80 mi_80 me_80 ml_80 mo_80 mt_80 mS_80 tt_80 dp_80 de_80 dB_80 ds_80 dk_80 dv_80 (by omega) (by omega) (by omega) hq
        · have hq := hq.trans (if_pos h83)
          refine zk_goto (pc := 86) X (tgt := 95) d_X_tell_86 (by decide) ?_
          refine zk_perm (ws' := [(hx, .inr (6, [.int xs, .ref hp, .ref hj, .ref hr, .ref ht, .ref hm, .ref hk, .int xb])), (hp, .inr (0, [.ref po, .ref pf, .ref ps, .int (nI pn)])), (po, .inl (cPo, 24, .inl fo)), (pf, .inl (cPf, 24, .inl ff)), (ps, .inl (cPs, 24, .inl fs)), (hm, .inr (5, [.ref mr, .ref mc, .int mp, .int mb, .int mi, .int me, .int ml, .int mo, .int mt, .int (nI mS)])), (mr, .inl (cmr, 4, .inl fr)), (mc, .inl (cmc, 32, .inl fc)), (hk, .inr (5, [.ref kr, .ref kc, .int mp_80, .int mb_80, .int mi_80, .int me_80, .int ml_80, .int mo_80, .int mt_80, .int (nI mS_80)])), (kr, .inl (ckr, 4, .inl fr_80)), (kc, .inl (ckc, 32, .inl fc_80)), (ht, .inr (3, [.ref hd, .int tt_80])), (hd, .inr (4, [.ref hj, .int (nI dp_80), .int de_80, .int dB_80, .long ds_80, .int dk_80, .int dv_80])), (hj, .inr (1, [.ref jb, .int (nI jn), .int jm, .int jS, .int jl])), (jb, .inl (cJ, 300, .inl fb))]) [0, 7, 8, 9, 10, 1, 2, 3, 4, 5, 6, 11, 12, 13, 14] rfl (by decide) ?_
          refine zk_lv (lv' := [(0, .ref hx)]) [0] rfl ?_
          exact cut95 fr_80 fc_80 mp_80 mb_80 mi_80 me_80 ml_80 mo_80 mt_80 mS_80 tt_80 dp_80 de_80 dB_80 ds_80 dk_80 dv_80 hq
  have hq := sp_X_tell.eq_1 sv n xs fo ff fs pn fr fc mp mi me mo mt mS kfr kfc kp kb ki ke kl ko kt kS tt dp de dB ds dk dv fb jn
  refine zk_lv (lv' := [(0, .ref hx), (1, .int sv), (2, .int n)]) [0, 1, 2] rfl ?_
  refine zk_iload_n (pc := 0) X d_X_tell_0 rfl (q := 2) rfl ?_
  refine zk_aload_n (pc := 1) X d_X_tell_1 rfl (q := 0) rfl ?_
  refine zk_get (pc := 2) X (ci := 6) (v := .ref hj) in_X 0 rfl rfl 2 (by decide) (zk_m tw_143) rfl d_X_tell_2 ?_
  refine zk_get (pc := 5) X (ci := 1) (v := .int (nI jn)) in_J 13 rfl rfl 1 (by decide) (zk_m tw_47) rfl d_X_tell_5 ?_
  refine zk_icmp_ne (pc := 8) X (tgt := 22) d_X_tell_8 (by decide) (fun h8 => ?_) (fun h8 => ?_)
  · have hq := hq.trans (if_neg h8)
    refine zk_iconst (pc := 22) X (v := (-1)) d_X_tell_22 rfl ?_
    exact zk_iret (pc := 23) X hQ hRt hLk (kfr, kfc, kp, kb, ki, ke, kl, ko, kt, kS, tt, dp, de, dB, ds, dk, dv) hq.symm [0, 1, 2, 3, 4, 5, 6, 7, 8, 9, 10, 11, 12, 13, 14] rfl (by decide) d_X_tell_23
  · have hq := hq.trans (if_pos h8)
    refine zk_iload_n (pc := 11) X d_X_tell_11 rfl (q := 1) rfl ?_
    refine zk_aload_n (pc := 12) X d_X_tell_12 rfl (q := 0) rfl ?_
    refine zk_get (pc := 13) X (ci := 6) (v := .ref hj) in_X 0 rfl rfl 2 (by decide) (zk_m tw_143) rfl d_X_tell_13 ?_
    refine zk_calli (pc := 16) X (wc := [(hj, .inr (1, [.ref jb, .int (nI jn), .int jm, .int jS, .int jl])), (jb, .inl (cJ, 300, .inl fb))]) (wr := [(hx, .inr (6, [.int xs, .ref hp, .ref hj, .ref hr, .ref ht, .ref hm, .ref hk, .int xb])), (hp, .inr (0, [.ref po, .ref pf, .ref ps, .int (nI pn)])), (po, .inl (cPo, 24, .inl fo)), (pf, .inl (cPf, 24, .inl ff)), (ps, .inl (cPs, 24, .inl fs)), (hm, .inr (5, [.ref mr, .ref mc, .int mp, .int mb, .int mi, .int me, .int ml, .int mo, .int mt, .int (nI mS)])), (mr, .inl (cmr, 4, .inl fr)), (mc, .inl (cmc, 32, .inl fc)), (hk, .inr (5, [.ref kr, .ref kc, .int kp, .int kb, .int ki, .int ke, .int kl, .int ko, .int kt, .int (nI kS)])), (kr, .inl (ckr, 4, .inl kfr)), (kc, .inl (ckc, 32, .inl kfc)), (ht, .inr (3, [.ref hd, .int tt])), (hd, .inr (4, [.ref hj, .int (nI dp), .int de, .int dB, .long ds, .int dk, .int dv]))]) [13, 14] [0, 1, 2, 3, 4, 5, 6, 7, 8, 9, 10, 11, 12] rfl rfl (by decide) (by decide) (by decide) (zk_runV X (C := R_J) (tysC := [(cJ, .int)]) (As := []) (rest := [.int sv]) (c_J_sealNow l dC dI hj jb cJ fb jn jm jS jl (by omega)) [7] rfl (ci := 1) rfl 13 rfl (zk_cwV 0 X.1.2.2.2.2 (zk_goodT tw_310) rfl rfl rfl (zk_m tw_307) (zk_m tw_308) (zk_m tw_309) (zk_m tw_3) rfl (by decide +kernel) ⟨Nat.le_of_ble_eq_true rfl, Nat.le_of_ble_eq_true rfl⟩) rfl rfl (Nat.le_of_ble_eq_true rfl) ⟨Nat.zero_le _, Nat.zero_le _⟩ d_X_tell_16) ?_
    rintro r16 ⟨⟩ w16
    refine zk_ws (ws' := [(hx, .inr (6, [.int xs, .ref hp, .ref hj, .ref hr, .ref ht, .ref hm, .ref hk, .int xb])), (hp, .inr (0, [.ref po, .ref pf, .ref ps, .int (nI pn)])), (po, .inl (cPo, 24, .inl fo)), (pf, .inl (cPf, 24, .inl ff)), (ps, .inl (cPs, 24, .inl fs)), (hm, .inr (5, [.ref mr, .ref mc, .int mp, .int mb, .int mi, .int me, .int ml, .int mo, .int mt, .int (nI mS)])), (mr, .inl (cmr, 4, .inl fr)), (mc, .inl (cmc, 32, .inl fc)), (hk, .inr (5, [.ref kr, .ref kc, .int kp, .int kb, .int ki, .int ke, .int kl, .int ko, .int kt, .int (nI kS)])), (kr, .inl (ckr, 4, .inl kfr)), (kc, .inl (ckc, 32, .inl kfc)), (ht, .inr (3, [.ref hd, .int tt])), (hd, .inr (4, [.ref hj, .int (nI dp), .int de, .int dB, .long ds, .int dk, .int dv])), (hj, .inr (1, [.ref jb, .int (nI jn), .int jm, .int jS, .int jl])), (jb, .inl (cJ, 300, .inl fb))]) rfl ?_
    subst w16
    refine zk_icmp_eq (pc := 19) X (tgt := 24) d_X_tell_19 (by decide) (fun h19 => ?_) (fun h19 => ?_)
    · have hq := hq.trans (if_pos h19)
      refine zk_aload_n (pc := 24) X d_X_tell_24 rfl (q := 0) rfl ?_
      refine zk_get (pc := 25) X (ci := 6) (v := .ref ht) in_X 0 rfl rfl 4 (by decide) (zk_m tw_145) rfl d_X_tell_25 ?_
      refine zk_calli (pc := 28) X (wc := [(ht, .inr (3, [.ref hd, .int tt])), (hd, .inr (4, [.ref hj, .int (nI dp), .int de, .int dB, .long ds, .int dk, .int dv])), (hj, .inr (1, [.ref jb, .int (nI jn), .int jm, .int jS, .int jl])), (jb, .inl (cJ, 300, .inl fb))]) (wr := [(hx, .inr (6, [.int xs, .ref hp, .ref hj, .ref hr, .ref ht, .ref hm, .ref hk, .int xb])), (hp, .inr (0, [.ref po, .ref pf, .ref ps, .int (nI pn)])), (po, .inl (cPo, 24, .inl fo)), (pf, .inl (cPf, 24, .inl ff)), (ps, .inl (cPs, 24, .inl fs)), (hm, .inr (5, [.ref mr, .ref mc, .int mp, .int mb, .int mi, .int me, .int ml, .int mo, .int mt, .int (nI mS)])), (mr, .inl (cmr, 4, .inl fr)), (mc, .inl (cmc, 32, .inl fc)), (hk, .inr (5, [.ref kr, .ref kc, .int kp, .int kb, .int ki, .int ke, .int kl, .int ko, .int kt, .int (nI kS)])), (kr, .inl (ckr, 4, .inl kfr)), (kc, .inl (ckc, 32, .inl kfc))]) [11, 12, 13, 14] [0, 1, 2, 3, 4, 5, 6, 7, 8, 9, 10] rfl rfl (by decide) (by decide) (by decide) (zk_runV X (C := R_T) (tysC := [(cJ, .int)]) (As := []) (rest := []) (c_T_isReadable l dC dI ht hd hj jb cJ tt dp de dB ds dk dv fb jn jm jS jl (by omega)) [7] rfl (ci := 3) rfl 11 rfl (zk_cwV 0 X.1.2.2.2.2 (zk_goodT tw_314) rfl rfl rfl (zk_m tw_311) (zk_m tw_312) (zk_m tw_313) (zk_m tw_6) rfl (by decide +kernel) ⟨Nat.le_of_ble_eq_true rfl, Nat.le_of_ble_eq_true rfl⟩) rfl rfl (Nat.le_of_ble_eq_true rfl) ⟨Nat.zero_le _, Nat.zero_le _⟩ d_X_tell_28) ?_
      rintro r28 ⟨dp_28, de_28, dB_28, ds_28, dk_28, dv_28⟩ ⟨w28, f28_0⟩
      have f28_0 : dp_28 ≤ jn := f28_0
      refine zk_ws (ws' := [(hx, .inr (6, [.int xs, .ref hp, .ref hj, .ref hr, .ref ht, .ref hm, .ref hk, .int xb])), (hp, .inr (0, [.ref po, .ref pf, .ref ps, .int (nI pn)])), (po, .inl (cPo, 24, .inl fo)), (pf, .inl (cPf, 24, .inl ff)), (ps, .inl (cPs, 24, .inl fs)), (hm, .inr (5, [.ref mr, .ref mc, .int mp, .int mb, .int mi, .int me, .int ml, .int mo, .int mt, .int (nI mS)])), (mr, .inl (cmr, 4, .inl fr)), (mc, .inl (cmc, 32, .inl fc)), (hk, .inr (5, [.ref kr, .ref kc, .int kp, .int kb, .int ki, .int ke, .int kl, .int ko, .int kt, .int (nI kS)])), (kr, .inl (ckr, 4, .inl kfr)), (kc, .inl (ckc, 32, .inl kfc)), (ht, .inr (3, [.ref hd, .int tt])), (hd, .inr (4, [.ref hj, .int (nI dp_28), .int de_28, .int dB_28, .long ds_28, .int dk_28, .int dv_28])), (hj, .inr (1, [.ref jb, .int (nI jn), .int jm, .int jS, .int jl])), (jb, .inl (cJ, 300, .inl fb))]) rfl ?_
      try dsimp only at w28
      rw [← w28] at hq
      try dsimp only at hq
      refine zk_if_ne (pc := 31) X (tgt := 37) d_X_tell_31 (by decide) (fun h31 => ?_) (fun h31 => ?_)
      · have hq := hq.trans (if_neg h31)
        refine zk_aload_n (pc := 37) X d_X_tell_37 rfl (q := 0) rfl ?_
        refine zk_get (pc := 38) X (ci := 6) (v := .ref hk) in_X 0 rfl rfl 6 (by decide) (zk_m tw_147) rfl d_X_tell_38 ?_
        refine zk_aload_n (pc := 41) X d_X_tell_41 rfl (q := 0) rfl ?_
        refine zk_get (pc := 42) X (ci := 6) (v := .int xs) in_X 0 rfl rfl 0 (by decide) (zk_m tw_141) rfl d_X_tell_42 ?_
        refine zk_callv (pc := 45) X (wc := [(hk, .inr (5, [.ref kr, .ref kc, .int kp, .int kb, .int ki, .int ke, .int kl, .int ko, .int kt, .int (nI kS)])), (kr, .inl (ckr, 4, .inl kfr)), (kc, .inl (ckc, 32, .inl kfc))]) (wr := [(hx, .inr (6, [.int xs, .ref hp, .ref hj, .ref hr, .ref ht, .ref hm, .ref hk, .int xb])), (hp, .inr (0, [.ref po, .ref pf, .ref ps, .int (nI pn)])), (po, .inl (cPo, 24, .inl fo)), (pf, .inl (cPf, 24, .inl ff)), (ps, .inl (cPs, 24, .inl fs)), (hm, .inr (5, [.ref mr, .ref mc, .int mp, .int mb, .int mi, .int me, .int ml, .int mo, .int mt, .int (nI mS)])), (mr, .inl (cmr, 4, .inl fr)), (mc, .inl (cmc, 32, .inl fc)), (ht, .inr (3, [.ref hd, .int tt])), (hd, .inr (4, [.ref hj, .int (nI dp_28), .int de_28, .int dB_28, .long ds_28, .int dk_28, .int dv_28])), (hj, .inr (1, [.ref jb, .int (nI jn), .int jm, .int jS, .int jl])), (jb, .inl (cJ, 300, .inl fb))]) [8, 9, 10] [0, 1, 2, 3, 4, 5, 6, 7, 11, 12, 13, 14] rfl rfl (by decide) (by decide) (by decide) (zk_runV X (C := R_M) (tysC := [(ckr, .int), (ckc, .int)]) (As := [.int xs]) (rest := []) (c_M_restart l dC dI hk kr kc ckr ckc xs kfr kfc kp kb ki ke kl ko kt kS) [5, 6] rfl (ci := 5) rfl 8 rfl (zk_cwV 1 X.1.2.2.2.2 (zk_goodT tw_175) rfl rfl rfl (zk_m tw_172) (zk_m tw_173) (zk_m tw_174) (zk_m tw_8) rfl (by decide +kernel) ⟨Nat.le_of_ble_eq_true rfl, Nat.le_of_ble_eq_true rfl⟩) rfl rfl (Nat.le_of_ble_eq_true rfl) ⟨Nat.zero_le _, Nat.zero_le _⟩ d_X_tell_45) ?_
        rintro ⟨fr_45, fc_45, mp_45, mb_45, mi_45, me_45, ml_45, mo_45, mt_45, mS_45⟩ w45
        refine zk_ws (ws' := [(hx, .inr (6, [.int xs, .ref hp, .ref hj, .ref hr, .ref ht, .ref hm, .ref hk, .int xb])), (hp, .inr (0, [.ref po, .ref pf, .ref ps, .int (nI pn)])), (po, .inl (cPo, 24, .inl fo)), (pf, .inl (cPf, 24, .inl ff)), (ps, .inl (cPs, 24, .inl fs)), (hm, .inr (5, [.ref mr, .ref mc, .int mp, .int mb, .int mi, .int me, .int ml, .int mo, .int mt, .int (nI mS)])), (mr, .inl (cmr, 4, .inl fr)), (mc, .inl (cmc, 32, .inl fc)), (ht, .inr (3, [.ref hd, .int tt])), (hd, .inr (4, [.ref hj, .int (nI dp_28), .int de_28, .int dB_28, .long ds_28, .int dk_28, .int dv_28])), (hj, .inr (1, [.ref jb, .int (nI jn), .int jm, .int jS, .int jl])), (jb, .inl (cJ, 300, .inl fb)), (hk, .inr (5, [.ref kr, .ref kc, .int mp_45, .int mb_45, .int mi_45, .int me_45, .int ml_45, .int mo_45, .int mt_45, .int (nI mS_45)])), (kr, .inl (ckr, 4, .inl fr_45)), (kc, .inl (ckc, 32, .inl fc_45))]) rfl ?_
        try dsimp only at w45
        rw [← w45] at hq
        try dsimp only at hq
        refine zk_aload_n (pc := 48) X d_X_tell_48 rfl (q := 0) rfl ?_
        refine zk_get (pc := 49) X (ci := 6) (v := .ref ht) in_X 0 rfl rfl 4 (by decide) (zk_m tw_145) rfl d_X_tell_49 ?_
        refine zk_callv (pc := 52) X (wc := [(ht, .inr (3, [.ref hd, .int tt])), (hd, .inr (4, [.ref hj, .int (nI dp_28), .int de_28, .int dB_28, .long ds_28, .int dk_28, .int dv_28])), (hj, .inr (1, [.ref jb, .int (nI jn), .int jm, .int jS, .int jl])), (jb, .inl (cJ, 300, .inl fb))]) (wr := [(hx, .inr (6, [.int xs, .ref hp, .ref hj, .ref hr, .ref ht, .ref hm, .ref hk, .int xb])), (hp, .inr (0, [.ref po, .ref pf, .ref ps, .int (nI pn)])), (po, .inl (cPo, 24, .inl fo)), (pf, .inl (cPf, 24, .inl ff)), (ps, .inl (cPs, 24, .inl fs)), (hm, .inr (5, [.ref mr, .ref mc, .int mp, .int mb, .int mi, .int me, .int ml, .int mo, .int mt, .int (nI mS)])), (mr, .inl (cmr, 4, .inl fr)), (mc, .inl (cmc, 32, .inl fc)), (hk, .inr (5, [.ref kr, .ref kc, .int mp_45, .int mb_45, .int mi_45, .int me_45, .int ml_45, .int mo_45, .int mt_45, .int (nI mS_45)])), (kr, .inl (ckr, 4, .inl fr_45)), (kc, .inl (ckc, 32, .inl fc_45))]) [8, 9, 10, 11] [0, 1, 2, 3, 4, 5, 6, 7, 12, 13, 14] rfl rfl (by decide) (by decide) (by decide) (zk_runV X (C := R_T) (tysC := [(cJ, .int)]) (As := []) (rest := []) (c_T_restart l dC dI ht hd hj jb cJ tt dp_28 de_28 dB_28 ds_28 dk_28 dv_28 fb jn jm jS jl (by omega)) [7] rfl (ci := 3) rfl 8 rfl (zk_cwV 0 X.1.2.2.2.2 (zk_goodT tw_323) rfl rfl rfl (zk_m tw_320) (zk_m tw_321) (zk_m tw_322) (zk_m tw_6) rfl (by decide +kernel) ⟨Nat.le_of_ble_eq_true rfl, Nat.le_of_ble_eq_true rfl⟩) rfl rfl (Nat.le_of_ble_eq_true rfl) ⟨Nat.zero_le _, Nat.zero_le _⟩ d_X_tell_52) ?_
        rintro ⟨tt_52, dp_52, de_52, dB_52, ds_52, dk_52, dv_52⟩ ⟨w52, f52_0⟩
        have f52_0 : dp_52 ≤ jn := f52_0
        refine zk_ws (ws' := [(hx, .inr (6, [.int xs, .ref hp, .ref hj, .ref hr, .ref ht, .ref hm, .ref hk, .int xb])), (hp, .inr (0, [.ref po, .ref pf, .ref ps, .int (nI pn)])), (po, .inl (cPo, 24, .inl fo)), (pf, .inl (cPf, 24, .inl ff)), (ps, .inl (cPs, 24, .inl fs)), (hm, .inr (5, [.ref mr, .ref mc, .int mp, .int mb, .int mi, .int me, .int ml, .int mo, .int mt, .int (nI mS)])), (mr, .inl (cmr, 4, .inl fr)), (mc, .inl (cmc, 32, .inl fc)), (hk, .inr (5, [.ref kr, .ref kc, .int mp_45, .int mb_45, .int mi_45, .int me_45, .int ml_45, .int mo_45, .int mt_45, .int (nI mS_45)])), (kr, .inl (ckr, 4, .inl fr_45)), (kc, .inl (ckc, 32, .inl fc_45)), (ht, .inr (3, [.ref hd, .int tt_52])), (hd, .inr (4, [.ref hj, .int (nI dp_52), .int de_52, .int dB_52, .long ds_52, .int dk_52, .int dv_52])), (hj, .inr (1, [.ref jb, .int (nI jn), .int jm, .int jS, .int jl])), (jb, .inl (cJ, 300, .inl fb))]) rfl ?_
        try dsimp only at w52
        rw [← w52] at hq
        try dsimp only at hq
        refine zk_iconst (pc := 55) X (v := 0) d_X_tell_55 rfl ?_
        refine zk_istore_n (pc := 56) X (i := 3) (lv' := [(3, .int 0), (0, .ref hx), (1, .int sv), (2, .int n)]) d_X_tell_56 rfl (by decide) rfl ?_
        refine zk_lv (lv' := [(0, .ref hx), (1, .int sv), (2, .int n), (3, .int 0)]) [1, 2, 3, 0] rfl ?_
        exact cut57 (mS + 1) 0 fr_45 fc_45 mp_45 mb_45 mi_45 me_45 ml_45 mo_45 mt_45 mS_45 tt_52 dp_52 de_52 dB_52 ds_52 dk_52 dv_52 (by omega) (by omega) (by omega) hq
      · have hq := hq.trans (if_pos h31)
        refine zk_bipush (pc := 34) X (v := (-2)) d_X_tell_34 (by decide) ?_
        exact zk_iret (pc := 36) X hQ hRt hLk (kfr, kfc, kp, kb, ki, ke, kl, ko, kt, kS, tt, dp_28, de_28, dB_28, ds_28, dk_28, dv_28) hq.symm [0, 1, 2, 3, 4, 5, 6, 7, 8, 9, 10, 11, 12, 13, 14] rfl (by decide) d_X_tell_36
    · have hq := hq.trans (if_neg h19)
      refine zk_iconst (pc := 22) X (v := (-1)) d_X_tell_22 rfl ?_
      exact zk_iret (pc := 23) X hQ hRt hLk (kfr, kfc, kp, kb, ki, ke, kl, ko, kt, kS, tt, dp, de, dB, ds, dk, dv) hq.symm [0, 1, 2, 3, 4, 5, 6, 7, 8, 9, 10, 11, 12, 13, 14] rfl (by decide) d_X_tell_23
end
