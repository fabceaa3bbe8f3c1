section
-- ===== PART A: goes FIRST, ahead of the names: the tables' words, and 'selects' of the private methods out of them =====
/-- a private method of a class that the tables say can be made, by its rows of tables_1 -/
def lw_okq (q : MethodName × Nat) : Prop := (q.1.cls ≠ "java/lang/invoke/MethodHandle" ∧ q.1.cls ≠ "java/lang/invoke/VarHandle") ∧ Cond.instantiable q.1.cls q.2 ∈ tables_1 ∧ Cond.privateMethod q.1 ∈ tables_1 ∧ Cond.instanceMethod q.1 ∈ tables_1
theorem lw_p0 : lw_okq (⟨"FieldTables$TableRows", "grow", "()V"⟩, 6) := ⟨⟨by decide +kernel, by decide +kernel⟩, List.mem_of_getElem? (i := 17) (by decide +kernel), List.mem_of_getElem? (i := 105) (by decide +kernel), List.mem_of_getElem? (i := 106) (by decide +kernel)⟩
theorem lw_p1 : lw_okq (⟨"FieldTables$FieldStore", "slotOf", "(IJ)I"⟩, 7) := ⟨⟨by decide +kernel, by decide +kernel⟩, List.mem_of_getElem? (i := 49) (by decide +kernel), List.mem_of_getElem? (i := 152) (by decide +kernel), List.mem_of_getElem? (i := 153) (by decide +kernel)⟩
theorem lw_p2 : lw_okq (⟨"FieldTables", "give", "(IIJIJ)I"⟩, 4) := ⟨⟨by decide +kernel, by decide +kernel⟩, List.mem_of_getElem? (i := 9) (by decide +kernel), List.mem_of_getElem? (i := 162) (by decide +kernel), List.mem_of_getElem? (i := 163) (by decide +kernel)⟩
theorem lw_p3 : lw_okq (⟨"FieldTables$FieldStore", "grow", "()V"⟩, 7) := ⟨⟨by decide +kernel, by decide +kernel⟩, List.mem_of_getElem? (i := 49) (by decide +kernel), List.mem_of_getElem? (i := 170) (by decide +kernel), List.mem_of_getElem? (i := 171) (by decide +kernel)⟩
theorem lw_p4 : lw_okq (⟨"FieldTables", "append", "(II)V"⟩, 4) := ⟨⟨by decide +kernel, by decide +kernel⟩, List.mem_of_getElem? (i := 9) (by decide +kernel), List.mem_of_getElem? (i := 193) (by decide +kernel), List.mem_of_getElem? (i := 194) (by decide +kernel)⟩
theorem lw_p5 : lw_okq (⟨"FieldTables", "change", "(IIIJ)V"⟩, 4) := ⟨⟨by decide +kernel, by decide +kernel⟩, List.mem_of_getElem? (i := 9) (by decide +kernel), List.mem_of_getElem? (i := 197) (by decide +kernel), List.mem_of_getElem? (i := 198) (by decide +kernel)⟩
theorem lw_p6 : lw_okq (⟨"FieldTables", "raiseBorder", "(IJ)V"⟩, 4) := ⟨⟨by decide +kernel, by decide +kernel⟩, List.mem_of_getElem? (i := 9) (by decide +kernel), List.mem_of_getElem? (i := 209) (by decide +kernel), List.mem_of_getElem? (i := 210) (by decide +kernel)⟩
theorem lw_p7 : lw_okq (⟨"FieldTables", "lowerBorder", "(IJ)V"⟩, 4) := ⟨⟨by decide +kernel, by decide +kernel⟩, List.mem_of_getElem? (i := 9) (by decide +kernel), List.mem_of_getElem? (i := 214) (by decide +kernel), List.mem_of_getElem? (i := 215) (by decide +kernel)⟩
theorem lw_p8 : lw_okq (⟨"FieldTables", "firstWithValue", "(II)I"⟩, 4) := ⟨⟨by decide +kernel, by decide +kernel⟩, List.mem_of_getElem? (i := 9) (by decide +kernel), List.mem_of_getElem? (i := 242) (by decide +kernel), List.mem_of_getElem? (i := 243) (by decide +kernel)⟩
theorem lw_p9 : lw_okq (⟨"FieldTables", "setCursor", "(I)I"⟩, 4) := ⟨⟨by decide +kernel, by decide +kernel⟩, List.mem_of_getElem? (i := 9) (by decide +kernel), List.mem_of_getElem? (i := 246) (by decide +kernel), List.mem_of_getElem? (i := 247) (by decide +kernel)⟩
theorem lw_p10 : lw_okq (⟨"FieldTables", "isRun", "(IJII)Z"⟩, 4) := ⟨⟨by decide +kernel, by decide +kernel⟩, List.mem_of_getElem? (i := 9) (by decide +kernel), List.mem_of_getElem? (i := 262) (by decide +kernel), List.mem_of_getElem? (i := 263) (by decide +kernel)⟩
theorem lw_p11 : lw_okq (⟨"FieldTables", "missing", "(IJII)I"⟩, 4) := ⟨⟨by decide +kernel, by decide +kernel⟩, List.mem_of_getElem? (i := 9) (by decide +kernel), List.mem_of_getElem? (i := 268) (by decide +kernel), List.mem_of_getElem? (i := 269) (by decide +kernel)⟩
theorem lw_p12 : lw_okq (⟨"FieldTables", "whole", "(IJ)I"⟩, 4) := ⟨⟨by decide +kernel, by decide +kernel⟩, List.mem_of_getElem? (i := 9) (by decide +kernel), List.mem_of_getElem? (i := 272) (by decide +kernel), List.mem_of_getElem? (i := 273) (by decide +kernel)⟩
theorem lw_p13 : lw_okq (⟨"FieldTables", "isPlace", "(II)Z"⟩, 4) := ⟨⟨by decide +kernel, by decide +kernel⟩, List.mem_of_getElem? (i := 9) (by decide +kernel), List.mem_of_getElem? (i := 284) (by decide +kernel), List.mem_of_getElem? (i := 285) (by decide +kernel)⟩
theorem lw_p14 : lw_okq (⟨"FieldTables", "moveUp", "(III)V"⟩, 4) := ⟨⟨by decide +kernel, by decide +kernel⟩, List.mem_of_getElem? (i := 9) (by decide +kernel), List.mem_of_getElem? (i := 288) (by decide +kernel), List.mem_of_getElem? (i := 289) (by decide +kernel)⟩
theorem lw_p15 : lw_okq (⟨"FieldTables", "moveDown", "(III)V"⟩, 4) := ⟨⟨by decide +kernel, by decide +kernel⟩, List.mem_of_getElem? (i := 9) (by decide +kernel), List.mem_of_getElem? (i := 300) (by decide +kernel), List.mem_of_getElem? (i := 301) (by decide +kernel)⟩
def lw_privs_1 : List (MethodName × Nat) := [(⟨"FieldTables$TableRows", "grow", "()V"⟩, 6), (⟨"FieldTables$FieldStore", "slotOf", "(IJ)I"⟩, 7), (⟨"FieldTables", "give", "(IIJIJ)I"⟩, 4), (⟨"FieldTables$FieldStore", "grow", "()V"⟩, 7), (⟨"FieldTables", "append", "(II)V"⟩, 4), (⟨"FieldTables", "change", "(IIIJ)V"⟩, 4), (⟨"FieldTables", "raiseBorder", "(IJ)V"⟩, 4), (⟨"FieldTables", "lowerBorder", "(IJ)V"⟩, 4), (⟨"FieldTables", "firstWithValue", "(II)I"⟩, 4), (⟨"FieldTables", "setCursor", "(I)I"⟩, 4), (⟨"FieldTables", "isRun", "(IJII)Z"⟩, 4), (⟨"FieldTables", "missing", "(IJII)I"⟩, 4), (⟨"FieldTables", "whole", "(IJ)I"⟩, 4), (⟨"FieldTables", "isPlace", "(II)Z"⟩, 4), (⟨"FieldTables", "moveUp", "(III)V"⟩, 4), (⟨"FieldTables", "moveDown", "(III)V"⟩, 4)]
theorem lw_r1 : ∀ q ∈ lw_privs_1, lw_okq q := List.forall_mem_cons.mpr ⟨lw_p0, List.forall_mem_cons.mpr ⟨lw_p1, List.forall_mem_cons.mpr ⟨lw_p2, List.forall_mem_cons.mpr ⟨lw_p3, List.forall_mem_cons.mpr ⟨lw_p4, List.forall_mem_cons.mpr ⟨lw_p5, List.forall_mem_cons.mpr ⟨lw_p6, List.forall_mem_cons.mpr ⟨lw_p7, List.forall_mem_cons.mpr ⟨lw_p8, List.forall_mem_cons.mpr ⟨lw_p9, List.forall_mem_cons.mpr ⟨lw_p10, List.forall_mem_cons.mpr ⟨lw_p11, List.forall_mem_cons.mpr ⟨lw_p12, List.forall_mem_cons.mpr ⟨lw_p13, List.forall_mem_cons.mpr ⟨lw_p14, List.forall_mem_cons.mpr ⟨lw_p15, fun _ h => absurd h List.not_mem_nil⟩⟩⟩⟩⟩⟩⟩⟩⟩⟩⟩⟩⟩⟩⟩⟩
theorem lw_p16 : lw_okq (⟨"FieldTables", "holdsAll", "(II)Z"⟩, 4) := ⟨⟨by decide +kernel, by decide +kernel⟩, List.mem_of_getElem? (i := 9) (by decide +kernel), List.mem_of_getElem? (i := 317) (by decide +kernel), List.mem_of_getElem? (i := 318) (by decide +kernel)⟩
theorem lw_p17 : lw_okq (⟨"FieldTables", "twin", "(II)I"⟩, 4) := ⟨⟨by decide +kernel, by decide +kernel⟩, List.mem_of_getElem? (i := 9) (by decide +kernel), List.mem_of_getElem? (i := 321) (by decide +kernel), List.mem_of_getElem? (i := 322) (by decide +kernel)⟩
theorem lw_p18 : lw_okq (⟨"FieldTables", "missingOf", "(II)I"⟩, 4) := ⟨⟨by decide +kernel, by decide +kernel⟩, List.mem_of_getElem? (i := 9) (by decide +kernel), List.mem_of_getElem? (i := 333) (by decide +kernel), List.mem_of_getElem? (i := 334) (by decide +kernel)⟩
theorem lw_p19 : lw_okq (⟨"FieldTablesModel", "isTable", "(I)Z"⟩, 15) := ⟨⟨by decide +kernel, by decide +kernel⟩, List.mem_of_getElem? (i := 356) (by decide +kernel), List.mem_of_getElem? (i := 420) (by decide +kernel), List.mem_of_getElem? (i := 421) (by decide +kernel)⟩
theorem lw_p20 : lw_okq (⟨"FieldTablesModel", "find", "(IIJ)I"⟩, 15) := ⟨⟨by decide +kernel, by decide +kernel⟩, List.mem_of_getElem? (i := 356) (by decide +kernel), List.mem_of_getElem? (i := 425) (by decide +kernel), List.mem_of_getElem? (i := 426) (by decide +kernel)⟩
theorem lw_p21 : lw_okq (⟨"FieldTablesModel", "give", "(IIJIJ)I"⟩, 15) := ⟨⟨by decide +kernel, by decide +kernel⟩, List.mem_of_getElem? (i := 356) (by decide +kernel), List.mem_of_getElem? (i := 436) (by decide +kernel), List.mem_of_getElem? (i := 437) (by decide +kernel)⟩
theorem lw_p22 : lw_okq (⟨"FieldTablesModel", "come", "(IIJ)I"⟩, 15) := ⟨⟨by decide +kernel, by decide +kernel⟩, List.mem_of_getElem? (i := 356) (by decide +kernel), List.mem_of_getElem? (i := 440) (by decide +kernel), List.mem_of_getElem? (i := 441) (by decide +kernel)⟩
theorem lw_p23 : lw_okq (⟨"FieldTablesModel", "set", "(IIJ)V"⟩, 15) := ⟨⟨by decide +kernel, by decide +kernel⟩, List.mem_of_getElem? (i := 356) (by decide +kernel), List.mem_of_getElem? (i := 450) (by decide +kernel), List.mem_of_getElem? (i := 451) (by decide +kernel)⟩
theorem lw_p24 : lw_okq (⟨"FieldTablesModel", "edge", "(I)I"⟩, 15) := ⟨⟨by decide +kernel, by decide +kernel⟩, List.mem_of_getElem? (i := 356) (by decide +kernel), List.mem_of_getElem? (i := 467) (by decide +kernel), List.mem_of_getElem? (i := 468) (by decide +kernel)⟩
theorem lw_p25 : lw_okq (⟨"FieldTablesModel", "findWhole", "(IJ)I"⟩, 15) := ⟨⟨by decide +kernel, by decide +kernel⟩, List.mem_of_getElem? (i := 356) (by decide +kernel), List.mem_of_getElem? (i := 471) (by decide +kernel), List.mem_of_getElem? (i := 472) (by decide +kernel)⟩
theorem lw_p26 : lw_okq (⟨"FieldTablesModel", "isRow", "(IJII)Z"⟩, 15) := ⟨⟨by decide +kernel, by decide +kernel⟩, List.mem_of_getElem? (i := 356) (by decide +kernel), List.mem_of_getElem? (i := 499) (by decide +kernel), List.mem_of_getElem? (i := 500) (by decide +kernel)⟩
theorem lw_p27 : lw_okq (⟨"FieldTablesModel", "move", "(IJJ)V"⟩, 15) := ⟨⟨by decide +kernel, by decide +kernel⟩, List.mem_of_getElem? (i := 356) (by decide +kernel), List.mem_of_getElem? (i := 513) (by decide +kernel), List.mem_of_getElem? (i := 514) (by decide +kernel)⟩
theorem lw_p28 : lw_okq (⟨"FieldTablesModel", "isIn", "(II)Z"⟩, 15) := ⟨⟨by decide +kernel, by decide +kernel⟩, List.mem_of_getElem? (i := 356) (by decide +kernel), List.mem_of_getElem? (i := 529) (by decide +kernel), List.mem_of_getElem? (i := 530) (by decide +kernel)⟩
def lw_privs_2 : List (MethodName × Nat) := [(⟨"FieldTables", "holdsAll", "(II)Z"⟩, 4), (⟨"FieldTables", "twin", "(II)I"⟩, 4), (⟨"FieldTables", "missingOf", "(II)I"⟩, 4), (⟨"FieldTablesModel", "isTable", "(I)Z"⟩, 15), (⟨"FieldTablesModel", "find", "(IIJ)I"⟩, 15), (⟨"FieldTablesModel", "give", "(IIJIJ)I"⟩, 15), (⟨"FieldTablesModel", "come", "(IIJ)I"⟩, 15), (⟨"FieldTablesModel", "set", "(IIJ)V"⟩, 15), (⟨"FieldTablesModel", "edge", "(I)I"⟩, 15), (⟨"FieldTablesModel", "findWhole", "(IJ)I"⟩, 15), (⟨"FieldTablesModel", "isRow", "(IJII)Z"⟩, 15), (⟨"FieldTablesModel", "move", "(IJJ)V"⟩, 15), (⟨"FieldTablesModel", "isIn", "(II)Z"⟩, 15)]
theorem lw_r2 : ∀ q ∈ lw_privs_2, lw_okq q := List.forall_mem_cons.mpr ⟨lw_p16, List.forall_mem_cons.mpr ⟨lw_p17, List.forall_mem_cons.mpr ⟨lw_p18, List.forall_mem_cons.mpr ⟨lw_p19, List.forall_mem_cons.mpr ⟨lw_p20, List.forall_mem_cons.mpr ⟨lw_p21, List.forall_mem_cons.mpr ⟨lw_p22, List.forall_mem_cons.mpr ⟨lw_p23, List.forall_mem_cons.mpr ⟨lw_p24, List.forall_mem_cons.mpr ⟨lw_p25, List.forall_mem_cons.mpr ⟨lw_p26, List.forall_mem_cons.mpr ⟨lw_p27, List.forall_mem_cons.mpr ⟨lw_p28, fun _ h => absurd h List.not_mem_nil⟩⟩⟩⟩⟩⟩⟩⟩⟩⟩⟩⟩⟩
def lw_privs : List (MethodName × Nat) := lw_privs_1 ++ (lw_privs_2)
def lw_tbl : List Cond := k2_sels lw_privs ++ tables_1
theorem lw_privs_ok : ∀ q ∈ lw_privs, lw_okq q := by
  show ∀ q ∈ lw_privs_1 ++ (lw_privs_2), lw_okq q
  exact List.forall_mem_append.mpr ⟨lw_r1, lw_r2⟩
end
section
def R_F : String := "FieldTables"
def T_F : u_T := fun k => match k with
  | 0 => ("FieldTables", "tables", "LFieldTables$TableRows;", true)
  | 1 => ("FieldTables", "store", "LFieldTables$FieldStore;", true)
  | 2 => ("FieldTables", "cursorKeyKind", "I", false)
  | _ => ("FieldTables", "cursorKeyNumber", "J", false)
def ty_F : Nat → FieldType := fun k => match k with
  | 0 => .object "FieldTables$TableRows"
  | 1 => .object "FieldTables$FieldStore"
  | 2 => .int
  | _ => .long
theorem nn_F : ∀ a, a < 4 → ∀ b, b < 4 → a ≠ b → (T_F a).2.1 ≠ (T_F b).2.1 := by decide +kernel
theorem tyok_F : ∀ k, k < 4 → parseFieldDescriptor (T_F k).2.2.1 = some (ty_F k) := by decide +kernel
def R_T : String := "FieldTables$TableRows"
def T_T : u_T := fun k => match k with
  | 0 => ("FieldTables$TableRows", "count", "I", false)
  | 1 => ("FieldTables$TableRows", "firsts", "[I", false)
  | 2 => ("FieldTables$TableRows", "lasts", "[I", false)
  | 3 => ("FieldTables$TableRows", "keyCounts", "[I", false)
  | 4 => ("FieldTables$TableRows", "valueCounts", "[I", false)
  | _ => ("FieldTables$TableRows", "borders", "[I", false)
def ty_T : Nat → FieldType := fun k => match k with
  | 0 => .int
  | 1 => .array .int
  | 2 => .array .int
  | 3 => .array .int
  | 4 => .array .int
  | _ => .array .int
theorem nn_T : ∀ a, a < 6 → ∀ b, b < 6 → a ≠ b → (T_T a).2.1 ≠ (T_T b).2.1 := by decide +kernel
theorem tyok_T : ∀ k, k < 6 → parseFieldDescriptor (T_T k).2.2.1 = some (ty_T k) := by decide +kernel
def R_S : String := "FieldTables$FieldStore"
def T_S : u_T := fun k => match k with
  | 0 => ("FieldTables$FieldStore", "count", "I", false)
  | 1 => ("FieldTables$FieldStore", "owners", "[I", false)
  | 2 => ("FieldTables$FieldStore", "keyNumbers", "[J", false)
  | 3 => ("FieldTables$FieldStore", "kinds", "[B", false)
  | 4 => ("FieldTables$FieldStore", "numbers", "[J", false)
  | 5 => ("FieldTables$FieldStore", "followers", "[I", false)
  | _ => ("FieldTables$FieldStore", "slots", "[I", false)
def ty_S : Nat → FieldType := fun k => match k with
  | 0 => .int
  | 1 => .array .int
  | 2 => .array .long
  | 3 => .array .byte
  | 4 => .array .long
  | 5 => .array .int
  | _ => .array .int
theorem nn_S : ∀ a, a < 7 → ∀ b, b < 7 → a ≠ b → (T_S a).2.1 ≠ (T_S b).2.1 := by decide +kernel
theorem tyok_S : ∀ k, k < 7 → parseFieldDescriptor (T_S k).2.2.1 = some (ty_S k) := by decide +kernel
def R_M : String := "FieldTablesModel"
def T_M : u_T := fun k => match k with
  | 0 => ("FieldTablesModel", "keyKinds", "[B", false)
  | 1 => ("FieldTablesModel", "keyNumbers", "[J", false)
  | 2 => ("FieldTablesModel", "kinds", "[B", false)
  | 3 => ("FieldTablesModel", "numbers", "[J", false)
  | 4 => ("FieldTablesModel", "owners", "[I", false)
  | 5 => ("FieldTablesModel", "nexts", "[I", false)
  | 6 => ("FieldTablesModel", "others", "[I", false)
  | 7 => ("FieldTablesModel", "count", "I", false)
  | 8 => ("FieldTablesModel", "chains", "[I", true)
  | 9 => ("FieldTablesModel", "firsts", "[I", false)
  | 10 => ("FieldTablesModel", "lasts", "[I", false)
  | 11 => ("FieldTablesModel", "sizes", "[I", false)
  | 12 => ("FieldTablesModel", "tables", "I", false)
  | 13 => ("FieldTablesModel", "cursorKind", "I", false)
  | _ => ("FieldTablesModel", "cursorNumber", "J", false)
def ty_M : Nat → FieldType := fun k => match k with
  | 0 => .array .byte
  | 1 => .array .long
  | 2 => .array .byte
  | 3 => .array .long
  | 4 => .array .int
  | 5 => .array .int
  | 6 => .array .int
  | 7 => .int
  | 8 => .array .int
  | 9 => .array .int
  | 10 => .array .int
  | 11 => .array .int
  | 12 => .int
  | 13 => .int
  | _ => .long
theorem nn_M : ∀ a, a < 15 → ∀ b, b < 15 → a ≠ b → (T_M a).2.1 ≠ (T_M b).2.1 := by decide +kernel
theorem tyok_M : ∀ k, k < 15 → parseFieldDescriptor (T_M k).2.2.1 = some (ty_M k) := by decide +kernel
abbrev classes : List vw_C := [(R_F, T_F, 4), (R_T, T_T, 6), (R_S, T_S, 7), (R_M, T_M, 15)]
abbrev tyK (cI cL cB : ClassId) : List (ClassId × FieldType) := [(cI, .int), (cL, .long), (cB, .byte)]
def WALL : List Cond := lw_tbl.filter goodWord
def wd (y : MethodName) (b : ByteArray) (n : Nat) (r : Option FieldType) : List Cond := Cond.code y b n r :: WALL
abbrev b_F_all : ByteArray := prog_1_method_20_code
def y_F_all : MethodName := ⟨R_F, "all", "()I"⟩
abbrev b_F_append : ByteArray := prog_1_method_27_code
def y_F_append : MethodName := ⟨R_F, "append", "(II)V"⟩
abbrev b_F_border : ByteArray := prog_1_method_6_code
def y_F_border : MethodName := ⟨R_F, "border", "(I)I"⟩
abbrev b_F_change : ByteArray := prog_1_method_28_code
def y_F_change : MethodName := ⟨R_F, "change", "(IIIJ)V"⟩
abbrev b_F_clear : ByteArray := prog_1_method_13_code
def y_F_clear : MethodName := ⟨R_F, "clear", "(IJII)I"⟩
abbrev b_F_copy : ByteArray := prog_1_method_18_code
def y_F_copy : MethodName := ⟨R_F, "copy", "(II)I"⟩
abbrev b_F_cursorKind : ByteArray := prog_1_method_10_code
def y_F_cursorKind : MethodName := ⟨R_F, "cursorKind", "()I"⟩
abbrev b_F_cursorNumber : ByteArray := prog_1_method_11_code
def y_F_cursorNumber : MethodName := ⟨R_F, "cursorNumber", "()J"⟩
abbrev b_F_empty : ByteArray := prog_1_method_19_code
def y_F_empty : MethodName := ⟨R_F, "empty", "()I"⟩
abbrev b_F_fields : ByteArray := prog_1_method_8_code
def y_F_fields : MethodName := ⟨R_F, "fields", "(I)I"⟩
abbrev b_F_fill : ByteArray := prog_1_method_12_code
def y_F_fill : MethodName := ⟨R_F, "fill", "(IJII)I"⟩
abbrev b_F_firstWithValue : ByteArray := prog_1_method_31_code
def y_F_firstWithValue : MethodName := ⟨R_F, "firstWithValue", "(II)I"⟩
abbrev b_F_give : ByteArray := prog_1_method_26_code
def y_F_give : MethodName := ⟨R_F, "give", "(IIJIJ)I"⟩
abbrev b_F_holdsAll : ByteArray := prog_1_method_35_code
def y_F_holdsAll : MethodName := ⟨R_F, "holdsAll", "(II)Z"⟩
abbrev b_F_init : ByteArray := prog_1_method_1_code
def y_F_init : MethodName := ⟨R_F, "<init>", "()V"⟩
abbrev b_F_insert : ByteArray := prog_1_method_14_code
def y_F_insert : MethodName := ⟨R_F, "insert", "(IIIJ)I"⟩
abbrev b_F_isKeyKind : ByteArray := prog_1_method_22_code
def y_F_isKeyKind : MethodName := ⟨R_F, "isKeyKind", "(I)Z"⟩
abbrev b_F_isKind : ByteArray := prog_1_method_21_code
def y_F_isKind : MethodName := ⟨R_F, "isKind", "(I)Z"⟩
abbrev b_F_isPlace : ByteArray := prog_1_method_24_code
def y_F_isPlace : MethodName := ⟨R_F, "isPlace", "(II)Z"⟩
abbrev b_F_isRun : ByteArray := prog_1_method_23_code
def y_F_isRun : MethodName := ⟨R_F, "isRun", "(IJII)Z"⟩
abbrev b_F_keys : ByteArray := prog_1_method_7_code
def y_F_keys : MethodName := ⟨R_F, "keys", "(I)I"⟩
abbrev b_F_kindAt : ByteArray := prog_1_method_4_code
def y_F_kindAt : MethodName := ⟨R_F, "kindAt", "(IIJ)I"⟩
abbrev b_F_lowerBorder : ByteArray := prog_1_method_30_code
def y_F_lowerBorder : MethodName := ⟨R_F, "lowerBorder", "(IJ)V"⟩
abbrev b_F_make : ByteArray := prog_1_method_2_code
def y_F_make : MethodName := ⟨R_F, "make", "()I"⟩
abbrev b_F_missing : ByteArray := prog_1_method_33_code
def y_F_missing : MethodName := ⟨R_F, "missing", "(IJII)I"⟩
abbrev b_F_missingOf : ByteArray := prog_1_method_34_code
def y_F_missingOf : MethodName := ⟨R_F, "missingOf", "(II)I"⟩
abbrev b_F_moveDown : ByteArray := prog_1_method_38_code
def y_F_moveDown : MethodName := ⟨R_F, "moveDown", "(III)V"⟩
abbrev b_F_moveUp : ByteArray := prog_1_method_37_code
def y_F_moveUp : MethodName := ⟨R_F, "moveUp", "(III)V"⟩
abbrev b_F_next : ByteArray := prog_1_method_9_code
def y_F_next : MethodName := ⟨R_F, "next", "(IIJ)I"⟩
abbrev b_F_numberAt : ByteArray := prog_1_method_5_code
def y_F_numberAt : MethodName := ⟨R_F, "numberAt", "(IIJ)J"⟩
abbrev b_F_put : ByteArray := prog_1_method_3_code
def y_F_put : MethodName := ⟨R_F, "put", "(IIJIJ)I"⟩
abbrev b_F_raiseBorder : ByteArray := prog_1_method_29_code
def y_F_raiseBorder : MethodName := ⟨R_F, "raiseBorder", "(IJ)V"⟩
abbrev b_F_remove : ByteArray := prog_1_method_15_code
def y_F_remove : MethodName := ⟨R_F, "remove", "(II)I"⟩
abbrev b_F_reverse : ByteArray := prog_1_method_16_code
def y_F_reverse : MethodName := ⟨R_F, "reverse", "(I)I"⟩
abbrev b_F_same : ByteArray := prog_1_method_17_code
def y_F_same : MethodName := ⟨R_F, "same", "(II)I"⟩
abbrev b_F_setCursor : ByteArray := prog_1_method_32_code
def y_F_setCursor : MethodName := ⟨R_F, "setCursor", "(I)I"⟩
abbrev b_F_twin : ByteArray := prog_1_method_36_code
def y_F_twin : MethodName := ⟨R_F, "twin", "(II)I"⟩
abbrev b_F_whole : ByteArray := prog_1_method_25_code
def y_F_whole : MethodName := ⟨R_F, "whole", "(IJ)I"⟩
abbrev b_J_copyOf_b : ByteArray := prog_9_method_121_code
def y_J_copyOf_b : MethodName := ⟨"java/util/Arrays", "copyOf", "([BI)[B"⟩
abbrev b_J_copyOf_i : ByteArray := prog_9_method_123_code
def y_J_copyOf_i : MethodName := ⟨"java/util/Arrays", "copyOf", "([II)[I"⟩
abbrev b_J_copyOf_l : ByteArray := prog_9_method_124_code
def y_J_copyOf_l : MethodName := ⟨"java/util/Arrays", "copyOf", "([JI)[J"⟩
abbrev b_J_fill : ByteArray := prog_9_method_103_code
def y_J_fill : MethodName := ⟨"java/util/Arrays", "fill", "([II)V"⟩
abbrev b_M_all : ByteArray := prog_5_method_33_code
def y_M_all : MethodName := ⟨R_M, "all", "()I"⟩
abbrev b_M_border : ByteArray := prog_5_method_17_code
def y_M_border : MethodName := ⟨R_M, "border", "(I)I"⟩
abbrev b_M_chainOf : ByteArray := prog_5_method_7_code
def y_M_chainOf : MethodName := ⟨R_M, "chainOf", "(IIJ)I"⟩
abbrev b_M_clear : ByteArray := prog_5_method_25_code
def y_M_clear : MethodName := ⟨R_M, "clear", "(IJII)I"⟩
abbrev b_M_come : ByteArray := prog_5_method_10_code
def y_M_come : MethodName := ⟨R_M, "come", "(IIJ)I"⟩
abbrev b_M_copy : ByteArray := prog_5_method_32_code
def y_M_copy : MethodName := ⟨R_M, "copy", "(II)I"⟩
abbrev b_M_cursorKind : ByteArray := prog_5_method_21_code
def y_M_cursorKind : MethodName := ⟨R_M, "cursorKind", "()I"⟩
abbrev b_M_cursorNumber : ByteArray := prog_5_method_22_code
def y_M_cursorNumber : MethodName := ⟨R_M, "cursorNumber", "()J"⟩
abbrev b_M_edge : ByteArray := prog_5_method_16_code
def y_M_edge : MethodName := ⟨R_M, "edge", "(I)I"⟩
abbrev b_M_empty : ByteArray := prog_5_method_34_code
def y_M_empty : MethodName := ⟨R_M, "empty", "()I"⟩
abbrev b_M_fields : ByteArray := prog_5_method_19_code
def y_M_fields : MethodName := ⟨R_M, "fields", "(I)I"⟩
abbrev b_M_fill : ByteArray := prog_5_method_24_code
def y_M_fill : MethodName := ⟨R_M, "fill", "(IJII)I"⟩
abbrev b_M_find : ByteArray := prog_5_method_8_code
def y_M_find : MethodName := ⟨R_M, "find", "(IIJ)I"⟩
abbrev b_M_findWhole : ByteArray := prog_5_method_9_code
def y_M_findWhole : MethodName := ⟨R_M, "findWhole", "(IJ)I"⟩
abbrev b_M_give : ByteArray := prog_5_method_12_code
def y_M_give : MethodName := ⟨R_M, "give", "(IIJIJ)I"⟩
abbrev b_M_init : ByteArray := prog_5_method_1_code
def y_M_init : MethodName := ⟨R_M, "<init>", "()V"⟩
abbrev b_M_insert : ByteArray := prog_5_method_27_code
def y_M_insert : MethodName := ⟨R_M, "insert", "(IIIJ)I"⟩
abbrev b_M_isIn : ByteArray := prog_5_method_30_code
def y_M_isIn : MethodName := ⟨R_M, "isIn", "(II)Z"⟩
abbrev b_M_isRow : ByteArray := prog_5_method_23_code
def y_M_isRow : MethodName := ⟨R_M, "isRow", "(IJII)Z"⟩
abbrev b_M_isTable : ByteArray := prog_5_method_6_code
def y_M_isTable : MethodName := ⟨R_M, "isTable", "(I)Z"⟩
abbrev b_M_keys : ByteArray := prog_5_method_18_code
def y_M_keys : MethodName := ⟨R_M, "keys", "(I)I"⟩
abbrev b_M_kindAt : ByteArray := prog_5_method_14_code
def y_M_kindAt : MethodName := ⟨R_M, "kindAt", "(IIJ)I"⟩
abbrev b_M_make : ByteArray := prog_5_method_5_code
def y_M_make : MethodName := ⟨R_M, "make", "()I"⟩
abbrev b_M_move : ByteArray := prog_5_method_26_code
def y_M_move : MethodName := ⟨R_M, "move", "(IJJ)V"⟩
abbrev b_M_next : ByteArray := prog_5_method_20_code
def y_M_next : MethodName := ⟨R_M, "next", "(IIJ)I"⟩
abbrev b_M_numberAt : ByteArray := prog_5_method_15_code
def y_M_numberAt : MethodName := ⟨R_M, "numberAt", "(IIJ)J"⟩
abbrev b_M_put : ByteArray := prog_5_method_13_code
def y_M_put : MethodName := ⟨R_M, "put", "(IIJIJ)I"⟩
abbrev b_M_remove : ByteArray := prog_5_method_28_code
def y_M_remove : MethodName := ⟨R_M, "remove", "(II)I"⟩
abbrev b_M_reverse : ByteArray := prog_5_method_29_code
def y_M_reverse : MethodName := ⟨R_M, "reverse", "(I)I"⟩
abbrev b_M_same : ByteArray := prog_5_method_31_code
def y_M_same : MethodName := ⟨R_M, "same", "(II)I"⟩
abbrev b_M_set : ByteArray := prog_5_method_11_code
def y_M_set : MethodName := ⟨R_M, "set", "(IIJ)V"⟩
abbrev b_M_twice : ByteArray := prog_5_method_2_code
def y_M_twice : MethodName := ⟨R_M, "twice", "([I)[I"⟩
abbrev b_M_twiceByte : ByteArray := prog_5_method_4_code
def y_M_twiceByte : MethodName := ⟨R_M, "twiceByte", "([B)[B"⟩
abbrev b_M_twiceLong : ByteArray := prog_5_method_3_code
def y_M_twiceLong : MethodName := ⟨R_M, "twiceLong", "([J)[J"⟩
abbrev b_S_add : ByteArray := prog_2_method_5_code
def y_S_add : MethodName := ⟨R_S, "add", "(IIJ)I"⟩
abbrev b_S_copyValue : ByteArray := prog_2_method_7_code
def y_S_copyValue : MethodName := ⟨R_S, "copyValue", "(II)V"⟩
abbrev b_S_find : ByteArray := prog_2_method_4_code
def y_S_find : MethodName := ⟨R_S, "find", "(IIJ)I"⟩
abbrev b_S_forget : ByteArray := prog_2_method_10_code
def y_S_forget : MethodName := ⟨R_S, "forget", "()V"⟩
abbrev b_S_grow : ByteArray := prog_2_method_14_code
def y_S_grow : MethodName := ⟨R_S, "grow", "()V"⟩
abbrev b_S_init : ByteArray := prog_2_method_1_code
def y_S_init : MethodName := ⟨R_S, "<init>", "()V"⟩
abbrev b_S_keyKind : ByteArray := prog_2_method_3_code
def y_S_keyKind : MethodName := ⟨R_S, "keyKind", "(I)I"⟩
abbrev b_S_owner : ByteArray := prog_2_method_11_code
def y_S_owner : MethodName := ⟨R_S, "owner", "(II)I"⟩
abbrev b_S_room : ByteArray := prog_2_method_2_code
def y_S_room : MethodName := ⟨R_S, "room", "()I"⟩
abbrev b_S_sameValues : ByteArray := prog_2_method_9_code
def y_S_sameValues : MethodName := ⟨R_S, "sameValues", "(II)Z"⟩
abbrev b_S_scatter : ByteArray := prog_2_method_13_code
def y_S_scatter : MethodName := ⟨R_S, "scatter", "(IJ)I"⟩
abbrev b_S_setValue : ByteArray := prog_2_method_6_code
def y_S_setValue : MethodName := ⟨R_S, "setValue", "(IIJ)V"⟩
abbrev b_S_slotOf : ByteArray := prog_2_method_12_code
def y_S_slotOf : MethodName := ⟨R_S, "slotOf", "(IJ)I"⟩
abbrev b_S_swapValues : ByteArray := prog_2_method_8_code
def y_S_swapValues : MethodName := ⟨R_S, "swapValues", "(II)V"⟩
abbrev b_T_forget : ByteArray := prog_3_method_4_code
def y_T_forget : MethodName := ⟨R_T, "forget", "()V"⟩
abbrev b_T_grow : ByteArray := prog_3_method_5_code
def y_T_grow : MethodName := ⟨R_T, "grow", "()V"⟩
abbrev b_T_has : ByteArray := prog_3_method_2_code
def y_T_has : MethodName := ⟨R_T, "has", "(I)Z"⟩
abbrev b_T_init : ByteArray := prog_3_method_1_code
def y_T_init : MethodName := ⟨R_T, "<init>", "()V"⟩
abbrev b_T_open : ByteArray := prog_3_method_3_code
def y_T_open : MethodName := ⟨R_T, "open", "()I"⟩
theorem in_F : ∀ w ∈ u_ws R_F T_F 4, w ∈ WALL := by
  have h : ∀ w ∈ u_ws R_F T_F 4, w ∈ tables_1 ∧ goodWord w = true := by decide +kernel
  exact fun w hw => List.mem_filter.mpr ⟨List.mem_append_right _ (h w hw).1, (h w hw).2⟩
theorem in_T : ∀ w ∈ u_ws R_T T_T 6, w ∈ WALL := by
  have h : ∀ w ∈ u_ws R_T T_T 6, w ∈ tables_1 ∧ goodWord w = true := by decide +kernel
  exact fun w hw => List.mem_filter.mpr ⟨List.mem_append_right _ (h w hw).1, (h w hw).2⟩
theorem in_S : ∀ w ∈ u_ws R_S T_S 7, w ∈ WALL := by
  have h : ∀ w ∈ u_ws R_S T_S 7, w ∈ tables_1 ∧ goodWord w = true := by decide +kernel
  exact fun w hw => List.mem_filter.mpr ⟨List.mem_append_right _ (h w hw).1, (h w hw).2⟩
theorem in_M : ∀ w ∈ u_ws R_M T_M 15, w ∈ WALL := by
  have h : ∀ w ∈ u_ws R_M T_M 15, w ∈ tables_1 ∧ goodWord w = true := by decide +kernel
  exact fun w hw => List.mem_filter.mpr ⟨List.mem_append_right _ (h w hw).1, (h w hw).2⟩
theorem WALL_good {w : Cond} (h : w ∈ WALL) : (w.onTables && w.keeps) = true ∨ ∃ ty, w = .arrayClass ty := good_of_word (List.mem_filter.mp h).2
theorem WALL_tbl {w : Cond} (h : w ∈ WALL) : w ∈ lw_tbl := (List.mem_filter.mp h).1
theorem mm {w : Cond} (i : Nat) (h : tables_1[i]? = some w) (g : goodWord w = true) : w ∈ WALL := List.mem_filter.mpr ⟨List.mem_append_right _ (List.mem_of_getElem? h), g⟩
theorem mms {w : Cond} (i : Nat) (h : (k2_sels lw_privs)[i]? = some w) (g : goodWord w = true) : w ∈ WALL := List.mem_filter.mpr ⟨List.mem_append_left _ (List.mem_of_getElem? h), g⟩
end
section
theorem m_0 : Cond.initialized "FieldTablesLaw" ∈ WALL := mm 0 (by decide +kernel) (by decide +kernel)
theorem m_1 : Cond.initialized R_F ∈ WALL := mm 1 (by decide +kernel) (by decide +kernel)
theorem m_2 : Cond.initialized R_T ∈ WALL := mm 2 (by decide +kernel) (by decide +kernel)
theorem m_3 : Cond.initialized R_S ∈ WALL := mm 3 (by decide +kernel) (by decide +kernel)
theorem m_4 : Cond.initialized R_M ∈ WALL := mm 4 (by decide +kernel) (by decide +kernel)
theorem m_5 : Cond.initialized "java/lang/Math" ∈ WALL := mm 5 (by decide +kernel) (by decide +kernel)
theorem m_6 : Cond.initialized "java/util/Arrays" ∈ WALL := mm 6 (by decide +kernel) (by decide +kernel)
theorem m_7 : Cond.initialized "java/lang/System" ∈ WALL := mm 7 (by decide +kernel) (by decide +kernel)
theorem m_8 : Cond.classLink "FieldTablesLaw" 7 R_F ∈ WALL := mm 8 (by decide +kernel) (by decide +kernel)
theorem m_9 : Cond.instantiable R_F 4 ∈ WALL := mm 9 (by decide +kernel) (by decide +kernel)
theorem m_10 : Cond.methodLink "FieldTablesLaw" 9 y_F_init ∈ WALL := mm 10 (by decide +kernel) (by decide +kernel)
theorem m_11 : Cond.instanceMethod y_F_init ∈ WALL := mm 11 (by decide +kernel) (by decide +kernel)
theorem m_12 : Cond.code y_F_init b_F_init 1 none ∈ WALL := mm 12 (by decide +kernel) (by decide +kernel)
theorem m_13 : Cond.methodLink R_F 1 objectInit ∈ WALL := mm 13 (by decide +kernel) (by decide +kernel)
theorem m_14 : Cond.instanceMethod objectInit ∈ WALL := mm 14 (by decide +kernel) (by decide +kernel)
theorem m_15 : Cond.code objectInit ⟨#[0xb1]⟩ 1 none ∈ WALL := mm 15 (by decide +kernel) (by decide +kernel)
theorem m_16 : Cond.classLink R_F 7 R_T ∈ WALL := mm 16 (by decide +kernel) (by decide +kernel)
theorem m_17 : Cond.instantiable R_T 6 ∈ WALL := mm 17 (by decide +kernel) (by decide +kernel)
theorem m_19 : Cond.instanceMethod y_T_init ∈ WALL := mm 19 (by decide +kernel) (by decide +kernel)
theorem m_20 : Cond.code y_T_init b_T_init 1 none ∈ WALL := mm 20 (by decide +kernel) (by decide +kernel)
theorem m_21 : Cond.methodLink R_T 3 objectInit ∈ WALL := mm 21 (by decide +kernel) (by decide +kernel)
theorem m_22 : Cond.fieldLink R_T 9 R_T "count" "I" ∈ WALL := mm 22 (by decide +kernel) (by decide +kernel)
theorem m_23 : Cond.fieldLink R_F 31 R_T "count" "I" ∈ WALL := mm 23 (by decide +kernel) (by decide +kernel)
theorem m_24 : Cond.fieldLink R_T 15 R_T "firsts" "[I" ∈ WALL := mm 24 (by decide +kernel) (by decide +kernel)
theorem m_25 : Cond.fieldLink R_F 77 R_T "firsts" "[I" ∈ WALL := mm 25 (by decide +kernel) (by decide +kernel)
theorem m_26 : Cond.fieldLink R_T 19 R_T "lasts" "[I" ∈ WALL := mm 26 (by decide +kernel) (by decide +kernel)
theorem m_27 : Cond.fieldLink R_F 149 R_T "lasts" "[I" ∈ WALL := mm 27 (by decide +kernel) (by decide +kernel)
theorem m_28 : Cond.fieldLink R_T 22 R_T "keyCounts" "[I" ∈ WALL := mm 28 (by decide +kernel) (by decide +kernel)
theorem m_29 : Cond.fieldLink R_F 71 R_T "keyCounts" "[I" ∈ WALL := mm 29 (by decide +kernel) (by decide +kernel)
theorem m_30 : Cond.fieldLink R_T 25 R_T "valueCounts" "[I" ∈ WALL := mm 30 (by decide +kernel) (by decide +kernel)
theorem m_31 : Cond.fieldLink R_F 74 R_T "valueCounts" "[I" ∈ WALL := mm 31 (by decide +kernel) (by decide +kernel)
theorem m_32 : Cond.fieldLink R_T 28 R_T "borders" "[I" ∈ WALL := mm 32 (by decide +kernel) (by decide +kernel)
theorem m_33 : Cond.fieldLink R_F 67 R_T "borders" "[I" ∈ WALL := mm 33 (by decide +kernel) (by decide +kernel)
theorem m_47 : Cond.arrayClass FieldType.int ∈ WALL := mm 47 (by decide +kernel) (by decide +kernel)
theorem m_48 : Cond.classLink R_F 16 R_S ∈ WALL := mm 48 (by decide +kernel) (by decide +kernel)
theorem m_49 : Cond.instantiable R_S 7 ∈ WALL := mm 49 (by decide +kernel) (by decide +kernel)
theorem m_51 : Cond.instanceMethod y_S_init ∈ WALL := mm 51 (by decide +kernel) (by decide +kernel)
theorem m_52 : Cond.code y_S_init b_S_init 1 none ∈ WALL := mm 52 (by decide +kernel) (by decide +kernel)
theorem m_53 : Cond.methodLink R_S 3 objectInit ∈ WALL := mm 53 (by decide +kernel) (by decide +kernel)
theorem m_54 : Cond.fieldLink R_S 9 R_S "count" "I" ∈ WALL := mm 54 (by decide +kernel) (by decide +kernel)
theorem m_55 : Cond.fieldLink R_F 130 R_S "count" "I" ∈ WALL := mm 55 (by decide +kernel) (by decide +kernel)
theorem m_56 : Cond.fieldLink R_S 15 R_S "owners" "[I" ∈ WALL := mm 56 (by decide +kernel) (by decide +kernel)
theorem m_57 : Cond.fieldLink R_S 19 R_S "keyNumbers" "[J" ∈ WALL := mm 57 (by decide +kernel) (by decide +kernel)
theorem m_58 : Cond.fieldLink R_F 127 R_S "keyNumbers" "[J" ∈ WALL := mm 58 (by decide +kernel) (by decide +kernel)
theorem m_59 : Cond.fieldLink R_S 23 R_S "kinds" "[B" ∈ WALL := mm 59 (by decide +kernel) (by decide +kernel)
theorem m_60 : Cond.fieldLink R_F 59 R_S "kinds" "[B" ∈ WALL := mm 60 (by decide +kernel) (by decide +kernel)
theorem m_61 : Cond.fieldLink R_S 27 R_S "numbers" "[J" ∈ WALL := mm 61 (by decide +kernel) (by decide +kernel)
theorem m_62 : Cond.fieldLink R_F 63 R_S "numbers" "[J" ∈ WALL := mm 62 (by decide +kernel) (by decide +kernel)
theorem m_63 : Cond.fieldLink R_S 30 R_S "followers" "[I" ∈ WALL := mm 63 (by decide +kernel) (by decide +kernel)
theorem m_64 : Cond.fieldLink R_F 80 R_S "followers" "[I" ∈ WALL := mm 64 (by decide +kernel) (by decide +kernel)
theorem m_65 : Cond.fieldLink R_S 33 R_S "slots" "[I" ∈ WALL := mm 65 (by decide +kernel) (by decide +kernel)
theorem m_81 : Cond.arrayClass FieldType.long ∈ WALL := mm 81 (by decide +kernel) (by decide +kernel)
theorem m_82 : Cond.arrayClass FieldType.byte ∈ WALL := mm 82 (by decide +kernel) (by decide +kernel)
theorem m_83 : Cond.fieldLink R_F 10 R_F "tables" "LFieldTables$TableRows;" ∈ WALL := mm 83 (by decide +kernel) (by decide +kernel)
theorem m_84 : Cond.fieldLink R_F 19 R_F "store" "LFieldTables$FieldStore;" ∈ WALL := mm 84 (by decide +kernel) (by decide +kernel)
theorem m_85 : Cond.fieldLink R_F 23 R_F "cursorKeyKind" "I" ∈ WALL := mm 85 (by decide +kernel) (by decide +kernel)
theorem m_86 : Cond.fieldLink R_F 27 R_F "cursorKeyNumber" "J" ∈ WALL := mm 86 (by decide +kernel) (by decide +kernel)
theorem m_96 : Cond.methodLink "FieldTablesLaw" 13 y_F_make ∈ WALL := mm 96 (by decide +kernel) (by decide +kernel)
theorem m_97 : Cond.instanceMethod y_F_make ∈ WALL := mm 97 (by decide +kernel) (by decide +kernel)
theorem m_98 : Cond.selects R_F y_F_make y_F_make ∈ WALL := mm 98 (by decide +kernel) (by decide +kernel)
theorem m_99 : Cond.code y_F_make b_F_make 1 (some .int) ∈ WALL := mm 99 (by decide +kernel) (by decide +kernel)
theorem m_100 : Cond.methodLink R_F 34 y_T_open ∈ WALL := mm 100 (by decide +kernel) (by decide +kernel)
theorem m_101 : Cond.instanceMethod y_T_open ∈ WALL := mm 101 (by decide +kernel) (by decide +kernel)
theorem m_102 : Cond.selects R_T y_T_open y_T_open ∈ WALL := mm 102 (by decide +kernel) (by decide +kernel)
theorem m_103 : Cond.code y_T_open b_T_open 1 (some .int) ∈ WALL := mm 103 (by decide +kernel) (by decide +kernel)
theorem m_104 : Cond.methodLink R_T 31 y_T_grow ∈ WALL := mm 104 (by decide +kernel) (by decide +kernel)
theorem m_106 : Cond.instanceMethod y_T_grow ∈ WALL := mm 106 (by decide +kernel) (by decide +kernel)
theorem m_107 : Cond.code y_T_grow b_T_grow 2 none ∈ WALL := mm 107 (by decide +kernel) (by decide +kernel)
theorem m_108 : Cond.methodLink R_T 34 Lib.Math.min.name ∈ WALL := mm 108 (by decide +kernel) (by decide +kernel)
theorem m_109 : Cond.static Lib.Math.min.name ∈ WALL := mm 109 (by decide +kernel) (by decide +kernel)
theorem m_110 : Cond.code Lib.Math.min.name Lib.Math.min.code 2 (some .int) ∈ WALL := mm 110 (by decide +kernel) (by decide +kernel)
theorem m_111 : Cond.methodLink R_T 40 y_J_copyOf_i ∈ WALL := mm 111 (by decide +kernel) (by decide +kernel)
theorem m_112 : Cond.static y_J_copyOf_i ∈ WALL := mm 112 (by decide +kernel) (by decide +kernel)
theorem m_113 : Cond.code y_J_copyOf_i b_J_copyOf_i 3 (some (.array .int)) ∈ WALL := mm 113 (by decide +kernel) (by decide +kernel)
theorem m_121 : Cond.methodLink "java/util/Arrays" 304 Lib.Math.min.name ∈ WALL := mm 121 (by decide +kernel) (by decide +kernel)
theorem m_122 : Cond.methodLink "java/util/Arrays" 150 arraycopyName ∈ WALL := mm 122 (by decide +kernel) (by decide +kernel)
theorem m_123 : Cond.static arraycopyName ∈ WALL := mm 123 (by decide +kernel) (by decide +kernel)
theorem m_124 : Cond.native arraycopyName ∈ WALL := mm 124 (by decide +kernel) (by decide +kernel)
theorem m_125 : Cond.methodLink "FieldTablesLaw" 20 y_F_put ∈ WALL := mm 125 (by decide +kernel) (by decide +kernel)
theorem m_126 : Cond.instanceMethod y_F_put ∈ WALL := mm 126 (by decide +kernel) (by decide +kernel)
theorem m_127 : Cond.selects R_F y_F_put y_F_put ∈ WALL := mm 127 (by decide +kernel) (by decide +kernel)
theorem m_128 : Cond.code y_F_put b_F_put 8 (some .int) ∈ WALL := mm 128 (by decide +kernel) (by decide +kernel)
theorem m_129 : Cond.methodLink R_F 38 y_T_has ∈ WALL := mm 129 (by decide +kernel) (by decide +kernel)
theorem m_130 : Cond.instanceMethod y_T_has ∈ WALL := mm 130 (by decide +kernel) (by decide +kernel)
theorem m_131 : Cond.selects R_T y_T_has y_T_has ∈ WALL := mm 131 (by decide +kernel) (by decide +kernel)
theorem m_132 : Cond.code y_T_has b_T_has 2 (some .boolean) ∈ WALL := mm 132 (by decide +kernel) (by decide +kernel)
theorem m_133 : Cond.methodLink R_F 42 y_F_isKeyKind ∈ WALL := mm 133 (by decide +kernel) (by decide +kernel)
theorem m_134 : Cond.static y_F_isKeyKind ∈ WALL := mm 134 (by decide +kernel) (by decide +kernel)
theorem m_135 : Cond.code y_F_isKeyKind b_F_isKeyKind 1 (some .boolean) ∈ WALL := mm 135 (by decide +kernel) (by decide +kernel)
theorem m_136 : Cond.methodLink R_F 45 y_F_isKind ∈ WALL := mm 136 (by decide +kernel) (by decide +kernel)
theorem m_137 : Cond.static y_F_isKind ∈ WALL := mm 137 (by decide +kernel) (by decide +kernel)
theorem m_138 : Cond.code y_F_isKind b_F_isKind 1 (some .boolean) ∈ WALL := mm 138 (by decide +kernel) (by decide +kernel)
theorem m_139 : Cond.methodLink R_F 48 y_S_room ∈ WALL := mm 139 (by decide +kernel) (by decide +kernel)
theorem m_140 : Cond.instanceMethod y_S_room ∈ WALL := mm 140 (by decide +kernel) (by decide +kernel)
theorem m_141 : Cond.selects R_S y_S_room y_S_room ∈ WALL := mm 141 (by decide +kernel) (by decide +kernel)
theorem m_142 : Cond.code y_S_room b_S_room 1 (some .int) ∈ WALL := mm 142 (by decide +kernel) (by decide +kernel)
theorem m_143 : Cond.constant R_S 36 (40000 : Int32) ∈ WALL := mm 143 (by decide +kernel) (by decide +kernel)
theorem m_144 : Cond.methodLink R_F 51 y_S_find ∈ WALL := mm 144 (by decide +kernel) (by decide +kernel)
theorem m_145 : Cond.instanceMethod y_S_find ∈ WALL := mm 145 (by decide +kernel) (by decide +kernel)
theorem m_146 : Cond.selects R_S y_S_find y_S_find ∈ WALL := mm 146 (by decide +kernel) (by decide +kernel)
theorem m_147 : Cond.code y_S_find b_S_find 5 (some .int) ∈ WALL := mm 147 (by decide +kernel) (by decide +kernel)
theorem m_148 : Cond.methodLink R_S 37 y_S_owner ∈ WALL := mm 148 (by decide +kernel) (by decide +kernel)
theorem m_149 : Cond.static y_S_owner ∈ WALL := mm 149 (by decide +kernel) (by decide +kernel)
theorem m_150 : Cond.code y_S_owner b_S_owner 2 (some .int) ∈ WALL := mm 150 (by decide +kernel) (by decide +kernel)
theorem m_151 : Cond.methodLink R_S 41 y_S_slotOf ∈ WALL := mm 151 (by decide +kernel) (by decide +kernel)
theorem m_153 : Cond.instanceMethod y_S_slotOf ∈ WALL := mm 153 (by decide +kernel) (by decide +kernel)
theorem m_154 : Cond.code y_S_slotOf b_S_slotOf 8 (some .int) ∈ WALL := mm 154 (by decide +kernel) (by decide +kernel)
theorem m_155 : Cond.methodLink R_S 58 y_S_scatter ∈ WALL := mm 155 (by decide +kernel) (by decide +kernel)
theorem m_156 : Cond.static y_S_scatter ∈ WALL := mm 156 (by decide +kernel) (by decide +kernel)
theorem m_157 : Cond.code y_S_scatter b_S_scatter 5 (some .int) ∈ WALL := mm 157 (by decide +kernel) (by decide +kernel)
theorem m_158 : Cond.constantLong R_S 61 (-7046029254386353131 : Int64) ∈ WALL := mm 158 (by decide +kernel) (by decide +kernel)
theorem m_159 : Cond.constantLong R_S 63 (-4417276706812531889 : Int64) ∈ WALL := mm 159 (by decide +kernel) (by decide +kernel)
theorem m_160 : Cond.constantLong R_S 65 (-2960836687051489901 : Int64) ∈ WALL := mm 160 (by decide +kernel) (by decide +kernel)
theorem m_161 : Cond.methodLink R_F 55 y_F_give ∈ WALL := mm 161 (by decide +kernel) (by decide +kernel)
theorem m_163 : Cond.instanceMethod y_F_give ∈ WALL := mm 163 (by decide +kernel) (by decide +kernel)
theorem m_164 : Cond.code y_F_give b_F_give 10 (some .int) ∈ WALL := mm 164 (by decide +kernel) (by decide +kernel)
theorem m_165 : Cond.methodLink R_F 139 y_S_add ∈ WALL := mm 165 (by decide +kernel) (by decide +kernel)
theorem m_166 : Cond.instanceMethod y_S_add ∈ WALL := mm 166 (by decide +kernel) (by decide +kernel)
theorem m_167 : Cond.selects R_S y_S_add y_S_add ∈ WALL := mm 167 (by decide +kernel) (by decide +kernel)
theorem m_168 : Cond.code y_S_add b_S_add 5 (some .int) ∈ WALL := mm 168 (by decide +kernel) (by decide +kernel)
theorem m_169 : Cond.methodLink R_S 45 y_S_grow ∈ WALL := mm 169 (by decide +kernel) (by decide +kernel)
theorem m_171 : Cond.instanceMethod y_S_grow ∈ WALL := mm 171 (by decide +kernel) (by decide +kernel)
theorem m_172 : Cond.code y_S_grow b_S_grow 3 none ∈ WALL := mm 172 (by decide +kernel) (by decide +kernel)
theorem m_173 : Cond.constant R_S 67 (40001 : Int32) ∈ WALL := mm 173 (by decide +kernel) (by decide +kernel)
theorem m_174 : Cond.methodLink R_S 68 Lib.Math.min.name ∈ WALL := mm 174 (by decide +kernel) (by decide +kernel)
theorem m_175 : Cond.methodLink R_S 73 y_J_copyOf_i ∈ WALL := mm 175 (by decide +kernel) (by decide +kernel)
theorem m_176 : Cond.methodLink R_S 77 y_J_copyOf_l ∈ WALL := mm 176 (by decide +kernel) (by decide +kernel)
theorem m_177 : Cond.static y_J_copyOf_l ∈ WALL := mm 177 (by decide +kernel) (by decide +kernel)
theorem m_178 : Cond.code y_J_copyOf_l b_J_copyOf_l 3 (some (.array .long)) ∈ WALL := mm 178 (by decide +kernel) (by decide +kernel)
theorem m_184 : Cond.methodLink R_S 80 y_J_copyOf_b ∈ WALL := mm 184 (by decide +kernel) (by decide +kernel)
theorem m_185 : Cond.static y_J_copyOf_b ∈ WALL := mm 185 (by decide +kernel) (by decide +kernel)
theorem m_186 : Cond.code y_J_copyOf_b b_J_copyOf_b 3 (some (.array .byte)) ∈ WALL := mm 186 (by decide +kernel) (by decide +kernel)
theorem m_192 : Cond.methodLink R_F 142 y_F_append ∈ WALL := mm 192 (by decide +kernel) (by decide +kernel)
theorem m_194 : Cond.instanceMethod y_F_append ∈ WALL := mm 194 (by decide +kernel) (by decide +kernel)
theorem m_195 : Cond.code y_F_append b_F_append 4 none ∈ WALL := mm 195 (by decide +kernel) (by decide +kernel)
theorem m_196 : Cond.methodLink R_F 145 y_F_change ∈ WALL := mm 196 (by decide +kernel) (by decide +kernel)
theorem m_198 : Cond.instanceMethod y_F_change ∈ WALL := mm 198 (by decide +kernel) (by decide +kernel)
theorem m_199 : Cond.code y_F_change b_F_change 8 none ∈ WALL := mm 199 (by decide +kernel) (by decide +kernel)
theorem m_200 : Cond.methodLink R_F 152 y_S_setValue ∈ WALL := mm 200 (by decide +kernel) (by decide +kernel)
theorem m_201 : Cond.instanceMethod y_S_setValue ∈ WALL := mm 201 (by decide +kernel) (by decide +kernel)
theorem m_202 : Cond.selects R_S y_S_setValue y_S_setValue ∈ WALL := mm 202 (by decide +kernel) (by decide +kernel)
theorem m_203 : Cond.code y_S_setValue b_S_setValue 5 none ∈ WALL := mm 203 (by decide +kernel) (by decide +kernel)
theorem m_204 : Cond.methodLink R_F 124 y_S_keyKind ∈ WALL := mm 204 (by decide +kernel) (by decide +kernel)
theorem m_205 : Cond.instanceMethod y_S_keyKind ∈ WALL := mm 205 (by decide +kernel) (by decide +kernel)
theorem m_206 : Cond.selects R_S y_S_keyKind y_S_keyKind ∈ WALL := mm 206 (by decide +kernel) (by decide +kernel)
theorem m_207 : Cond.code y_S_keyKind b_S_keyKind 2 (some .int) ∈ WALL := mm 207 (by decide +kernel) (by decide +kernel)
theorem m_208 : Cond.methodLink R_F 156 y_F_raiseBorder ∈ WALL := mm 208 (by decide +kernel) (by decide +kernel)
theorem m_210 : Cond.instanceMethod y_F_raiseBorder ∈ WALL := mm 210 (by decide +kernel) (by decide +kernel)
theorem m_211 : Cond.code y_F_raiseBorder b_F_raiseBorder 5 none ∈ WALL := mm 211 (by decide +kernel) (by decide +kernel)
theorem m_212 : Cond.constant R_F 163 (40000 : Int32) ∈ WALL := mm 212 (by decide +kernel) (by decide +kernel)
theorem m_213 : Cond.methodLink R_F 160 y_F_lowerBorder ∈ WALL := mm 213 (by decide +kernel) (by decide +kernel)
theorem m_215 : Cond.instanceMethod y_F_lowerBorder ∈ WALL := mm 215 (by decide +kernel) (by decide +kernel)
theorem m_216 : Cond.code y_F_lowerBorder b_F_lowerBorder 4 none ∈ WALL := mm 216 (by decide +kernel) (by decide +kernel)
theorem m_217 : Cond.methodLink "FieldTablesLaw" 25 y_F_kindAt ∈ WALL := mm 217 (by decide +kernel) (by decide +kernel)
theorem m_218 : Cond.instanceMethod y_F_kindAt ∈ WALL := mm 218 (by decide +kernel) (by decide +kernel)
theorem m_219 : Cond.selects R_F y_F_kindAt y_F_kindAt ∈ WALL := mm 219 (by decide +kernel) (by decide +kernel)
theorem m_220 : Cond.code y_F_kindAt b_F_kindAt 5 (some .int) ∈ WALL := mm 220 (by decide +kernel) (by decide +kernel)
theorem m_221 : Cond.methodLink "FieldTablesLaw" 30 y_F_numberAt ∈ WALL := mm 221 (by decide +kernel) (by decide +kernel)
theorem m_222 : Cond.instanceMethod y_F_numberAt ∈ WALL := mm 222 (by decide +kernel) (by decide +kernel)
theorem m_223 : Cond.selects R_F y_F_numberAt y_F_numberAt ∈ WALL := mm 223 (by decide +kernel) (by decide +kernel)
theorem m_224 : Cond.code y_F_numberAt b_F_numberAt 5 (some .long) ∈ WALL := mm 224 (by decide +kernel) (by decide +kernel)
theorem m_225 : Cond.methodLink "FieldTablesLaw" 35 y_F_border ∈ WALL := mm 225 (by decide +kernel) (by decide +kernel)
theorem m_226 : Cond.instanceMethod y_F_border ∈ WALL := mm 226 (by decide +kernel) (by decide +kernel)
theorem m_227 : Cond.selects R_F y_F_border y_F_border ∈ WALL := mm 227 (by decide +kernel) (by decide +kernel)
theorem m_228 : Cond.code y_F_border b_F_border 2 (some .int) ∈ WALL := mm 228 (by decide +kernel) (by decide +kernel)
theorem m_229 : Cond.methodLink "FieldTablesLaw" 40 y_F_keys ∈ WALL := mm 229 (by decide +kernel) (by decide +kernel)
theorem m_230 : Cond.instanceMethod y_F_keys ∈ WALL := mm 230 (by decide +kernel) (by decide +kernel)
theorem m_231 : Cond.selects R_F y_F_keys y_F_keys ∈ WALL := mm 231 (by decide +kernel) (by decide +kernel)
theorem m_232 : Cond.code y_F_keys b_F_keys 2 (some .int) ∈ WALL := mm 232 (by decide +kernel) (by decide +kernel)
theorem m_233 : Cond.methodLink "FieldTablesLaw" 44 y_F_fields ∈ WALL := mm 233 (by decide +kernel) (by decide +kernel)
theorem m_234 : Cond.instanceMethod y_F_fields ∈ WALL := mm 234 (by decide +kernel) (by decide +kernel)
theorem m_235 : Cond.selects R_F y_F_fields y_F_fields ∈ WALL := mm 235 (by decide +kernel) (by decide +kernel)
theorem m_236 : Cond.code y_F_fields b_F_fields 2 (some .int) ∈ WALL := mm 236 (by decide +kernel) (by decide +kernel)
theorem m_237 : Cond.methodLink "FieldTablesLaw" 48 y_F_next ∈ WALL := mm 237 (by decide +kernel) (by decide +kernel)
theorem m_238 : Cond.instanceMethod y_F_next ∈ WALL := mm 238 (by decide +kernel) (by decide +kernel)
theorem m_239 : Cond.selects R_F y_F_next y_F_next ∈ WALL := mm 239 (by decide +kernel) (by decide +kernel)
theorem m_240 : Cond.code y_F_next b_F_next 7 (some .int) ∈ WALL := mm 240 (by decide +kernel) (by decide +kernel)
theorem m_241 : Cond.methodLink R_F 83 y_F_firstWithValue ∈ WALL := mm 241 (by decide +kernel) (by decide +kernel)
theorem m_243 : Cond.instanceMethod y_F_firstWithValue ∈ WALL := mm 243 (by decide +kernel) (by decide +kernel)
theorem m_244 : Cond.code y_F_firstWithValue b_F_firstWithValue 6 (some .int) ∈ WALL := mm 244 (by decide +kernel) (by decide +kernel)
theorem m_245 : Cond.methodLink R_F 87 y_F_setCursor ∈ WALL := mm 245 (by decide +kernel) (by decide +kernel)
theorem m_247 : Cond.instanceMethod y_F_setCursor ∈ WALL := mm 247 (by decide +kernel) (by decide +kernel)
theorem m_248 : Cond.code y_F_setCursor b_F_setCursor 2 (some .int) ∈ WALL := mm 248 (by decide +kernel) (by decide +kernel)
theorem m_249 : Cond.methodLink "FieldTablesLaw" 52 y_F_cursorKind ∈ WALL := mm 249 (by decide +kernel) (by decide +kernel)
theorem m_250 : Cond.instanceMethod y_F_cursorKind ∈ WALL := mm 250 (by decide +kernel) (by decide +kernel)
theorem m_251 : Cond.selects R_F y_F_cursorKind y_F_cursorKind ∈ WALL := mm 251 (by decide +kernel) (by decide +kernel)
theorem m_252 : Cond.code y_F_cursorKind b_F_cursorKind 1 (some .int) ∈ WALL := mm 252 (by decide +kernel) (by decide +kernel)
theorem m_253 : Cond.methodLink "FieldTablesLaw" 56 y_F_cursorNumber ∈ WALL := mm 253 (by decide +kernel) (by decide +kernel)
theorem m_254 : Cond.instanceMethod y_F_cursorNumber ∈ WALL := mm 254 (by decide +kernel) (by decide +kernel)
theorem m_255 : Cond.selects R_F y_F_cursorNumber y_F_cursorNumber ∈ WALL := mm 255 (by decide +kernel) (by decide +kernel)
theorem m_256 : Cond.code y_F_cursorNumber b_F_cursorNumber 1 (some .long) ∈ WALL := mm 256 (by decide +kernel) (by decide +kernel)
theorem m_257 : Cond.methodLink "FieldTablesLaw" 61 y_F_fill ∈ WALL := mm 257 (by decide +kernel) (by decide +kernel)
theorem m_258 : Cond.instanceMethod y_F_fill ∈ WALL := mm 258 (by decide +kernel) (by decide +kernel)
theorem m_259 : Cond.selects R_F y_F_fill y_F_fill ∈ WALL := mm 259 (by decide +kernel) (by decide +kernel)
theorem m_260 : Cond.code y_F_fill b_F_fill 10 (some .int) ∈ WALL := mm 260 (by decide +kernel) (by decide +kernel)
theorem m_261 : Cond.methodLink R_F 91 y_F_isRun ∈ WALL := mm 261 (by decide +kernel) (by decide +kernel)
theorem m_263 : Cond.instanceMethod y_F_isRun ∈ WALL := mm 263 (by decide +kernel) (by decide +kernel)
theorem m_264 : Cond.code y_F_isRun b_F_isRun 6 (some .boolean) ∈ WALL := mm 264 (by decide +kernel) (by decide +kernel)
theorem m_265 : Cond.constantLong R_F 135 (-1000000 : Int64) ∈ WALL := mm 265 (by decide +kernel) (by decide +kernel)
theorem m_266 : Cond.constantLong R_F 137 (1000000 : Int64) ∈ WALL := mm 266 (by decide +kernel) (by decide +kernel)
theorem m_267 : Cond.methodLink R_F 95 y_F_missing ∈ WALL := mm 267 (by decide +kernel) (by decide +kernel)
theorem m_269 : Cond.instanceMethod y_F_missing ∈ WALL := mm 269 (by decide +kernel) (by decide +kernel)
theorem m_270 : Cond.code y_F_missing b_F_missing 10 (some .int) ∈ WALL := mm 270 (by decide +kernel) (by decide +kernel)
theorem m_271 : Cond.methodLink R_F 103 y_F_whole ∈ WALL := mm 271 (by decide +kernel) (by decide +kernel)
theorem m_273 : Cond.instanceMethod y_F_whole ∈ WALL := mm 273 (by decide +kernel) (by decide +kernel)
theorem m_274 : Cond.code y_F_whole b_F_whole 4 (some .int) ∈ WALL := mm 274 (by decide +kernel) (by decide +kernel)
theorem m_275 : Cond.methodLink "FieldTablesLaw" 66 y_F_clear ∈ WALL := mm 275 (by decide +kernel) (by decide +kernel)
theorem m_276 : Cond.instanceMethod y_F_clear ∈ WALL := mm 276 (by decide +kernel) (by decide +kernel)
theorem m_277 : Cond.selects R_F y_F_clear y_F_clear ∈ WALL := mm 277 (by decide +kernel) (by decide +kernel)
theorem m_278 : Cond.code y_F_clear b_F_clear 10 (some .int) ∈ WALL := mm 278 (by decide +kernel) (by decide +kernel)
theorem m_279 : Cond.methodLink "FieldTablesLaw" 70 y_F_insert ∈ WALL := mm 279 (by decide +kernel) (by decide +kernel)
theorem m_280 : Cond.instanceMethod y_F_insert ∈ WALL := mm 280 (by decide +kernel) (by decide +kernel)
theorem m_281 : Cond.selects R_F y_F_insert y_F_insert ∈ WALL := mm 281 (by decide +kernel) (by decide +kernel)
theorem m_282 : Cond.code y_F_insert b_F_insert 9 (some .int) ∈ WALL := mm 282 (by decide +kernel) (by decide +kernel)
theorem m_283 : Cond.methodLink R_F 99 y_F_isPlace ∈ WALL := mm 283 (by decide +kernel) (by decide +kernel)
theorem m_285 : Cond.instanceMethod y_F_isPlace ∈ WALL := mm 285 (by decide +kernel) (by decide +kernel)
theorem m_286 : Cond.code y_F_isPlace b_F_isPlace 3 (some .boolean) ∈ WALL := mm 286 (by decide +kernel) (by decide +kernel)
theorem m_287 : Cond.methodLink R_F 107 y_F_moveUp ∈ WALL := mm 287 (by decide +kernel) (by decide +kernel)
theorem m_289 : Cond.instanceMethod y_F_moveUp ∈ WALL := mm 289 (by decide +kernel) (by decide +kernel)
theorem m_290 : Cond.code y_F_moveUp b_F_moveUp 7 none ∈ WALL := mm 290 (by decide +kernel) (by decide +kernel)
theorem m_291 : Cond.methodLink R_F 170 y_S_copyValue ∈ WALL := mm 291 (by decide +kernel) (by decide +kernel)
theorem m_292 : Cond.instanceMethod y_S_copyValue ∈ WALL := mm 292 (by decide +kernel) (by decide +kernel)
theorem m_293 : Cond.selects R_S y_S_copyValue y_S_copyValue ∈ WALL := mm 293 (by decide +kernel) (by decide +kernel)
theorem m_294 : Cond.code y_S_copyValue b_S_copyValue 3 none ∈ WALL := mm 294 (by decide +kernel) (by decide +kernel)
theorem m_295 : Cond.methodLink "FieldTablesLaw" 75 y_F_remove ∈ WALL := mm 295 (by decide +kernel) (by decide +kernel)
theorem m_296 : Cond.instanceMethod y_F_remove ∈ WALL := mm 296 (by decide +kernel) (by decide +kernel)
theorem m_297 : Cond.selects R_F y_F_remove y_F_remove ∈ WALL := mm 297 (by decide +kernel) (by decide +kernel)
theorem m_298 : Cond.code y_F_remove b_F_remove 4 (some .int) ∈ WALL := mm 298 (by decide +kernel) (by decide +kernel)
theorem m_299 : Cond.methodLink R_F 111 y_F_moveDown ∈ WALL := mm 299 (by decide +kernel) (by decide +kernel)
theorem m_301 : Cond.instanceMethod y_F_moveDown ∈ WALL := mm 301 (by decide +kernel) (by decide +kernel)
theorem m_302 : Cond.code y_F_moveDown b_F_moveDown 7 none ∈ WALL := mm 302 (by decide +kernel) (by decide +kernel)
theorem m_303 : Cond.methodLink "FieldTablesLaw" 80 y_F_reverse ∈ WALL := mm 303 (by decide +kernel) (by decide +kernel)
theorem m_304 : Cond.instanceMethod y_F_reverse ∈ WALL := mm 304 (by decide +kernel) (by decide +kernel)
theorem m_305 : Cond.selects R_F y_F_reverse y_F_reverse ∈ WALL := mm 305 (by decide +kernel) (by decide +kernel)
theorem m_306 : Cond.code y_F_reverse b_F_reverse 5 (some .int) ∈ WALL := mm 306 (by decide +kernel) (by decide +kernel)
theorem m_307 : Cond.methodLink R_F 114 y_S_swapValues ∈ WALL := mm 307 (by decide +kernel) (by decide +kernel)
theorem m_308 : Cond.instanceMethod y_S_swapValues ∈ WALL := mm 308 (by decide +kernel) (by decide +kernel)
theorem m_309 : Cond.selects R_S y_S_swapValues y_S_swapValues ∈ WALL := mm 309 (by decide +kernel) (by decide +kernel)
theorem m_310 : Cond.code y_S_swapValues b_S_swapValues 6 none ∈ WALL := mm 310 (by decide +kernel) (by decide +kernel)
theorem m_311 : Cond.methodLink R_S 48 y_S_copyValue ∈ WALL := mm 311 (by decide +kernel) (by decide +kernel)
theorem m_312 : Cond.methodLink "FieldTablesLaw" 84 y_F_same ∈ WALL := mm 312 (by decide +kernel) (by decide +kernel)
theorem m_313 : Cond.instanceMethod y_F_same ∈ WALL := mm 313 (by decide +kernel) (by decide +kernel)
theorem m_314 : Cond.selects R_F y_F_same y_F_same ∈ WALL := mm 314 (by decide +kernel) (by decide +kernel)
theorem m_315 : Cond.code y_F_same b_F_same 4 (some .int) ∈ WALL := mm 315 (by decide +kernel) (by decide +kernel)
theorem m_316 : Cond.methodLink R_F 118 y_F_holdsAll ∈ WALL := mm 316 (by decide +kernel) (by decide +kernel)
theorem m_318 : Cond.instanceMethod y_F_holdsAll ∈ WALL := mm 318 (by decide +kernel) (by decide +kernel)
theorem m_319 : Cond.code y_F_holdsAll b_F_holdsAll 6 (some .boolean) ∈ WALL := mm 319 (by decide +kernel) (by decide +kernel)
theorem m_320 : Cond.methodLink R_F 164 y_F_twin ∈ WALL := mm 320 (by decide +kernel) (by decide +kernel)
theorem m_322 : Cond.instanceMethod y_F_twin ∈ WALL := mm 322 (by decide +kernel) (by decide +kernel)
theorem m_323 : Cond.code y_F_twin b_F_twin 3 (some .int) ∈ WALL := mm 323 (by decide +kernel) (by decide +kernel)
theorem m_324 : Cond.methodLink R_F 167 y_S_sameValues ∈ WALL := mm 324 (by decide +kernel) (by decide +kernel)
theorem m_325 : Cond.instanceMethod y_S_sameValues ∈ WALL := mm 325 (by decide +kernel) (by decide +kernel)
theorem m_326 : Cond.selects R_S y_S_sameValues y_S_sameValues ∈ WALL := mm 326 (by decide +kernel) (by decide +kernel)
theorem m_327 : Cond.code y_S_sameValues b_S_sameValues 3 (some .boolean) ∈ WALL := mm 327 (by decide +kernel) (by decide +kernel)
theorem m_328 : Cond.methodLink "FieldTablesLaw" 88 y_F_copy ∈ WALL := mm 328 (by decide +kernel) (by decide +kernel)
theorem m_329 : Cond.instanceMethod y_F_copy ∈ WALL := mm 329 (by decide +kernel) (by decide +kernel)
theorem m_330 : Cond.selects R_F y_F_copy y_F_copy ∈ WALL := mm 330 (by decide +kernel) (by decide +kernel)
theorem m_331 : Cond.code y_F_copy b_F_copy 8 (some .int) ∈ WALL := mm 331 (by decide +kernel) (by decide +kernel)
theorem m_332 : Cond.methodLink R_F 121 y_F_missingOf ∈ WALL := mm 332 (by decide +kernel) (by decide +kernel)
theorem m_334 : Cond.instanceMethod y_F_missingOf ∈ WALL := mm 334 (by decide +kernel) (by decide +kernel)
theorem m_335 : Cond.code y_F_missingOf b_F_missingOf 7 (some .int) ∈ WALL := mm 335 (by decide +kernel) (by decide +kernel)
theorem m_336 : Cond.methodLink "FieldTablesLaw" 92 y_F_empty ∈ WALL := mm 336 (by decide +kernel) (by decide +kernel)
theorem m_337 : Cond.instanceMethod y_F_empty ∈ WALL := mm 337 (by decide +kernel) (by decide +kernel)
theorem m_338 : Cond.selects R_F y_F_empty y_F_empty ∈ WALL := mm 338 (by decide +kernel) (by decide +kernel)
theorem m_339 : Cond.code y_F_empty b_F_empty 2 (some .int) ∈ WALL := mm 339 (by decide +kernel) (by decide +kernel)
theorem m_340 : Cond.methodLink R_F 131 y_T_forget ∈ WALL := mm 340 (by decide +kernel) (by decide +kernel)
theorem m_341 : Cond.instanceMethod y_T_forget ∈ WALL := mm 341 (by decide +kernel) (by decide +kernel)
theorem m_342 : Cond.selects R_T y_T_forget y_T_forget ∈ WALL := mm 342 (by decide +kernel) (by decide +kernel)
theorem m_343 : Cond.code y_T_forget b_T_forget 1 none ∈ WALL := mm 343 (by decide +kernel) (by decide +kernel)
theorem m_344 : Cond.methodLink R_F 134 y_S_forget ∈ WALL := mm 344 (by decide +kernel) (by decide +kernel)
theorem m_345 : Cond.instanceMethod y_S_forget ∈ WALL := mm 345 (by decide +kernel) (by decide +kernel)
theorem m_346 : Cond.selects R_S y_S_forget y_S_forget ∈ WALL := mm 346 (by decide +kernel) (by decide +kernel)
theorem m_347 : Cond.code y_S_forget b_S_forget 1 none ∈ WALL := mm 347 (by decide +kernel) (by decide +kernel)
theorem m_348 : Cond.methodLink R_S 52 y_J_fill ∈ WALL := mm 348 (by decide +kernel) (by decide +kernel)
theorem m_349 : Cond.static y_J_fill ∈ WALL := mm 349 (by decide +kernel) (by decide +kernel)
theorem m_350 : Cond.code y_J_fill b_J_fill 4 none ∈ WALL := mm 350 (by decide +kernel) (by decide +kernel)
theorem m_351 : Cond.methodLink "FieldTablesLaw" 96 y_F_all ∈ WALL := mm 351 (by decide +kernel) (by decide +kernel)
theorem m_352 : Cond.instanceMethod y_F_all ∈ WALL := mm 352 (by decide +kernel) (by decide +kernel)
theorem m_353 : Cond.selects R_F y_F_all y_F_all ∈ WALL := mm 353 (by decide +kernel) (by decide +kernel)
theorem m_354 : Cond.code y_F_all b_F_all 1 (some .int) ∈ WALL := mm 354 (by decide +kernel) (by decide +kernel)
theorem m_355 : Cond.classLink "FieldTablesLaw" 10 R_M ∈ WALL := mm 355 (by decide +kernel) (by decide +kernel)
theorem m_356 : Cond.instantiable R_M 15 ∈ WALL := mm 356 (by decide +kernel) (by decide +kernel)
theorem m_357 : Cond.methodLink "FieldTablesLaw" 12 y_M_init ∈ WALL := mm 357 (by decide +kernel) (by decide +kernel)
theorem m_358 : Cond.instanceMethod y_M_init ∈ WALL := mm 358 (by decide +kernel) (by decide +kernel)
theorem m_359 : Cond.code y_M_init b_M_init 1 none ∈ WALL := mm 359 (by decide +kernel) (by decide +kernel)
theorem m_360 : Cond.methodLink R_M 1 objectInit ∈ WALL := mm 360 (by decide +kernel) (by decide +kernel)
theorem m_361 : Cond.fieldLink R_M 7 R_M "keyKinds" "[B" ∈ WALL := mm 361 (by decide +kernel) (by decide +kernel)
theorem m_362 : Cond.fieldLink R_M 13 R_M "keyNumbers" "[J" ∈ WALL := mm 362 (by decide +kernel) (by decide +kernel)
theorem m_363 : Cond.fieldLink R_M 17 R_M "kinds" "[B" ∈ WALL := mm 363 (by decide +kernel) (by decide +kernel)
theorem m_364 : Cond.fieldLink R_M 20 R_M "numbers" "[J" ∈ WALL := mm 364 (by decide +kernel) (by decide +kernel)
theorem m_365 : Cond.fieldLink R_M 23 R_M "owners" "[I" ∈ WALL := mm 365 (by decide +kernel) (by decide +kernel)
theorem m_366 : Cond.fieldLink R_M 27 R_M "nexts" "[I" ∈ WALL := mm 366 (by decide +kernel) (by decide +kernel)
theorem m_367 : Cond.fieldLink R_M 30 R_M "others" "[I" ∈ WALL := mm 367 (by decide +kernel) (by decide +kernel)
theorem m_368 : Cond.fieldLink R_M 76 R_M "count" "I" ∈ WALL := mm 368 (by decide +kernel) (by decide +kernel)
theorem m_369 : Cond.fieldLink R_M 33 R_M "chains" "[I" ∈ WALL := mm 369 (by decide +kernel) (by decide +kernel)
theorem m_370 : Cond.fieldLink R_M 36 R_M "firsts" "[I" ∈ WALL := mm 370 (by decide +kernel) (by decide +kernel)
theorem m_371 : Cond.fieldLink R_M 39 R_M "lasts" "[I" ∈ WALL := mm 371 (by decide +kernel) (by decide +kernel)
theorem m_372 : Cond.fieldLink R_M 42 R_M "sizes" "[I" ∈ WALL := mm 372 (by decide +kernel) (by decide +kernel)
theorem m_373 : Cond.fieldLink R_M 51 R_M "tables" "I" ∈ WALL := mm 373 (by decide +kernel) (by decide +kernel)
theorem m_374 : Cond.fieldLink R_M 114 R_M "cursorKind" "I" ∈ WALL := mm 374 (by decide +kernel) (by decide +kernel)
theorem m_375 : Cond.fieldLink R_M 117 R_M "cursorNumber" "J" ∈ WALL := mm 375 (by decide +kernel) (by decide +kernel)
theorem m_407 : Cond.methodLink "FieldTablesLaw" 17 y_M_make ∈ WALL := mm 407 (by decide +kernel) (by decide +kernel)
theorem m_408 : Cond.instanceMethod y_M_make ∈ WALL := mm 408 (by decide +kernel) (by decide +kernel)
theorem m_409 : Cond.selects R_M y_M_make y_M_make ∈ WALL := mm 409 (by decide +kernel) (by decide +kernel)
theorem m_410 : Cond.code y_M_make b_M_make 1 (some .int) ∈ WALL := mm 410 (by decide +kernel) (by decide +kernel)
theorem m_411 : Cond.methodLink R_M 55 y_M_twice ∈ WALL := mm 411 (by decide +kernel) (by decide +kernel)
theorem m_412 : Cond.static y_M_twice ∈ WALL := mm 412 (by decide +kernel) (by decide +kernel)
theorem m_413 : Cond.code y_M_twice b_M_twice 2 (some (.array .int)) ∈ WALL := mm 413 (by decide +kernel) (by decide +kernel)
theorem m_414 : Cond.methodLink R_M 45 arraycopyName ∈ WALL := mm 414 (by decide +kernel) (by decide +kernel)
theorem m_415 : Cond.methodLink "FieldTablesLaw" 24 y_M_put ∈ WALL := mm 415 (by decide +kernel) (by decide +kernel)
theorem m_416 : Cond.instanceMethod y_M_put ∈ WALL := mm 416 (by decide +kernel) (by decide +kernel)
theorem m_417 : Cond.selects R_M y_M_put y_M_put ∈ WALL := mm 417 (by decide +kernel) (by decide +kernel)
theorem m_418 : Cond.code y_M_put b_M_put 8 (some .int) ∈ WALL := mm 418 (by decide +kernel) (by decide +kernel)
theorem m_419 : Cond.methodLink R_M 94 y_M_isTable ∈ WALL := mm 419 (by decide +kernel) (by decide +kernel)
theorem m_421 : Cond.instanceMethod y_M_isTable ∈ WALL := mm 421 (by decide +kernel) (by decide +kernel)
theorem m_422 : Cond.code y_M_isTable b_M_isTable 2 (some .boolean) ∈ WALL := mm 422 (by decide +kernel) (by decide +kernel)
theorem m_423 : Cond.constant R_M 98 (40000 : Int32) ∈ WALL := mm 423 (by decide +kernel) (by decide +kernel)
theorem m_424 : Cond.methodLink R_M 73 y_M_find ∈ WALL := mm 424 (by decide +kernel) (by decide +kernel)
theorem m_426 : Cond.instanceMethod y_M_find ∈ WALL := mm 426 (by decide +kernel) (by decide +kernel)
theorem m_427 : Cond.code y_M_find b_M_find 6 (some .int) ∈ WALL := mm 427 (by decide +kernel) (by decide +kernel)
theorem m_428 : Cond.methodLink R_M 69 y_M_chainOf ∈ WALL := mm 428 (by decide +kernel) (by decide +kernel)
theorem m_429 : Cond.static y_M_chainOf ∈ WALL := mm 429 (by decide +kernel) (by decide +kernel)
theorem m_430 : Cond.code y_M_chainOf b_M_chainOf 6 (some .int) ∈ WALL := mm 430 (by decide +kernel) (by decide +kernel)
theorem m_431 : Cond.constantLong R_M 59 (8 : Int64) ∈ WALL := mm 431 (by decide +kernel) (by decide +kernel)
theorem m_432 : Cond.constantLong R_M 61 (97 : Int64) ∈ WALL := mm 432 (by decide +kernel) (by decide +kernel)
theorem m_433 : Cond.constantLong R_M 65 (9223372036854775807 : Int64) ∈ WALL := mm 433 (by decide +kernel) (by decide +kernel)
theorem m_434 : Cond.constantLong R_M 67 (8191 : Int64) ∈ WALL := mm 434 (by decide +kernel) (by decide +kernel)
theorem m_435 : Cond.methodLink R_M 99 y_M_give ∈ WALL := mm 435 (by decide +kernel) (by decide +kernel)
theorem m_437 : Cond.instanceMethod y_M_give ∈ WALL := mm 437 (by decide +kernel) (by decide +kernel)
theorem m_438 : Cond.code y_M_give b_M_give 10 (some .int) ∈ WALL := mm 438 (by decide +kernel) (by decide +kernel)
theorem m_439 : Cond.methodLink R_M 87 y_M_come ∈ WALL := mm 439 (by decide +kernel) (by decide +kernel)
theorem m_441 : Cond.instanceMethod y_M_come ∈ WALL := mm 441 (by decide +kernel) (by decide +kernel)
theorem m_442 : Cond.code y_M_come b_M_come 7 (some .int) ∈ WALL := mm 442 (by decide +kernel) (by decide +kernel)
theorem m_443 : Cond.methodLink R_M 79 y_M_twiceByte ∈ WALL := mm 443 (by decide +kernel) (by decide +kernel)
theorem m_444 : Cond.static y_M_twiceByte ∈ WALL := mm 444 (by decide +kernel) (by decide +kernel)
theorem m_445 : Cond.code y_M_twiceByte b_M_twiceByte 2 (some (.array .byte)) ∈ WALL := mm 445 (by decide +kernel) (by decide +kernel)
theorem m_446 : Cond.methodLink R_M 83 y_M_twiceLong ∈ WALL := mm 446 (by decide +kernel) (by decide +kernel)
theorem m_447 : Cond.static y_M_twiceLong ∈ WALL := mm 447 (by decide +kernel) (by decide +kernel)
theorem m_448 : Cond.code y_M_twiceLong b_M_twiceLong 2 (some (.array .long)) ∈ WALL := mm 448 (by decide +kernel) (by decide +kernel)
theorem m_449 : Cond.methodLink R_M 90 y_M_set ∈ WALL := mm 449 (by decide +kernel) (by decide +kernel)
theorem m_451 : Cond.instanceMethod y_M_set ∈ WALL := mm 451 (by decide +kernel) (by decide +kernel)
theorem m_452 : Cond.code y_M_set b_M_set 5 none ∈ WALL := mm 452 (by decide +kernel) (by decide +kernel)
theorem m_453 : Cond.methodLink "FieldTablesLaw" 29 y_M_kindAt ∈ WALL := mm 453 (by decide +kernel) (by decide +kernel)
theorem m_454 : Cond.instanceMethod y_M_kindAt ∈ WALL := mm 454 (by decide +kernel) (by decide +kernel)
theorem m_455 : Cond.selects R_M y_M_kindAt y_M_kindAt ∈ WALL := mm 455 (by decide +kernel) (by decide +kernel)
theorem m_456 : Cond.code y_M_kindAt b_M_kindAt 6 (some .int) ∈ WALL := mm 456 (by decide +kernel) (by decide +kernel)
theorem m_457 : Cond.methodLink "FieldTablesLaw" 34 y_M_numberAt ∈ WALL := mm 457 (by decide +kernel) (by decide +kernel)
theorem m_458 : Cond.instanceMethod y_M_numberAt ∈ WALL := mm 458 (by decide +kernel) (by decide +kernel)
theorem m_459 : Cond.selects R_M y_M_numberAt y_M_numberAt ∈ WALL := mm 459 (by decide +kernel) (by decide +kernel)
theorem m_460 : Cond.code y_M_numberAt b_M_numberAt 5 (some .long) ∈ WALL := mm 460 (by decide +kernel) (by decide +kernel)
theorem m_461 : Cond.methodLink R_M 103 y_M_kindAt ∈ WALL := mm 461 (by decide +kernel) (by decide +kernel)
theorem m_462 : Cond.methodLink "FieldTablesLaw" 39 y_M_border ∈ WALL := mm 462 (by decide +kernel) (by decide +kernel)
theorem m_463 : Cond.instanceMethod y_M_border ∈ WALL := mm 463 (by decide +kernel) (by decide +kernel)
theorem m_464 : Cond.selects R_M y_M_border y_M_border ∈ WALL := mm 464 (by decide +kernel) (by decide +kernel)
theorem m_465 : Cond.code y_M_border b_M_border 2 (some .int) ∈ WALL := mm 465 (by decide +kernel) (by decide +kernel)
theorem m_466 : Cond.methodLink R_M 110 y_M_edge ∈ WALL := mm 466 (by decide +kernel) (by decide +kernel)
theorem m_468 : Cond.instanceMethod y_M_edge ∈ WALL := mm 468 (by decide +kernel) (by decide +kernel)
theorem m_469 : Cond.code y_M_edge b_M_edge 5 (some .int) ∈ WALL := mm 469 (by decide +kernel) (by decide +kernel)
theorem m_470 : Cond.methodLink R_M 106 y_M_findWhole ∈ WALL := mm 470 (by decide +kernel) (by decide +kernel)
theorem m_472 : Cond.instanceMethod y_M_findWhole ∈ WALL := mm 472 (by decide +kernel) (by decide +kernel)
theorem m_473 : Cond.code y_M_findWhole b_M_findWhole 4 (some .int) ∈ WALL := mm 473 (by decide +kernel) (by decide +kernel)
theorem m_474 : Cond.methodLink "FieldTablesLaw" 43 y_M_keys ∈ WALL := mm 474 (by decide +kernel) (by decide +kernel)
theorem m_475 : Cond.instanceMethod y_M_keys ∈ WALL := mm 475 (by decide +kernel) (by decide +kernel)
theorem m_476 : Cond.selects R_M y_M_keys y_M_keys ∈ WALL := mm 476 (by decide +kernel) (by decide +kernel)
theorem m_477 : Cond.code y_M_keys b_M_keys 2 (some .int) ∈ WALL := mm 477 (by decide +kernel) (by decide +kernel)
theorem m_478 : Cond.methodLink "FieldTablesLaw" 47 y_M_fields ∈ WALL := mm 478 (by decide +kernel) (by decide +kernel)
theorem m_479 : Cond.instanceMethod y_M_fields ∈ WALL := mm 479 (by decide +kernel) (by decide +kernel)
theorem m_480 : Cond.selects R_M y_M_fields y_M_fields ∈ WALL := mm 480 (by decide +kernel) (by decide +kernel)
theorem m_481 : Cond.code y_M_fields b_M_fields 4 (some .int) ∈ WALL := mm 481 (by decide +kernel) (by decide +kernel)
theorem m_482 : Cond.methodLink "FieldTablesLaw" 51 y_M_next ∈ WALL := mm 482 (by decide +kernel) (by decide +kernel)
theorem m_483 : Cond.instanceMethod y_M_next ∈ WALL := mm 483 (by decide +kernel) (by decide +kernel)
theorem m_484 : Cond.selects R_M y_M_next y_M_next ∈ WALL := mm 484 (by decide +kernel) (by decide +kernel)
theorem m_485 : Cond.code y_M_next b_M_next 6 (some .int) ∈ WALL := mm 485 (by decide +kernel) (by decide +kernel)
theorem m_486 : Cond.methodLink "FieldTablesLaw" 55 y_M_cursorKind ∈ WALL := mm 486 (by decide +kernel) (by decide +kernel)
theorem m_487 : Cond.instanceMethod y_M_cursorKind ∈ WALL := mm 487 (by decide +kernel) (by decide +kernel)
theorem m_488 : Cond.selects R_M y_M_cursorKind y_M_cursorKind ∈ WALL := mm 488 (by decide +kernel) (by decide +kernel)
theorem m_489 : Cond.code y_M_cursorKind b_M_cursorKind 1 (some .int) ∈ WALL := mm 489 (by decide +kernel) (by decide +kernel)
theorem m_490 : Cond.methodLink "FieldTablesLaw" 60 y_M_cursorNumber ∈ WALL := mm 490 (by decide +kernel) (by decide +kernel)
theorem m_491 : Cond.instanceMethod y_M_cursorNumber ∈ WALL := mm 491 (by decide +kernel) (by decide +kernel)
theorem m_492 : Cond.selects R_M y_M_cursorNumber y_M_cursorNumber ∈ WALL := mm 492 (by decide +kernel) (by decide +kernel)
theorem m_493 : Cond.code y_M_cursorNumber b_M_cursorNumber 1 (some .long) ∈ WALL := mm 493 (by decide +kernel) (by decide +kernel)
theorem m_494 : Cond.methodLink "FieldTablesLaw" 65 y_M_fill ∈ WALL := mm 494 (by decide +kernel) (by decide +kernel)
theorem m_495 : Cond.instanceMethod y_M_fill ∈ WALL := mm 495 (by decide +kernel) (by decide +kernel)
theorem m_496 : Cond.selects R_M y_M_fill y_M_fill ∈ WALL := mm 496 (by decide +kernel) (by decide +kernel)
theorem m_497 : Cond.code y_M_fill b_M_fill 8 (some .int) ∈ WALL := mm 497 (by decide +kernel) (by decide +kernel)
theorem m_498 : Cond.methodLink R_M 125 y_M_isRow ∈ WALL := mm 498 (by decide +kernel) (by decide +kernel)
theorem m_500 : Cond.instanceMethod y_M_isRow ∈ WALL := mm 500 (by decide +kernel) (by decide +kernel)
theorem m_501 : Cond.code y_M_isRow b_M_isRow 6 (some .boolean) ∈ WALL := mm 501 (by decide +kernel) (by decide +kernel)
theorem m_502 : Cond.constantLong R_M 121 (-1000000 : Int64) ∈ WALL := mm 502 (by decide +kernel) (by decide +kernel)
theorem m_503 : Cond.constantLong R_M 123 (1000000 : Int64) ∈ WALL := mm 503 (by decide +kernel) (by decide +kernel)
theorem m_504 : Cond.methodLink "FieldTablesLaw" 69 y_M_clear ∈ WALL := mm 504 (by decide +kernel) (by decide +kernel)
theorem m_505 : Cond.instanceMethod y_M_clear ∈ WALL := mm 505 (by decide +kernel) (by decide +kernel)
theorem m_506 : Cond.selects R_M y_M_clear y_M_clear ∈ WALL := mm 506 (by decide +kernel) (by decide +kernel)
theorem m_507 : Cond.code y_M_clear b_M_clear 9 (some .int) ∈ WALL := mm 507 (by decide +kernel) (by decide +kernel)
theorem m_508 : Cond.methodLink "FieldTablesLaw" 74 y_M_insert ∈ WALL := mm 508 (by decide +kernel) (by decide +kernel)
theorem m_509 : Cond.instanceMethod y_M_insert ∈ WALL := mm 509 (by decide +kernel) (by decide +kernel)
theorem m_510 : Cond.selects R_M y_M_insert y_M_insert ∈ WALL := mm 510 (by decide +kernel) (by decide +kernel)
theorem m_511 : Cond.code y_M_insert b_M_insert 9 (some .int) ∈ WALL := mm 511 (by decide +kernel) (by decide +kernel)
theorem m_512 : Cond.methodLink R_M 129 y_M_move ∈ WALL := mm 512 (by decide +kernel) (by decide +kernel)
theorem m_514 : Cond.instanceMethod y_M_move ∈ WALL := mm 514 (by decide +kernel) (by decide +kernel)
theorem m_515 : Cond.code y_M_move b_M_move 7 none ∈ WALL := mm 515 (by decide +kernel) (by decide +kernel)
theorem m_516 : Cond.methodLink "FieldTablesLaw" 79 y_M_remove ∈ WALL := mm 516 (by decide +kernel) (by decide +kernel)
theorem m_517 : Cond.instanceMethod y_M_remove ∈ WALL := mm 517 (by decide +kernel) (by decide +kernel)
theorem m_518 : Cond.selects R_M y_M_remove y_M_remove ∈ WALL := mm 518 (by decide +kernel) (by decide +kernel)
theorem m_519 : Cond.code y_M_remove b_M_remove 5 (some .int) ∈ WALL := mm 519 (by decide +kernel) (by decide +kernel)
theorem m_520 : Cond.methodLink "FieldTablesLaw" 83 y_M_reverse ∈ WALL := mm 520 (by decide +kernel) (by decide +kernel)
theorem m_521 : Cond.instanceMethod y_M_reverse ∈ WALL := mm 521 (by decide +kernel) (by decide +kernel)
theorem m_522 : Cond.selects R_M y_M_reverse y_M_reverse ∈ WALL := mm 522 (by decide +kernel) (by decide +kernel)
theorem m_523 : Cond.code y_M_reverse b_M_reverse 9 (some .int) ∈ WALL := mm 523 (by decide +kernel) (by decide +kernel)
theorem m_524 : Cond.methodLink "FieldTablesLaw" 87 y_M_same ∈ WALL := mm 524 (by decide +kernel) (by decide +kernel)
theorem m_525 : Cond.instanceMethod y_M_same ∈ WALL := mm 525 (by decide +kernel) (by decide +kernel)
theorem m_526 : Cond.selects R_M y_M_same y_M_same ∈ WALL := mm 526 (by decide +kernel) (by decide +kernel)
theorem m_527 : Cond.code y_M_same b_M_same 3 (some .int) ∈ WALL := mm 527 (by decide +kernel) (by decide +kernel)
theorem m_528 : Cond.methodLink R_M 133 y_M_isIn ∈ WALL := mm 528 (by decide +kernel) (by decide +kernel)
theorem m_530 : Cond.instanceMethod y_M_isIn ∈ WALL := mm 530 (by decide +kernel) (by decide +kernel)
theorem m_531 : Cond.code y_M_isIn b_M_isIn 6 (some .boolean) ∈ WALL := mm 531 (by decide +kernel) (by decide +kernel)
theorem m_532 : Cond.methodLink "FieldTablesLaw" 91 y_M_copy ∈ WALL := mm 532 (by decide +kernel) (by decide +kernel)
theorem m_533 : Cond.instanceMethod y_M_copy ∈ WALL := mm 533 (by decide +kernel) (by decide +kernel)
theorem m_534 : Cond.selects R_M y_M_copy y_M_copy ∈ WALL := mm 534 (by decide +kernel) (by decide +kernel)
theorem m_535 : Cond.code y_M_copy b_M_copy 5 (some .int) ∈ WALL := mm 535 (by decide +kernel) (by decide +kernel)
theorem m_536 : Cond.methodLink "FieldTablesLaw" 99 y_M_all ∈ WALL := mm 536 (by decide +kernel) (by decide +kernel)
theorem m_537 : Cond.instanceMethod y_M_all ∈ WALL := mm 537 (by decide +kernel) (by decide +kernel)
theorem m_538 : Cond.selects R_M y_M_all y_M_all ∈ WALL := mm 538 (by decide +kernel) (by decide +kernel)
theorem m_539 : Cond.code y_M_all b_M_all 1 (some .int) ∈ WALL := mm 539 (by decide +kernel) (by decide +kernel)
theorem m_540 : Cond.methodLink "FieldTablesLaw" 95 y_M_empty ∈ WALL := mm 540 (by decide +kernel) (by decide +kernel)
theorem m_541 : Cond.instanceMethod y_M_empty ∈ WALL := mm 541 (by decide +kernel) (by decide +kernel)
theorem m_542 : Cond.selects R_M y_M_empty y_M_empty ∈ WALL := mm 542 (by decide +kernel) (by decide +kernel)
theorem m_543 : Cond.code y_M_empty b_M_empty 3 (some .int) ∈ WALL := mm 543 (by decide +kernel) (by decide +kernel)
theorem m_544 : Cond.constantLong "FieldTablesLaw" 18 (4294967295 : Int64) ∈ WALL := mm 544 (by decide +kernel) (by decide +kernel)
theorem ms_0 : Cond.selects R_T y_T_grow y_T_grow ∈ WALL := mms 0 (by decide +kernel) (by decide +kernel)
theorem ms_1 : Cond.selects R_S y_S_slotOf y_S_slotOf ∈ WALL := mms 1 (by decide +kernel) (by decide +kernel)
theorem ms_2 : Cond.selects R_F y_F_give y_F_give ∈ WALL := mms 2 (by decide +kernel) (by decide +kernel)
theorem ms_3 : Cond.selects R_S y_S_grow y_S_grow ∈ WALL := mms 3 (by decide +kernel) (by decide +kernel)
theorem ms_4 : Cond.selects R_F y_F_append y_F_append ∈ WALL := mms 4 (by decide +kernel) (by decide +kernel)
theorem ms_5 : Cond.selects R_F y_F_change y_F_change ∈ WALL := mms 5 (by decide +kernel) (by decide +kernel)
theorem ms_6 : Cond.selects R_F y_F_raiseBorder y_F_raiseBorder ∈ WALL := mms 6 (by decide +kernel) (by decide +kernel)
theorem ms_7 : Cond.selects R_F y_F_lowerBorder y_F_lowerBorder ∈ WALL := mms 7 (by decide +kernel) (by decide +kernel)
theorem ms_8 : Cond.selects R_F y_F_firstWithValue y_F_firstWithValue ∈ WALL := mms 8 (by decide +kernel) (by decide +kernel)
theorem ms_9 : Cond.selects R_F y_F_setCursor y_F_setCursor ∈ WALL := mms 9 (by decide +kernel) (by decide +kernel)
theorem ms_10 : Cond.selects R_F y_F_isRun y_F_isRun ∈ WALL := mms 10 (by decide +kernel) (by decide +kernel)
theorem ms_11 : Cond.selects R_F y_F_missing y_F_missing ∈ WALL := mms 11 (by decide +kernel) (by decide +kernel)
theorem ms_12 : Cond.selects R_F y_F_whole y_F_whole ∈ WALL := mms 12 (by decide +kernel) (by decide +kernel)
theorem ms_13 : Cond.selects R_F y_F_isPlace y_F_isPlace ∈ WALL := mms 13 (by decide +kernel) (by decide +kernel)
theorem ms_14 : Cond.selects R_F y_F_moveUp y_F_moveUp ∈ WALL := mms 14 (by decide +kernel) (by decide +kernel)
theorem ms_15 : Cond.selects R_F y_F_moveDown y_F_moveDown ∈ WALL := mms 15 (by decide +kernel) (by decide +kernel)
theorem ms_16 : Cond.selects R_F y_F_holdsAll y_F_holdsAll ∈ WALL := mms 16 (by decide +kernel) (by decide +kernel)
theorem ms_17 : Cond.selects R_F y_F_twin y_F_twin ∈ WALL := mms 17 (by decide +kernel) (by decide +kernel)
theorem ms_18 : Cond.selects R_F y_F_missingOf y_F_missingOf ∈ WALL := mms 18 (by decide +kernel) (by decide +kernel)
theorem ms_19 : Cond.selects R_M y_M_isTable y_M_isTable ∈ WALL := mms 19 (by decide +kernel) (by decide +kernel)
theorem ms_20 : Cond.selects R_M y_M_find y_M_find ∈ WALL := mms 20 (by decide +kernel) (by decide +kernel)
theorem ms_21 : Cond.selects R_M y_M_give y_M_give ∈ WALL := mms 21 (by decide +kernel) (by decide +kernel)
theorem ms_22 : Cond.selects R_M y_M_come y_M_come ∈ WALL := mms 22 (by decide +kernel) (by decide +kernel)
theorem ms_23 : Cond.selects R_M y_M_set y_M_set ∈ WALL := mms 23 (by decide +kernel) (by decide +kernel)
theorem ms_24 : Cond.selects R_M y_M_edge y_M_edge ∈ WALL := mms 24 (by decide +kernel) (by decide +kernel)
theorem ms_25 : Cond.selects R_M y_M_findWhole y_M_findWhole ∈ WALL := mms 25 (by decide +kernel) (by decide +kernel)
theorem ms_26 : Cond.selects R_M y_M_isRow y_M_isRow ∈ WALL := mms 26 (by decide +kernel) (by decide +kernel)
theorem ms_27 : Cond.selects R_M y_M_move y_M_move ∈ WALL := mms 27 (by decide +kernel) (by decide +kernel)
theorem ms_28 : Cond.selects R_M y_M_isIn y_M_isIn ∈ WALL := mms 28 (by decide +kernel) (by decide +kernel)
end
section
/-- an array of ints that holds numbers -/
abbrev nf (f : Nat → Nat) : Nat → Int32 := fun j => nI (f j)
theorem fz_updN (f : Nat → Nat) (j x : Nat) : upd (nf f) j (nI x) = nf (va_up f j x) := by
  funext i
  by_cases h : i = j
  · subst h; rw [pk_us]; show nI x = nI (va_up f i x i); rw [va_up_self]
  · rw [pk_un h]; show nI (f i) = nI (va_up f j x i); rw [va_up_ne _ _ h]
theorem fz_nf0 : (fun _ => (0 : Int32)) = nf (fun _ => 0) := funext (fun _ => nI_0.symm)
theorem fz_inc (k : Nat) : nI k + Int32.ofInt 1 = nI (k + 1) := by
  rw [show Int32.ofInt 1 = 1 by decide]; exact nI_1 k
theorem fz_dec {k : Nat} (h : 0 < k) : nI k + Int32.ofInt (-1) = nI (k - 1) := by
  rw [show Int32.ofInt (-1) = -1 by decide]; exact sb_m1 h
theorem fz_i2b {k : Nat} (h : k < 128) : (nI k).toInt8.toInt32 = nI k := by
  have : ∀ k, k < 128 → (nI k).toInt8.toInt32 = nI k := by decide +kernel
  exact this k h
theorem fz_nb {k : Nat} (h : k < 128) : vp_nar .byte (nI k) = nI k := by
  rw [vp_nar_byte]; exact fz_i2b h
theorem fz_or3 {t k : Nat} (hk : k < 8) (ht : t < 2 ^ 28) : nI (t * 8) ||| nI k = nI (t * 8 + k) := by
  have h1 : t * 8 + k = t * 8 ||| k := by
    have := Nat.two_pow_add_eq_or_of_lt (i := 3) (b := k) (by omega) t
    rw [show 2 ^ 3 * t = t * 8 by omega] at this
    exact this
  apply Int32.toBitVec_inj.mp
  rw [Int32.toBitVec_or]
  show BitVec.ofNat 32 _ ||| BitVec.ofNat 32 _ = BitVec.ofNat 32 _
  apply BitVec.eq_of_toNat_eq
  rw [BitVec.toNat_or, BitVec.toNat_ofNat, BitVec.toNat_ofNat, BitVec.toNat_ofNat, Nat.mod_eq_of_lt (by omega), Nat.mod_eq_of_lt (by omega), Nat.mod_eq_of_lt (by omega), h1]
/-! the search among the keys 1 .. n -/
def fnd (ow : Nat → Nat) (ky : Nat → Int64) (o : Nat) (k : Int64) : Nat → Nat
  | 0 => 0
  | n + 1 => if ow (n + 1) = o ∧ ky (n + 1) = k then n + 1 else fnd ow ky o k n
theorem fnd_le (ow : Nat → Nat) (ky : Nat → Int64) (o : Nat) (k : Int64) : ∀ n, fnd ow ky o k n ≤ n
  | 0 => Nat.le_refl 0
  | n + 1 => by
    unfold fnd
    split
    · exact Nat.le_refl _
    · exact Nat.le_succ_of_le (fnd_le ow ky o k n)
theorem fnd_hit {ow : Nat → Nat} {ky : Nat → Int64} {o : Nat} {k : Int64} : ∀ {n : Nat}, fnd ow ky o k n ≠ 0 → ow (fnd ow ky o k n) = o ∧ ky (fnd ow ky o k n) = k
  | 0, h => absurd rfl h
  | n + 1, h => by
    unfold fnd at h ⊢
    split
    · assumption
    · rename_i h1
      rw [if_neg h1] at h
      exact fnd_hit h
theorem fnd_none {ow : Nat → Nat} {ky : Nat → Int64} {o : Nat} {k : Int64} : ∀ {n : Nat}, fnd ow ky o k n = 0 → ∀ j, 1 ≤ j → j ≤ n → ¬ (ow j = o ∧ ky j = k)
  | 0, _, j, h1, h2 => by omega
  | n + 1, h, j, h1, h2 => by
    unfold fnd at h
    split at h
    · omega
    · rename_i h3
      by_cases e : j = n + 1
      · subst e; exact h3
      · exact fnd_none h j h1 (by omega)
def hz_U (n : Nat) (ow : Nat → Nat) (ky : Nat → Int64) : Prop := ∀ i j, 1 ≤ i → i ≤ n → 1 ≤ j → j ≤ n → ow i = ow j → ky i = ky j → i = j
theorem fnd_uniq {ow : Nat → Nat} {ky : Nat → Int64} {o : Nat} {k : Int64} {n i : Nat} (hU : hz_U n ow ky) (h1 : 1 ≤ i) (h2 : i ≤ n) (h3 : ow i = o) (h4 : ky i = k) : fnd ow ky o k n = i := by
  by_cases e : fnd ow ky o k n = 0
  · exact absurd ⟨h3, h4⟩ (fnd_none e i h1 h2)
  · obtain ⟨a, b⟩ := fnd_hit e
    exact hU _ _ (by omega) (fnd_le ow ky o k n) h1 h2 (a.trans h3.symm) (b.trans h4.symm)
theorem fnd_zero {ow : Nat → Nat} {ky : Nat → Int64} {o : Nat} {k : Int64} {n : Nat} (h : ∀ j, 1 ≤ j → j ≤ n → ¬ (ow j = o ∧ ky j = k)) : fnd ow ky o k n = 0 := by
  by_cases e : fnd ow ky o k n = 0
  · exact e
  · exact absurd (fnd_hit e) (h _ (by omega) (fnd_le ow ky o k n))
theorem fnd_congr {ow ow' : Nat → Nat} {ky ky' : Nat → Int64} {o : Nat} {k : Int64} : ∀ {n : Nat}, (∀ j, 1 ≤ j → j ≤ n → ow' j = ow j ∧ ky' j = ky j) → fnd ow' ky' o k n = fnd ow ky o k n
  | 0, _ => rfl
  | n + 1, h => by
    unfold fnd
    rw [(h (n + 1) (by omega) (by omega)).1, (h (n + 1) (by omega) (by omega)).2, fnd_congr (fun j h1 h2 => h j h1 (by omega))]
theorem hz_U.less {n n' : Nat} {ow : Nat → Nat} {ky : Nat → Int64} (h : hz_U n ow ky) (hn : n' ≤ n) : hz_U n' ow ky := fun i j a b c d => h i j a (by omega) c (by omega)
theorem hz_U.add {n : Nat} {ow ow' : Nat → Nat} {ky ky' : Nat → Int64} (h : hz_U n ow ky) (hk : ∀ j, 1 ≤ j → j ≤ n → ow' j = ow j ∧ ky' j = ky j) (hf : fnd ow ky (ow' (n + 1)) (ky' (n + 1)) n = 0) : hz_U (n + 1) ow' ky' := by
  intro i j hi hi2 hj hj2 h1 h2
  by_cases e1 : i = n + 1
  · by_cases e2 : j = n + 1
    · omega
    · subst e1
      have q := hk j hj (by omega)
      exact absurd ⟨by rw [← q.1]; exact h1.symm, by rw [← q.2]; exact h2.symm⟩ (fnd_none hf j hj (by omega))
  · by_cases e2 : j = n + 1
    · subst e2
      have q := hk i hi (by omega)
      exact absurd ⟨by rw [← q.1]; exact h1, by rw [← q.2]; exact h2⟩ (fnd_none hf i hi (by omega))
    · have q := hk i hi (by omega)
      have q2 := hk j hj (by omega)
      exact h i j hi (by omega) hj (by omega) (by rw [← q.1, ← q2.1]; exact h1) (by rw [← q.2, ← q2.2]; exact h2)
/-! the row of slots -/
theorem hz_pigeon : ∀ (n M : Nat) (f : Nat → Nat), (∀ j, j < M → 1 ≤ f j ∧ f j ≤ n) → (∀ i j, i < M → j < M → f i = f j → i = j) → M ≤ n
  | 0, M, f, h, _ => by
    rcases Nat.eq_zero_or_pos M with e | e
    · omega
    · have := h 0 e; omega
  | n + 1, M, f, h, inj => by
    rcases Nat.eq_zero_or_pos M with e | e
    · omega
    · have := hz_pigeon n (M - 1) (fun j => if f j = n + 1 then f (M - 1) else f j) (fun j hj => by
        have a := h j (by omega)
        have b := h (M - 1) (by omega)
        have d := inj j (M - 1) (by omega) (by omega)
        show 1 ≤ (if f j = n + 1 then f (M - 1) else f j) ∧ (if f j = n + 1 then f (M - 1) else f j) ≤ n
        split
        · rename_i h1
          have : f (M - 1) ≠ n + 1 := fun h2 => by have := d (by omega); omega
          omega
        · omega) (fun i j hi hj hij => by
        have hij : (if f i = n + 1 then f (M - 1) else f i) = (if f j = n + 1 then f (M - 1) else f j) := hij
        have d1 := inj i (M - 1) (by omega) (by omega)
        have d2 := inj j (M - 1) (by omega) (by omega)
        have d3 := inj i j (by omega) (by omega)
        split at hij
        · split at hij
          · exact d3 (by omega)
          · have := d2 (by omega); omega
        · split at hij
          · have := d1 (by omega); omega
          · exact d3 hij)
      omega
def hz_T (M n : Nat) (h : Nat → Nat) (sn : Nat → Nat) : Prop := (∀ j, j < M → sn j ≤ n) ∧ (∀ j j', j < M → j' < M → sn j = sn j' → sn j ≠ 0 → j = j') ∧ ∀ i, 1 ≤ i → i ≤ n → ∃ d, d < M ∧ sn ((h i + d) % M) = i ∧ ∀ d', d' < d → sn ((h i + d') % M) ≠ 0
theorem hz_T.zero {M : Nat} {h : Nat → Nat} : hz_T M 0 h (fun _ => 0) := ⟨fun _ _ => Nat.le_refl 0, fun _ _ _ _ _ h => absurd rfl h, fun i h1 h2 => by omega⟩
theorem hz_mod_inj {M h d d' : Nat} (h1 : d < M) (h2 : d' < M) (e : (h + d) % M = (h + d') % M) : d = d' := by
  have a := Nat.div_add_mod (h + d) M
  have b := Nat.div_add_mod (h + d') M
  rw [e] at a
  rcases Nat.lt_trichotomy ((h + d) / M) ((h + d') / M) with q | q | q
  · have : M * ((h + d) / M) + M ≤ M * ((h + d') / M) := by rw [← Nat.mul_succ]; exact Nat.mul_le_mul_left M q
    omega
  · rw [q] at a; omega
  · have : M * ((h + d') / M) + M ≤ M * ((h + d) / M) := by rw [← Nat.mul_succ]; exact Nat.mul_le_mul_left M q
    omega
/-- a row of slots that is longer than its keys are many has a free one on every search -/
theorem hz_T.free {M n : Nat} {h sn : Nat → Nat} (hT : hz_T M n h sn) (hn : n < M) (h0 : Nat) : ¬ ∀ d, d < M → sn ((h0 + d) % M) ≠ 0 := by
  intro hall
  have := hz_pigeon n M (fun d => sn ((h0 + d) % M)) (fun j hj => ⟨Nat.pos_of_ne_zero (hall j hj), hT.1 _ (Nat.mod_lt _ (by omega))⟩) (fun i j hi hj e => hz_mod_inj hi hj (hT.2.1 _ _ (Nat.mod_lt _ (by omega)) (Nat.mod_lt _ (by omega)) e (hall i hi)))
  omega
/-- the search of a key: where it ends -/
theorem hz_T.stop {M n h0 d o : Nat} {k : Int64} {ow : Nat → Nat} {ky : Nat → Int64} {sn : Nat → Nat} {hh : Nat → Int64 → Nat} (hT : hz_T M n (fun i => hh (ow i) (ky i)) sn) (hU : hz_U n ow ky) (e0 : h0 = hh o k) (hd : d < M)
    (hb : ∀ d', d' < d → sn ((h0 + d') % M) ≠ 0 ∧ ¬ (ow (sn ((h0 + d') % M)) = o ∧ ky (sn ((h0 + d') % M)) = k)) (hs : sn ((h0 + d) % M) = 0 ∨ (ow (sn ((h0 + d) % M)) = o ∧ ky (sn ((h0 + d) % M)) = k)) : sn ((h0 + d) % M) = fnd ow ky o k n := by
  subst e0
  by_cases z : sn ((hh o k + d) % M) = 0
  · rw [z]
    refine (fnd_zero (fun i h1 h2 h3 => ?_)).symm
    obtain ⟨di, a, b, c⟩ := hT.2.2 i h1 h2
    have e : hh (ow i) (ky i) = hh o k := by rw [h3.1, h3.2]
    dsimp only at b c
    rw [e] at b
    rcases Nat.lt_trichotomy di d with q | q | q
    · have := (hb di q).2
      rw [b] at this
      exact this h3
    · rw [← q, b] at z; omega
    · have := c d q
      rw [e] at this
      exact this z
  · rcases hs with hs | hs
    · exact absurd hs z
    · exact (fnd_uniq hU (Nat.pos_of_ne_zero z) (hT.1 _ (Nat.mod_lt _ (by omega))) hs.1 hs.2).symm
theorem hz_T.add {M n h0 d : Nat} {h h' sn : Nat → Nat} (hT : hz_T M n h sn) (hk : ∀ i, 1 ≤ i → i ≤ n → h' i = h i) (e0 : h' (n + 1) = h0) (hd : d < M) (hb : ∀ d', d' < d → sn ((h0 + d') % M) ≠ 0) (hz : sn ((h0 + d) % M) = 0) : hz_T M (n + 1) h' (va_up sn ((h0 + d) % M) (n + 1)) := by
  have hne : ∀ x, sn x ≠ 0 → va_up sn ((h0 + d) % M) (n + 1) x = sn x := fun x hx => va_up_ne _ _ (fun e => hx (by rw [e]; exact hz))
  have hnz : ∀ x, sn x ≠ 0 → va_up sn ((h0 + d) % M) (n + 1) x ≠ 0 := fun x hx => by rw [hne x hx]; exact hx
  refine ⟨fun j hj => ?_, fun j j' hj hj' e nz => ?_, fun i h1 h2 => ?_⟩
  · unfold va_up
    have := hT.1 j hj
    split <;> omega
  · have a := hT.1 j hj
    have a' := hT.1 j' hj'
    unfold va_up at e nz
    split at e <;> split at e
    · omega
    · omega
    · omega
    · rename_i g1 g2
      rw [if_neg g1] at nz
      exact hT.2.1 j j' hj hj' e nz
  · by_cases q : i = n + 1
    · subst q
      exact ⟨d, hd, by rw [e0, va_up_self], fun d' hd' => by rw [e0]; exact hnz _ (hb d' hd')⟩
    · obtain ⟨di, a, b, c⟩ := hT.2.2 i h1 (by omega)
      refine ⟨di, a, ?_, fun d' hd' => ?_⟩
      · rw [hk i h1 (by omega), hne _ (by omega)]; exact b
      · rw [hk i h1 (by omega)]; exact hnz _ (c d' hd')
theorem hz_T.congr {M n : Nat} {h h' sn : Nat → Nat} (hT : hz_T M n h sn) (hk : ∀ i, 1 ≤ i → i ≤ n → h' i = h i) : hz_T M n h' sn := ⟨hT.1, hT.2.1, fun i h1 h2 => by rw [hk i h1 h2]; exact hT.2.2 i h1 h2⟩
/-! the hash of a key, as the code computes it -/
def hz_mix (o : Nat) (k : Int64) : Int64 := k * (-7046029254386353131) + lN o * (-4417276706812531889)
def hz_fold (x : Int64) : Int64 := x ^^^ (x.toUInt64 >>> ((nI 32).toInt64.toUInt64 &&& Int64.toUInt64 63)).toInt64
def hz_scat (o : Nat) (k : Int64) : Int32 := (hz_fold (hz_fold (hz_mix o k) * (-2960836687051489901))).toInt32
def hz_h (M o : Nat) (k : Int64) : Nat := (hz_scat o k).toBitVec.toNat % M
theorem hz_h_lt {M o : Nat} {k : Int64} (h : 0 < M) : hz_h M o k < M := Nat.mod_lt _ h
theorem hz_mask {M kap : Nat} (hM : M = 2 ^ kap) (h2 : M < 2 ^ 31) (x : Int32) : x &&& nI (M - 1) = nI (x.toBitVec.toNat % M) := by
  subst hM
  exact pk_and x kap (pk_tn (by omega))
theorem hz_maskN {M kap : Nat} (hM : M = 2 ^ kap) (h2 : M < 2 ^ 31) {a : Nat} (ha : a < 2 ^ 32) : nI a &&& nI (M - 1) = nI (a % M) := by
  subst hM
  exact pk_andN ha kap (pk_tn (by omega))
/-! counts -/
def cnt (p : Nat → Bool) : Nat → Nat
  | 0 => 0
  | n + 1 => cnt p n + (if p (n + 1) = true then 1 else 0)
theorem cnt_le (p : Nat → Bool) : ∀ n, cnt p n ≤ n
  | 0 => Nat.le_refl 0
  | n + 1 => by
    have := cnt_le p n
    unfold cnt
    split <;> omega
theorem cnt_mono (p : Nat → Bool) {i : Nat} : ∀ {n : Nat}, i ≤ n → cnt p i ≤ cnt p n
  | 0, h => by rw [Nat.le_zero.mp h]; exact Nat.le_refl _
  | n + 1, h => by
    by_cases e : i = n + 1
    · rw [e]; exact Nat.le_refl _
    · have := cnt_mono p (i := i) (n := n) (by omega)
      show cnt p i ≤ cnt p n + _
      omega
theorem cnt_congr {p q : Nat → Bool} : ∀ {n : Nat}, (∀ j, 1 ≤ j → j ≤ n → p j = q j) → cnt p n = cnt q n
  | 0, _ => rfl
  | n + 1, h => by
    unfold cnt
    rw [cnt_congr (fun j h1 h2 => h j h1 (by omega)), h (n + 1) (by omega) (by omega)]
theorem cnt_lt {p : Nat → Bool} {i n : Nat} (h1 : 1 ≤ i) (h2 : i ≤ n) (hp : p i = true) : cnt p (i - 1) + 1 ≤ cnt p n := by
  have a := cnt_mono p h2
  obtain ⟨k, rfl⟩ : ∃ k, i = k + 1 := ⟨i - 1, by omega⟩
  have b : cnt p (k + 1) = cnt p k + 1 := by
    show cnt p k + _ = _
    rw [if_pos hp]
  have : k + 1 - 1 = k := by omega
  rw [this]; omega
theorem cnt_one {p q : Nat → Bool} {i : Nat} : ∀ {n : Nat}, 1 ≤ i → i ≤ n → (∀ j, 1 ≤ j → j ≤ n → j ≠ i → q j = p j) → p i = false → q i = true → cnt q n = cnt p n + 1
  | 0, h1, h2, _, _, _ => by omega
  | n + 1, h1, h2, h, hp, hq => by
    by_cases e : i = n + 1
    · subst e
      unfold cnt
      rw [if_pos hq, if_neg (by rw [hp]; decide), cnt_congr (p := q) (q := p) (fun j a b => h j a (by omega) (by omega))]
    · have := cnt_one (n := n) h1 (by omega) (fun j a b c => h j a (by omega) c) hp hq
      show cnt q n + _ = cnt p n + _ + 1
      rw [this, h (n + 1) (by omega) (by omega) (by omega)]
      omega
theorem cnt_none {p : Nat → Bool} : ∀ {n : Nat}, (∀ j, 1 ≤ j → j ≤ n → p j = false) → cnt p n = 0
  | 0, _ => rfl
  | n + 1, h => by
    unfold cnt
    rw [cnt_none (fun j a b => h j a (by omega)), if_neg (by rw [h (n + 1) (by omega) (by omega)]; decide)]
theorem cnt_skip {p : Nat → Bool} {i : Nat} : ∀ {n : Nat}, i ≤ n → (∀ j, i < j → j ≤ n → p j = false) → cnt p n = cnt p i
  | 0, h, _ => by rw [Nat.le_zero.mp h]
  | n + 1, h, hf => by
    by_cases e : i = n + 1
    · rw [e]
    · show cnt p n + _ = _
      rw [if_neg (by rw [hf (n + 1) (by omega) (by omega)]; decide), cnt_skip (by omega) (fun j a b => hf j a (by omega))]
      omega
/-! copies -/
def cpz {α : Type} (f g : Nat → α) (n : Nat) : Nat → α := fun j => if j < n then f j else g j
theorem cpz_in {α : Type} {f g : Nat → α} {n j : Nat} (h : j < n) : cpz f g n j = f j := if_pos h
theorem cpz_out {α : Type} {f g : Nat → α} {n j : Nat} (h : ¬ j < n) : cpz f g n j = g j := if_neg h
theorem cpz_0 {α : Type} (f g : Nat → α) : cpz f g 0 = g := funext (fun j => if_neg (Nat.not_lt_zero j))
theorem cpz_step (x : Nat) (g : Nat → Nat) (i : Nat) : va_up (cpz (fun _ => x) g i) i x = cpz (fun _ => x) g (i + 1) := by
  funext j
  unfold va_up cpz
  by_cases h : j = i
  · rw [if_pos h, if_pos (by omega)]
  · rw [if_neg h]
    by_cases h2 : j < i
    · rw [if_pos h2, if_pos (by omega)]
    · rw [if_neg h2, if_neg (by omega)]
theorem cpz_cpy {α : Type} (f g : Nat → α) (n : Nat) : va_cpy f g 0 0 n = cpz f g n := by
  funext j
  unfold va_cpy cpz
  by_cases h : j < n
  · rw [if_pos h, if_pos (by omega)]; congr 1; omega
  · rw [if_neg h, if_neg (by omega)]
theorem cpz_nf (f g : Nat → Nat) (n : Nat) : va_cpy (nf f) (nf g) 0 0 n = nf (cpz f g n) := by
  rw [cpz_cpy]
  funext j
  unfold cpz
  by_cases h : j < n
  · rw [if_pos h]; show nI (f j) = nI (if j < n then f j else g j); rw [if_pos h]
  · rw [if_neg h]; show nI (g j) = nI (if j < n then f j else g j); rw [if_neg h]
theorem fz_minN {a b c : Nat} (ha : a < 2 ^ 31) (hb : b < 2 ^ 31) (h : (if b < a then b else a) = c) : (if nI b < nI a then nI b else nI a) = nI c := by
  subst h
  by_cases q : b < a
  · rw [if_pos q, if_pos ((nI_ltI hb ha).mpr q)]
  · rw [if_neg q, if_neg (fun z => q ((nI_ltI hb ha).mp z))]
theorem fz_fitb {k : Nat} (h : k < 128) : fits .byte (.int (nI k)) = true := by
  have : ∀ k, k < 128 → fits .byte (.int (nI k)) = true := by decide +kernel
  exact this k h
/-! the lengths of the rows of fields, by how often they have grown -/
def hz_L (g : Nat) : Nat := match g with
  | 0 => 64
  | 1 => 256
  | 2 => 1024
  | 3 => 4096
  | 4 => 16384
  | _ => 40001
def hz_M (g : Nat) : Nat := 2 ^ (7 + 2 * g)
theorem hz_gen : ∀ g, g ≤ 5 → hz_L g ≤ hz_M g ∧ hz_M g ≤ 131072 ∧ 128 ≤ hz_M g ∧ 64 ≤ hz_L g ∧ hz_L g ≤ 40001 := by decide +kernel
theorem hz_grow : ∀ g, g < 5 → (if 40001 < hz_L g * 4 then 40001 else hz_L g * 4) = hz_L (g + 1) ∧ hz_M g * 4 = hz_M (g + 1) ∧ hz_L g < hz_L (g + 1) := by decide +kernel
def Gs : Nat → Nat
  | 0 => 0
  | g + 1 => Gs g + (5 * hz_L (g + 1) + hz_M (g + 1))
theorem hz_T.none {M : Nat} {h sn : Nat → Nat} (hz : ∀ j, j < M → sn j = 0) : hz_T M 0 h sn := ⟨fun j hj => by rw [hz j hj]; exact Nat.le_refl 0, fun j _ hj _ _ n => absurd (hz j hj) n, fun i h1 h2 => by omega⟩
end
section
/-! what all tables hold: how many keys, and for each in the order of coming its owner (table * 8 + kind), its number, the kind and the number of its field -/
abbrev AS : Type := Nat × (Nat → Nat) × (Nat → Int64) × (Nat → Nat) × (Nat → Int64)
def aN (a : AS) : Nat := a.1
def aO (a : AS) : Nat → Nat := a.2.1
def aK (a : AS) : Nat → Int64 := a.2.2.1
def aD (a : AS) : Nat → Nat := a.2.2.2.1
def aU (a : AS) : Nat → Int64 := a.2.2.2.2
/-- the place of a key, or 0 -/
def aF (a : AS) (o : Nat) (k : Int64) : Nat := fnd (aO a) (aK a) o k (aN a)
def addA (a : AS) (o : Nat) (k : Int64) (kd : Nat) (nu : Int64) : AS := (aN a + 1, va_up (aO a) (aN a + 1) o, va_up (aK a) (aN a + 1) k, va_up (aD a) (aN a + 1) kd, va_up (aU a) (aN a + 1) nu)
def setA (a : AS) (i kd : Nat) (nu : Int64) : AS := (aN a, aO a, aK a, va_up (aD a) i kd, va_up (aU a) i nu)
def giveA (a : AS) (o : Nat) (k : Int64) (kd : Nat) (nu : Int64) : AS := if aF a o k = 0 then (if kd = 0 then a else addA a o k kd nu) else setA a (aF a o k) kd (if kd = 0 then 0 else nu)
def comeA (a : AS) (o : Nat) (k : Int64) (kd : Nat) : Nat := if aF a o k = 0 then (if kd = 0 then 0 else 1) else 0
def AI (nT : Nat) (a : AS) : Prop := aN a ≤ 40000 ∧ (∀ i, 1 ≤ i → i ≤ aN a → 1 ≤ aO a i / 8 ∧ aO a i / 8 ≤ nT ∧ 1 ≤ aO a i % 8) ∧ (∀ i, aD a i ≤ 7) ∧ aD a 0 = 0 ∧ aU a 0 = 0 ∧ (∀ i, i ≤ aN a → aD a i = 0 → aU a i = 0) ∧ hz_U (aN a) (aO a) (aK a) ∧ ∀ i, aO a i < 2 ^ 18
theorem aF_le (a : AS) (o : Nat) (k : Int64) : aF a o k ≤ aN a := fnd_le _ _ _ _ _
theorem AI.set {nT : Nat} {a : AS} {i kd : Nat} {nu : Int64} (h : AI nT a) (h0 : 1 ≤ i) (hk : kd ≤ 7) (hz : kd = 0 → nu = 0) : AI nT (setA a i kd nu) := by
  obtain ⟨h1, h2, h3, h4, h5, h6, h7, h8⟩ := h
  refine ⟨h1, h2, fun j => ?_, ?_, ?_, fun j hj e => ?_, h7, h8⟩
  · show va_up (aD a) i kd j ≤ 7
    unfold va_up; split
    · exact hk
    · exact h3 j
  · show va_up (aD a) i kd 0 = 0
    rw [va_up_ne _ _ (by omega)]; exact h4
  · show va_up (aU a) i nu 0 = 0
    rw [va_up_ne _ _ (by omega)]; exact h5
  · have e : va_up (aD a) i kd j = 0 := e
    show va_up (aU a) i nu j = 0
    unfold va_up at e ⊢
    split
    · rename_i q; rw [if_pos q] at e; exact hz e
    · rename_i q; rw [if_neg q] at e; exact h6 j hj e
theorem AI.add {nT t kk : Nat} {a : AS} {k : Int64} {kd : Nat} {nu : Int64} (h : AI nT a) (hnT : nT ≤ 30000) (ht : 1 ≤ t) (ht2 : t ≤ nT) (hk1 : 1 ≤ kk) (hk2 : kk < 8) (hr : aN a < 40000) (hf : aF a (t * 8 + kk) k = 0) (hk : kd ≤ 7) (hz : kd = 0 → nu = 0) : AI nT (addA a (t * 8 + kk) k kd nu) := by
  obtain ⟨h1, h2, h3, h4, h5, h6, h7, h8⟩ := h
  refine ⟨hr, fun i hi hi2 => ?_, fun j => ?_, ?_, ?_, fun j hj e => ?_, ?_, fun j => ?_⟩
  · have hi2 : i ≤ aN a + 1 := hi2
    show 1 ≤ va_up (aO a) (aN a + 1) (t * 8 + kk) i / 8 ∧ va_up (aO a) (aN a + 1) (t * 8 + kk) i / 8 ≤ nT ∧ 1 ≤ va_up (aO a) (aN a + 1) (t * 8 + kk) i % 8
    unfold va_up; split
    · omega
    · exact h2 i hi (by omega)
  · show va_up (aD a) (aN a + 1) kd j ≤ 7
    unfold va_up; split
    · exact hk
    · exact h3 j
  · show va_up (aD a) (aN a + 1) kd 0 = 0
    rw [va_up_ne _ _ (by omega)]; exact h4
  · show va_up (aU a) (aN a + 1) nu 0 = 0
    rw [va_up_ne _ _ (by omega)]; exact h5
  · have hj : j ≤ aN a + 1 := hj
    have e : va_up (aD a) (aN a + 1) kd j = 0 := e
    show va_up (aU a) (aN a + 1) nu j = 0
    unfold va_up at e ⊢
    split
    · rename_i q; rw [if_pos q] at e; exact hz e
    · rename_i q; rw [if_neg q] at e; exact h6 j (by omega) e
  · refine hz_U.add h7 (fun j hj1 hj2 => ⟨va_up_ne _ _ (by omega), va_up_ne _ _ (by omega)⟩) ?_
    show fnd (aO a) (aK a) (va_up (aO a) (aN a + 1) (t * 8 + kk) (aN a + 1)) (va_up (aK a) (aN a + 1) k (aN a + 1)) (aN a) = 0
    rw [va_up_self, va_up_self]; exact hf
  · show va_up (aO a) (aN a + 1) (t * 8 + kk) j < 2 ^ 18
    unfold va_up; split
    · omega
    · exact h8 j
theorem AI.give {nT t kk : Nat} {a : AS} {k : Int64} {kd : Nat} {nu : Int64} (h : AI nT a) (hnT : nT ≤ 30000) (ht : 1 ≤ t) (ht2 : t ≤ nT) (hk1 : 1 ≤ kk) (hk2 : kk < 8) (hk : kd ≤ 7) (hr : aN a + comeA a (t * 8 + kk) k kd ≤ 40000) : AI nT (giveA a (t * 8 + kk) k kd nu) := by
  unfold giveA
  unfold comeA at hr
  split
  · rename_i q
    split
    · exact h
    · rename_i z
      rw [if_pos q, if_neg z] at hr
      exact h.add hnT ht ht2 hk1 hk2 (by omega) q hk (fun e => absurd e z)
  · rename_i q
    exact h.set (by omega) hk (fun e => by rw [if_pos e])
theorem giveA_N (a : AS) (o : Nat) (k : Int64) (kd : Nat) (nu : Int64) : aN (giveA a o k kd nu) = aN a + comeA a o k kd := by
  unfold giveA comeA
  split
  · split
    · rfl
    · rfl
  · rfl
/-! the chain of a table's keys -/
def ch_N (ow : Nat → Nat) (t n i j : Nat) : Prop := (j = 0 ∧ ∀ k, i < k → k ≤ n → ow k / 8 ≠ t) ∨ (i < j ∧ j ≤ n ∧ ow j / 8 = t ∧ ∀ k, i < k → k < j → ow k / 8 ≠ t)
def ch_L (ow : Nat → Nat) (t n j : Nat) : Prop := (j = 0 ∧ ∀ k, 1 ≤ k → k ≤ n → ow k / 8 ≠ t) ∨ (1 ≤ j ∧ j ≤ n ∧ ow j / 8 = t ∧ ∀ k, j < k → k ≤ n → ow k / 8 ≠ t)
def cK (a : AS) (t : Nat) : Nat := cnt (fun i => aO a i / 8 == t) (aN a)
def cV (a : AS) (t : Nat) : Nat := cnt (fun i => aO a i / 8 == t && aD a i != 0) (aN a)
/-- the kind of the field of a whole number -/
def wK (a : AS) (t k : Nat) : Nat := aD a (aF a (t * 8 + 3) (lN k))
def isB (a : AS) (t b : Nat) : Prop := (∀ k, 1 ≤ k → k ≤ b → wK a t k ≠ 0) ∧ wK a t (b + 1) = 0
theorem lN_ne {i j : Nat} (hi : i < 2 ^ 63) (hj : j < 2 ^ 63) (h : lN i = lN j) : i = j := (pk_lEQ hi hj).mp h
theorem aF_hit {a : AS} {o : Nat} {k : Int64} (h : aF a o k ≠ 0) : aO a (aF a o k) = o ∧ aK a (aF a o k) = k := fnd_hit h
theorem isB.le {nT : Nat} {a : AS} {t b : Nat} (h : AI nT a) (hb : isB a t b) : b ≤ aN a := by
  rcases Nat.lt_or_ge (aN a) b with q | q
  · have h40 := h.1
    have nz : ∀ j, j < aN a + 1 → aF a (t * 8 + 3) (lN (j + 1)) ≠ 0 := fun j hj e => by
      have := hb.1 (j + 1) (by omega) (by omega)
      unfold wK at this
      rw [e, h.2.2.2.1] at this
      exact this rfl
    have := hz_pigeon (aN a) (aN a + 1) (fun j => aF a (t * 8 + 3) (lN (j + 1))) (fun j hj => ⟨Nat.pos_of_ne_zero (nz j hj), aF_le _ _ _⟩) (fun i j hi hj e => by
      have e : aF a (t * 8 + 3) (lN (i + 1)) = aF a (t * 8 + 3) (lN (j + 1)) := e
      have a1 := (aF_hit (nz i hi)).2
      have a2 := (aF_hit (nz j hj)).2
      rw [e, a2] at a1
      have := lN_ne (by omega) (by omega) a1
      omega)
    omega
  · exact q
theorem isB.uniq {a : AS} {t b b' : Nat} (h : isB a t b) (h' : isB a t b') : b = b' := by
  rcases Nat.lt_trichotomy b b' with q | q | q
  · exact absurd h.2 (h'.1 (b + 1) (by omega) (by omega))
  · exact q
  · exact absurd h'.2 (h.1 (b' + 1) (by omega) (by omega))
def ci_F (n : Nat) (ow fo : Nat → Nat) : Prop := ∀ i, 1 ≤ i → i ≤ n → ch_N ow (ow i / 8) n i (fo i)
/-- a key comes: the chains behind it (last: the table's last one before, or 0) -/
theorem ci_F.app {n t o last : Nat} {ow ow' fo fo' : Nat → Nat} (h : ci_F n ow fo) (hL : ch_L ow t n last) (ho : o / 8 = t) (how : ∀ i, i ≤ n → ow' i = ow i) (hon : ow' (n + 1) = o) (hfo : ∀ i, i ≤ n → i ≠ last → fo' i = fo i) (hfn : fo' (n + 1) = 0) (hfl : last ≠ 0 → fo' last = n + 1) : ci_F (n + 1) ow' fo' := by
  intro i h1 h2
  by_cases e : i = n + 1
  · subst e
    exact Or.inl ⟨hfn, fun k a b => by omega⟩
  · have hi : i ≤ n := by omega
    rw [how i hi]
    by_cases el : i = last
    · have l0 : last ≠ 0 := by omega
      rcases hL with ⟨q, _⟩ | ⟨q1, q2, q3, q4⟩
      · omega
      · refine Or.inr ⟨by rw [el, hfl l0]; omega, by rw [el, hfl l0]; omega, by rw [el, hfl l0, hon, ho, q3], fun k a b => ?_⟩
        rw [el, hfl l0] at b
        rw [how k (by omega), el, q3]
        exact q4 k (by omega) (by omega)
    · have hc := h i h1 hi
      rw [← hfo i hi el] at hc
      rcases hc with ⟨q, r⟩ | ⟨q1, q2, q3, q4⟩
      · refine Or.inl ⟨q, fun k a b => ?_⟩
        by_cases ek : k = n + 1
        · subst ek
          rw [hon, ho]
          intro et
          rcases hL with ⟨z, w⟩ | ⟨z1, z2, z3, z4⟩
          · exact w i h1 hi et.symm
          · rcases Nat.lt_trichotomy i last with y | y | y
            · exact r last y z2 (z3.trans et)
            · exact el y
            · exact z4 i y hi et.symm
        · rw [how k (by omega)]; exact r k a (by omega)
      · refine Or.inr ⟨q1, by omega, by rw [how _ q2]; exact q3, fun k a b => ?_⟩
        rw [how k (by omega)]; exact q4 k a b
theorem ch_N.app {n t o t' j : Nat} {ow ow' : Nat → Nat} (h : ch_N ow t' n 0 j) (ho : o / 8 = t) (how : ∀ i, i ≤ n → ow' i = ow i) (hon : ow' (n + 1) = o) (hne : t' ≠ t ∨ j ≠ 0) : ch_N ow' t' (n + 1) 0 j := by
  rcases h with ⟨q, r⟩ | ⟨q1, q2, q3, q4⟩
  · refine Or.inl ⟨q, fun k a b => ?_⟩
    by_cases ek : k = n + 1
    · subst ek; rw [hon, ho]; rcases hne with z | z
      · exact fun e => z e.symm
      · exact absurd q z
    · rw [how k (by omega)]; exact r k a (by omega)
  · exact Or.inr ⟨q1, by omega, by rw [how _ q2]; exact q3, fun k a b => by rw [how k (by omega)]; exact q4 k a b⟩
theorem ch_N.first {n t o : Nat} {ow ow' : Nat → Nat} (h : ch_N ow t n 0 0) (ho : o / 8 = t) (how : ∀ i, i ≤ n → ow' i = ow i) (hon : ow' (n + 1) = o) : ch_N ow' t (n + 1) 0 (n + 1) := by
  rcases h with ⟨_, r⟩ | ⟨q1, _⟩
  · exact Or.inr ⟨by omega, by omega, by rw [hon, ho], fun k a b => by rw [how k (by omega)]; exact r k a (by omega)⟩
  · omega
theorem ch_L.app {n t o t' j : Nat} {ow ow' : Nat → Nat} (h : ch_L ow t' n j) (ho : o / 8 = t) (how : ∀ i, i ≤ n → ow' i = ow i) (hon : ow' (n + 1) = o) (hne : t' ≠ t) : ch_L ow' t' (n + 1) j := by
  have hn1 : ow' (n + 1) / 8 ≠ t' := by rw [hon, ho]; exact fun e => hne e.symm
  rcases h with ⟨q, r⟩ | ⟨q1, q2, q3, q4⟩
  · refine Or.inl ⟨q, fun k a b => ?_⟩
    by_cases ek : k = n + 1
    · rw [ek]; exact hn1
    · rw [how k (by omega)]; exact r k a (by omega)
  · refine Or.inr ⟨q1, by omega, by rw [how _ q2]; exact q3, fun k a b => ?_⟩
    by_cases ek : k = n + 1
    · rw [ek]; exact hn1
    · rw [how k (by omega)]; exact q4 k a (by omega)
theorem ch_L.last {n t o : Nat} {ow' : Nat → Nat} (ho : o / 8 = t) (hon : ow' (n + 1) = o) : ch_L ow' t (n + 1) (n + 1) := Or.inr ⟨by omega, Nat.le_refl _, by rw [hon, ho], fun k a b => by omega⟩
def vD (a : AS) (o : Nat) (k : Int64) : Nat := aD a (aF a o k)
def vU (a : AS) (o : Nat) (k : Int64) : Int64 := aU a (aF a o k)
theorem aF_add (a : AS) (o : Nat) (k : Int64) (kd : Nat) (nu : Int64) (o' : Nat) (k' : Int64) : aF (addA a o k kd nu) o' k' = if o = o' ∧ k = k' then aN a + 1 else aF a o' k' := by
  show (if va_up (aO a) (aN a + 1) o (aN a + 1) = o' ∧ va_up (aK a) (aN a + 1) k (aN a + 1) = k' then aN a + 1 else fnd (va_up (aO a) (aN a + 1) o) (va_up (aK a) (aN a + 1) k) o' k' (aN a)) = _
  rw [va_up_self, va_up_self, fnd_congr (ow := aO a) (ky := aK a) (fun j h1 h2 => ⟨va_up_ne _ _ (by omega), va_up_ne _ _ (by omega)⟩)]
  rfl
theorem aF_set (a : AS) (i kd : Nat) (nu : Int64) (o' : Nat) (k' : Int64) : aF (setA a i kd nu) o' k' = aF a o' k' := rfl
theorem vD_give {nT : Nat} {a : AS} (h : AI nT a) (o : Nat) (k : Int64) (kd : Nat) (nu : Int64) (o' : Nat) (k' : Int64) : vD (giveA a o k kd nu) o' k' = if o = o' ∧ k = k' then kd else vD a o' k' := by
  unfold giveA vD
  split
  · rename_i q
    split
    · rename_i z
      split
      · rename_i e; rw [← e.1, ← e.2, q, h.2.2.2.1, z]
      · rfl
    · rw [aF_add]
      show va_up (aD a) (aN a + 1) kd _ = _
      split
      · exact va_up_self _ _ _
      · exact va_up_ne _ _ (by have := aF_le a o' k'; omega)
  · rename_i q
    rw [aF_set]
    show va_up (aD a) (aF a o k) kd _ = _
    split
    · rename_i e; rw [← e.1, ← e.2]; exact va_up_self _ _ _
    · rename_i e
      refine va_up_ne _ _ (fun c => e ?_)
      have a1 := aF_hit q
      have a2 := aF_hit (a := a) (o := o') (k := k') (by rw [c]; exact q)
      rw [c] at a2
      exact ⟨a1.1.symm.trans a2.1, a1.2.symm.trans a2.2⟩
theorem vU_give {nT : Nat} {a : AS} (h : AI nT a) (o : Nat) (k : Int64) (kd : Nat) (nu : Int64) (o' : Nat) (k' : Int64) : vU (giveA a o k kd nu) o' k' = if o = o' ∧ k = k' then (if kd = 0 then 0 else nu) else vU a o' k' := by
  unfold giveA vU
  split
  · rename_i q
    split
    · rename_i z
      split
      · rename_i e; rw [← e.1, ← e.2, q, h.2.2.2.2.1]
      · rfl
    · rename_i z
      rw [aF_add]
      show va_up (aU a) (aN a + 1) nu _ = _
      split
      · exact va_up_self _ _ _
      · exact va_up_ne _ _ (by have := aF_le a o' k'; omega)
  · rename_i q
    rw [aF_set]
    show va_up (aU a) (aF a o k) _ _ = _
    by_cases e : o = o' ∧ k = k'
    · rw [if_pos e, ← e.1, ← e.2]; exact va_up_self _ _ _
    · rw [if_neg e]
      refine va_up_ne _ _ (fun c => e ?_)
      have a1 := aF_hit q
      have a2 := aF_hit (a := a) (o := o') (k := k') (by rw [c]; exact q)
      rw [c] at a2
      exact ⟨a1.1.symm.trans a2.1, a1.2.symm.trans a2.2⟩
theorem wK_give {nT : Nat} {a : AS} (h : AI nT a) (o : Nat) (k : Int64) (kd : Nat) (nu : Int64) (t j : Nat) : wK (giveA a o k kd nu) t j = if o = t * 8 + 3 ∧ k = lN j then kd else wK a t j := vD_give h o k kd nu (t * 8 + 3) (lN j)
theorem cK_add (a : AS) (o : Nat) (k : Int64) (kd : Nat) (nu : Int64) (t : Nat) : cK (addA a o k kd nu) t = cK a t + (if o / 8 = t then 1 else 0) := by
  show cnt (fun i => va_up (aO a) (aN a + 1) o i / 8 == t) (aN a) + (if (va_up (aO a) (aN a + 1) o (aN a + 1) / 8 == t) = true then 1 else 0) = _
  rw [va_up_self, cnt_congr (q := fun i => aO a i / 8 == t) (fun j h1 h2 => by rw [va_up_ne _ _ (by omega)])]
  show cK a t + _ = _
  by_cases e : o / 8 = t
  · rw [if_pos e, if_pos (by rw [e]; exact beq_self_eq_true t)]
  · rw [if_neg e, if_neg (fun c => e (eq_of_beq c))]
theorem cV_add (a : AS) (o : Nat) (k : Int64) (kd : Nat) (nu : Int64) (t : Nat) : cV (addA a o k kd nu) t = cV a t + (if o / 8 = t ∧ kd ≠ 0 then 1 else 0) := by
  show cnt (fun i => va_up (aO a) (aN a + 1) o i / 8 == t && va_up (aD a) (aN a + 1) kd i != 0) (aN a) + (if (va_up (aO a) (aN a + 1) o (aN a + 1) / 8 == t && va_up (aD a) (aN a + 1) kd (aN a + 1) != 0) = true then 1 else 0) = _
  rw [va_up_self, va_up_self, cnt_congr (q := fun i => aO a i / 8 == t && aD a i != 0) (fun j h1 h2 => by rw [va_up_ne _ _ (by omega), va_up_ne _ _ (by omega)])]
  show cV a t + _ = _
  congr 1
  by_cases e : o / 8 = t <;> by_cases f : kd = 0 <;> simp [e, f]
theorem cV_set {a : AS} {i : Nat} (hi : 1 ≤ i) (hn : i ≤ aN a) (kd : Nat) (nu : Int64) (t : Nat) : cV (setA a i kd nu) t + (if aO a i / 8 = t ∧ aD a i ≠ 0 then 1 else 0) = cV a t + (if aO a i / 8 = t ∧ kd ≠ 0 then 1 else 0) := by
  have hq : ∀ j, j ≠ i → (aO a j / 8 == t && va_up (aD a) i kd j != 0) = (aO a j / 8 == t && aD a j != 0) := fun j hj => by rw [va_up_ne _ _ hj]
  have hc : ((aO a i / 8 == t && va_up (aD a) i kd i != 0) = (aO a i / 8 == t && aD a i != 0)) → cnt (fun j => aO a j / 8 == t && va_up (aD a) i kd j != 0) (aN a) = cnt (fun j => aO a j / 8 == t && aD a j != 0) (aN a) := fun h0 => cnt_congr (fun j _ _ => by
    by_cases c : j = i
    · rw [c]; exact h0
    · exact hq j c)
  show cnt (fun j => aO a j / 8 == t && va_up (aD a) i kd j != 0) (aN a) + _ = cnt (fun j => aO a j / 8 == t && aD a j != 0) (aN a) + _
  by_cases e : aO a i / 8 = t
  · by_cases f : aD a i = 0
    · by_cases g : kd = 0
      · rw [hc (by rw [va_up_self, f, g])]
        simp [f, g]
      · rw [cnt_one (p := fun j => aO a j / 8 == t && aD a j != 0) hi hn (fun j _ _ c => hq j c) (by simp [f]) (by show (aO a i / 8 == t && va_up (aD a) i kd i != 0) = true; rw [va_up_self]; simp [e, g])]
        simp [e, f, g]
    · by_cases g : kd = 0
      · rw [cnt_one (q := fun j => aO a j / 8 == t && aD a j != 0) (p := fun j => aO a j / 8 == t && va_up (aD a) i kd j != 0) hi hn (fun j _ _ c => (hq j c).symm) (by show (aO a i / 8 == t && va_up (aD a) i kd i != 0) = false; rw [va_up_self]; simp [g]) (by simp [e, f])]
        simp [e, f, g]
      · rw [hc (by rw [va_up_self, show (kd != 0) = true from bne_iff_ne.mpr g, show (aD a i != 0) = true from bne_iff_ne.mpr f])]
        simp [f, g]
  · rw [hc (by rw [show (aO a i / 8 == t) = false from beq_eq_false_iff_ne.mpr e, Bool.false_and, Bool.false_and])]
    simp [e]
theorem isB.other {nT : Nat} {a : AS} {o t b : Nat} {k : Int64} {kd : Nat} {nu : Int64} (h : AI nT a) (hb : isB a t b) (ho : o ≠ t * 8 + 3) : isB (giveA a o k kd nu) t b := by
  refine ⟨fun j h1 h2 => ?_, ?_⟩
  · rw [wK_give h, if_neg (fun e => ho e.1)]; exact hb.1 j h1 h2
  · rw [wK_give h, if_neg (fun e => ho e.1)]; exact hb.2
theorem isB.stay {nT : Nat} {a : AS} {t b : Nat} {k : Int64} {kd : Nat} {nu : Int64} (h : AI nT a) (hb : isB a t b) (hk : kd ≠ 0) (hne : k ≠ lN (b + 1)) : isB (giveA a (t * 8 + 3) k kd nu) t b := by
  refine ⟨fun j h1 h2 => ?_, ?_⟩
  · rw [wK_give h]; split
    · exact hk
    · exact hb.1 j h1 h2
  · rw [wK_give h, if_neg (fun e => hne e.2)]; exact hb.2
theorem isB.nil {nT : Nat} {a : AS} {t b : Nat} {k : Int64} {nu : Int64} (h : AI nT a) (hb : isB a t b) (hne : ∀ j, 1 ≤ j → j ≤ b → k ≠ lN j) : isB (giveA a (t * 8 + 3) k 0 nu) t b := by
  refine ⟨fun j h1 h2 => ?_, ?_⟩
  · rw [wK_give h, if_neg (fun e => hne j h1 h2 e.2)]; exact hb.1 j h1 h2
  · rw [wK_give h]; split
    · rfl
    · exact hb.2
theorem isB.cut {nT : Nat} {a : AS} {t b j : Nat} {nu : Int64} (h : AI nT a) (hb : isB a t b) (h1 : 1 ≤ j) (h2 : j ≤ b) : isB (giveA a (t * 8 + 3) (lN j) 0 nu) t (j - 1) := by
  have hn := hb.le h
  have h40 := h.1
  refine ⟨fun i i1 i2 => ?_, ?_⟩
  · rw [wK_give h, if_neg (fun e => by have := lN_ne (by omega) (by omega) e.2; omega)]; exact hb.1 i i1 (by omega)
  · rw [wK_give h, show j - 1 + 1 = j by omega, if_pos ⟨rfl, rfl⟩]
theorem isB.full {nT : Nat} {a : AS} {t : Nat} (h : AI nT a) (hb : ∀ k, 1 ≤ k → k ≤ 40000 → wK a t k ≠ 0) : isB a t 40000 := by
  refine ⟨hb, ?_⟩
  by_cases e : wK a t 40001 = 0
  · exact e
  · have h40 := h.1
    have nz : ∀ j, j < 40001 → aF a (t * 8 + 3) (lN (j + 1)) ≠ 0 := fun j hj e2 => by
      have : wK a t (j + 1) ≠ 0 := by
        by_cases q : j = 40000
        · rw [q]; exact e
        · exact hb (j + 1) (by omega) (by omega)
      unfold wK at this
      rw [e2, h.2.2.2.1] at this
      exact this rfl
    have := hz_pigeon (aN a) 40001 (fun j => aF a (t * 8 + 3) (lN (j + 1))) (fun j hj => ⟨Nat.pos_of_ne_zero (nz j hj), aF_le _ _ _⟩) (fun i j hi hj e3 => by
      have e3 : aF a (t * 8 + 3) (lN (i + 1)) = aF a (t * 8 + 3) (lN (j + 1)) := e3
      have a1 := (aF_hit (nz i hi)).2
      have a2 := (aF_hit (nz j hj)).2
      rw [e3, a2] at a1
      have := lN_ne (by omega) (by omega) a1
      omega)
    omega
end
section
section Std
variable {p : Program} {l : Launch} {e : Env} {R : Room} {s : State} {m : MethodId} {args : Array Value} {below : List Frame} {meth : Method} {c : Code} {H H0 : Heap} {locs : List Loc} {cells slots : Nat} {Q : State → Prop} {cc : ByteArray} {pc : Nat} {ls : Array Slot} {rest : List Value} {D : va_G} {cl : List vw_C} {tys : List (ClassId × FieldType)} {ws : va_W} {A : Nat → Prop} {a : Nat}
theorem fz_eqi {x y : Int32} (h : x = y) (k : W p l e R s m args below meth c H locs cells slots Q (F0 m pc ls (.int y :: rest))) : W p l e R s m args below meth c H locs cells slots Q (F0 m pc ls (.int x :: rest)) := by rw [h]; exact k
theorem fz_eql {x y : Int64} (h : x = y) (k : W p l e R s m args below meth c H locs cells slots Q (F0 m pc ls (.long y :: rest))) : W p l e R s m args below meth c H locs cells slots Q (F0 m pc ls (.long x :: rest)) := by rw [h]; exact k
theorem fz_ty {U : State} {c1 c2 : ClassId} {tys2 : List (ClassId × FieldType)} {ty : FieldType} (hp : refKind ty = false) {i j : Nat} (h1 : va_K D cl tys U) (h2 : va_K D cl tys2 U) (e1 : tys[i]? = some (c1, ty)) (e2 : tys2[j]? = some (c2, ty)) : c2 = c1 := by
  have r1 := (h1.2 i _ e1).2
  have r2 := (h2.2 j _ e2).2
  cases ty with
  | object C => simp [refKind] at hp
  | _ =>
    have r1 : U.vm.findClass _ = some c1 := r1
    have r2 : U.vm.findClass _ = some c2 := r2
    exact Option.some.inj (r2.symm.trans r1)
theorem fz_iald (hx : p.tables.exec = Jvm.exec) (hb : c.code = cc) (hK : va_K D cl tys s) (hP : va_P D cl ws H) (q0 t0 : Nat) {cA : ClassId} {n : Nat} {f : Nat → Nat} (ha : ws[q0]? = some (a, .inl (cA, n, .inl (nf f)))) (ht : tys[t0]? = some (cA, .int)) {j : Nat} (hj : j < n) (hn : n < 2 ^ 31) (hdg : decode cc pc = .ok (.iaload, 1))
    (kk : W p l e R s m args below meth c H locs cells slots Q (F0 m (pc + 1) ls (.int (nI (f j)) :: rest))) : W p l e R s m args below meth c H locs cells slots Q (F0 m pc ls (.int (nI j) :: .ref a :: rest)) :=
  va_iald hx hb hK hP q0 t0 ha ht (vp_in_nI hj hn) hdg (by rw [nI_clamp (by omega)]; exact kk)
theorem fz_bald (hx : p.tables.exec = Jvm.exec) (hb : c.code = cc) (hK : va_K D cl tys s) (hP : va_P D cl ws H) (q0 t0 : Nat) {cA : ClassId} {n : Nat} {f : Nat → Nat} (ha : ws[q0]? = some (a, .inl (cA, n, .inl (nf f)))) (ht : tys[t0]? = some (cA, .byte)) {j : Nat} (hj : j < n) (hn : n < 2 ^ 31) (hdg : decode cc pc = .ok (.baload, 1))
    (kk : W p l e R s m args below meth c H locs cells slots Q (F0 m (pc + 1) ls (.int (nI (f j)) :: rest))) : W p l e R s m args below meth c H locs cells slots Q (F0 m pc ls (.int (nI j) :: .ref a :: rest)) :=
  va_bald hx hb hK hP q0 t0 ha ht (vp_in_nI hj hn) hdg (by rw [nI_clamp (by omega)]; exact kk)
theorem fz_lald (hx : p.tables.exec = Jvm.exec) (hb : c.code = cc) (hK : va_K D cl tys s) (hP : va_P D cl ws H) (q0 t0 : Nat) {cA : ClassId} {n : Nat} {f : Nat → Int64} (ha : ws[q0]? = some (a, .inl (cA, n, .inr (.inl f)))) (ht : tys[t0]? = some (cA, .long)) {j : Nat} (hj : j < n) (hn : n < 2 ^ 31) (hdg : decode cc pc = .ok (.laload, 1))
    (kk : W p l e R s m args below meth c H locs cells slots Q (F0 m (pc + 1) ls (.long (f j) :: rest))) : W p l e R s m args below meth c H locs cells slots Q (F0 m pc ls (.int (nI j) :: .ref a :: rest)) :=
  va_lald hx hb hK hP q0 t0 ha ht (vp_in_nI hj hn) hdg (by rw [nI_clamp (by omega)]; exact kk)
theorem fz_iast (hx : p.tables.exec = Jvm.exec) (hb : c.code = cc) (hK : va_K D cl tys s) (hP : va_P D cl ws H) (hD : va_D A ws) (hS : va_S A H0 H locs) (q0 t0 : Nat) {cA : ClassId} {n : Nat} {f : Nat → Nat} (ha : ws[q0]? = some (a, .inl (cA, n, .inl (nf f)))) (ht : tys[t0]? = some (cA, .int)) {j : Nat} {x : Nat} (hj : j < n) (hn : n < 2 ^ 31) (hdg : decode cc pc = .ok (.iastore, 1))
    (kk : ∀ (H1 : Heap) (locs1 : List Loc), va_P D cl (ws.set q0 (a, .inl (cA, n, .inl (nf (va_up f j x))))) H1 → va_D A (ws.set q0 (a, .inl (cA, n, .inl (nf (va_up f j x))))) → va_S A H0 H1 locs1 → W p l e R s m args below meth c H1 locs1 cells slots Q (F0 m (pc + 1) ls rest)) : W p l e R s m args below meth c H locs cells slots Q (F0 m pc ls (.int (nI x) :: .int (nI j) :: .ref a :: rest)) :=
  va_iast hx hb hK hP hD hS q0 t0 ha ht (vp_in_nI hj hn) hdg (fun H1 locs1 h1 h2 h3 => by rw [nI_clamp (by omega), fz_updN] at h1 h2; exact kk H1 locs1 h1 h2 h3)
theorem fz_bast (hx : p.tables.exec = Jvm.exec) (hb : c.code = cc) (hK : va_K D cl tys s) (hP : va_P D cl ws H) (hD : va_D A ws) (hS : va_S A H0 H locs) (q0 t0 : Nat) {cA : ClassId} {n : Nat} {f : Nat → Nat} (ha : ws[q0]? = some (a, .inl (cA, n, .inl (nf f)))) (ht : tys[t0]? = some (cA, .byte)) {j : Nat} {x : Nat} (hx8 : vp_nar .byte (nI x) = nI x) (hj : j < n) (hn : n < 2 ^ 31) (hdg : decode cc pc = .ok (.bastore, 1))
    (kk : ∀ (H1 : Heap) (locs1 : List Loc), va_P D cl (ws.set q0 (a, .inl (cA, n, .inl (nf (va_up f j x))))) H1 → va_D A (ws.set q0 (a, .inl (cA, n, .inl (nf (va_up f j x))))) → va_S A H0 H1 locs1 → W p l e R s m args below meth c H1 locs1 cells slots Q (F0 m (pc + 1) ls rest)) : W p l e R s m args below meth c H locs cells slots Q (F0 m pc ls (.int (nI x) :: .int (nI j) :: .ref a :: rest)) :=
  va_bast hx hb hK hP hD hS q0 t0 ha ht (vp_in_nI hj hn) hdg (fun H1 locs1 h1 h2 h3 => by rw [nI_clamp (by omega), hx8, fz_updN] at h1 h2; exact kk H1 locs1 h1 h2 h3)
theorem fz_last (hx : p.tables.exec = Jvm.exec) (hb : c.code = cc) (hK : va_K D cl tys s) (hP : va_P D cl ws H) (hD : va_D A ws) (hS : va_S A H0 H locs) (q0 t0 : Nat) {cA : ClassId} {n : Nat} {f : Nat → Int64} (ha : ws[q0]? = some (a, .inl (cA, n, .inr (.inl f)))) (ht : tys[t0]? = some (cA, .long)) {j : Nat} {x : Int64} (hj : j < n) (hn : n < 2 ^ 31) (hdg : decode cc pc = .ok (.lastore, 1))
    (kk : ∀ (H1 : Heap) (locs1 : List Loc), va_P D cl (ws.set q0 (a, .inl (cA, n, .inr (.inl (vp_updL f j x))))) H1 → va_D A (ws.set q0 (a, .inl (cA, n, .inr (.inl (vp_updL f j x))))) → va_S A H0 H1 locs1 → W p l e R s m args below meth c H1 locs1 cells slots Q (F0 m (pc + 1) ls rest)) : W p l e R s m args below meth c H locs cells slots Q (F0 m pc ls (.long x :: .int (nI j) :: .ref a :: rest)) :=
  va_last hx hb hK hP hD hS q0 t0 ha ht (vp_in_nI hj hn) hdg (fun H1 locs1 h1 h2 h3 => by rw [nI_clamp (by omega)] at h1 h2; exact kk H1 locs1 h1 h2 h3)
theorem fz_newi (hx : p.tables.exec = Jvm.exec) (hb : c.code = cc) (harr : (Cond.arrayClass (.int)).before args s = true) (hK : va_K D cl tys s) (t0 : Nat) {cA : ClassId} (ht : tys[t0]? = some (cA, .int)) (hP : va_P D cl ws H) (hD : va_D A ws) (hS : va_S A H0 H locs) (hA : ∀ q, H0.size ≤ q → A q) {N : Nat} (hN : N * 4 ≤ 536870912) (hcells : cells + 1 ≤ R.cells) (hslots : slots + N ≤ R.slots) (hdg : decode cc pc = .ok (.newarray .int, 2))
    (kk : ∀ (q : Nat) (H1 : Heap), va_P D cl (ws ++ [(q, .inl (cA, N, .inl (nf (fun _ => 0))))]) H1 → va_D A (ws ++ [(q, .inl (cA, N, .inl (nf (fun _ => 0))))]) → va_S A H0 H1 locs → W p l e R s m args below meth c H1 locs (cells + 1) (slots + N) Q (F0 m (pc + 2) ls (.ref q :: rest))) : W p l e R s m args below meth c H locs cells slots Q (F0 m pc ls (.int (nI N) :: rest)) := by
  have hN2 : N < 2 ^ 31 := by omega
  refine va_newa (atype := .int) (ty := .int) hx hb harr rfl hK hP hD hS hA (a0 := (N, .inl (nf (fun _ => 0)))) (fun cA => by rw [← fz_nf0]; rfl) (nI_pos hN2) (nI_clamp hN2) hN hcells hslots hdg (fun q cA2 H1 hK2 hP2 hD2 hS2 => ?_)
  have e := fz_ty (ty := .int) rfl hK hK2 ht (show (tys ++ [(cA2, FieldType.int)])[tys.length]? = some (cA2, .int) by simp)
  subst e
  exact kk q H1 hP2 hD2 hS2
theorem fz_newb (hx : p.tables.exec = Jvm.exec) (hb : c.code = cc) (harr : (Cond.arrayClass (.byte)).before args s = true) (hK : va_K D cl tys s) (t0 : Nat) {cA : ClassId} (ht : tys[t0]? = some (cA, .byte)) (hP : va_P D cl ws H) (hD : va_D A ws) (hS : va_S A H0 H locs) (hA : ∀ q, H0.size ≤ q → A q) {N : Nat} (hN : N * 1 ≤ 536870912) (hcells : cells + 1 ≤ R.cells) (hslots : slots + N ≤ R.slots) (hdg : decode cc pc = .ok (.newarray .byte, 2))
    (kk : ∀ (q : Nat) (H1 : Heap), va_P D cl (ws ++ [(q, .inl (cA, N, .inl (nf (fun _ => 0))))]) H1 → va_D A (ws ++ [(q, .inl (cA, N, .inl (nf (fun _ => 0))))]) → va_S A H0 H1 locs → W p l e R s m args below meth c H1 locs (cells + 1) (slots + N) Q (F0 m (pc + 2) ls (.ref q :: rest))) : W p l e R s m args below meth c H locs cells slots Q (F0 m pc ls (.int (nI N) :: rest)) := by
  have hN2 : N < 2 ^ 31 := by omega
  refine va_newa (atype := .byte) (ty := .byte) hx hb harr rfl hK hP hD hS hA (a0 := (N, .inl (nf (fun _ => 0)))) (fun cA => by rw [← fz_nf0]; rfl) (nI_pos hN2) (nI_clamp hN2) hN hcells hslots hdg (fun q cA2 H1 hK2 hP2 hD2 hS2 => ?_)
  have e := fz_ty (ty := .byte) rfl hK hK2 ht (show (tys ++ [(cA2, FieldType.byte)])[tys.length]? = some (cA2, .byte) by simp)
  subst e
  exact kk q H1 hP2 hD2 hS2
theorem fz_newl (hx : p.tables.exec = Jvm.exec) (hb : c.code = cc) (harr : (Cond.arrayClass (.long)).before args s = true) (hK : va_K D cl tys s) (t0 : Nat) {cA : ClassId} (ht : tys[t0]? = some (cA, .long)) (hP : va_P D cl ws H) (hD : va_D A ws) (hS : va_S A H0 H locs) (hA : ∀ q, H0.size ≤ q → A q) {N : Nat} (hN : N * 8 ≤ 536870912) (hcells : cells + 1 ≤ R.cells) (hslots : slots + N ≤ R.slots) (hdg : decode cc pc = .ok (.newarray .long, 2))
    (kk : ∀ (q : Nat) (H1 : Heap), va_P D cl (ws ++ [(q, .inl (cA, N, .inr (.inl (fun _ => 0))))]) H1 → va_D A (ws ++ [(q, .inl (cA, N, .inr (.inl (fun _ => 0))))]) → va_S A H0 H1 locs → W p l e R s m args below meth c H1 locs (cells + 1) (slots + N) Q (F0 m (pc + 2) ls (.ref q :: rest))) : W p l e R s m args below meth c H locs cells slots Q (F0 m pc ls (.int (nI N) :: rest)) := by
  have hN2 : N < 2 ^ 31 := by omega
  refine va_newa (atype := .long) (ty := .long) hx hb harr rfl hK hP hD hS hA (a0 := (N, .inr (.inl (fun _ => 0)))) (fun cA => rfl) (nI_pos hN2) (nI_clamp hN2) hN hcells hslots hdg (fun q cA2 H1 hK2 hP2 hD2 hS2 => ?_)
  have e := fz_ty (ty := .long) rfl hK hK2 ht (show (tys ++ [(cA2, FieldType.long)])[tys.length]? = some (cA2, .long) by simp)
  subst e
  exact kk q H1 hP2 hD2 hS2
theorem fz_alen (hx : p.tables.exec = Jvm.exec) (hb : c.code = cc) (hK : va_K D cl tys s) (hP : va_P D cl ws H) (q0 t0 : Nat) {cA : ClassId} {n : Nat} {y : (Nat → Int32) ⊕ (Nat → Int64) ⊕ (Nat → UInt32) ⊕ (Nat → UInt64) ⊕ (Nat → Option Nat)} (ha : ws[q0]? = some (a, .inl (cA, n, y))) {ty : FieldType} (ht : tys[t0]? = some (cA, ty)) (hdg : decode cc pc = .ok (.arraylength, 1))
    (kk : W p l e R s m args below meth c H locs cells slots Q (F0 m (pc + 1) ls (.int (nI n) :: rest))) : W p l e R s m args below meth c H locs cells slots Q (F0 m pc ls (.ref a :: rest)) := va_alen hx hb hK hP q0 t0 ha ht rfl hdg kk
theorem fz_cpyi (hx : p.tables.exec = Jvm.exec) (hb : c.code = cc) (hml : c.maxLocals = ls.size) {own : String} {index : Nat} (hown : s.vm.findClass own = some m.cls) (hlink : (Cond.methodLink own index arraycopyName).before args s = true) (hnat : (Cond.native arraycopyName).before args s = true) (hstat : (Cond.static arraycopyName).before args s = true) (hini : (Cond.initialized "java/lang/System").before args s = true)
    (hK : va_K D cl tys s) (hP : va_P D cl ws H) (hD : va_D A ws) (hS : va_S A H0 H locs) (q0 q1 t0 : Nat) {a0 : Nat} {cA : ClassId} {n0 n1 n : Nat} {f g : Nat → Nat} (ha0 : ws[q0]? = some (a0, .inl (cA, n0, .inl (nf f)))) (ha1 : ws[q1]? = some (a, .inl (cA, n1, .inl (nf g)))) (ht0 : tys[t0]? = some (cA, .int)) (h4 : n ≤ n0) (h5 : n ≤ n1) (h31 : n < 2 ^ 31)
    (hframes : 1 ≤ R.frames) (hlocals : (rest.map fun v => v.category).sum + (nativeFrameWords "java/lang/System" "arraycopy" 5 + 11) ≤ R.locals) (hdg : decode cc pc = .ok (.invokestatic index, 3))
    (kk : ∀ (H1 : Heap) (locs1 : List Loc), va_P D cl (ws.set q1 (a, .inl (cA, n1, .inl (nf (cpz f g n))))) H1 → va_D A (ws.set q1 (a, .inl (cA, n1, .inl (nf (cpz f g n))))) → va_S A H0 H1 locs1 → W p l e R s m args below meth c H1 locs1 cells slots Q (F0 m (pc + 3) ls rest)) : W p l e R s m args below meth c H locs cells slots Q (F0 m pc ls (.int (nI n) :: .int (nI 0) :: .ref a :: .int (nI 0) :: .ref a0 :: rest)) := by
  have e0 : (nI 0).toNatClampNeg = 0 := nI_clamp (by omega)
  refine va_copyi (ty := .int) hx hb hml hown hlink hnat hstat hini hK hP hD hS q0 q1 t0 t0 ha0 ha1 ht0 ht0 rfl (nI_pos (by omega)) (nI_pos (by omega)) (nI_pos h31) (by rw [e0, nI_clamp h31]; omega) (by rw [e0, nI_clamp h31]; omega) ?_ hframes hlocals hdg (fun H1 locs1 h1 h2 h3 => ?_)
  · intro i hi
    rw [nI_clamp h31] at hi
    rfl
  · rw [e0, nI_clamp h31, cpz_nf] at h1 h2
    exact kk H1 locs1 h1 h2 h3
theorem fz_cpyb (hx : p.tables.exec = Jvm.exec) (hb : c.code = cc) (hml : c.maxLocals = ls.size) {own : String} {index : Nat} (hown : s.vm.findClass own = some m.cls) (hlink : (Cond.methodLink own index arraycopyName).before args s = true) (hnat : (Cond.native arraycopyName).before args s = true) (hstat : (Cond.static arraycopyName).before args s = true) (hini : (Cond.initialized "java/lang/System").before args s = true)
    (hK : va_K D cl tys s) (hP : va_P D cl ws H) (hD : va_D A ws) (hS : va_S A H0 H locs) (q0 q1 t0 : Nat) {a0 : Nat} {cA : ClassId} {n0 n1 n : Nat} {f g : Nat → Nat} (ha0 : ws[q0]? = some (a0, .inl (cA, n0, .inl (nf f)))) (ha1 : ws[q1]? = some (a, .inl (cA, n1, .inl (nf g)))) (ht0 : tys[t0]? = some (cA, .byte)) (hfit : ∀ i, i < n → fits .byte (.int (nI (f i))) = true) (h4 : n ≤ n0) (h5 : n ≤ n1) (h31 : n < 2 ^ 31)
    (hframes : 1 ≤ R.frames) (hlocals : (rest.map fun v => v.category).sum + (nativeFrameWords "java/lang/System" "arraycopy" 5 + 11) ≤ R.locals) (hdg : decode cc pc = .ok (.invokestatic index, 3))
    (kk : ∀ (H1 : Heap) (locs1 : List Loc), va_P D cl (ws.set q1 (a, .inl (cA, n1, .inl (nf (cpz f g n))))) H1 → va_D A (ws.set q1 (a, .inl (cA, n1, .inl (nf (cpz f g n))))) → va_S A H0 H1 locs1 → W p l e R s m args below meth c H1 locs1 cells slots Q (F0 m (pc + 3) ls rest)) : W p l e R s m args below meth c H locs cells slots Q (F0 m pc ls (.int (nI n) :: .int (nI 0) :: .ref a :: .int (nI 0) :: .ref a0 :: rest)) := by
  have e0 : (nI 0).toNatClampNeg = 0 := nI_clamp (by omega)
  refine va_copyi (ty := .byte) hx hb hml hown hlink hnat hstat hini hK hP hD hS q0 q1 t0 t0 ha0 ha1 ht0 ht0 rfl (nI_pos (by omega)) (nI_pos (by omega)) (nI_pos h31) (by rw [e0, nI_clamp h31]; omega) (by rw [e0, nI_clamp h31]; omega) ?_ hframes hlocals hdg (fun H1 locs1 h1 h2 h3 => ?_)
  · intro i hi
    rw [nI_clamp h31] at hi
    rw [e0, Nat.zero_add]; exact hfit i hi
  · rw [e0, nI_clamp h31, cpz_nf] at h1 h2
    exact kk H1 locs1 h1 h2 h3
theorem fz_cpyl (hx : p.tables.exec = Jvm.exec) (hb : c.code = cc) (hml : c.maxLocals = ls.size) {own : String} {index : Nat} (hown : s.vm.findClass own = some m.cls) (hlink : (Cond.methodLink own index arraycopyName).before args s = true) (hnat : (Cond.native arraycopyName).before args s = true) (hstat : (Cond.static arraycopyName).before args s = true) (hini : (Cond.initialized "java/lang/System").before args s = true)
    (hK : va_K D cl tys s) (hP : va_P D cl ws H) (hD : va_D A ws) (hS : va_S A H0 H locs) (q0 q1 t0 : Nat) {a0 : Nat} {cA : ClassId} {n0 n1 n : Nat} {f g : Nat → Int64} (ha0 : ws[q0]? = some (a0, .inl (cA, n0, .inr (.inl f)))) (ha1 : ws[q1]? = some (a, .inl (cA, n1, .inr (.inl g)))) (ht0 : tys[t0]? = some (cA, .long)) (h4 : n ≤ n0) (h5 : n ≤ n1) (h31 : n < 2 ^ 31)
    (hframes : 1 ≤ R.frames) (hlocals : (rest.map fun v => v.category).sum + (nativeFrameWords "java/lang/System" "arraycopy" 5 + 11) ≤ R.locals) (hdg : decode cc pc = .ok (.invokestatic index, 3))
    (kk : ∀ (H1 : Heap) (locs1 : List Loc), va_P D cl (ws.set q1 (a, .inl (cA, n1, .inr (.inl (cpz f g n))))) H1 → va_D A (ws.set q1 (a, .inl (cA, n1, .inr (.inl (cpz f g n))))) → va_S A H0 H1 locs1 → W p l e R s m args below meth c H1 locs1 cells slots Q (F0 m (pc + 3) ls rest)) : W p l e R s m args below meth c H locs cells slots Q (F0 m pc ls (.int (nI n) :: .int (nI 0) :: .ref a :: .int (nI 0) :: .ref a0 :: rest)) := by
  have e0 : (nI 0).toNatClampNeg = 0 := nI_clamp (by omega)
  refine va_copyl (ty := .long) hx hb hml hown hlink hnat hstat hini hK hP hD hS q0 q1 t0 t0 ha0 ha1 ht0 ht0 rfl (nI_pos (by omega)) (nI_pos (by omega)) (nI_pos h31) (by rw [e0, nI_clamp h31]; omega) (by rw [e0, nI_clamp h31]; omega) ?_ hframes hlocals hdg (fun H1 locs1 h1 h2 h3 => ?_)
  · intro i hi
    rw [nI_clamp h31] at hi
    rfl
  · rw [e0, nI_clamp h31, cpz_cpy] at h1 h2
    exact kk H1 locs1 h1 h2 h3
theorem fz_subP {ws' : va_W} (hP : va_P D cl ws H) (is : List Nat) (hs : is.map (fun i => ws[i]?) = ws'.map some) : va_P D cl ws' H := by
  intro k q hq
  have h1 : (ws'.map some)[k]? = some (some q) := by rw [List.getElem?_map, hq]; rfl
  rw [← hs, List.getElem?_map] at h1
  cases h2 : is[k]? with
  | none => rw [h2] at h1; cases h1
  | some i =>
    rw [h2] at h1
    exact hP i q (Option.some.inj h1)
def StdI {S : Type} (l : Launch) (y : MethodName) (w : List Cond) (fr lo mc ms : Nat) (D : va_G) (cl : List vw_C) (tys : List (ClassId × FieldType)) (av : List Value) (w0 : va_W) (post : Int32 → S → Prop) (w1 : S → va_W) : Prop := ∀ sz : Nat, Met l y w { frames := fr, cells := mc, slots := ms, locals := lo } (va_Pc av (fun U => U.heap.size = sz ∧ va_P D cl w0 U.heap ∧ va_K D cl tys U ∧ va_D (fun _ => True) w0)) (va_Qi post (fun u t => va_P D cl (w1 u) t.heap ∧ va_K D cl tys t ∧ va_D (va_A w0 sz) (w1 u)) (va_A w0 sz)) mc ms (va_A w0 sz)
theorem StdI.mk {S : Type} {y : MethodName} {w w' : List Cond} {fr lo mc ms : Nat} {av : List Value} {w0 : va_W} {post : Int32 → S → Prop} {w1 : S → va_W} {maxL : Nat} (hy : plainName y.cls = true) (hw : w = Cond.code y cc maxL (some .int) :: w') (hlen : (lg_sl av).length ≤ maxL)
    (body : ∀ (p : Program) (e : Env) (s : State) (m : MethodId) (below : List Frame) (meth : Method) (c : Code) (A : Nat → Prop) (Z : State → Prop) (ls : Array Slot), p.tables.exec = Jvm.exec → c.code = cc → c.maxLocals = maxL → s.vm.findClass y.cls = some m.cls → (∀ x ∈ w, x.before av.toArray s = true) → meth.name = y.name → va_P D cl w0 s.heap → va_K D cl tys s → va_D A w0 → (∀ q, s.heap.size ≤ q → A q) → va_S A s.heap s.heap [] →
      (∀ (r : Int32) (u : S) (H : Heap) (locs : List Loc) (pc : Nat) (ls : Array Slot), post r u → va_P D cl (w1 u) H → va_D A (w1 u) → va_S A s.heap H locs → decode cc pc = .ok (.ireturn, 1) → W p l e { frames := fr, cells := mc, slots := ms, locals := lo } s m av.toArray below meth c H locs mc ms Z (F0 m pc ls [.int r])) →
      lv_has ls maxL (lv_args 0 av) → W p l e { frames := fr, cells := mc, slots := ms, locals := lo } s m av.toArray below meth c s.heap [] 0 0 Z (F0 m 0 ls [])) : StdI l y w fr lo mc ms D cl tys av w0 post w1 := by
  intro sz
  refine Met.ofW (cc := cc) (maxL := maxL) (ret := (some .int)) hy hw ?_
  intro p e s m args below meth c s₁ B hml hv
  obtain ⟨rfl, hsz, hP, hK, hD0⟩ := hv
  subst hsz
  have hr := B.returns
  have hlocks := B.notSynchronized
  have hts := atoms_spec (ws := w) B.pre
  have hown : s.vm.findClass y.cls = some m.cls := findClass_of_methodNamed B.named
  have hin : meth.name = y.name := (name_of_methodNamed B.named B.method).1
  have hl := lv_entry av (n := maxL) hlen
  rw [lg_entry_eq]
  exact body p e s m below meth c (va_A w0 s.heap.size) (MQ below (va_Qi post (fun u t => va_P D cl (w1 u) t.heap ∧ va_K D cl tys t ∧ va_D (va_A w0 s.heap.size) (w1 u)) (va_A w0 s.heap.size)) av.toArray s mc ms (va_A w0 s.heap.size)) _ B.exec B.bytes hml hown hts hin hP hK hD0.self (fun q h => Or.inr h) va_S.rf
    (fun r u H locs pc ls hp hP1 hD1 hS1 hdg => W.iret B.exec B.bytes hr (fun t ht hW => ⟨⟨r, u, rfl, hp, by rw [ht]; exact hP1, va_K.moved hW.alike hK, hD1⟩, hS1.F ht⟩) hS1.2.2 hdg) hl
theorem StdZ.mk {S : Type} {y : MethodName} {w w' : List Cond} {fr lo mc ms : Nat} {av : List Value} {w0 : va_W} {post : Int32 → S → Prop} {w1 : S → va_W} {maxL : Nat} (hy : plainName y.cls = true) (hw : w = Cond.code y cc maxL (some .boolean) :: w') (hlen : (lg_sl av).length ≤ maxL)
    (body : ∀ (p : Program) (e : Env) (s : State) (m : MethodId) (below : List Frame) (meth : Method) (c : Code) (A : Nat → Prop) (Z : State → Prop) (ls : Array Slot), p.tables.exec = Jvm.exec → c.code = cc → c.maxLocals = maxL → s.vm.findClass y.cls = some m.cls → (∀ x ∈ w, x.before av.toArray s = true) → meth.name = y.name → va_P D cl w0 s.heap → va_K D cl tys s → va_D A w0 → (∀ q, s.heap.size ≤ q → A q) → va_S A s.heap s.heap [] →
      (∀ (r : Int32) (u : S) (H : Heap) (locs : List Loc) (pc : Nat) (ls : Array Slot), (r = 0 ∨ r = 1) → post r u → va_P D cl (w1 u) H → va_D A (w1 u) → va_S A s.heap H locs → decode cc pc = .ok (.ireturn, 1) → W p l e { frames := fr, cells := mc, slots := ms, locals := lo } s m av.toArray below meth c H locs mc ms Z (F0 m pc ls [.int r])) →
      lv_has ls maxL (lv_args 0 av) → W p l e { frames := fr, cells := mc, slots := ms, locals := lo } s m av.toArray below meth c s.heap [] 0 0 Z (F0 m 0 ls [])) : StdI l y w fr lo mc ms D cl tys av w0 post w1 := by
  intro sz
  refine Met.ofW (cc := cc) (maxL := maxL) (ret := (some .boolean)) hy hw ?_
  intro p e s m args below meth c s₁ B hml hv
  obtain ⟨rfl, hsz, hP, hK, hD0⟩ := hv
  subst hsz
  have hr := B.returns
  have hlocks := B.notSynchronized
  have hts := atoms_spec (ws := w) B.pre
  have hown : s.vm.findClass y.cls = some m.cls := findClass_of_methodNamed B.named
  have hin : meth.name = y.name := (name_of_methodNamed B.named B.method).1
  have hl := lv_entry av (n := maxL) hlen
  rw [lg_entry_eq]
  exact body p e s m below meth c (va_A w0 s.heap.size) (MQ below (va_Qi post (fun u t => va_P D cl (w1 u) t.heap ∧ va_K D cl tys t ∧ va_D (va_A w0 s.heap.size) (w1 u)) (va_A w0 s.heap.size)) av.toArray s mc ms (va_A w0 s.heap.size)) _ B.exec B.bytes hml hown hts hin hP hK hD0.self (fun q h => Or.inr h) va_S.rf
    (fun r u H locs pc ls hz hp hP1 hD1 hS1 hdg => W.zret B.exec B.bytes hr (by rcases hz with h | h <;> rw [h] <;> rfl) (fun t ht hW => ⟨⟨r, u, rfl, hp, by rw [ht]; exact hP1, va_K.moved hW.alike hK, hD1⟩, hS1.F ht⟩) hS1.2.2 hdg) hl
def StdL {S : Type} (l : Launch) (y : MethodName) (w : List Cond) (fr lo mc ms : Nat) (D : va_G) (cl : List vw_C) (tys : List (ClassId × FieldType)) (av : List Value) (w0 : va_W) (post : Int64 → S → Prop) (w1 : S → va_W) : Prop := ∀ sz : Nat, Met l y w { frames := fr, cells := mc, slots := ms, locals := lo } (va_Pc av (fun U => U.heap.size = sz ∧ va_P D cl w0 U.heap ∧ va_K D cl tys U ∧ va_D (fun _ => True) w0)) (va_Ql post (fun u t => va_P D cl (w1 u) t.heap ∧ va_K D cl tys t ∧ va_D (va_A w0 sz) (w1 u)) (va_A w0 sz)) mc ms (va_A w0 sz)
theorem StdL.mk {S : Type} {y : MethodName} {w w' : List Cond} {fr lo mc ms : Nat} {av : List Value} {w0 : va_W} {post : Int64 → S → Prop} {w1 : S → va_W} {maxL : Nat} (hy : plainName y.cls = true) (hw : w = Cond.code y cc maxL (some .long) :: w') (hlen : (lg_sl av).length ≤ maxL)
    (body : ∀ (p : Program) (e : Env) (s : State) (m : MethodId) (below : List Frame) (meth : Method) (c : Code) (A : Nat → Prop) (Z : State → Prop) (ls : Array Slot), p.tables.exec = Jvm.exec → c.code = cc → c.maxLocals = maxL → s.vm.findClass y.cls = some m.cls → (∀ x ∈ w, x.before av.toArray s = true) → meth.name = y.name → va_P D cl w0 s.heap → va_K D cl tys s → va_D A w0 → (∀ q, s.heap.size ≤ q → A q) → va_S A s.heap s.heap [] →
      (∀ (r : Int64) (u : S) (H : Heap) (locs : List Loc) (pc : Nat) (ls : Array Slot), post r u → va_P D cl (w1 u) H → va_D A (w1 u) → va_S A s.heap H locs → decode cc pc = .ok (.lreturn, 1) → W p l e { frames := fr, cells := mc, slots := ms, locals := lo } s m av.toArray below meth c H locs mc ms Z (F0 m pc ls [.long r])) →
      lv_has ls maxL (lv_args 0 av) → W p l e { frames := fr, cells := mc, slots := ms, locals := lo } s m av.toArray below meth c s.heap [] 0 0 Z (F0 m 0 ls [])) : StdL l y w fr lo mc ms D cl tys av w0 post w1 := by
  intro sz
  refine Met.ofW (cc := cc) (maxL := maxL) (ret := (some .long)) hy hw ?_
  intro p e s m args below meth c s₁ B hml hv
  obtain ⟨rfl, hsz, hP, hK, hD0⟩ := hv
  subst hsz
  have hr := B.returns
  have hlocks := B.notSynchronized
  have hts := atoms_spec (ws := w) B.pre
  have hown : s.vm.findClass y.cls = some m.cls := findClass_of_methodNamed B.named
  have hin : meth.name = y.name := (name_of_methodNamed B.named B.method).1
  have hl := lv_entry av (n := maxL) hlen
  rw [lg_entry_eq]
  exact body p e s m below meth c (va_A w0 s.heap.size) (MQ below (va_Ql post (fun u t => va_P D cl (w1 u) t.heap ∧ va_K D cl tys t ∧ va_D (va_A w0 s.heap.size) (w1 u)) (va_A w0 s.heap.size)) av.toArray s mc ms (va_A w0 s.heap.size)) _ B.exec B.bytes hml hown hts hin hP hK hD0.self (fun q h => Or.inr h) va_S.rf
    (fun r u H locs pc ls hp hP1 hD1 hS1 hdg => W.lret B.exec B.bytes hr (fun t ht hW => ⟨⟨r, u, rfl, hp, by rw [ht]; exact hP1, va_K.moved hW.alike hK, hD1⟩, hS1.F ht⟩) hS1.2.2 hdg) hl
def StdV {S : Type} (l : Launch) (y : MethodName) (w : List Cond) (fr lo mc ms : Nat) (D : va_G) (cl : List vw_C) (tys : List (ClassId × FieldType)) (av : List Value) (w0 : va_W) (post : S → Prop) (w1 : S → va_W) : Prop := ∀ sz : Nat, Met l y w { frames := fr, cells := mc, slots := ms, locals := lo } (va_Pc av (fun U => U.heap.size = sz ∧ va_P D cl w0 U.heap ∧ va_K D cl tys U ∧ va_D (fun _ => True) w0)) (va_Qv post (fun u t => va_P D cl (w1 u) t.heap ∧ va_K D cl tys t ∧ va_D (va_A w0 sz) (w1 u)) (va_A w0 sz)) mc ms (va_A w0 sz)
theorem StdV.mk {S : Type} {y : MethodName} {w w' : List Cond} {fr lo mc ms : Nat} {av : List Value} {w0 : va_W} {post : S → Prop} {w1 : S → va_W} {maxL : Nat} (hy : plainName y.cls = true) (hw : w = Cond.code y cc maxL (none) :: w') (hlen : (lg_sl av).length ≤ maxL)
    (body : ∀ (p : Program) (e : Env) (s : State) (m : MethodId) (below : List Frame) (meth : Method) (c : Code) (A : Nat → Prop) (Z : State → Prop) (ls : Array Slot), p.tables.exec = Jvm.exec → c.code = cc → c.maxLocals = maxL → s.vm.findClass y.cls = some m.cls → (∀ x ∈ w, x.before av.toArray s = true) → meth.name = y.name → va_P D cl w0 s.heap → va_K D cl tys s → va_D A w0 → (∀ q, s.heap.size ≤ q → A q) → va_S A s.heap s.heap [] →
      (∀ (u : S) (H : Heap) (locs : List Loc) (pc : Nat) (ls : Array Slot), post u → va_P D cl (w1 u) H → va_D A (w1 u) → va_S A s.heap H locs → decode cc pc = .ok (.return_, 1) → W p l e { frames := fr, cells := mc, slots := ms, locals := lo } s m av.toArray below meth c H locs mc ms Z (F0 m pc ls [])) →
      lv_has ls maxL (lv_args 0 av) → W p l e { frames := fr, cells := mc, slots := ms, locals := lo } s m av.toArray below meth c s.heap [] 0 0 Z (F0 m 0 ls [])) : StdV l y w fr lo mc ms D cl tys av w0 post w1 := by
  intro sz
  refine Met.ofW (cc := cc) (maxL := maxL) (ret := (none)) hy hw ?_
  intro p e s m args below meth c s₁ B hml hv
  obtain ⟨rfl, hsz, hP, hK, hD0⟩ := hv
  subst hsz
  have hr := B.returns
  have hlocks := B.notSynchronized
  have hts := atoms_spec (ws := w) B.pre
  have hown : s.vm.findClass y.cls = some m.cls := findClass_of_methodNamed B.named
  have hin : meth.name = y.name := (name_of_methodNamed B.named B.method).1
  have hl := lv_entry av (n := maxL) hlen
  rw [lg_entry_eq]
  exact body p e s m below meth c (va_A w0 s.heap.size) (MQ below (va_Qv post (fun u t => va_P D cl (w1 u) t.heap ∧ va_K D cl tys t ∧ va_D (va_A w0 s.heap.size) (w1 u)) (va_A w0 s.heap.size)) av.toArray s mc ms (va_A w0 s.heap.size)) _ B.exec B.bytes hml hown hts hin hP hK hD0.self (fun q h => Or.inr h) va_S.rf
    (fun u H locs pc ls hp hP1 hD1 hS1 hdg => W.vret B.exec B.bytes hr (fun t ht hW => ⟨⟨u, rfl, hp, by rw [ht]; exact hP1, va_K.moved hW.alike hK, hD1⟩, hS1.F ht⟩) hS1.2.2 hdg) hl
def StdR {S : Type} (l : Launch) (y : MethodName) (w : List Cond) (fr lo mc ms : Nat) (D : va_G) (cl : List vw_C) (tys : List (ClassId × FieldType)) (av : List Value) (w0 : va_W) (post : Nat → S → Prop) (w1 : S → Nat → va_W) : Prop := ∀ sz : Nat, Met l y w { frames := fr, cells := mc, slots := ms, locals := lo } (va_Pc av (fun U => U.heap.size = sz ∧ va_P D cl w0 U.heap ∧ va_K D cl tys U ∧ va_D (fun _ => True) w0)) (va_Qr (S := S) (fun _ => True) (fun u r t => post r u ∧ va_P D cl (w1 u r) t.heap ∧ va_K D cl tys t ∧ va_D (va_A w0 sz) (w1 u r)) (va_A w0 sz)) mc ms (va_A w0 sz)
theorem StdR.mk {S : Type} {y : MethodName} {w w' : List Cond} {fr lo mc ms : Nat} {av : List Value} {w0 : va_W} {post : Nat → S → Prop} {w1 : S → Nat → va_W} {maxL : Nat} {rt : FieldType} (hrt : (∃ n, rt = .object n) ∨ ∃ t, rt = .array t) (hy : plainName y.cls = true) (hw : w = Cond.code y cc maxL (some rt) :: w') (hlen : (lg_sl av).length ≤ maxL)
    (body : ∀ (p : Program) (e : Env) (s : State) (m : MethodId) (below : List Frame) (meth : Method) (c : Code) (A : Nat → Prop) (Z : State → Prop) (ls : Array Slot), p.tables.exec = Jvm.exec → c.code = cc → c.maxLocals = maxL → s.vm.findClass y.cls = some m.cls → (∀ x ∈ w, x.before av.toArray s = true) → meth.name = y.name → va_P D cl w0 s.heap → va_K D cl tys s → va_D A w0 → (∀ q, s.heap.size ≤ q → A q) → va_S A s.heap s.heap [] →
      (∀ (r : Nat) (u : S) (H : Heap) (locs : List Loc) (pc : Nat) (ls : Array Slot), post r u → va_P D cl (w1 u r) H → va_D A (w1 u r) → va_S A s.heap H locs → decode cc pc = .ok (.areturn, 1) → W p l e { frames := fr, cells := mc, slots := ms, locals := lo } s m av.toArray below meth c H locs mc ms Z (F0 m pc ls [.ref r])) →
      lv_has ls maxL (lv_args 0 av) → W p l e { frames := fr, cells := mc, slots := ms, locals := lo } s m av.toArray below meth c s.heap [] 0 0 Z (F0 m 0 ls [])) : StdR l y w fr lo mc ms D cl tys av w0 post w1 := by
  intro sz
  refine Met.ofW (cc := cc) (maxL := maxL) (ret := (some rt)) hy hw ?_
  intro p e s m args below meth c s₁ B hml hv
  obtain ⟨rfl, hsz, hP, hK, hD0⟩ := hv
  subst hsz
  have hr := B.returns
  have hlocks := B.notSynchronized
  have hts := atoms_spec (ws := w) B.pre
  have hown : s.vm.findClass y.cls = some m.cls := findClass_of_methodNamed B.named
  have hin : meth.name = y.name := (name_of_methodNamed B.named B.method).1
  have hl := lv_entry av (n := maxL) hlen
  rw [lg_entry_eq]
  exact body p e s m below meth c (va_A w0 s.heap.size) (MQ below (va_Qr (S := S) (fun _ => True) (fun u r t => post r u ∧ va_P D cl (w1 u r) t.heap ∧ va_K D cl tys t ∧ va_D (va_A w0 s.heap.size) (w1 u r)) (va_A w0 s.heap.size)) av.toArray s mc ms (va_A w0 s.heap.size)) _ B.exec B.bytes hml hown hts hin hP hK hD0.self (fun q h => Or.inr h) va_S.rf
    (fun r u H locs pc ls hp hP1 hD1 hS1 hdg => W.aret B.exec B.bytes hr hrt (Or.inr ⟨r, rfl⟩) (fun t ht hW => ⟨⟨u, r, rfl, trivial, hp, by rw [ht]; exact hP1, va_K.moved hW.alike hK, hD1⟩, hS1.F ht⟩) hS1.2.2 hdg) hl
theorem StdI.callV {S : Type} {y : MethodName} {w : List Cond} {fr lo mc ms nL n index maxL : Nat} {own C : String} {bytes : ByteArray} {ret : Option FieldType} {As : List Value} {b : Nat} {w0 wr : va_W} {post : Int32 → S → Prop} {w1 : S → va_W} {Ts : List Cond} {st0 : List Value} (hM : StdI l y w fr lo mc ms D cl tys (.ref b :: As) w0 post w1) (Sx : CallFix p m c cc nL s args Ts own) (cw : CallW R s args own C index y bytes maxL ret w { frames := fr, cells := mc, slots := ms, locals := lo } mc ms n) (hK : va_K D cl tys s) (hP : va_P D cl ws H) (hD : va_D A ws) (hS : va_S A H0 H locs) (hA : ∀ q, H0.size ≤ q → A q) (isC isR : List Nat) (hC : isC.map (fun i => ws[i]?) = w0.map some) (hR : isR.map (fun i => ws[i]?) = wr.map some) (hnC : va_nd isC = true) (hnR : va_nd isR = true) (hdis : ∀ i ∈ isR, i ∉ isC) {ci q0 : Nat} {qc : vw_C} {fs : List Value} (hc : cl[ci]? = some qc) (hqC : qc.1 = C) (he : w0[q0]? = some (b, .inr (ci, fs))) (hlen : As.length = n) (hsz : ls.size = nL) (hst : st0 = As.reverse ++ .ref b :: rest) (hW : (rest.map fun v => v.category).sum ≤ 8) (hdg : decode cc pc = .ok (.invokevirtual index, 3)) (hf : cells + mc ≤ R.cells ∧ slots + ms ≤ R.slots)
    (kk : ∀ (r : Int32) (u : S) (H1 : Heap) (locs1 : List Loc), post r u → va_P D cl (wr ++ (w1 u)) H1 → va_D A (wr ++ (w1 u)) → va_S A H0 H1 locs1 → W p l e R s m args below meth c H1 locs1 (cells + mc) (slots + ms) Q (F0 m (pc + 3) ls (.int r :: rest))) : W p l e R s m args below meth c H locs cells slots Q (F0 m pc ls st0) := by
  have hPc : va_P D cl w0 H := fz_subP hP isC hC
  have hDc : va_D A w0 := hD.sub isC hnC hC
  have hFc := va_free (wc := w0) hD hS hA isC hC
  refine va_calli (va_runV (rest := rest) Sx (hM H.size) cw ⟨fun a U g mk q => by obtain ⟨q0, q1, qP, qK, qD⟩ := q; exact ⟨q0, q1, qP, va_K.moved (u := U) (U := U.calling g mk a) (Vm.Alike.refl U.vm) qK, qD⟩, by obtain ⟨x, h1, h2, h3⟩ := va_recv hK hPc hc he; exact ⟨x, h1, h2, by rw [← hqC]; exact h3⟩, fun U hU hW => ⟨rfl, by rw [hU], by rw [hU]; exact hPc, va_K.moved hW.alike hK, hDc.weaken (fun _ _ _ _ => trivial)⟩⟩ rfl hlen hsz hst (lv_room hW) hdg hf) hS (fun q _ h => hFc q h) hFc (fun r u t H1 locs1 ht hvm hw hB hz1 hk1 hS1 => ?_)
  obtain ⟨hP1, hK1, hD1⟩ := hB
  rw [ht] at hP1
  obtain ⟨hP2, hD2⟩ := va_join (wr := wr) hP hD isC isR hC hR hnR hdis hk1 hFc hP1 hD1
  exact kk r u H1 locs1 hw hP2 hD2 hS1
theorem StdI.callS {S : Type} {y : MethodName} {w : List Cond} {fr lo mc ms nL n index maxL : Nat} {own : String} {bytes : ByteArray} {ret : Option FieldType} {As : List Value}  {w0 wr : va_W} {post : Int32 → S → Prop} {w1 : S → va_W} {Ts : List Cond} {st0 : List Value} (hM : StdI l y w fr lo mc ms D cl tys As w0 post w1) (Sx : CallFix p m c cc nL s args Ts own) (cw : CallB R s args own index y bytes maxL ret w { frames := fr, cells := mc, slots := ms, locals := lo } mc ms n ∧ (Cond.static y).before args s = true) (hK : va_K D cl tys s) (hP : va_P D cl ws H) (hD : va_D A ws) (hS : va_S A H0 H locs) (hA : ∀ q, H0.size ≤ q → A q) (isC isR : List Nat) (hC : isC.map (fun i => ws[i]?) = w0.map some) (hR : isR.map (fun i => ws[i]?) = wr.map some) (hnC : va_nd isC = true) (hnR : va_nd isR = true) (hdis : ∀ i ∈ isR, i ∉ isC) (hlen : As.length = n) (hsz : ls.size = nL) (hst : st0 = As.reverse ++ rest) (hW : (rest.map fun v => v.category).sum ≤ 8) (hdg : decode cc pc = .ok (.invokestatic index, 3)) (hf : cells + mc ≤ R.cells ∧ slots + ms ≤ R.slots)
    (kk : ∀ (r : Int32) (u : S) (H1 : Heap) (locs1 : List Loc), post r u → va_P D cl (wr ++ (w1 u)) H1 → va_D A (wr ++ (w1 u)) → va_S A H0 H1 locs1 → W p l e R s m args below meth c H1 locs1 (cells + mc) (slots + ms) Q (F0 m (pc + 3) ls (.int r :: rest))) : W p l e R s m args below meth c H locs cells slots Q (F0 m pc ls st0) := by
  have hPc : va_P D cl w0 H := fz_subP hP isC hC
  have hDc : va_D A w0 := hD.sub isC hnC hC
  have hFc := va_free (wc := w0) hD hS hA isC hC
  refine va_calli (va_runS (rest := rest) Sx (hM H.size) cw ⟨fun a U g mk q => by obtain ⟨q0, q1, qP, qK, qD⟩ := q; exact ⟨q0, q1, qP, va_K.moved (u := U) (U := U.calling g mk a) (Vm.Alike.refl U.vm) qK, qD⟩, fun U hU hW => ⟨rfl, by rw [hU], by rw [hU]; exact hPc, va_K.moved hW.alike hK, hDc.weaken (fun _ _ _ _ => trivial)⟩⟩ rfl hlen hsz hst (lv_room hW) hdg hf) hS (fun q _ h => hFc q h) hFc (fun r u t H1 locs1 ht hvm hw hB hz1 hk1 hS1 => ?_)
  obtain ⟨hP1, hK1, hD1⟩ := hB
  rw [ht] at hP1
  obtain ⟨hP2, hD2⟩ := va_join (wr := wr) hP hD isC isR hC hR hnR hdis hk1 hFc hP1 hD1
  exact kk r u H1 locs1 hw hP2 hD2 hS1
theorem StdL.callV {S : Type} {y : MethodName} {w : List Cond} {fr lo mc ms nL n index maxL : Nat} {own C : String} {bytes : ByteArray} {ret : Option FieldType} {As : List Value} {b : Nat} {w0 wr : va_W} {post : Int64 → S → Prop} {w1 : S → va_W} {Ts : List Cond} {st0 : List Value} (hM : StdL l y w fr lo mc ms D cl tys (.ref b :: As) w0 post w1) (Sx : CallFix p m c cc nL s args Ts own) (cw : CallW R s args own C index y bytes maxL ret w { frames := fr, cells := mc, slots := ms, locals := lo } mc ms n) (hK : va_K D cl tys s) (hP : va_P D cl ws H) (hD : va_D A ws) (hS : va_S A H0 H locs) (hA : ∀ q, H0.size ≤ q → A q) (isC isR : List Nat) (hC : isC.map (fun i => ws[i]?) = w0.map some) (hR : isR.map (fun i => ws[i]?) = wr.map some) (hnC : va_nd isC = true) (hnR : va_nd isR = true) (hdis : ∀ i ∈ isR, i ∉ isC) {ci q0 : Nat} {qc : vw_C} {fs : List Value} (hc : cl[ci]? = some qc) (hqC : qc.1 = C) (he : w0[q0]? = some (b, .inr (ci, fs))) (hlen : As.length = n) (hsz : ls.size = nL) (hst : st0 = As.reverse ++ .ref b :: rest) (hW : (rest.map fun v => v.category).sum ≤ 8) (hdg : decode cc pc = .ok (.invokevirtual index, 3)) (hf : cells + mc ≤ R.cells ∧ slots + ms ≤ R.slots)
    (kk : ∀ (r : Int64) (u : S) (H1 : Heap) (locs1 : List Loc), post r u → va_P D cl (wr ++ (w1 u)) H1 → va_D A (wr ++ (w1 u)) → va_S A H0 H1 locs1 → W p l e R s m args below meth c H1 locs1 (cells + mc) (slots + ms) Q (F0 m (pc + 3) ls (.long r :: rest))) : W p l e R s m args below meth c H locs cells slots Q (F0 m pc ls st0) := by
  have hPc : va_P D cl w0 H := fz_subP hP isC hC
  have hDc : va_D A w0 := hD.sub isC hnC hC
  have hFc := va_free (wc := w0) hD hS hA isC hC
  refine va_calll (va_runV (rest := rest) Sx (hM H.size) cw ⟨fun a U g mk q => by obtain ⟨q0, q1, qP, qK, qD⟩ := q; exact ⟨q0, q1, qP, va_K.moved (u := U) (U := U.calling g mk a) (Vm.Alike.refl U.vm) qK, qD⟩, by obtain ⟨x, h1, h2, h3⟩ := va_recv hK hPc hc he; exact ⟨x, h1, h2, by rw [← hqC]; exact h3⟩, fun U hU hW => ⟨rfl, by rw [hU], by rw [hU]; exact hPc, va_K.moved hW.alike hK, hDc.weaken (fun _ _ _ _ => trivial)⟩⟩ rfl hlen hsz hst (lv_room hW) hdg hf) hS (fun q _ h => hFc q h) hFc (fun r u t H1 locs1 ht hvm hw hB hz1 hk1 hS1 => ?_)
  obtain ⟨hP1, hK1, hD1⟩ := hB
  rw [ht] at hP1
  obtain ⟨hP2, hD2⟩ := va_join (wr := wr) hP hD isC isR hC hR hnR hdis hk1 hFc hP1 hD1
  exact kk r u H1 locs1 hw hP2 hD2 hS1
theorem StdV.callV {S : Type} {y : MethodName} {w : List Cond} {fr lo mc ms nL n index maxL : Nat} {own C : String} {bytes : ByteArray} {ret : Option FieldType} {As : List Value} {b : Nat} {w0 wr : va_W} {post : S → Prop} {w1 : S → va_W} {Ts : List Cond} {st0 : List Value} (hM : StdV l y w fr lo mc ms D cl tys (.ref b :: As) w0 post w1) (Sx : CallFix p m c cc nL s args Ts own) (cw : CallW R s args own C index y bytes maxL ret w { frames := fr, cells := mc, slots := ms, locals := lo } mc ms n) (hK : va_K D cl tys s) (hP : va_P D cl ws H) (hD : va_D A ws) (hS : va_S A H0 H locs) (hA : ∀ q, H0.size ≤ q → A q) (isC isR : List Nat) (hC : isC.map (fun i => ws[i]?) = w0.map some) (hR : isR.map (fun i => ws[i]?) = wr.map some) (hnC : va_nd isC = true) (hnR : va_nd isR = true) (hdis : ∀ i ∈ isR, i ∉ isC) {ci q0 : Nat} {qc : vw_C} {fs : List Value} (hc : cl[ci]? = some qc) (hqC : qc.1 = C) (he : w0[q0]? = some (b, .inr (ci, fs))) (hlen : As.length = n) (hsz : ls.size = nL) (hst : st0 = As.reverse ++ .ref b :: rest) (hW : (rest.map fun v => v.category).sum ≤ 8) (hdg : decode cc pc = .ok (.invokevirtual index, 3)) (hf : cells + mc ≤ R.cells ∧ slots + ms ≤ R.slots)
    (kk : ∀ (u : S) (H1 : Heap) (locs1 : List Loc), post u → va_P D cl (wr ++ (w1 u)) H1 → va_D A (wr ++ (w1 u)) → va_S A H0 H1 locs1 → W p l e R s m args below meth c H1 locs1 (cells + mc) (slots + ms) Q (F0 m (pc + 3) ls (rest))) : W p l e R s m args below meth c H locs cells slots Q (F0 m pc ls st0) := by
  have hPc : va_P D cl w0 H := fz_subP hP isC hC
  have hDc : va_D A w0 := hD.sub isC hnC hC
  have hFc := va_free (wc := w0) hD hS hA isC hC
  refine va_callv (va_runV (rest := rest) Sx (hM H.size) cw ⟨fun a U g mk q => by obtain ⟨q0, q1, qP, qK, qD⟩ := q; exact ⟨q0, q1, qP, va_K.moved (u := U) (U := U.calling g mk a) (Vm.Alike.refl U.vm) qK, qD⟩, by obtain ⟨x, h1, h2, h3⟩ := va_recv hK hPc hc he; exact ⟨x, h1, h2, by rw [← hqC]; exact h3⟩, fun U hU hW => ⟨rfl, by rw [hU], by rw [hU]; exact hPc, va_K.moved hW.alike hK, hDc.weaken (fun _ _ _ _ => trivial)⟩⟩ rfl hlen hsz hst (lv_room hW) hdg hf) hS (fun q _ h => hFc q h) hFc (fun u t H1 locs1 ht hvm hw hB hz1 hk1 hS1 => ?_)
  obtain ⟨hP1, hK1, hD1⟩ := hB
  rw [ht] at hP1
  obtain ⟨hP2, hD2⟩ := va_join (wr := wr) hP hD isC isR hC hR hnR hdis hk1 hFc hP1 hD1
  exact kk u H1 locs1 hw hP2 hD2 hS1
theorem StdV.callS {S : Type} {y : MethodName} {w : List Cond} {fr lo mc ms nL n index maxL : Nat} {own : String} {bytes : ByteArray} {ret : Option FieldType} {As : List Value}  {w0 wr : va_W} {post : S → Prop} {w1 : S → va_W} {Ts : List Cond} {st0 : List Value} (hM : StdV l y w fr lo mc ms D cl tys As w0 post w1) (Sx : CallFix p m c cc nL s args Ts own) (cw : CallB R s args own index y bytes maxL ret w { frames := fr, cells := mc, slots := ms, locals := lo } mc ms n ∧ (Cond.static y).before args s = true) (hK : va_K D cl tys s) (hP : va_P D cl ws H) (hD : va_D A ws) (hS : va_S A H0 H locs) (hA : ∀ q, H0.size ≤ q → A q) (isC isR : List Nat) (hC : isC.map (fun i => ws[i]?) = w0.map some) (hR : isR.map (fun i => ws[i]?) = wr.map some) (hnC : va_nd isC = true) (hnR : va_nd isR = true) (hdis : ∀ i ∈ isR, i ∉ isC) (hlen : As.length = n) (hsz : ls.size = nL) (hst : st0 = As.reverse ++ rest) (hW : (rest.map fun v => v.category).sum ≤ 8) (hdg : decode cc pc = .ok (.invokestatic index, 3)) (hf : cells + mc ≤ R.cells ∧ slots + ms ≤ R.slots)
    (kk : ∀ (u : S) (H1 : Heap) (locs1 : List Loc), post u → va_P D cl (wr ++ (w1 u)) H1 → va_D A (wr ++ (w1 u)) → va_S A H0 H1 locs1 → W p l e R s m args below meth c H1 locs1 (cells + mc) (slots + ms) Q (F0 m (pc + 3) ls (rest))) : W p l e R s m args below meth c H locs cells slots Q (F0 m pc ls st0) := by
  have hPc : va_P D cl w0 H := fz_subP hP isC hC
  have hDc : va_D A w0 := hD.sub isC hnC hC
  have hFc := va_free (wc := w0) hD hS hA isC hC
  refine va_callv (va_runS (rest := rest) Sx (hM H.size) cw ⟨fun a U g mk q => by obtain ⟨q0, q1, qP, qK, qD⟩ := q; exact ⟨q0, q1, qP, va_K.moved (u := U) (U := U.calling g mk a) (Vm.Alike.refl U.vm) qK, qD⟩, fun U hU hW => ⟨rfl, by rw [hU], by rw [hU]; exact hPc, va_K.moved hW.alike hK, hDc.weaken (fun _ _ _ _ => trivial)⟩⟩ rfl hlen hsz hst (lv_room hW) hdg hf) hS (fun q _ h => hFc q h) hFc (fun u t H1 locs1 ht hvm hw hB hz1 hk1 hS1 => ?_)
  obtain ⟨hP1, hK1, hD1⟩ := hB
  rw [ht] at hP1
  obtain ⟨hP2, hD2⟩ := va_join (wr := wr) hP hD isC isR hC hR hnR hdis hk1 hFc hP1 hD1
  exact kk u H1 locs1 hw hP2 hD2 hS1
theorem StdV.callI {S : Type} {y : MethodName} {w : List Cond} {fr lo mc ms nL n index maxL : Nat} {own : String} {bytes : ByteArray} {As : List Value} {b : Nat} {w0 wr : va_W} {post : S → Prop} {w1 : S → va_W} {Ts : List Cond} {st0 : List Value} (hM : StdV l y w fr lo mc ms D cl tys (.ref b :: As) w0 post w1) (Sx : CallFix p m c cc nL s args Ts own) (cw : CallB R s args own index y bytes maxL none w { frames := fr, cells := mc, slots := ms, locals := lo } mc ms n ∧ y.name = "<init>" ∧ (Cond.instanceMethod y).before args s = true) (hK : va_K D cl tys s) (hP : va_P D cl ws H) (hD : va_D A ws) (hS : va_S A H0 H locs) (hA : ∀ q, H0.size ≤ q → A q) (isC isR : List Nat) (hC : isC.map (fun i => ws[i]?) = w0.map some) (hR : isR.map (fun i => ws[i]?) = wr.map some) (hnC : va_nd isC = true) (hnR : va_nd isR = true) (hdis : ∀ i ∈ isR, i ∉ isC) (hlen : As.length = n) (hsz : ls.size = nL) (hst : st0 = As.reverse ++ .ref b :: rest) (hW : (rest.map fun v => v.category).sum ≤ 8) (hdg : decode cc pc = .ok (.invokespecial index, 3)) (hf : cells + mc ≤ R.cells ∧ slots + ms ≤ R.slots)
    (kk : ∀ (u : S) (H1 : Heap) (locs1 : List Loc), post u → va_P D cl (wr ++ (w1 u)) H1 → va_D A (wr ++ (w1 u)) → va_S A H0 H1 locs1 → W p l e R s m args below meth c H1 locs1 (cells + mc) (slots + ms) Q (F0 m (pc + 3) ls (rest))) : W p l e R s m args below meth c H locs cells slots Q (F0 m pc ls st0) := by
  have hPc : va_P D cl w0 H := fz_subP hP isC hC
  have hDc : va_D A w0 := hD.sub isC hnC hC
  have hFc := va_free (wc := w0) hD hS hA isC hC
  refine va_callv (va_runI (rest := rest) Sx (hM H.size) cw ⟨fun a U g mk q => by obtain ⟨q0, q1, qP, qK, qD⟩ := q; exact ⟨q0, q1, qP, va_K.moved (u := U) (U := U.calling g mk a) (Vm.Alike.refl U.vm) qK, qD⟩, fun U hU hW => ⟨rfl, by rw [hU], by rw [hU]; exact hPc, va_K.moved hW.alike hK, hDc.weaken (fun _ _ _ _ => trivial)⟩⟩ rfl hlen hsz hst (lv_room hW) hdg hf) hS (fun q _ h => hFc q h) hFc (fun u t H1 locs1 ht hvm hw hB hz1 hk1 hS1 => ?_)
  obtain ⟨hP1, hK1, hD1⟩ := hB
  rw [ht] at hP1
  obtain ⟨hP2, hD2⟩ := va_join (wr := wr) hP hD isC isR hC hR hnR hdis hk1 hFc hP1 hD1
  exact kk u H1 locs1 hw hP2 hD2 hS1
theorem StdV.callJ {S : Type} {y : MethodName} {w : List Cond} {fr lo mc ms nL n index maxL : Nat} {own host : String} {bytes : ByteArray} {As : List Value} {b : Nat} {w0 wr : va_W} {post : S → Prop} {w1 : S → va_W} {Ts : List Cond} {st0 : List Value} (hM : StdV l y w fr lo mc ms D cl tys (.ref b :: As) w0 post w1) (Sx : CallFix p m c cc nL s args Ts own) (cw : va_CN R s args own index y host bytes maxL none w { frames := fr, cells := mc, slots := ms, locals := lo } mc ms n ∧ y.name = "<init>" ∧ (Cond.instanceMethod y).before args s = true) (hK : va_K D cl tys s) (hP : va_P D cl ws H) (hD : va_D A ws) (hS : va_S A H0 H locs) (hA : ∀ q, H0.size ≤ q → A q) (isC isR : List Nat) (hC : isC.map (fun i => ws[i]?) = w0.map some) (hR : isR.map (fun i => ws[i]?) = wr.map some) (hnC : va_nd isC = true) (hnR : va_nd isR = true) (hdis : ∀ i ∈ isR, i ∉ isC) (hlen : As.length = n) (hsz : ls.size = nL) (hst : st0 = As.reverse ++ .ref b :: rest) (hW : (rest.map fun v => v.category).sum ≤ 8) (hdg : decode cc pc = .ok (.invokespecial index, 3)) (hf : cells + mc ≤ R.cells ∧ slots + ms ≤ R.slots)
    (kk : ∀ (u : S) (H1 : Heap) (locs1 : List Loc), post u → va_P D cl (wr ++ (w1 u)) H1 → va_D A (wr ++ (w1 u)) → va_S A H0 H1 locs1 → W p l e R s m args below meth c H1 locs1 (cells + mc) (slots + ms) Q (F0 m (pc + 3) ls (rest))) : W p l e R s m args below meth c H locs cells slots Q (F0 m pc ls st0) := by
  have hPc : va_P D cl w0 H := fz_subP hP isC hC
  have hDc : va_D A w0 := hD.sub isC hnC hC
  have hFc := va_free (wc := w0) hD hS hA isC hC
  refine va_callv (va_runIN (rest := rest) Sx (hM H.size) cw ⟨fun a U g mk q => by obtain ⟨q0, q1, qP, qK, qD⟩ := q; exact ⟨q0, q1, qP, va_K.moved (u := U) (U := U.calling g mk a) (Vm.Alike.refl U.vm) qK, qD⟩, fun U hU hW => ⟨rfl, by rw [hU], by rw [hU]; exact hPc, va_K.moved hW.alike hK, hDc.weaken (fun _ _ _ _ => trivial)⟩⟩ rfl hlen hsz hst (lv_room hW) hdg hf) hS (fun q _ h => hFc q h) hFc (fun u t H1 locs1 ht hvm hw hB hz1 hk1 hS1 => ?_)
  obtain ⟨hP1, hK1, hD1⟩ := hB
  rw [ht] at hP1
  obtain ⟨hP2, hD2⟩ := va_join (wr := wr) hP hD isC isR hC hR hnR hdis hk1 hFc hP1 hD1
  exact kk u H1 locs1 hw hP2 hD2 hS1
theorem StdR.callS {S : Type} {y : MethodName} {w : List Cond} {fr lo mc ms nL n index maxL : Nat} {own : String} {bytes : ByteArray} {ret : Option FieldType} {As : List Value}  {w0 wr : va_W} {post : Nat → S → Prop} {w1 : S → Nat → va_W} {Ts : List Cond} {st0 : List Value} (hM : StdR l y w fr lo mc ms D cl tys As w0 post w1) (Sx : CallFix p m c cc nL s args Ts own) (cw : CallB R s args own index y bytes maxL ret w { frames := fr, cells := mc, slots := ms, locals := lo } mc ms n ∧ (Cond.static y).before args s = true) (hK : va_K D cl tys s) (hP : va_P D cl ws H) (hD : va_D A ws) (hS : va_S A H0 H locs) (hA : ∀ q, H0.size ≤ q → A q) (isC isR : List Nat) (hC : isC.map (fun i => ws[i]?) = w0.map some) (hR : isR.map (fun i => ws[i]?) = wr.map some) (hnC : va_nd isC = true) (hnR : va_nd isR = true) (hdis : ∀ i ∈ isR, i ∉ isC) (hlen : As.length = n) (hsz : ls.size = nL) (hst : st0 = As.reverse ++ rest) (hW : (rest.map fun v => v.category).sum ≤ 8) (hdg : decode cc pc = .ok (.invokestatic index, 3)) (hf : cells + mc ≤ R.cells ∧ slots + ms ≤ R.slots)
    (kk : ∀ (r : Nat) (u : S) (H1 : Heap) (locs1 : List Loc), post r u → va_P D cl (wr ++ (w1 u r)) H1 → va_D A (wr ++ (w1 u r)) → va_S A H0 H1 locs1 → W p l e R s m args below meth c H1 locs1 (cells + mc) (slots + ms) Q (F0 m (pc + 3) ls (.ref r :: rest))) : W p l e R s m args below meth c H locs cells slots Q (F0 m pc ls st0) := by
  have hPc : va_P D cl w0 H := fz_subP hP isC hC
  have hDc : va_D A w0 := hD.sub isC hnC hC
  have hFc := va_free (wc := w0) hD hS hA isC hC
  refine va_callr (va_runS (rest := rest) Sx (hM H.size) cw ⟨fun a U g mk q => by obtain ⟨q0, q1, qP, qK, qD⟩ := q; exact ⟨q0, q1, qP, va_K.moved (u := U) (U := U.calling g mk a) (Vm.Alike.refl U.vm) qK, qD⟩, fun U hU hW => ⟨rfl, by rw [hU], by rw [hU]; exact hPc, va_K.moved hW.alike hK, hDc.weaken (fun _ _ _ _ => trivial)⟩⟩ rfl hlen hsz hst (lv_room hW) hdg hf) hS (fun q _ h => hFc q h) hFc (fun u r t H1 locs1 ht hvm hw hB hz1 hk1 hS1 => ?_)
  obtain ⟨hw, hP1, hK1, hD1⟩ := hB
  rw [ht] at hP1
  obtain ⟨hP2, hD2⟩ := va_join (wr := wr) hP hD isC isR hC hR hnR hdis hk1 hFc hP1 hD1
  exact kk r u H1 locs1 hw hP2 hD2 hS1
theorem StdI.callN {S : Type} {y : MethodName} {w : List Cond} {fr lo mc ms nL n index maxL : Nat} {own C host : String} {bytes : ByteArray} {ret : Option FieldType} {As : List Value} {b : Nat} {w0 wr : va_W} {post : Int32 → S → Prop} {w1 : S → va_W} {Ts : List Cond} {st0 : List Value} (hM : StdI l y w fr lo mc ms D cl tys (.ref b :: As) w0 post w1) (Sx : CallFix p m c cc nL s args Ts own) (cw : va_CN R s args own index y host bytes maxL ret w { frames := fr, cells := mc, slots := ms, locals := lo } mc ms n ∧ (Cond.instanceMethod y).before args s = true ∧ (Cond.selects C y y).before args s = true) (hK : va_K D cl tys s) (hP : va_P D cl ws H) (hD : va_D A ws) (hS : va_S A H0 H locs) (hA : ∀ q, H0.size ≤ q → A q) (isC isR : List Nat) (hC : isC.map (fun i => ws[i]?) = w0.map some) (hR : isR.map (fun i => ws[i]?) = wr.map some) (hnC : va_nd isC = true) (hnR : va_nd isR = true) (hdis : ∀ i ∈ isR, i ∉ isC) {ci q0 : Nat} {qc : vw_C} {fs : List Value} (hc : cl[ci]? = some qc) (hqC : qc.1 = C) (he : w0[q0]? = some (b, .inr (ci, fs))) (hlen : As.length = n) (hsz : ls.size = nL) (hst : st0 = As.reverse ++ .ref b :: rest) (hW : (rest.map fun v => v.category).sum ≤ 8) (hdg : decode cc pc = .ok (.invokevirtual index, 3)) (hf : cells + mc ≤ R.cells ∧ slots + ms ≤ R.slots)
    (kk : ∀ (r : Int32) (u : S) (H1 : Heap) (locs1 : List Loc), post r u → va_P D cl (wr ++ (w1 u)) H1 → va_D A (wr ++ (w1 u)) → va_S A H0 H1 locs1 → W p l e R s m args below meth c H1 locs1 (cells + mc) (slots + ms) Q (F0 m (pc + 3) ls (.int r :: rest))) : W p l e R s m args below meth c H locs cells slots Q (F0 m pc ls st0) := by
  have hPc : va_P D cl w0 H := fz_subP hP isC hC
  have hDc : va_D A w0 := hD.sub isC hnC hC
  have hFc := va_free (wc := w0) hD hS hA isC hC
  refine va_calli (va_runVN (rest := rest) Sx (hM H.size) cw ⟨fun a U g mk q => by obtain ⟨q0, q1, qP, qK, qD⟩ := q; exact ⟨q0, q1, qP, va_K.moved (u := U) (U := U.calling g mk a) (Vm.Alike.refl U.vm) qK, qD⟩, by obtain ⟨x, h1, h2, h3⟩ := va_recv hK hPc hc he; exact ⟨x, h1, h2, by rw [← hqC]; exact h3⟩, fun U hU hW => ⟨rfl, by rw [hU], by rw [hU]; exact hPc, va_K.moved hW.alike hK, hDc.weaken (fun _ _ _ _ => trivial)⟩⟩ rfl hlen hsz hst (lv_room hW) hdg hf) hS (fun q _ h => hFc q h) hFc (fun r u t H1 locs1 ht hvm hw hB hz1 hk1 hS1 => ?_)
  obtain ⟨hP1, hK1, hD1⟩ := hB
  rw [ht] at hP1
  obtain ⟨hP2, hD2⟩ := va_join (wr := wr) hP hD isC isR hC hR hnR hdis hk1 hFc hP1 hD1
  exact kk r u H1 locs1 hw hP2 hD2 hS1
theorem StdV.callN {S : Type} {y : MethodName} {w : List Cond} {fr lo mc ms nL n index maxL : Nat} {own C host : String} {bytes : ByteArray} {ret : Option FieldType} {As : List Value} {b : Nat} {w0 wr : va_W} {post : S → Prop} {w1 : S → va_W} {Ts : List Cond} {st0 : List Value} (hM : StdV l y w fr lo mc ms D cl tys (.ref b :: As) w0 post w1) (Sx : CallFix p m c cc nL s args Ts own) (cw : va_CN R s args own index y host bytes maxL ret w { frames := fr, cells := mc, slots := ms, locals := lo } mc ms n ∧ (Cond.instanceMethod y).before args s = true ∧ (Cond.selects C y y).before args s = true) (hK : va_K D cl tys s) (hP : va_P D cl ws H) (hD : va_D A ws) (hS : va_S A H0 H locs) (hA : ∀ q, H0.size ≤ q → A q) (isC isR : List Nat) (hC : isC.map (fun i => ws[i]?) = w0.map some) (hR : isR.map (fun i => ws[i]?) = wr.map some) (hnC : va_nd isC = true) (hnR : va_nd isR = true) (hdis : ∀ i ∈ isR, i ∉ isC) {ci q0 : Nat} {qc : vw_C} {fs : List Value} (hc : cl[ci]? = some qc) (hqC : qc.1 = C) (he : w0[q0]? = some (b, .inr (ci, fs))) (hlen : As.length = n) (hsz : ls.size = nL) (hst : st0 = As.reverse ++ .ref b :: rest) (hW : (rest.map fun v => v.category).sum ≤ 8) (hdg : decode cc pc = .ok (.invokevirtual index, 3)) (hf : cells + mc ≤ R.cells ∧ slots + ms ≤ R.slots)
    (kk : ∀ (u : S) (H1 : Heap) (locs1 : List Loc), post u → va_P D cl (wr ++ (w1 u)) H1 → va_D A (wr ++ (w1 u)) → va_S A H0 H1 locs1 → W p l e R s m args below meth c H1 locs1 (cells + mc) (slots + ms) Q (F0 m (pc + 3) ls (rest))) : W p l e R s m args below meth c H locs cells slots Q (F0 m pc ls st0) := by
  have hPc : va_P D cl w0 H := fz_subP hP isC hC
  have hDc : va_D A w0 := hD.sub isC hnC hC
  have hFc := va_free (wc := w0) hD hS hA isC hC
  refine va_callv (va_runVN (rest := rest) Sx (hM H.size) cw ⟨fun a U g mk q => by obtain ⟨q0, q1, qP, qK, qD⟩ := q; exact ⟨q0, q1, qP, va_K.moved (u := U) (U := U.calling g mk a) (Vm.Alike.refl U.vm) qK, qD⟩, by obtain ⟨x, h1, h2, h3⟩ := va_recv hK hPc hc he; exact ⟨x, h1, h2, by rw [← hqC]; exact h3⟩, fun U hU hW => ⟨rfl, by rw [hU], by rw [hU]; exact hPc, va_K.moved hW.alike hK, hDc.weaken (fun _ _ _ _ => trivial)⟩⟩ rfl hlen hsz hst (lv_room hW) hdg hf) hS (fun q _ h => hFc q h) hFc (fun u t H1 locs1 ht hvm hw hB hz1 hk1 hS1 => ?_)
  obtain ⟨hP1, hK1, hD1⟩ := hB
  rw [ht] at hP1
  obtain ⟨hP2, hD2⟩ := va_join (wr := wr) hP hD isC isR hC hR hnR hdis hk1 hFc hP1 hD1
  exact kk u H1 locs1 hw hP2 hD2 hS1
def QryI (l : Launch) (y : MethodName) (w : List Cond) (fr lo : Nat) (D : va_G) (cl : List vw_C) (tys : List (ClassId × FieldType)) (av : List Value) (w0 : va_W) (post : Int32 → Prop) : Prop := Met l y w { frames := fr, cells := 0, slots := 0, locals := lo } (va_Pc av (fun U => va_P D cl w0 U.heap ∧ va_K D cl tys U)) (vp_Si post) 0 0 (fun _ => False)
theorem QryI.mk {y : MethodName} {w w' : List Cond} {fr lo : Nat} {av : List Value} {w0 : va_W} {post : Int32 → Prop} {maxL : Nat} (hy : plainName y.cls = true) (hw : w = Cond.code y cc maxL (some .int) :: w') (hlen : (lg_sl av).length ≤ maxL)
    (body : ∀ (p : Program) (e : Env) (s : State) (m : MethodId) (below : List Frame) (meth : Method) (c : Code) (Z : State → Prop) (ls : Array Slot), p.tables.exec = Jvm.exec → c.code = cc → c.maxLocals = maxL → s.vm.findClass y.cls = some m.cls → (∀ x ∈ w, x.before av.toArray s = true) → va_P D cl w0 s.heap → va_K D cl tys s →
      (∀ (r : Int32) (pc : Nat) (ls : Array Slot), post r → decode cc pc = .ok (.ireturn, 1) → W p l e { frames := fr, cells := 0, slots := 0, locals := lo } s m av.toArray below meth c s.heap [] 0 0 Z (F0 m pc ls [.int r])) →
      lv_has ls maxL (lv_args 0 av) → W p l e { frames := fr, cells := 0, slots := 0, locals := lo } s m av.toArray below meth c s.heap [] 0 0 Z (F0 m 0 ls [])) : QryI l y w fr lo D cl tys av w0 post := by
  refine Met.ofW (cc := cc) (maxL := maxL) (ret := some .int) hy hw ?_
  intro p e s m args below meth c s₁ B hml hv
  obtain ⟨rfl, hP, hK⟩ := hv
  have hr := B.returns
  have hlocks := B.notSynchronized
  have hts := atoms_spec (ws := w) B.pre
  have hown : s.vm.findClass y.cls = some m.cls := findClass_of_methodNamed B.named
  have hl := lv_entry av (n := maxL) hlen
  rw [lg_entry_eq]
  exact body p e s m below meth c (MQ below (vp_Si post) av.toArray s 0 0 (fun _ => False)) _ B.exec B.bytes hml hown hts hP hK
    (fun r pc ls hp hdg => W.iret B.exec B.bytes hr (fun t ht hW => ⟨r, rfl, hp, ht⟩) (fun q h => by cases h) hdg) hl
theorem QryZ.mk {y : MethodName} {w w' : List Cond} {fr lo : Nat} {av : List Value} {w0 : va_W} {post : Int32 → Prop} {maxL : Nat} (hy : plainName y.cls = true) (hw : w = Cond.code y cc maxL (some .boolean) :: w') (hlen : (lg_sl av).length ≤ maxL)
    (body : ∀ (p : Program) (e : Env) (s : State) (m : MethodId) (below : List Frame) (meth : Method) (c : Code) (Z : State → Prop) (ls : Array Slot), p.tables.exec = Jvm.exec → c.code = cc → c.maxLocals = maxL → s.vm.findClass y.cls = some m.cls → (∀ x ∈ w, x.before av.toArray s = true) → va_P D cl w0 s.heap → va_K D cl tys s →
      (∀ (r : Int32) (pc : Nat) (ls : Array Slot), (r = 0 ∨ r = 1) → post r → decode cc pc = .ok (.ireturn, 1) → W p l e { frames := fr, cells := 0, slots := 0, locals := lo } s m av.toArray below meth c s.heap [] 0 0 Z (F0 m pc ls [.int r])) →
      lv_has ls maxL (lv_args 0 av) → W p l e { frames := fr, cells := 0, slots := 0, locals := lo } s m av.toArray below meth c s.heap [] 0 0 Z (F0 m 0 ls [])) : QryI l y w fr lo D cl tys av w0 post := by
  refine Met.ofW (cc := cc) (maxL := maxL) (ret := some .boolean) hy hw ?_
  intro p e s m args below meth c s₁ B hml hv
  obtain ⟨rfl, hP, hK⟩ := hv
  have hr := B.returns
  have hlocks := B.notSynchronized
  have hts := atoms_spec (ws := w) B.pre
  have hown : s.vm.findClass y.cls = some m.cls := findClass_of_methodNamed B.named
  have hl := lv_entry av (n := maxL) hlen
  rw [lg_entry_eq]
  exact body p e s m below meth c (MQ below (vp_Si post) av.toArray s 0 0 (fun _ => False)) _ B.exec B.bytes hml hown hts hP hK
    (fun r pc ls hz hp hdg => W.zret B.exec B.bytes hr (by rcases hz with h | h <;> rw [h] <;> rfl) (fun t ht hW => ⟨r, rfl, hp, ht⟩) (fun q h => by cases h) hdg) hl
def QryL (l : Launch) (y : MethodName) (w : List Cond) (fr lo : Nat) (D : va_G) (cl : List vw_C) (tys : List (ClassId × FieldType)) (av : List Value) (w0 : va_W) (post : Int64 → Prop) : Prop := Met l y w { frames := fr, cells := 0, slots := 0, locals := lo } (va_Pc av (fun U => va_P D cl w0 U.heap ∧ va_K D cl tys U)) (vp_Sl post) 0 0 (fun _ => False)
theorem QryL.mk {y : MethodName} {w w' : List Cond} {fr lo : Nat} {av : List Value} {w0 : va_W} {post : Int64 → Prop} {maxL : Nat} (hy : plainName y.cls = true) (hw : w = Cond.code y cc maxL (some .long) :: w') (hlen : (lg_sl av).length ≤ maxL)
    (body : ∀ (p : Program) (e : Env) (s : State) (m : MethodId) (below : List Frame) (meth : Method) (c : Code) (Z : State → Prop) (ls : Array Slot), p.tables.exec = Jvm.exec → c.code = cc → c.maxLocals = maxL → s.vm.findClass y.cls = some m.cls → (∀ x ∈ w, x.before av.toArray s = true) → va_P D cl w0 s.heap → va_K D cl tys s →
      (∀ (r : Int64) (pc : Nat) (ls : Array Slot), post r → decode cc pc = .ok (.lreturn, 1) → W p l e { frames := fr, cells := 0, slots := 0, locals := lo } s m av.toArray below meth c s.heap [] 0 0 Z (F0 m pc ls [.long r])) →
      lv_has ls maxL (lv_args 0 av) → W p l e { frames := fr, cells := 0, slots := 0, locals := lo } s m av.toArray below meth c s.heap [] 0 0 Z (F0 m 0 ls [])) : QryL l y w fr lo D cl tys av w0 post := by
  refine Met.ofW (cc := cc) (maxL := maxL) (ret := some .long) hy hw ?_
  intro p e s m args below meth c s₁ B hml hv
  obtain ⟨rfl, hP, hK⟩ := hv
  have hr := B.returns
  have hlocks := B.notSynchronized
  have hts := atoms_spec (ws := w) B.pre
  have hown : s.vm.findClass y.cls = some m.cls := findClass_of_methodNamed B.named
  have hl := lv_entry av (n := maxL) hlen
  rw [lg_entry_eq]
  exact body p e s m below meth c (MQ below (vp_Sl post) av.toArray s 0 0 (fun _ => False)) _ B.exec B.bytes hml hown hts hP hK
    (fun r pc ls hp hdg => W.lret B.exec B.bytes hr (fun t ht hW => ⟨r, rfl, hp, ht⟩) (fun q h => by cases h) hdg) hl
theorem QryI.callV {y : MethodName} {w : List Cond} {fr lo nL n index maxL : Nat} {own C : String} {bytes : ByteArray} {ret : Option FieldType} {As : List Value} {b : Nat} {w0 : va_W} {post : Int32 → Prop} {Ts : List Cond} {st0 : List Value} (hM : QryI l y w fr lo D cl tys (.ref b :: As) w0 post) (Sx : CallFix p m c cc nL s args Ts own) (cw : CallW R s args own C index y bytes maxL ret w { frames := fr, cells := 0, slots := 0, locals := lo } 0 0 n) (hK : va_K D cl tys s) (hP : va_P D cl ws H) (isC : List Nat) (hC : isC.map (fun i => ws[i]?) = w0.map some) {ci q0 : Nat} {qc : vw_C} {fs : List Value} (hc : cl[ci]? = some qc) (hqC : qc.1 = C) (he : w0[q0]? = some (b, .inr (ci, fs))) (hlen : As.length = n) (hsz : ls.size = nL) (hst : st0 = As.reverse ++ .ref b :: rest) (hW : (rest.map fun v => v.category).sum ≤ 8) (hdg : decode cc pc = .ok (.invokevirtual index, 3)) (hf : cells ≤ R.cells ∧ slots ≤ R.slots)
    (kk : ∀ r : Int32, post r → W p l e R s m args below meth c H locs cells slots Q (F0 m (pc + 3) ls (.int r :: rest))) : W p l e R s m args below meth c H locs cells slots Q (F0 m pc ls st0) := by
  have hPc : va_P D cl w0 H := fz_subP hP isC hC
  have hr := va_runV (p := p) (e := e) (R := R) (below := below) (meth := meth) (locs := locs) (cells := cells) (slots := slots) (g := F0 m pc ls st0) (rest := rest) Sx hM cw ⟨fun a U g mk q => by obtain ⟨q0, qP, qK⟩ := q; exact ⟨q0, qP, va_K.moved (u := U) (U := U.calling g mk a) (Vm.Alike.refl U.vm) qK⟩, by obtain ⟨x, h1, h2, h3⟩ := va_recv hK hPc hc he; exact ⟨x, h1, h2, by rw [← hqC]; exact h3⟩, fun U hU hW => ⟨rfl, by rw [hU]; exact hPc, va_K.moved hW.alike hK⟩⟩ rfl hlen hsz hst (lv_room hW) hdg hf
  intro T hT X
  obtain ⟨v, st₀, t, T', L, h0, X', hL, e1, e2, ⟨r, hv, hp, hh⟩, st⟩ := hr T hT X
  cases hv
  obtain ⟨t2, a1, b1⟩ := kk r hp T' (by rw [e1, hh, h0]) (Stand.forget X' (fun q h => (hL q h).elim))
  exact ⟨t2, st t2 a1, b1⟩
theorem QryI.callS {y : MethodName} {w : List Cond} {fr lo nL n index maxL : Nat} {own : String} {bytes : ByteArray} {ret : Option FieldType} {As : List Value}  {w0 : va_W} {post : Int32 → Prop} {Ts : List Cond} {st0 : List Value} (hM : QryI l y w fr lo D cl tys As w0 post) (Sx : CallFix p m c cc nL s args Ts own) (cw : CallB R s args own index y bytes maxL ret w { frames := fr, cells := 0, slots := 0, locals := lo } 0 0 n ∧ (Cond.static y).before args s = true) (hK : va_K D cl tys s) (hP : va_P D cl ws H) (isC : List Nat) (hC : isC.map (fun i => ws[i]?) = w0.map some) (hlen : As.length = n) (hsz : ls.size = nL) (hst : st0 = As.reverse ++ rest) (hW : (rest.map fun v => v.category).sum ≤ 8) (hdg : decode cc pc = .ok (.invokestatic index, 3)) (hf : cells ≤ R.cells ∧ slots ≤ R.slots)
    (kk : ∀ r : Int32, post r → W p l e R s m args below meth c H locs cells slots Q (F0 m (pc + 3) ls (.int r :: rest))) : W p l e R s m args below meth c H locs cells slots Q (F0 m pc ls st0) := by
  have hPc : va_P D cl w0 H := fz_subP hP isC hC
  have hr := va_runS (p := p) (e := e) (R := R) (below := below) (meth := meth) (locs := locs) (cells := cells) (slots := slots) (g := F0 m pc ls st0) (rest := rest) Sx hM cw ⟨fun a U g mk q => by obtain ⟨q0, qP, qK⟩ := q; exact ⟨q0, qP, va_K.moved (u := U) (U := U.calling g mk a) (Vm.Alike.refl U.vm) qK⟩, fun U hU hW => ⟨rfl, by rw [hU]; exact hPc, va_K.moved hW.alike hK⟩⟩ rfl hlen hsz hst (lv_room hW) hdg hf
  intro T hT X
  obtain ⟨v, st₀, t, T', L, h0, X', hL, e1, e2, ⟨r, hv, hp, hh⟩, st⟩ := hr T hT X
  cases hv
  obtain ⟨t2, a1, b1⟩ := kk r hp T' (by rw [e1, hh, h0]) (Stand.forget X' (fun q h => (hL q h).elim))
  exact ⟨t2, st t2 a1, b1⟩
theorem QryL.callV {y : MethodName} {w : List Cond} {fr lo nL n index maxL : Nat} {own C : String} {bytes : ByteArray} {ret : Option FieldType} {As : List Value} {b : Nat} {w0 : va_W} {post : Int64 → Prop} {Ts : List Cond} {st0 : List Value} (hM : QryL l y w fr lo D cl tys (.ref b :: As) w0 post) (Sx : CallFix p m c cc nL s args Ts own) (cw : CallW R s args own C index y bytes maxL ret w { frames := fr, cells := 0, slots := 0, locals := lo } 0 0 n) (hK : va_K D cl tys s) (hP : va_P D cl ws H) (isC : List Nat) (hC : isC.map (fun i => ws[i]?) = w0.map some) {ci q0 : Nat} {qc : vw_C} {fs : List Value} (hc : cl[ci]? = some qc) (hqC : qc.1 = C) (he : w0[q0]? = some (b, .inr (ci, fs))) (hlen : As.length = n) (hsz : ls.size = nL) (hst : st0 = As.reverse ++ .ref b :: rest) (hW : (rest.map fun v => v.category).sum ≤ 8) (hdg : decode cc pc = .ok (.invokevirtual index, 3)) (hf : cells ≤ R.cells ∧ slots ≤ R.slots)
    (kk : ∀ r : Int64, post r → W p l e R s m args below meth c H locs cells slots Q (F0 m (pc + 3) ls (.long r :: rest))) : W p l e R s m args below meth c H locs cells slots Q (F0 m pc ls st0) := by
  have hPc : va_P D cl w0 H := fz_subP hP isC hC
  have hr := va_runV (p := p) (e := e) (R := R) (below := below) (meth := meth) (locs := locs) (cells := cells) (slots := slots) (g := F0 m pc ls st0) (rest := rest) Sx hM cw ⟨fun a U g mk q => by obtain ⟨q0, qP, qK⟩ := q; exact ⟨q0, qP, va_K.moved (u := U) (U := U.calling g mk a) (Vm.Alike.refl U.vm) qK⟩, by obtain ⟨x, h1, h2, h3⟩ := va_recv hK hPc hc he; exact ⟨x, h1, h2, by rw [← hqC]; exact h3⟩, fun U hU hW => ⟨rfl, by rw [hU]; exact hPc, va_K.moved hW.alike hK⟩⟩ rfl hlen hsz hst (lv_room hW) hdg hf
  intro T hT X
  obtain ⟨v, st₀, t, T', L, h0, X', hL, e1, e2, ⟨r, hv, hp, hh⟩, st⟩ := hr T hT X
  cases hv
  obtain ⟨t2, a1, b1⟩ := kk r hp T' (by rw [e1, hh, h0]) (Stand.forget X' (fun q h => (hL q h).elim))
  exact ⟨t2, st t2 a1, b1⟩
theorem QryL.callS {y : MethodName} {w : List Cond} {fr lo nL n index maxL : Nat} {own : String} {bytes : ByteArray} {ret : Option FieldType} {As : List Value}  {w0 : va_W} {post : Int64 → Prop} {Ts : List Cond} {st0 : List Value} (hM : QryL l y w fr lo D cl tys As w0 post) (Sx : CallFix p m c cc nL s args Ts own) (cw : CallB R s args own index y bytes maxL ret w { frames := fr, cells := 0, slots := 0, locals := lo } 0 0 n ∧ (Cond.static y).before args s = true) (hK : va_K D cl tys s) (hP : va_P D cl ws H) (isC : List Nat) (hC : isC.map (fun i => ws[i]?) = w0.map some) (hlen : As.length = n) (hsz : ls.size = nL) (hst : st0 = As.reverse ++ rest) (hW : (rest.map fun v => v.category).sum ≤ 8) (hdg : decode cc pc = .ok (.invokestatic index, 3)) (hf : cells ≤ R.cells ∧ slots ≤ R.slots)
    (kk : ∀ r : Int64, post r → W p l e R s m args below meth c H locs cells slots Q (F0 m (pc + 3) ls (.long r :: rest))) : W p l e R s m args below meth c H locs cells slots Q (F0 m pc ls st0) := by
  have hPc : va_P D cl w0 H := fz_subP hP isC hC
  have hr := va_runS (p := p) (e := e) (R := R) (below := below) (meth := meth) (locs := locs) (cells := cells) (slots := slots) (g := F0 m pc ls st0) (rest := rest) Sx hM cw ⟨fun a U g mk q => by obtain ⟨q0, qP, qK⟩ := q; exact ⟨q0, qP, va_K.moved (u := U) (U := U.calling g mk a) (Vm.Alike.refl U.vm) qK⟩, fun U hU hW => ⟨rfl, by rw [hU]; exact hPc, va_K.moved hW.alike hK⟩⟩ rfl hlen hsz hst (lv_room hW) hdg hf
  intro T hT X
  obtain ⟨v, st₀, t, T', L, h0, X', hL, e1, e2, ⟨r, hv, hp, hh⟩, st⟩ := hr T hT X
  cases hv
  obtain ⟨t2, a1, b1⟩ := kk r hp T' (by rw [e1, hh, h0]) (Stand.forget X' (fun q h => (hL q h).elim))
  exact ⟨t2, st t2 a1, b1⟩
theorem QryI.callN {y : MethodName} {w : List Cond} {fr lo nL n index maxL : Nat} {own C host : String} {bytes : ByteArray} {ret : Option FieldType} {As : List Value} {b : Nat} {w0 : va_W} {post : Int32 → Prop} {Ts : List Cond} {st0 : List Value} (hM : QryI l y w fr lo D cl tys (.ref b :: As) w0 post) (Sx : CallFix p m c cc nL s args Ts own) (cw : va_CN R s args own index y host bytes maxL ret w { frames := fr, cells := 0, slots := 0, locals := lo } 0 0 n ∧ (Cond.instanceMethod y).before args s = true ∧ (Cond.selects C y y).before args s = true) (hK : va_K D cl tys s) (hP : va_P D cl ws H) (isC : List Nat) (hC : isC.map (fun i => ws[i]?) = w0.map some) {ci q0 : Nat} {qc : vw_C} {fs : List Value} (hc : cl[ci]? = some qc) (hqC : qc.1 = C) (he : w0[q0]? = some (b, .inr (ci, fs))) (hlen : As.length = n) (hsz : ls.size = nL) (hst : st0 = As.reverse ++ .ref b :: rest) (hW : (rest.map fun v => v.category).sum ≤ 8) (hdg : decode cc pc = .ok (.invokevirtual index, 3)) (hf : cells ≤ R.cells ∧ slots ≤ R.slots)
    (kk : ∀ r : Int32, post r → W p l e R s m args below meth c H locs cells slots Q (F0 m (pc + 3) ls (.int r :: rest))) : W p l e R s m args below meth c H locs cells slots Q (F0 m pc ls st0) := by
  have hPc : va_P D cl w0 H := fz_subP hP isC hC
  have hr := va_runVN (p := p) (e := e) (R := R) (below := below) (meth := meth) (locs := locs) (cells := cells) (slots := slots) (g := F0 m pc ls st0) (rest := rest) Sx hM cw ⟨fun a U g mk q => by obtain ⟨q0, qP, qK⟩ := q; exact ⟨q0, qP, va_K.moved (u := U) (U := U.calling g mk a) (Vm.Alike.refl U.vm) qK⟩, by obtain ⟨x, h1, h2, h3⟩ := va_recv hK hPc hc he; exact ⟨x, h1, h2, by rw [← hqC]; exact h3⟩, fun U hU hW => ⟨rfl, by rw [hU]; exact hPc, va_K.moved hW.alike hK⟩⟩ rfl hlen hsz hst (lv_room hW) hdg hf
  intro T hT X
  obtain ⟨v, st₀, t, T', L, h0, X', hL, e1, e2, ⟨r, hv, hp, hh⟩, st⟩ := hr T hT X
  cases hv
  obtain ⟨t2, a1, b1⟩ := kk r hp T' (by rw [e1, hh, h0]) (Stand.forget X' (fun q h => (hL q h).elim))
  exact ⟨t2, st t2 a1, b1⟩
theorem QryI.callT {y : MethodName} {w : List Cond} {fr lo nL n index maxL : Nat} {own host : String} {bytes : ByteArray} {ret : Option FieldType} {As : List Value}  {w0 : va_W} {post : Int32 → Prop} {Ts : List Cond} {st0 : List Value} (hM : QryI l y w fr lo D cl tys As w0 post) (Sx : CallFix p m c cc nL s args Ts own) (cw : va_CN R s args own index y host bytes maxL ret w { frames := fr, cells := 0, slots := 0, locals := lo } 0 0 n ∧ (Cond.static y).before args s = true ∧ True) (hK : va_K D cl tys s) (hP : va_P D cl ws H) (isC : List Nat) (hC : isC.map (fun i => ws[i]?) = w0.map some) (hlen : As.length = n) (hsz : ls.size = nL) (hst : st0 = As.reverse ++ rest) (hW : (rest.map fun v => v.category).sum ≤ 8) (hdg : decode cc pc = .ok (.invokestatic index, 3)) (hf : cells ≤ R.cells ∧ slots ≤ R.slots)
    (kk : ∀ r : Int32, post r → W p l e R s m args below meth c H locs cells slots Q (F0 m (pc + 3) ls (.int r :: rest))) : W p l e R s m args below meth c H locs cells slots Q (F0 m pc ls st0) := by
  have hPc : va_P D cl w0 H := fz_subP hP isC hC
  have hr := va_runSN (p := p) (e := e) (R := R) (below := below) (meth := meth) (locs := locs) (cells := cells) (slots := slots) (g := F0 m pc ls st0) (rest := rest) Sx hM cw ⟨fun a U g mk q => by obtain ⟨q0, qP, qK⟩ := q; exact ⟨q0, qP, va_K.moved (u := U) (U := U.calling g mk a) (Vm.Alike.refl U.vm) qK⟩, fun U hU hW => ⟨rfl, by rw [hU]; exact hPc, va_K.moved hW.alike hK⟩⟩ rfl hlen hsz hst (lv_room hW) hdg hf
  intro T hT X
  obtain ⟨v, st₀, t, T', L, h0, X', hL, e1, e2, ⟨r, hv, hp, hh⟩, st⟩ := hr T hT X
  cases hv
  obtain ⟨t2, a1, b1⟩ := kk r hp T' (by rw [e1, hh, h0]) (Stand.forget X' (fun q h => (hL q h).elim))
  exact ⟨t2, st t2 a1, b1⟩
/-! a call's words, all out of WALL -/
theorem fz_good {y : MethodName} {bytes : ByteArray} {maxL : Nat} {ret : Option FieldType} (h : Cond.code y bytes maxL ret ∈ WALL) : GoodIn WALL (wd y bytes maxL ret) := fun w hw => by
  rcases List.mem_cons.mp hw with q | q
  · rw [q]; exact ⟨h, WALL_good h⟩
  · exact ⟨q, WALL_good q⟩
theorem fz_cwV {own C : String} {index : Nat} {y : MethodName} {bytes : ByteArray} {maxL mc ms : Nat} {ret : Option FieldType} {rm : Room} (n : Nat) (hw : ∀ x ∈ WALL, x.before args s = true) (hcode : Cond.code y bytes maxL ret ∈ WALL) (hl : Cond.methodLink own index y ∈ WALL) (hi : Cond.instanceMethod y ∈ WALL) (hs : Cond.selects C y y ∈ WALL) (hini : Cond.initialized C ∈ WALL) (hrc : rm.cells = mc) (hrs : rm.slots = ms) (hd : y.cls = C ∧ y.cls ≠ "java/lang/invoke/MethodHandle" ∧ y.cls ≠ "java/lang/invoke/VarHandle" ∧ (parseMethodDescriptor y.desc).map (fun d => d.parameters.length) = some n) (hR : rm.frames + 1 ≤ R.frames ∧ 8 + (maxL + 11) + rm.locals ≤ R.locals) : CallW R s args own C index y bytes maxL ret (wd y bytes maxL ret) rm mc ms n := by
  obtain ⟨hC, hd⟩ := hd
  subst hC
  exact ⟨callB_of n hw (fz_good hcode) rfl hrc hrs (hw _ hini) (hw _ hl) hd hR, hw _ hi, hw _ hs⟩
theorem fz_cwS {own : String} {index : Nat} {y : MethodName} {bytes : ByteArray} {maxL mc ms : Nat} {ret : Option FieldType} {rm : Room} (n : Nat) (hw : ∀ x ∈ WALL, x.before args s = true) (hcode : Cond.code y bytes maxL ret ∈ WALL) (hl : Cond.methodLink own index y ∈ WALL) (hi : Cond.static y ∈ WALL) (hini : Cond.initialized y.cls ∈ WALL) (hrc : rm.cells = mc) (hrs : rm.slots = ms) (hd : y.cls ≠ "java/lang/invoke/MethodHandle" ∧ y.cls ≠ "java/lang/invoke/VarHandle" ∧ (parseMethodDescriptor y.desc).map (fun d => d.parameters.length) = some n) (hR : rm.frames + 1 ≤ R.frames ∧ 8 + (maxL + 11) + rm.locals ≤ R.locals) : CallB R s args own index y bytes maxL ret (wd y bytes maxL ret) rm mc ms n ∧ (Cond.static y).before args s = true :=
  ⟨callB_of n hw (fz_good hcode) rfl hrc hrs (hw _ hini) (hw _ hl) hd hR, hw _ hi⟩
end Std
end
section
/-! numbers that come from outside -/
def okT (nT : Nat) (x : Int32) : Prop := ∃ j, 1 ≤ j ∧ j ≤ nT ∧ x = nI j
def okV (x : Int32) : Prop := ∃ j, j ≤ 7 ∧ x = nI j
theorem okT_of {nT : Nat} {x : Int32} (hn : nT < 2 ^ 31) (h1 : ¬ x < nI 1) (h2 : ¬ nI nT < x) : okT nT x := by
  rw [Int32.lt_iff_toInt_lt, nI_toInt (by omega)] at h1 h2
  refine ⟨x.toInt.toNat, by omega, by omega, ?_⟩
  apply Int32.toInt_inj.mp
  rw [nI_toInt (by omega)]; omega
theorem okT_lt {nT : Nat} {x : Int32} (hn : nT < 2 ^ 31) (h : x < nI 1) : ¬ okT nT x := by
  rintro ⟨j, h1, h2, rfl⟩
  have := (nI_ltI (by omega) (by omega)).mp h
  omega
theorem okT_gt {nT : Nat} {x : Int32} (hn : nT < 2 ^ 31) (h : nI nT < x) : ¬ okT nT x := by
  rintro ⟨j, h1, h2, rfl⟩
  have := (nI_ltI (by omega) (by omega)).mp h
  omega
theorem okV_of {x : Int32} (h1 : ¬ x < 0) (h2 : ¬ nI 7 < x) : okV x := by
  rw [Int32.lt_iff_toInt_lt, nI_toInt (by omega)] at h2
  rw [Int32.lt_iff_toInt_lt] at h1
  have e0 : (0 : Int32).toInt = 0 := rfl
  refine ⟨x.toInt.toNat, by omega, ?_⟩
  apply Int32.toInt_inj.mp
  rw [nI_toInt (by omega)]; omega
theorem okV_lt {x : Int32} (h : x < 0) : ¬ okV x := by
  rintro ⟨j, h1, rfl⟩
  exact nI_pos (by omega) h
theorem okV_gt {x : Int32} (h : nI 7 < x) : ¬ okV x := by
  rintro ⟨j, h1, rfl⟩
  have := (nI_ltI (by omega) (by omega)).mp h
  omega
/-! the lengths of the rows of tables -/
def hz_R (k : Nat) : Nat := match k with
  | 0 => 16
  | 1 => 32
  | 2 => 64
  | 3 => 128
  | 4 => 256
  | 5 => 512
  | 6 => 1024
  | 7 => 2048
  | 8 => 4096
  | 9 => 8192
  | 10 => 16384
  | _ => 30001
theorem hz_Rgen : ∀ g, g ≤ 11 → 16 ≤ hz_R g ∧ hz_R g ≤ 30001 := by decide +kernel
theorem hz_Rgrow : ∀ g, g < 11 → (if 30001 < hz_R g * 2 then 30001 else hz_R g * 2) = hz_R (g + 1) ∧ hz_R g < hz_R (g + 1) := by decide +kernel
def Rs : Nat → Nat
  | 0 => 0
  | g + 1 => Rs g + 5 * hz_R (g + 1)
/-! the class's state -/
def CS (nT : Nat) (a : AS) (g : Nat) (ow : Nat → Nat) (ky : Nat → Int64) (kd : Nat → Nat) (nu : Nat → Int64) (sn : Nat → Nat) : Prop :=
  AI nT a ∧ nT ≤ 30000 ∧ g ≤ 5 ∧ aN a < hz_L g ∧ (∀ i, i ≤ aN a → ow i = aO a i ∧ ky i = aK a i ∧ kd i = aD a i ∧ nu i = aU a i) ∧ (∀ i, kd i < 128) ∧ hz_T (hz_M g) (aN a) (fun i => hz_h (hz_M g) (ow i) (ky i)) sn
def CT (nT : Nat) (a : AS) (fo fi la kc vc bo : Nat → Nat) : Prop :=
  ci_F (aN a) (aO a) fo ∧ ∀ t, 1 ≤ t → t ≤ nT → ch_N (aO a) t (aN a) 0 (fi t) ∧ ch_L (aO a) t (aN a) (la t) ∧ kc t = cK a t ∧ vc t = cV a t ∧ isB a t (bo t)
section Inv
variable {nT g : Nat} {a : AS} {ow : Nat → Nat} {ky : Nat → Int64} {kd : Nat → Nat} {nu : Nat → Int64} {sn : Nat → Nat}
theorem CS.O (h : CS nT a g ow ky kd nu sn) : ∀ i, i ≤ aN a → ow i < 2 ^ 20 := fun i hi => by
  rw [(h.2.2.2.2.1 i hi).1]
  have := h.1.2.2.2.2.2.2.2 i
  omega
theorem CS.U (h : CS nT a g ow ky kd nu sn) : hz_U (aN a) ow ky := fun i j hi hi2 hj hj2 h1 h2 => by
  have q := h.2.2.2.2.1 i hi2
  have q2 := h.2.2.2.2.1 j hj2
  exact h.1.2.2.2.2.2.2.1 i j hi hi2 hj hj2 (by rw [← q.1, ← q2.1]; exact h1) (by rw [← q.2.1, ← q2.2.1]; exact h2)
theorem CS.F (h : CS nT a g ow ky kd nu sn) (o : Nat) (k : Int64) : fnd ow ky o k (aN a) = aF a o k := fnd_congr (fun j _ h2 => ⟨(h.2.2.2.2.1 j h2).1, (h.2.2.2.2.1 j h2).2.1⟩)
theorem CS.D (h : CS nT a g ow ky kd nu sn) (o : Nat) (k : Int64) : kd (aF a o k) = vD a o k := (h.2.2.2.2.1 _ (aF_le a o k)).2.2.1
theorem CS.V (h : CS nT a g ow ky kd nu sn) (o : Nat) (k : Int64) : nu (aF a o k) = vU a o k := (h.2.2.2.2.1 _ (aF_le a o k)).2.2.2
end Inv
theorem vD_le {nT : Nat} {a : AS} (h : AI nT a) (o : Nat) (k : Int64) : vD a o k ≤ 7 := h.2.2.1 _
def CI (nT : Nat) (a : AS) (g gt : Nat) (ow : Nat → Nat) (ky : Nat → Int64) (kd : Nat → Nat) (nu : Nat → Int64) (fo sn fi la kc vc bo : Nat → Nat) : Prop := CS nT a g ow ky kd nu sn ∧ CT nT a fo fi la kc vc bo ∧ gt ≤ 11 ∧ nT < hz_R gt
theorem vD_add0 {a : AS} {nT : Nat} (h : AI nT a) {o : Nat} {k : Int64} (hf : aF a o k = 0) (o' : Nat) (k' : Int64) : vD (addA a o k 0 0) o' k' = vD a o' k' := by
  unfold vD
  rw [aF_add]
  show va_up (aD a) (aN a + 1) 0 _ = _
  split
  · rename_i e
    rw [va_up_self, ← e.1, ← e.2, hf, h.2.2.2.1]
  · exact va_up_ne _ _ (by have := aF_le a o' k'; omega)
theorem isB.add0 {a : AS} {nT : Nat} (h : AI nT a) {o : Nat} {k : Int64} (hf : aF a o k = 0) {t b : Nat} (hb : isB a t b) : isB (addA a o k 0 0) t b := ⟨fun j h1 h2 => by
  show vD (addA a o k 0 0) _ _ ≠ 0
  rw [vD_add0 h hf]; exact hb.1 j h1 h2, by
  show vD (addA a o k 0 0) _ _ = 0
  rw [vD_add0 h hf]; exact hb.2⟩
theorem set_add (a : AS) (o : Nat) (k : Int64) (kd : Nat) (nu : Int64) : setA (addA a o k 0 0) (aN a + 1) kd nu = addA a o k kd nu := by
  show (aN a + 1, va_up (aO a) (aN a + 1) o, va_up (aK a) (aN a + 1) k, va_up (va_up (aD a) (aN a + 1) 0) (aN a + 1) kd, va_up (va_up (aU a) (aN a + 1) 0) (aN a + 1) nu) = _
  rw [bx_uu, bx_uu]
  rfl
/-- a key has come, with nil: the chains and the counts behind it -/
theorem CT.app {nT t kk : Nat} {a : AS} {k : Int64} {fo fi la kc vc bo fo1 fo2 fi2 la2 kc2 : Nat → Nat} (h : CT nT a fo fi la kc vc bo) (hA : AI nT a) (hf : aF a (t * 8 + kk) k = 0) (hk : kk < 8) (ht : 1 ≤ t) (ht2 : t ≤ nT)
    (e1 : ∀ i, i ≤ aN a → fo1 i = fo i) (e2 : fo1 (aN a + 1) = 0) (hfo : fo2 = if la t = 0 then fo1 else va_up fo1 (la t) (aN a + 1)) (hfi : fi2 = if la t = 0 then va_up fi t (aN a + 1) else fi) (hla : la2 = va_up la t (aN a + 1)) (hkc : kc2 = va_up kc t (kc t + 1)) :
    CT nT (addA a (t * 8 + kk) k 0 0) fo2 fi2 la2 kc2 vc bo := by
  obtain ⟨hF, hT⟩ := h
  have ho : (t * 8 + kk) / 8 = t := by omega
  have how : ∀ i, i ≤ aN a → aO (addA a (t * 8 + kk) k 0 0) i = aO a i := fun i hi => va_up_ne _ _ (by omega)
  have hon : aO (addA a (t * 8 + kk) k 0 0) (aN a + 1) = t * 8 + kk := va_up_self _ _ _
  obtain ⟨t1, t2, t3, t4, t5⟩ := hT t ht ht2
  have hl : la t ≤ aN a := by rcases t2 with ⟨q, _⟩ | ⟨_, q, _⟩ <;> omega
  refine ⟨?_, fun t' h1 h2 => ?_⟩
  · refine ci_F.app (t := t) (last := la t) hF t2 ho how hon (fun i hi ne => ?_) ?_ (fun nz => ?_)
    · rw [hfo]; split
      · exact e1 i hi
      · rw [va_up_ne _ _ ne]; exact e1 i hi
    · rw [hfo]; split
      · exact e2
      · rw [va_up_ne _ _ (by omega)]; exact e2
    · rw [hfo, if_neg nz]; exact va_up_self _ _ _
  · obtain ⟨u1, u2, u3, u4, u5⟩ := hT t' h1 h2
    refine ⟨?_, ?_, ?_, ?_, isB.add0 hA hf u5⟩
    · by_cases e : t' = t
      · subst e
        rw [hfi]
        split
        · rename_i z
          rw [va_up_self]
          refine ch_N.first ?_ ho how hon
          rcases u2 with ⟨_, q⟩ | ⟨q, _⟩
          · exact Or.inl ⟨rfl, fun x a1 a2 => q x (by omega) a2⟩
          · omega
        · rename_i z
          refine u1.app ho how hon (Or.inr (fun c => ?_))
          rcases u1 with ⟨_, q⟩ | ⟨q, _⟩
          · rcases u2 with ⟨q2, _⟩ | ⟨q2, q3, q4, _⟩
            · exact z q2
            · exact q _ (by omega) q3 q4
          · omega
      · have : fi2 t' = fi t' := by
          rw [hfi]; split
          · exact va_up_ne _ _ e
          · rfl
        rw [this]
        exact u1.app ho how hon (Or.inl e)
    · by_cases e : t' = t
      · subst e
        rw [hla, va_up_self]
        exact ch_L.last ho hon
      · rw [hla, va_up_ne _ _ e]
        exact u2.app ho how hon e
    · rw [cK_add, ho, hkc]
      by_cases e : t' = t
      · subst e; rw [va_up_self, if_pos rfl, u3]
      · rw [va_up_ne _ _ e, if_neg (fun c => e c.symm), u3, Nat.add_zero]
    · rw [cV_add, u4, if_neg (fun c => c.2 rfl), Nat.add_zero]
theorem give_set {nT : Nat} {a : AS} (h : AI nT a) {i : Nat} (h1 : 1 ≤ i) (h2 : i ≤ aN a) (kd : Nat) (nu : Int64) : giveA a (aO a i) (aK a i) kd nu = setA a i kd (if kd = 0 then 0 else nu) := by
  have e : aF a (aO a i) (aK a i) = i := fnd_uniq h.2.2.2.2.2.2.1 h1 h2 rfl rfl
  unfold giveA
  rw [e, if_neg (by omega)]
end
section
theorem wB_le {nT : Nat} {a : AS} {t b : Nat} (h : AI nT a) (hb : ∀ k, 1 ≤ k → k ≤ b → wK a t k ≠ 0) : b ≤ aN a := by
  rcases Nat.lt_or_ge (aN a) b with q | q
  · have h40 := h.1
    have nz : ∀ j, j < aN a + 1 → aF a (t * 8 + 3) (lN (j + 1)) ≠ 0 := fun j hj e => by
      have := hb (j + 1) (by omega) (by omega)
      unfold wK at this
      rw [e, h.2.2.2.1] at this
      exact this rfl
    have := hz_pigeon (aN a) (aN a + 1) (fun j => aF a (t * 8 + 3) (lN (j + 1))) (fun j hj => ⟨Nat.pos_of_ne_zero (nz j hj), aF_le _ _ _⟩) (fun i j hi hj e => by
      have e : aF a (t * 8 + 3) (lN (i + 1)) = aF a (t * 8 + 3) (lN (j + 1)) := e
      have a1 := (aF_hit (nz i hi)).2
      have a2 := (aF_hit (nz j hj)).2
      rw [e, a2] at a1
      have := lN_ne (by omega) (by omega) a1
      omega)
    omega
  · exact q
theorem lN_of {k : Int64} {b : Nat} (hb : b < 2 ^ 31) (h1 : ¬ k < lN 1) (h2 : ¬ lN b < k) : ∃ j, 1 ≤ j ∧ j ≤ b ∧ k = lN j := by
  rw [Int64.lt_iff_toInt_lt, pk_lT (by omega)] at h1 h2
  refine ⟨k.toInt.toNat, by omega, by omega, ?_⟩
  apply Int64.toInt_inj.mp
  rw [pk_lT (by omega)]; omega
theorem wK_set (a : AS) (i kd : Nat) (v : Int64) (t j : Nat) : wK (setA a i kd v) t j = if aF a (t * 8 + 3) (lN j) = i then kd else wK a t j := rfl
section Set
variable {nT i kd t b : Nat} {a : AS} {v : Int64}
theorem isB.same (hb : isB a t b) (hz : kd = 0 ↔ aD a i = 0) : isB (setA a i kd v) t b := by
  refine ⟨fun j h1 h2 => ?_, ?_⟩
  · rw [wK_set]; split
    · rename_i e
      have := hb.1 j h1 h2
      unfold wK at this
      rw [e] at this
      exact fun z => this (hz.mp z)
    · exact hb.1 j h1 h2
  · rw [wK_set]; split
    · rename_i e
      have := hb.2
      unfold wK at this
      rw [e] at this
      exact hz.mpr this
    · exact hb.2
theorem isB.off (hi : 1 ≤ i) (hb : isB a t b) (ho : aO a i ≠ t * 8 + 3) : isB (setA a i kd v) t b := by
  have q : ∀ j, aF a (t * 8 + 3) (lN j) ≠ i := fun j e => ho (by rw [← e]; exact (aF_hit (by omega)).1)
  refine ⟨fun j h1 h2 => ?_, ?_⟩
  · rw [wK_set, if_neg (q j)]; exact hb.1 j h1 h2
  · rw [wK_set, if_neg (q _)]; exact hb.2
theorem isB.up1 (hb : isB a t b) (hk : kd ≠ 0) : ∀ j, 1 ≤ j → j ≤ b → wK (setA a i kd v) t j ≠ 0 := fun j h1 h2 => by
  rw [wK_set]; split
  · exact hk
  · exact hb.1 j h1 h2
theorem aF_self (h : AI nT a) (hi : 1 ≤ i) (hn : i ≤ aN a) : aF a (aO a i) (aK a i) = i := fnd_uniq h.2.2.2.2.2.2.1 hi hn rfl rfl
theorem isB.up2 (h : AI nT a) (hi : 1 ≤ i) (hn : i ≤ aN a) (ho : aO a i = t * 8 + 3) (hk : kd ≠ 0) (e : aK a i = lN (b + 1)) : wK (setA a i kd v) t (b + 1) ≠ 0 := by
  rw [wK_set, if_pos (by rw [← ho, ← e]; exact aF_self h hi hn)]; exact hk
theorem isB.up3 (hi : 1 ≤ i) (hb : isB a t b) (hk : kd ≠ 0) (e : aK a i ≠ lN (b + 1)) : isB (setA a i kd v) t b := by
  refine ⟨hb.up1 hk, ?_⟩
  rw [wK_set, if_neg (fun c => e (by rw [← c]; exact (aF_hit (by omega)).2))]; exact hb.2
theorem isB.dn1 (h : AI nT a) (hi : 1 ≤ i) (hn : i ≤ aN a) (ho : aO a i = t * 8 + 3) (hb : isB a t b) {j : Nat} (h1 : 1 ≤ j) (h2 : j ≤ b) (e : aK a i = lN j) : isB (setA a i 0 v) t (j - 1) := by
  have hle := hb.le h
  have h40 := h.1
  refine ⟨fun m m1 m2 => ?_, ?_⟩
  · rw [wK_set, if_neg (fun c => by
      have := (aF_hit (a := a) (o := t * 8 + 3) (k := lN m) (by omega)).2
      rw [c, e] at this
      have := lN_ne (by omega) (by omega) this
      omega)]; exact hb.1 m m1 (by omega)
  · rw [show j - 1 + 1 = j by omega, wK_set, if_pos (by rw [← ho, ← e]; exact aF_self h hi hn)]
theorem isB.dn2 (hi : 1 ≤ i) (hb : isB a t b) (e : ∀ j, 1 ≤ j → j ≤ b → aK a i ≠ lN j) : isB (setA a i 0 v) t b := by
  refine ⟨fun m m1 m2 => ?_, ?_⟩
  · rw [wK_set, if_neg (fun c => e m m1 m2 (by rw [← c]; exact (aF_hit (by omega)).2))]; exact hb.1 m m1 m2
  · rw [wK_set]; split
    · rfl
    · exact hb.2
end Set
theorem CS.set {nT g i kind : Nat} {a : AS} {ow : Nat → Nat} {ky : Nat → Int64} {kd : Nat → Nat} {nu : Nat → Int64} {sn : Nat → Nat} {v : Int64} (h : CS nT a g ow ky kd nu sn) (hi : 1 ≤ i) (hk : kind ≤ 7) (hz : kind = 0 → v = 0) : CS nT (setA a i kind v) g ow ky (va_up kd i kind) (vp_updL nu i v) sn := by
  obtain ⟨h1, h2, h3, h4, h5, h6, h7⟩ := h
  refine ⟨h1.set hi hk hz, h2, h3, h4, fun j hj => ?_, fun j => ?_, h7⟩
  · obtain ⟨q1, q2, q3, q4⟩ := h5 j hj
    refine ⟨q1, q2, ?_, ?_⟩
    · show va_up kd i kind j = va_up (aD a) i kind j
      unfold va_up; split
      · rfl
      · exact q3
    · show vp_updL nu i v j = va_up (aU a) i v j
      unfold vp_updL va_up; split
      · rfl
      · exact q4
  · unfold va_up; split
    · omega
    · exact h6 j
theorem CT.set {nT i kind : Nat} {a : AS} {v : Int64} {fo fi la kc vc bo vc2 bo2 : Nat → Nat} (h : CT nT a fo fi la kc vc bo) (hv : ∀ t, 1 ≤ t → t ≤ nT → vc2 t = cV (setA a i kind v) t) (hb : ∀ t, 1 ≤ t → t ≤ nT → isB (setA a i kind v) t (bo2 t)) : CT nT (setA a i kind v) fo fi la kc vc2 bo2 :=
  ⟨h.1, fun t h1 h2 => ⟨(h.2 t h1 h2).1, (h.2 t h1 h2).2.1, (h.2 t h1 h2).2.2.1, hv t h1 h2, hb t h1 h2⟩⟩
section Cnt
variable {nT i kind : Nat} {a : AS} {v : Int64} {fo fi la kc vc bo : Nat → Nat}
theorem CT.v0 (h : CT nT a fo fi la kc vc bo) (hi : 1 ≤ i) (hn : i ≤ aN a) (hz : kind = 0 ↔ aD a i = 0) : ∀ t, 1 ≤ t → t ≤ nT → vc t = cV (setA a i kind v) t := fun t h1 h2 => by
  have e := cV_set hi hn kind v t
  rw [(h.2 t h1 h2).2.2.2.1]
  by_cases q : aO a i / 8 = t
  · by_cases z : kind = 0
    · rw [if_neg (fun c => c.2 (hz.mp z)), if_neg (fun c => c.2 z)] at e; omega
    · rw [if_pos ⟨q, fun c => z (hz.mpr c)⟩, if_pos ⟨q, z⟩] at e; omega
  · rw [if_neg (fun c => q c.1), if_neg (fun c => q c.1)] at e; omega
theorem CT.v1 (h : CT nT a fo fi la kc vc bo) (hi : 1 ≤ i) (hn : i ≤ aN a) (h0 : aD a i = 0) (hk : kind ≠ 0) : ∀ t, 1 ≤ t → t ≤ nT → va_up vc (aO a i / 8) (vc (aO a i / 8) + 1) t = cV (setA a i kind v) t := fun t h1 h2 => by
  have e := cV_set hi hn kind v t
  have q := (h.2 t h1 h2).2.2.2.1
  unfold va_up
  by_cases z : t = aO a i / 8
  · rw [if_neg (fun c => c.2 h0), if_pos ⟨z.symm, hk⟩] at e
    rw [if_pos z, ← z]; omega
  · rw [if_neg (fun c => z c.1.symm), if_neg (fun c => z c.1.symm)] at e
    rw [if_neg z]; omega
theorem CT.v2 (h : CT nT a fo fi la kc vc bo) (hi : 1 ≤ i) (hn : i ≤ aN a) (h0 : aD a i ≠ 0) : ∀ t, 1 ≤ t → t ≤ nT → va_up vc (aO a i / 8) (vc (aO a i / 8) - 1) t = cV (setA a i 0 v) t := fun t h1 h2 => by
  have e := cV_set hi hn 0 v t
  have q := (h.2 t h1 h2).2.2.2.1
  unfold va_up
  by_cases z : t = aO a i / 8
  · rw [if_pos ⟨z.symm, h0⟩, if_neg (fun c => c.2 rfl)] at e
    rw [if_pos z, ← z]; omega
  · rw [if_neg (fun c => z c.1.symm), if_neg (fun c => z c.1.symm)] at e
    rw [if_neg z]; omega
theorem cV_pos {t : Nat} (hi : 1 ≤ i) (hn : i ≤ aN a) (ht : aO a i / 8 = t) (h0 : aD a i ≠ 0) : 0 < cV a t := by
  have := cnt_lt (p := fun j => aO a j / 8 == t && aD a j != 0) hi hn (by show (aO a i / 8 == t && aD a i != 0) = true; rw [ht, beq_self_eq_true, bne_iff_ne.mpr h0]; rfl)
  unfold cV; omega
theorem CT.b (h : CT nT a fo fi la kc vc bo) {t : Nat} (h1 : 1 ≤ t) (h2 : t ≤ nT) : isB a t (bo t) := (h.2 t h1 h2).2.2.2.2
end Cnt
end
section
/-! how often the rows of fields have grown, when n keys are there -/
def gFa : Nat → Nat → Nat → Nat
  | 0, g, _ => g
  | k + 1, g, n => if n < hz_L g then g else gFa k (g + 1) n
def gF (g n : Nat) : Nat := gFa 6 g n
theorem hz_L_mono : ∀ b, b ≤ 5 → ∀ a, a ≤ b → hz_L a ≤ hz_L b := by decide +kernel
theorem gF_spec {g n : Nat} (hg : g ≤ 5) (hn : n ≤ 40000) : g ≤ gF g n ∧ gF g n ≤ 5 ∧ n < hz_L (gF g n) ∧ (gF g n = g ∨ hz_L (gF g n - 1) ≤ n) := by
  have key : ∀ k g, g ≤ 5 → 5 < k + g → g ≤ gFa k g n ∧ gFa k g n ≤ 5 ∧ n < hz_L (gFa k g n) ∧ (gFa k g n = g ∨ hz_L (gFa k g n - 1) ≤ n) := by
    intro k
    induction k with
    | zero => intro g h1 h2; omega
    | succ k ih =>
      intro g h1 h2
      unfold gFa
      by_cases q : n < hz_L g
      · rw [if_pos q]; exact ⟨Nat.le_refl g, h1, q, Or.inl rfl⟩
      · rw [if_neg q]
        have g5 : g ≠ 5 := fun e => by
          rw [e, show hz_L 5 = 40001 from rfl] at q; omega
        obtain ⟨a, b, c, d⟩ := ih (g + 1) (by omega) (by omega)
        refine ⟨by omega, b, c, Or.inr ?_⟩
        rcases d with d | d
        · rw [d, Nat.add_sub_cancel]; omega
        · exact d
  exact key 6 g hg (by omega)
theorem gF_uniq {g n g' : Nat} (hg : g ≤ g') (h5 : g' ≤ 5) (hn : n ≤ 40000) (h1 : n < hz_L g') (h2 : g' = g ∨ hz_L (g' - 1) ≤ n) : gF g n = g' := by
  obtain ⟨a, b, c, d⟩ := gF_spec (g := g) (n := n) (by omega) hn
  rcases Nat.lt_trichotomy (gF g n) g' with q | q | q
  · rcases h2 with z | z
    · omega
    · have := hz_L_mono (g' - 1) (by omega) (gF g n) (by omega); omega
  · exact q
  · rcases d with z | z
    · omega
    · have := hz_L_mono (gF g n - 1) (by omega) g' (by omega); omega
theorem gF_same {g n : Nat} (hg : g ≤ 5) (hn : n ≤ 40000) (h : n < hz_L g) : gF g n = g := gF_uniq (Nat.le_refl g) hg hn h (Or.inl rfl)
theorem gF_trans {g n m : Nat} (hg : g ≤ 5) (hm : m ≤ 40000) (h : n ≤ m) : gF (gF g n) m = gF g m := by
  obtain ⟨a, b, c, d⟩ := gF_spec (g := g) (n := n) hg (by omega)
  obtain ⟨a2, b2, c2, d2⟩ := gF_spec (g := gF g n) (n := m) b hm
  refine (gF_uniq (by omega) b2 hm c2 ?_).symm
  rcases d2 with z | z
  · rw [z]; rcases d with y | y
    · exact Or.inl y
    · exact Or.inr (by omega)
  · exact Or.inr z
theorem gF_mono {g n m : Nat} (hg : g ≤ 5) (hm : m ≤ 40000) (h : n ≤ m) : gF g n ≤ gF g m := by
  rw [← gF_trans hg hm h]
  exact (gF_spec (gF_spec hg (by omega)).2.1 hm).1
theorem gF_step {g n : Nat} (hg : g ≤ 5) (hn : n < 40000) (h : n < hz_L g) : (n + 1 < hz_L g ∧ gF g (n + 1) = g) ∨ (hz_L g ≤ n + 1 ∧ gF g (n + 1) = g + 1) := by
  by_cases q : n + 1 < hz_L g
  · exact Or.inl ⟨q, gF_same hg (by omega) q⟩
  · have g5 : g < 5 := by
      rcases Nat.lt_or_ge g 5 with z | z
      · exact z
      · have e : g = 5 := by omega
        rw [e, show hz_L 5 = 40001 from rfl] at q; omega
    have := (hz_grow g g5).2.2
    refine Or.inr ⟨by omega, gF_uniq (by omega) (by omega) (by omega) (by omega) (Or.inr ?_)⟩
    rw [Nat.add_sub_cancel]; omega
theorem Gs_mono {a b : Nat} (h : a ≤ b) : Gs a ≤ Gs b := by
  induction b with
  | zero => rw [Nat.le_zero.mp h]; exact Nat.le_refl _
  | succ b ih =>
    by_cases e : a = b + 1
    · rw [e]; exact Nat.le_refl _
    · have := ih (by omega)
      show Gs a ≤ Gs b + _
      omega
theorem CS.add {nT g g2 t kk : Nat} {a : AS} {k : Int64} {ow ow2 : Nat → Nat} {ky ky2 : Nat → Int64} {kd kd2 : Nat → Nat} {nu nu2 : Nat → Int64} {fo fo2 sn sn2 : Nat → Nat} (h : CS nT a g ow ky kd nu sn) (ht : 1 ≤ t) (ht2 : t ≤ nT) (hk1 : 1 ≤ kk) (hk2 : kk < 8) (hr : aN a < 40000) (hf : aF a (t * 8 + kk) k = 0) (hg2 : g2 ≤ 5) (hL : aN a + 1 < hz_L g2)
    (hA : ∀ i, i ≤ aN a → ow2 i = ow i ∧ ky2 i = ky i ∧ kd2 i = kd i ∧ nu2 i = nu i ∧ fo2 i = fo i) (h1 : ow2 (aN a + 1) = t * 8 + kk) (h2 : ky2 (aN a + 1) = k) (h3 : kd2 (aN a + 1) = 0) (h4 : nu2 (aN a + 1) = 0) (h5 : ∀ i, kd2 i < 128) (h6 : hz_T (hz_M g2) (aN a + 1) (fun i => hz_h (hz_M g2) (ow2 i) (ky2 i)) sn2) : CS nT (addA a (t * 8 + kk) k 0 0) g2 ow2 ky2 kd2 nu2 sn2 := by
  obtain ⟨q1, q2, q3, q4, q5, q6, q7⟩ := h
  refine ⟨q1.add q2 ht ht2 hk1 hk2 hr hf (by omega) (fun _ => rfl), q2, hg2, hL, fun i hi => ?_, h5, h6⟩
  have hi : i ≤ aN a + 1 := hi
  show ow2 i = va_up (aO a) (aN a + 1) (t * 8 + kk) i ∧ ky2 i = va_up (aK a) (aN a + 1) k i ∧ kd2 i = va_up (aD a) (aN a + 1) 0 i ∧ nu2 i = va_up (aU a) (aN a + 1) 0 i
  by_cases e : i = aN a + 1
  · rw [e, va_up_self, va_up_self, va_up_self, va_up_self]; exact ⟨h1, h2, h3, h4⟩
  · rw [va_up_ne _ _ e, va_up_ne _ _ e, va_up_ne _ _ e, va_up_ne _ _ e]
    obtain ⟨p1, p2, p3, p4, _⟩ := hA i (by omega)
    obtain ⟨r1, r2, r3, r4⟩ := q5 i (by omega)
    exact ⟨p1.trans r1, p2.trans r2, p3.trans r3, p4.trans r4⟩
theorem comeA_0 {a : AS} {o : Nat} {k : Int64} {kd : Nat} (h : aF a o k ≠ 0) : comeA a o k kd = 0 := if_neg h
theorem comeA_n {a : AS} {o : Nat} {k : Int64} (h : aF a o k = 0) : comeA a o k 0 = 0 := by unfold comeA; rw [if_pos h, if_pos rfl]
theorem comeA_1 {a : AS} {o : Nat} {k : Int64} {kd : Nat} (h : aF a o k = 0) (hk : kd ≠ 0) : comeA a o k kd = 1 := by unfold comeA; rw [if_pos h, if_neg hk]
theorem comeA_le (a : AS) (o : Nat) (k : Int64) (kd : Nat) : comeA a o k kd ≤ 1 := by unfold comeA; split <;> (try split) <;> omega
theorem giveA_0 {a : AS} {o : Nat} {k : Int64} {kd : Nat} {nu : Int64} (h : aF a o k ≠ 0) : giveA a o k kd nu = setA a (aF a o k) kd (if kd = 0 then 0 else nu) := if_neg h
theorem giveA_n {a : AS} {o : Nat} {k : Int64} {nu : Int64} (h : aF a o k = 0) : giveA a o k 0 nu = a := by unfold giveA; rw [if_pos h, if_pos rfl]
theorem giveA_1 {a : AS} {o : Nat} {k : Int64} {kd : Nat} {nu : Int64} (h : aF a o k = 0) (hk : kd ≠ 0) : giveA a o k kd nu = addA a o k kd nu := by unfold giveA; rw [if_pos h, if_neg hk]
end
section
theorem d_J_copyOf_b_0 : decode b_J_copyOf_b 0 = .ok (.iload_n 1, 1) := by decide +kernel
theorem d_J_copyOf_b_1 : decode b_J_copyOf_b 1 = .ok (.aload_n 0, 1) := by decide +kernel
theorem d_J_copyOf_b_2 : decode b_J_copyOf_b 2 = .ok (.arraylength, 1) := by decide +kernel
theorem d_J_copyOf_b_3 : decode b_J_copyOf_b 3 = .ok (.if_icmp .ne 11, 3) := by decide +kernel
theorem d_J_copyOf_b_6 : decode b_J_copyOf_b 6 = .ok (.aload_n 0, 1) := by decide +kernel
theorem d_J_copyOf_b_7 : decode b_J_copyOf_b 7 = .ok (.invokevirtual 310, 3) := by decide +kernel
theorem d_J_copyOf_b_10 : decode b_J_copyOf_b 10 = .ok (.checkcast 311, 3) := by decide +kernel
theorem d_J_copyOf_b_13 : decode b_J_copyOf_b 13 = .ok (.areturn, 1) := by decide +kernel
theorem d_J_copyOf_b_14 : decode b_J_copyOf_b 14 = .ok (.iload_n 1, 1) := by decide +kernel
theorem d_J_copyOf_b_15 : decode b_J_copyOf_b 15 = .ok (.newarray .byte, 2) := by decide +kernel
theorem d_J_copyOf_b_17 : decode b_J_copyOf_b 17 = .ok (.astore_n 2, 1) := by decide +kernel
theorem d_J_copyOf_b_18 : decode b_J_copyOf_b 18 = .ok (.aload_n 0, 1) := by decide +kernel
theorem d_J_copyOf_b_19 : decode b_J_copyOf_b 19 = .ok (.iconst 0, 1) := by decide +kernel
theorem d_J_copyOf_b_20 : decode b_J_copyOf_b 20 = .ok (.aload_n 2, 1) := by decide +kernel
theorem d_J_copyOf_b_21 : decode b_J_copyOf_b 21 = .ok (.iconst 0, 1) := by decide +kernel
theorem d_J_copyOf_b_22 : decode b_J_copyOf_b 22 = .ok (.aload_n 0, 1) := by decide +kernel
theorem d_J_copyOf_b_23 : decode b_J_copyOf_b 23 = .ok (.arraylength, 1) := by decide +kernel
theorem d_J_copyOf_b_24 : decode b_J_copyOf_b 24 = .ok (.iload_n 1, 1) := by decide +kernel
theorem d_J_copyOf_b_25 : decode b_J_copyOf_b 25 = .ok (.invokestatic 304, 3) := by decide +kernel
theorem d_J_copyOf_b_28 : decode b_J_copyOf_b 28 = .ok (.invokestatic 150, 3) := by decide +kernel
theorem d_J_copyOf_b_31 : decode b_J_copyOf_b 31 = .ok (.aload_n 2, 1) := by decide +kernel
theorem d_J_copyOf_b_32 : decode b_J_copyOf_b 32 = .ok (.areturn, 1) := by decide +kernel
theorem d_J_copyOf_i_0 : decode b_J_copyOf_i 0 = .ok (.iload_n 1, 1) := by decide +kernel
theorem d_J_copyOf_i_1 : decode b_J_copyOf_i 1 = .ok (.aload_n 0, 1) := by decide +kernel
theorem d_J_copyOf_i_2 : decode b_J_copyOf_i 2 = .ok (.arraylength, 1) := by decide +kernel
theorem d_J_copyOf_i_3 : decode b_J_copyOf_i 3 = .ok (.if_icmp .ne 11, 3) := by decide +kernel
theorem d_J_copyOf_i_6 : decode b_J_copyOf_i 6 = .ok (.aload_n 0, 1) := by decide +kernel
theorem d_J_copyOf_i_7 : decode b_J_copyOf_i 7 = .ok (.invokevirtual 316, 3) := by decide +kernel
theorem d_J_copyOf_i_10 : decode b_J_copyOf_i 10 = .ok (.checkcast 317, 3) := by decide +kernel
theorem d_J_copyOf_i_13 : decode b_J_copyOf_i 13 = .ok (.areturn, 1) := by decide +kernel
theorem d_J_copyOf_i_14 : decode b_J_copyOf_i 14 = .ok (.iload_n 1, 1) := by decide +kernel
theorem d_J_copyOf_i_15 : decode b_J_copyOf_i 15 = .ok (.newarray .int, 2) := by decide +kernel
theorem d_J_copyOf_i_17 : decode b_J_copyOf_i 17 = .ok (.astore_n 2, 1) := by decide +kernel
theorem d_J_copyOf_i_18 : decode b_J_copyOf_i 18 = .ok (.aload_n 0, 1) := by decide +kernel
theorem d_J_copyOf_i_19 : decode b_J_copyOf_i 19 = .ok (.iconst 0, 1) := by decide +kernel
theorem d_J_copyOf_i_20 : decode b_J_copyOf_i 20 = .ok (.aload_n 2, 1) := by decide +kernel
theorem d_J_copyOf_i_21 : decode b_J_copyOf_i 21 = .ok (.iconst 0, 1) := by decide +kernel
theorem d_J_copyOf_i_22 : decode b_J_copyOf_i 22 = .ok (.aload_n 0, 1) := by decide +kernel
theorem d_J_copyOf_i_23 : decode b_J_copyOf_i 23 = .ok (.arraylength, 1) := by decide +kernel
theorem d_J_copyOf_i_24 : decode b_J_copyOf_i 24 = .ok (.iload_n 1, 1) := by decide +kernel
theorem d_J_copyOf_i_25 : decode b_J_copyOf_i 25 = .ok (.invokestatic 304, 3) := by decide +kernel
theorem d_J_copyOf_i_28 : decode b_J_copyOf_i 28 = .ok (.invokestatic 150, 3) := by decide +kernel
theorem d_J_copyOf_i_31 : decode b_J_copyOf_i 31 = .ok (.aload_n 2, 1) := by decide +kernel
theorem d_J_copyOf_i_32 : decode b_J_copyOf_i 32 = .ok (.areturn, 1) := by decide +kernel
theorem d_J_copyOf_l_0 : decode b_J_copyOf_l 0 = .ok (.iload_n 1, 1) := by decide +kernel
theorem d_J_copyOf_l_1 : decode b_J_copyOf_l 1 = .ok (.aload_n 0, 1) := by decide +kernel
theorem d_J_copyOf_l_2 : decode b_J_copyOf_l 2 = .ok (.arraylength, 1) := by decide +kernel
theorem d_J_copyOf_l_3 : decode b_J_copyOf_l 3 = .ok (.if_icmp .ne 11, 3) := by decide +kernel
theorem d_J_copyOf_l_6 : decode b_J_copyOf_l 6 = .ok (.aload_n 0, 1) := by decide +kernel
theorem d_J_copyOf_l_7 : decode b_J_copyOf_l 7 = .ok (.invokevirtual 319, 3) := by decide +kernel
theorem d_J_copyOf_l_10 : decode b_J_copyOf_l 10 = .ok (.checkcast 320, 3) := by decide +kernel
theorem d_J_copyOf_l_13 : decode b_J_copyOf_l 13 = .ok (.areturn, 1) := by decide +kernel
theorem d_J_copyOf_l_14 : decode b_J_copyOf_l 14 = .ok (.iload_n 1, 1) := by decide +kernel
theorem d_J_copyOf_l_15 : decode b_J_copyOf_l 15 = .ok (.newarray .long, 2) := by decide +kernel
theorem d_J_copyOf_l_17 : decode b_J_copyOf_l 17 = .ok (.astore_n 2, 1) := by decide +kernel
theorem d_J_copyOf_l_18 : decode b_J_copyOf_l 18 = .ok (.aload_n 0, 1) := by decide +kernel
theorem d_J_copyOf_l_19 : decode b_J_copyOf_l 19 = .ok (.iconst 0, 1) := by decide +kernel
theorem d_J_copyOf_l_20 : decode b_J_copyOf_l 20 = .ok (.aload_n 2, 1) := by decide +kernel
theorem d_J_copyOf_l_21 : decode b_J_copyOf_l 21 = .ok (.iconst 0, 1) := by decide +kernel
theorem d_J_copyOf_l_22 : decode b_J_copyOf_l 22 = .ok (.aload_n 0, 1) := by decide +kernel
theorem d_J_copyOf_l_23 : decode b_J_copyOf_l 23 = .ok (.arraylength, 1) := by decide +kernel
theorem d_J_copyOf_l_24 : decode b_J_copyOf_l 24 = .ok (.iload_n 1, 1) := by decide +kernel
theorem d_J_copyOf_l_25 : decode b_J_copyOf_l 25 = .ok (.invokestatic 304, 3) := by decide +kernel
theorem d_J_copyOf_l_28 : decode b_J_copyOf_l 28 = .ok (.invokestatic 150, 3) := by decide +kernel
theorem d_J_copyOf_l_31 : decode b_J_copyOf_l 31 = .ok (.aload_n 2, 1) := by decide +kernel
theorem d_J_copyOf_l_32 : decode b_J_copyOf_l 32 = .ok (.areturn, 1) := by decide +kernel
theorem d_J_fill_0 : decode b_J_fill 0 = .ok (.iconst 0, 1) := by decide +kernel
theorem d_J_fill_1 : decode b_J_fill 1 = .ok (.istore_n 2, 1) := by decide +kernel
theorem d_J_fill_2 : decode b_J_fill 2 = .ok (.aload_n 0, 1) := by decide +kernel
theorem d_J_fill_3 : decode b_J_fill 3 = .ok (.arraylength, 1) := by decide +kernel
theorem d_J_fill_4 : decode b_J_fill 4 = .ok (.istore_n 3, 1) := by decide +kernel
theorem d_J_fill_5 : decode b_J_fill 5 = .ok (.iload_n 2, 1) := by decide +kernel
theorem d_J_fill_6 : decode b_J_fill 6 = .ok (.iload_n 3, 1) := by decide +kernel
theorem d_J_fill_7 : decode b_J_fill 7 = .ok (.if_icmp .ge 13, 3) := by decide +kernel
theorem d_J_fill_10 : decode b_J_fill 10 = .ok (.aload_n 0, 1) := by decide +kernel
theorem d_J_fill_11 : decode b_J_fill 11 = .ok (.iload_n 2, 1) := by decide +kernel
theorem d_J_fill_12 : decode b_J_fill 12 = .ok (.iload_n 1, 1) := by decide +kernel
theorem d_J_fill_13 : decode b_J_fill 13 = .ok (.iastore, 1) := by decide +kernel
theorem d_J_fill_14 : decode b_J_fill 14 = .ok (.iinc 2 1, 3) := by decide +kernel
theorem d_J_fill_17 : decode b_J_fill 17 = .ok (.goto (-12), 3) := by decide +kernel
theorem d_J_fill_20 : decode b_J_fill 20 = .ok (.return_, 1) := by decide +kernel
theorem d_S_add_0 : decode b_S_add 0 = .ok (.aload_n 0, 1) := by decide +kernel
theorem d_S_add_1 : decode b_S_add 1 = .ok (.getfield 9, 3) := by decide +kernel
theorem d_S_add_4 : decode b_S_add 4 = .ok (.iconst 1, 1) := by decide +kernel
theorem d_S_add_5 : decode b_S_add 5 = .ok (.iadd, 1) := by decide +kernel
theorem d_S_add_6 : decode b_S_add 6 = .ok (.aload_n 0, 1) := by decide +kernel
theorem d_S_add_7 : decode b_S_add 7 = .ok (.getfield 15, 3) := by decide +kernel
theorem d_S_add_10 : decode b_S_add 10 = .ok (.arraylength, 1) := by decide +kernel
theorem d_S_add_11 : decode b_S_add 11 = .ok (.if_icmp .lt 7, 3) := by decide +kernel
theorem d_S_add_14 : decode b_S_add 14 = .ok (.aload_n 0, 1) := by decide +kernel
theorem d_S_add_15 : decode b_S_add 15 = .ok (.invokevirtual 45, 3) := by decide +kernel
theorem d_S_add_18 : decode b_S_add 18 = .ok (.aload_n 0, 1) := by decide +kernel
theorem d_S_add_19 : decode b_S_add 19 = .ok (.dup, 1) := by decide +kernel
theorem d_S_add_20 : decode b_S_add 20 = .ok (.getfield 9, 3) := by decide +kernel
theorem d_S_add_23 : decode b_S_add 23 = .ok (.iconst 1, 1) := by decide +kernel
theorem d_S_add_24 : decode b_S_add 24 = .ok (.iadd, 1) := by decide +kernel
theorem d_S_add_25 : decode b_S_add 25 = .ok (.putfield 9, 3) := by decide +kernel
theorem d_S_add_28 : decode b_S_add 28 = .ok (.aload_n 0, 1) := by decide +kernel
theorem d_S_add_29 : decode b_S_add 29 = .ok (.getfield 15, 3) := by decide +kernel
theorem d_S_add_32 : decode b_S_add 32 = .ok (.aload_n 0, 1) := by decide +kernel
theorem d_S_add_33 : decode b_S_add 33 = .ok (.getfield 9, 3) := by decide +kernel
theorem d_S_add_36 : decode b_S_add 36 = .ok (.iload_n 1, 1) := by decide +kernel
theorem d_S_add_37 : decode b_S_add 37 = .ok (.iload_n 2, 1) := by decide +kernel
theorem d_S_add_38 : decode b_S_add 38 = .ok (.invokestatic 37, 3) := by decide +kernel
theorem d_S_add_41 : decode b_S_add 41 = .ok (.iastore, 1) := by decide +kernel
theorem d_S_add_42 : decode b_S_add 42 = .ok (.aload_n 0, 1) := by decide +kernel
theorem d_S_add_43 : decode b_S_add 43 = .ok (.getfield 19, 3) := by decide +kernel
theorem d_S_add_46 : decode b_S_add 46 = .ok (.aload_n 0, 1) := by decide +kernel
theorem d_S_add_47 : decode b_S_add 47 = .ok (.getfield 9, 3) := by decide +kernel
theorem d_S_add_50 : decode b_S_add 50 = .ok (.lload_n 3, 1) := by decide +kernel
theorem d_S_add_51 : decode b_S_add 51 = .ok (.lastore, 1) := by decide +kernel
theorem d_S_add_52 : decode b_S_add 52 = .ok (.aload_n 0, 1) := by decide +kernel
theorem d_S_add_53 : decode b_S_add 53 = .ok (.getfield 23, 3) := by decide +kernel
theorem d_S_add_56 : decode b_S_add 56 = .ok (.aload_n 0, 1) := by decide +kernel
theorem d_S_add_57 : decode b_S_add 57 = .ok (.getfield 9, 3) := by decide +kernel
theorem d_S_add_60 : decode b_S_add 60 = .ok (.iconst 0, 1) := by decide +kernel
theorem d_S_add_61 : decode b_S_add 61 = .ok (.bastore, 1) := by decide +kernel
theorem d_S_add_62 : decode b_S_add 62 = .ok (.aload_n 0, 1) := by decide +kernel
theorem d_S_add_63 : decode b_S_add 63 = .ok (.getfield 27, 3) := by decide +kernel
theorem d_S_add_66 : decode b_S_add 66 = .ok (.aload_n 0, 1) := by decide +kernel
theorem d_S_add_67 : decode b_S_add 67 = .ok (.getfield 9, 3) := by decide +kernel
theorem d_S_add_70 : decode b_S_add 70 = .ok (.lconst 0, 1) := by decide +kernel
theorem d_S_add_71 : decode b_S_add 71 = .ok (.lastore, 1) := by decide +kernel
theorem d_S_add_72 : decode b_S_add 72 = .ok (.aload_n 0, 1) := by decide +kernel
theorem d_S_add_73 : decode b_S_add 73 = .ok (.getfield 30, 3) := by decide +kernel
theorem d_S_add_76 : decode b_S_add 76 = .ok (.aload_n 0, 1) := by decide +kernel
theorem d_S_add_77 : decode b_S_add 77 = .ok (.getfield 9, 3) := by decide +kernel
theorem d_S_add_80 : decode b_S_add 80 = .ok (.iconst 0, 1) := by decide +kernel
theorem d_S_add_81 : decode b_S_add 81 = .ok (.iastore, 1) := by decide +kernel
theorem d_S_add_82 : decode b_S_add 82 = .ok (.aload_n 0, 1) := by decide +kernel
theorem d_S_add_83 : decode b_S_add 83 = .ok (.getfield 33, 3) := by decide +kernel
theorem d_S_add_86 : decode b_S_add 86 = .ok (.aload_n 0, 1) := by decide +kernel
theorem d_S_add_87 : decode b_S_add 87 = .ok (.aload_n 0, 1) := by decide +kernel
theorem d_S_add_88 : decode b_S_add 88 = .ok (.getfield 15, 3) := by decide +kernel
theorem d_S_add_91 : decode b_S_add 91 = .ok (.aload_n 0, 1) := by decide +kernel
theorem d_S_add_92 : decode b_S_add 92 = .ok (.getfield 9, 3) := by decide +kernel
theorem d_S_add_95 : decode b_S_add 95 = .ok (.iaload, 1) := by decide +kernel
theorem d_S_add_96 : decode b_S_add 96 = .ok (.lload_n 3, 1) := by decide +kernel
theorem d_S_add_97 : decode b_S_add 97 = .ok (.invokevirtual 41, 3) := by decide +kernel
theorem d_S_add_100 : decode b_S_add 100 = .ok (.aload_n 0, 1) := by decide +kernel
theorem d_S_add_101 : decode b_S_add 101 = .ok (.getfield 9, 3) := by decide +kernel
theorem d_S_add_104 : decode b_S_add 104 = .ok (.iastore, 1) := by decide +kernel
theorem d_S_add_105 : decode b_S_add 105 = .ok (.aload_n 0, 1) := by decide +kernel
theorem d_S_add_106 : decode b_S_add 106 = .ok (.getfield 9, 3) := by decide +kernel
theorem d_S_add_109 : decode b_S_add 109 = .ok (.ireturn, 1) := by decide +kernel
theorem d_S_copyValue_0 : decode b_S_copyValue 0 = .ok (.aload_n 0, 1) := by decide +kernel
theorem d_S_copyValue_1 : decode b_S_copyValue 1 = .ok (.getfield 23, 3) := by decide +kernel
theorem d_S_copyValue_4 : decode b_S_copyValue 4 = .ok (.iload_n 1, 1) := by decide +kernel
theorem d_S_copyValue_5 : decode b_S_copyValue 5 = .ok (.aload_n 0, 1) := by decide +kernel
theorem d_S_copyValue_6 : decode b_S_copyValue 6 = .ok (.getfield 23, 3) := by decide +kernel
theorem d_S_copyValue_9 : decode b_S_copyValue 9 = .ok (.iload_n 2, 1) := by decide +kernel
theorem d_S_copyValue_10 : decode b_S_copyValue 10 = .ok (.baload, 1) := by decide +kernel
theorem d_S_copyValue_11 : decode b_S_copyValue 11 = .ok (.bastore, 1) := by decide +kernel
theorem d_S_copyValue_12 : decode b_S_copyValue 12 = .ok (.aload_n 0, 1) := by decide +kernel
theorem d_S_copyValue_13 : decode b_S_copyValue 13 = .ok (.getfield 27, 3) := by decide +kernel
theorem d_S_copyValue_16 : decode b_S_copyValue 16 = .ok (.iload_n 1, 1) := by decide +kernel
theorem d_S_copyValue_17 : decode b_S_copyValue 17 = .ok (.aload_n 0, 1) := by decide +kernel
theorem d_S_copyValue_18 : decode b_S_copyValue 18 = .ok (.getfield 27, 3) := by decide +kernel
theorem d_S_copyValue_21 : decode b_S_copyValue 21 = .ok (.iload_n 2, 1) := by decide +kernel
theorem d_S_copyValue_22 : decode b_S_copyValue 22 = .ok (.laload, 1) := by decide +kernel
theorem d_S_copyValue_23 : decode b_S_copyValue 23 = .ok (.lastore, 1) := by decide +kernel
theorem d_S_copyValue_24 : decode b_S_copyValue 24 = .ok (.return_, 1) := by decide +kernel
theorem d_S_find_0 : decode b_S_find 0 = .ok (.aload_n 0, 1) := by decide +kernel
theorem d_S_find_1 : decode b_S_find 1 = .ok (.getfield 33, 3) := by decide +kernel
theorem d_S_find_4 : decode b_S_find 4 = .ok (.aload_n 0, 1) := by decide +kernel
theorem d_S_find_5 : decode b_S_find 5 = .ok (.iload_n 1, 1) := by decide +kernel
theorem d_S_find_6 : decode b_S_find 6 = .ok (.iload_n 2, 1) := by decide +kernel
theorem d_S_find_7 : decode b_S_find 7 = .ok (.invokestatic 37, 3) := by decide +kernel
theorem d_S_find_10 : decode b_S_find 10 = .ok (.lload_n 3, 1) := by decide +kernel
theorem d_S_find_11 : decode b_S_find 11 = .ok (.invokevirtual 41, 3) := by decide +kernel
theorem d_S_find_14 : decode b_S_find 14 = .ok (.iaload, 1) := by decide +kernel
theorem d_S_find_15 : decode b_S_find 15 = .ok (.ireturn, 1) := by decide +kernel
theorem d_S_forget_0 : decode b_S_forget 0 = .ok (.aload_n 0, 1) := by decide +kernel
theorem d_S_forget_1 : decode b_S_forget 1 = .ok (.iconst 0, 1) := by decide +kernel
theorem d_S_forget_2 : decode b_S_forget 2 = .ok (.putfield 9, 3) := by decide +kernel
theorem d_S_forget_5 : decode b_S_forget 5 = .ok (.aload_n 0, 1) := by decide +kernel
theorem d_S_forget_6 : decode b_S_forget 6 = .ok (.getfield 33, 3) := by decide +kernel
theorem d_S_forget_9 : decode b_S_forget 9 = .ok (.iconst 0, 1) := by decide +kernel
theorem d_S_forget_10 : decode b_S_forget 10 = .ok (.invokestatic 52, 3) := by decide +kernel
theorem d_S_forget_13 : decode b_S_forget 13 = .ok (.return_, 1) := by decide +kernel
theorem d_S_grow_0 : decode b_S_grow 0 = .ok (.aload_n 0, 1) := by decide +kernel
theorem d_S_grow_1 : decode b_S_grow 1 = .ok (.getfield 15, 3) := by decide +kernel
theorem d_S_grow_4 : decode b_S_grow 4 = .ok (.arraylength, 1) := by decide +kernel
theorem d_S_grow_5 : decode b_S_grow 5 = .ok (.iconst 4, 1) := by decide +kernel
theorem d_S_grow_6 : decode b_S_grow 6 = .ok (.imul, 1) := by decide +kernel
theorem d_S_grow_7 : decode b_S_grow 7 = .ok (.ldc 67, 2) := by decide +kernel
theorem d_S_grow_9 : decode b_S_grow 9 = .ok (.invokestatic 68, 3) := by decide +kernel
theorem d_S_grow_12 : decode b_S_grow 12 = .ok (.istore_n 1, 1) := by decide +kernel
theorem d_S_grow_13 : decode b_S_grow 13 = .ok (.aload_n 0, 1) := by decide +kernel
theorem d_S_grow_14 : decode b_S_grow 14 = .ok (.aload_n 0, 1) := by decide +kernel
theorem d_S_grow_15 : decode b_S_grow 15 = .ok (.getfield 15, 3) := by decide +kernel
theorem d_S_grow_18 : decode b_S_grow 18 = .ok (.iload_n 1, 1) := by decide +kernel
theorem d_S_grow_19 : decode b_S_grow 19 = .ok (.invokestatic 73, 3) := by decide +kernel
theorem d_S_grow_22 : decode b_S_grow 22 = .ok (.putfield 15, 3) := by decide +kernel
theorem d_S_grow_25 : decode b_S_grow 25 = .ok (.aload_n 0, 1) := by decide +kernel
theorem d_S_grow_26 : decode b_S_grow 26 = .ok (.aload_n 0, 1) := by decide +kernel
theorem d_S_grow_27 : decode b_S_grow 27 = .ok (.getfield 19, 3) := by decide +kernel
theorem d_S_grow_30 : decode b_S_grow 30 = .ok (.iload_n 1, 1) := by decide +kernel
theorem d_S_grow_31 : decode b_S_grow 31 = .ok (.invokestatic 77, 3) := by decide +kernel
theorem d_S_grow_34 : decode b_S_grow 34 = .ok (.putfield 19, 3) := by decide +kernel
theorem d_S_grow_37 : decode b_S_grow 37 = .ok (.aload_n 0, 1) := by decide +kernel
theorem d_S_grow_38 : decode b_S_grow 38 = .ok (.aload_n 0, 1) := by decide +kernel
theorem d_S_grow_39 : decode b_S_grow 39 = .ok (.getfield 23, 3) := by decide +kernel
theorem d_S_grow_42 : decode b_S_grow 42 = .ok (.iload_n 1, 1) := by decide +kernel
theorem d_S_grow_43 : decode b_S_grow 43 = .ok (.invokestatic 80, 3) := by decide +kernel
theorem d_S_grow_46 : decode b_S_grow 46 = .ok (.putfield 23, 3) := by decide +kernel
theorem d_S_grow_49 : decode b_S_grow 49 = .ok (.aload_n 0, 1) := by decide +kernel
theorem d_S_grow_50 : decode b_S_grow 50 = .ok (.aload_n 0, 1) := by decide +kernel
theorem d_S_grow_51 : decode b_S_grow 51 = .ok (.getfield 27, 3) := by decide +kernel
theorem d_S_grow_54 : decode b_S_grow 54 = .ok (.iload_n 1, 1) := by decide +kernel
theorem d_S_grow_55 : decode b_S_grow 55 = .ok (.invokestatic 77, 3) := by decide +kernel
theorem d_S_grow_58 : decode b_S_grow 58 = .ok (.putfield 27, 3) := by decide +kernel
theorem d_S_grow_61 : decode b_S_grow 61 = .ok (.aload_n 0, 1) := by decide +kernel
theorem d_S_grow_62 : decode b_S_grow 62 = .ok (.aload_n 0, 1) := by decide +kernel
theorem d_S_grow_63 : decode b_S_grow 63 = .ok (.getfield 30, 3) := by decide +kernel
theorem d_S_grow_66 : decode b_S_grow 66 = .ok (.iload_n 1, 1) := by decide +kernel
theorem d_S_grow_67 : decode b_S_grow 67 = .ok (.invokestatic 73, 3) := by decide +kernel
theorem d_S_grow_70 : decode b_S_grow 70 = .ok (.putfield 30, 3) := by decide +kernel
theorem d_S_grow_73 : decode b_S_grow 73 = .ok (.aload_n 0, 1) := by decide +kernel
theorem d_S_grow_74 : decode b_S_grow 74 = .ok (.aload_n 0, 1) := by decide +kernel
theorem d_S_grow_75 : decode b_S_grow 75 = .ok (.getfield 33, 3) := by decide +kernel
theorem d_S_grow_78 : decode b_S_grow 78 = .ok (.arraylength, 1) := by decide +kernel
theorem d_S_grow_79 : decode b_S_grow 79 = .ok (.iconst 4, 1) := by decide +kernel
theorem d_S_grow_80 : decode b_S_grow 80 = .ok (.imul, 1) := by decide +kernel
theorem d_S_grow_81 : decode b_S_grow 81 = .ok (.newarray .int, 2) := by decide +kernel
theorem d_S_grow_83 : decode b_S_grow 83 = .ok (.putfield 33, 3) := by decide +kernel
theorem d_S_grow_86 : decode b_S_grow 86 = .ok (.iconst 1, 1) := by decide +kernel
theorem d_S_grow_87 : decode b_S_grow 87 = .ok (.istore_n 2, 1) := by decide +kernel
theorem d_S_grow_88 : decode b_S_grow 88 = .ok (.iload_n 2, 1) := by decide +kernel
theorem d_S_grow_89 : decode b_S_grow 89 = .ok (.aload_n 0, 1) := by decide +kernel
theorem d_S_grow_90 : decode b_S_grow 90 = .ok (.getfield 9, 3) := by decide +kernel
theorem d_S_grow_93 : decode b_S_grow 93 = .ok (.if_icmp .gt 31, 3) := by decide +kernel
theorem d_S_grow_96 : decode b_S_grow 96 = .ok (.aload_n 0, 1) := by decide +kernel
theorem d_S_grow_97 : decode b_S_grow 97 = .ok (.getfield 33, 3) := by decide +kernel
theorem d_S_grow_100 : decode b_S_grow 100 = .ok (.aload_n 0, 1) := by decide +kernel
theorem d_S_grow_101 : decode b_S_grow 101 = .ok (.aload_n 0, 1) := by decide +kernel
theorem d_S_grow_102 : decode b_S_grow 102 = .ok (.getfield 15, 3) := by decide +kernel
theorem d_S_grow_105 : decode b_S_grow 105 = .ok (.iload_n 2, 1) := by decide +kernel
theorem d_S_grow_106 : decode b_S_grow 106 = .ok (.iaload, 1) := by decide +kernel
theorem d_S_grow_107 : decode b_S_grow 107 = .ok (.aload_n 0, 1) := by decide +kernel
theorem d_S_grow_108 : decode b_S_grow 108 = .ok (.getfield 19, 3) := by decide +kernel
theorem d_S_grow_111 : decode b_S_grow 111 = .ok (.iload_n 2, 1) := by decide +kernel
theorem d_S_grow_112 : decode b_S_grow 112 = .ok (.laload, 1) := by decide +kernel
theorem d_S_grow_113 : decode b_S_grow 113 = .ok (.invokevirtual 41, 3) := by decide +kernel
theorem d_S_grow_116 : decode b_S_grow 116 = .ok (.iload_n 2, 1) := by decide +kernel
theorem d_S_grow_117 : decode b_S_grow 117 = .ok (.iastore, 1) := by decide +kernel
theorem d_S_grow_118 : decode b_S_grow 118 = .ok (.iinc 2 1, 3) := by decide +kernel
theorem d_S_grow_121 : decode b_S_grow 121 = .ok (.goto (-33), 3) := by decide +kernel
theorem d_S_grow_124 : decode b_S_grow 124 = .ok (.return_, 1) := by decide +kernel
theorem d_S_init_0 : decode b_S_init 0 = .ok (.aload_n 0, 1) := by decide +kernel
theorem d_S_init_1 : decode b_S_init 1 = .ok (.invokespecial 3, 3) := by decide +kernel
theorem d_S_init_4 : decode b_S_init 4 = .ok (.aload_n 0, 1) := by decide +kernel
theorem d_S_init_5 : decode b_S_init 5 = .ok (.iconst 0, 1) := by decide +kernel
theorem d_S_init_6 : decode b_S_init 6 = .ok (.putfield 9, 3) := by decide +kernel
theorem d_S_init_9 : decode b_S_init 9 = .ok (.aload_n 0, 1) := by decide +kernel
theorem d_S_init_10 : decode b_S_init 10 = .ok (.bipush 64, 2) := by decide +kernel
theorem d_S_init_12 : decode b_S_init 12 = .ok (.newarray .int, 2) := by decide +kernel
theorem d_S_init_14 : decode b_S_init 14 = .ok (.putfield 15, 3) := by decide +kernel
theorem d_S_init_17 : decode b_S_init 17 = .ok (.aload_n 0, 1) := by decide +kernel
theorem d_S_init_18 : decode b_S_init 18 = .ok (.bipush 64, 2) := by decide +kernel
theorem d_S_init_20 : decode b_S_init 20 = .ok (.newarray .long, 2) := by decide +kernel
theorem d_S_init_22 : decode b_S_init 22 = .ok (.putfield 19, 3) := by decide +kernel
theorem d_S_init_25 : decode b_S_init 25 = .ok (.aload_n 0, 1) := by decide +kernel
theorem d_S_init_26 : decode b_S_init 26 = .ok (.bipush 64, 2) := by decide +kernel
theorem d_S_init_28 : decode b_S_init 28 = .ok (.newarray .byte, 2) := by decide +kernel
theorem d_S_init_30 : decode b_S_init 30 = .ok (.putfield 23, 3) := by decide +kernel
theorem d_S_init_33 : decode b_S_init 33 = .ok (.aload_n 0, 1) := by decide +kernel
theorem d_S_init_34 : decode b_S_init 34 = .ok (.bipush 64, 2) := by decide +kernel
theorem d_S_init_36 : decode b_S_init 36 = .ok (.newarray .long, 2) := by decide +kernel
theorem d_S_init_38 : decode b_S_init 38 = .ok (.putfield 27, 3) := by decide +kernel
theorem d_S_init_41 : decode b_S_init 41 = .ok (.aload_n 0, 1) := by decide +kernel
theorem d_S_init_42 : decode b_S_init 42 = .ok (.bipush 64, 2) := by decide +kernel
theorem d_S_init_44 : decode b_S_init 44 = .ok (.newarray .int, 2) := by decide +kernel
theorem d_S_init_46 : decode b_S_init 46 = .ok (.putfield 30, 3) := by decide +kernel
theorem d_S_init_49 : decode b_S_init 49 = .ok (.aload_n 0, 1) := by decide +kernel
theorem d_S_init_50 : decode b_S_init 50 = .ok (.sipush 128, 3) := by decide +kernel
theorem d_S_init_53 : decode b_S_init 53 = .ok (.newarray .int, 2) := by decide +kernel
theorem d_S_init_55 : decode b_S_init 55 = .ok (.putfield 33, 3) := by decide +kernel
theorem d_S_init_58 : decode b_S_init 58 = .ok (.return_, 1) := by decide +kernel
theorem d_S_keyKind_0 : decode b_S_keyKind 0 = .ok (.aload_n 0, 1) := by decide +kernel
theorem d_S_keyKind_1 : decode b_S_keyKind 1 = .ok (.getfield 15, 3) := by decide +kernel
theorem d_S_keyKind_4 : decode b_S_keyKind 4 = .ok (.iload_n 1, 1) := by decide +kernel
theorem d_S_keyKind_5 : decode b_S_keyKind 5 = .ok (.iaload, 1) := by decide +kernel
theorem d_S_keyKind_6 : decode b_S_keyKind 6 = .ok (.bipush 7, 2) := by decide +kernel
theorem d_S_keyKind_8 : decode b_S_keyKind 8 = .ok (.iand, 1) := by decide +kernel
theorem d_S_keyKind_9 : decode b_S_keyKind 9 = .ok (.ireturn, 1) := by decide +kernel
theorem d_S_owner_0 : decode b_S_owner 0 = .ok (.iload_n 0, 1) := by decide +kernel
theorem d_S_owner_1 : decode b_S_owner 1 = .ok (.iconst 3, 1) := by decide +kernel
theorem d_S_owner_2 : decode b_S_owner 2 = .ok (.ishl, 1) := by decide +kernel
theorem d_S_owner_3 : decode b_S_owner 3 = .ok (.iload_n 1, 1) := by decide +kernel
theorem d_S_owner_4 : decode b_S_owner 4 = .ok (.ior, 1) := by decide +kernel
theorem d_S_owner_5 : decode b_S_owner 5 = .ok (.ireturn, 1) := by decide +kernel
theorem d_S_room_0 : decode b_S_room 0 = .ok (.ldc 36, 2) := by decide +kernel
theorem d_S_room_2 : decode b_S_room 2 = .ok (.aload_n 0, 1) := by decide +kernel
theorem d_S_room_3 : decode b_S_room 3 = .ok (.getfield 9, 3) := by decide +kernel
theorem d_S_room_6 : decode b_S_room 6 = .ok (.isub, 1) := by decide +kernel
theorem d_S_room_7 : decode b_S_room 7 = .ok (.ireturn, 1) := by decide +kernel
theorem d_S_sameValues_0 : decode b_S_sameValues 0 = .ok (.aload_n 0, 1) := by decide +kernel
theorem d_S_sameValues_1 : decode b_S_sameValues 1 = .ok (.getfield 23, 3) := by decide +kernel
theorem d_S_sameValues_4 : decode b_S_sameValues 4 = .ok (.iload_n 1, 1) := by decide +kernel
theorem d_S_sameValues_5 : decode b_S_sameValues 5 = .ok (.baload, 1) := by decide +kernel
theorem d_S_sameValues_6 : decode b_S_sameValues 6 = .ok (.aload_n 0, 1) := by decide +kernel
theorem d_S_sameValues_7 : decode b_S_sameValues 7 = .ok (.getfield 23, 3) := by decide +kernel
theorem d_S_sameValues_10 : decode b_S_sameValues 10 = .ok (.iload_n 2, 1) := by decide +kernel
theorem d_S_sameValues_11 : decode b_S_sameValues 11 = .ok (.baload, 1) := by decide +kernel
theorem d_S_sameValues_12 : decode b_S_sameValues 12 = .ok (.if_icmp .ne 23, 3) := by decide +kernel
theorem d_S_sameValues_15 : decode b_S_sameValues 15 = .ok (.aload_n 0, 1) := by decide +kernel
theorem d_S_sameValues_16 : decode b_S_sameValues 16 = .ok (.getfield 27, 3) := by decide +kernel
theorem d_S_sameValues_19 : decode b_S_sameValues 19 = .ok (.iload_n 1, 1) := by decide +kernel
theorem d_S_sameValues_20 : decode b_S_sameValues 20 = .ok (.laload, 1) := by decide +kernel
theorem d_S_sameValues_21 : decode b_S_sameValues 21 = .ok (.aload_n 0, 1) := by decide +kernel
theorem d_S_sameValues_22 : decode b_S_sameValues 22 = .ok (.getfield 27, 3) := by decide +kernel
theorem d_S_sameValues_25 : decode b_S_sameValues 25 = .ok (.iload_n 2, 1) := by decide +kernel
theorem d_S_sameValues_26 : decode b_S_sameValues 26 = .ok (.laload, 1) := by decide +kernel
theorem d_S_sameValues_27 : decode b_S_sameValues 27 = .ok (.lcmp, 1) := by decide +kernel
theorem d_S_sameValues_28 : decode b_S_sameValues 28 = .ok (.ifCond .ne 7, 3) := by decide +kernel
theorem d_S_sameValues_31 : decode b_S_sameValues 31 = .ok (.iconst 1, 1) := by decide +kernel
theorem d_S_sameValues_32 : decode b_S_sameValues 32 = .ok (.goto 4, 3) := by decide +kernel
theorem d_S_sameValues_35 : decode b_S_sameValues 35 = .ok (.iconst 0, 1) := by decide +kernel
theorem d_S_sameValues_36 : decode b_S_sameValues 36 = .ok (.ireturn, 1) := by decide +kernel
theorem d_S_scatter_0 : decode b_S_scatter 0 = .ok (.lload_n 1, 1) := by decide +kernel
theorem d_S_scatter_1 : decode b_S_scatter 1 = .ok (.ldc2_w 61, 3) := by decide +kernel
theorem d_S_scatter_4 : decode b_S_scatter 4 = .ok (.lmul, 1) := by decide +kernel
theorem d_S_scatter_5 : decode b_S_scatter 5 = .ok (.iload_n 0, 1) := by decide +kernel
theorem d_S_scatter_6 : decode b_S_scatter 6 = .ok (.i2l, 1) := by decide +kernel
theorem d_S_scatter_7 : decode b_S_scatter 7 = .ok (.ldc2_w 63, 3) := by decide +kernel
theorem d_S_scatter_10 : decode b_S_scatter 10 = .ok (.lmul, 1) := by decide +kernel
theorem d_S_scatter_11 : decode b_S_scatter 11 = .ok (.ladd, 1) := by decide +kernel
theorem d_S_scatter_12 : decode b_S_scatter 12 = .ok (.lstore_n 3, 1) := by decide +kernel
theorem d_S_scatter_13 : decode b_S_scatter 13 = .ok (.lload_n 3, 1) := by decide +kernel
theorem d_S_scatter_14 : decode b_S_scatter 14 = .ok (.lload_n 3, 1) := by decide +kernel
theorem d_S_scatter_15 : decode b_S_scatter 15 = .ok (.bipush 32, 2) := by decide +kernel
theorem d_S_scatter_17 : decode b_S_scatter 17 = .ok (.lushr, 1) := by decide +kernel
theorem d_S_scatter_18 : decode b_S_scatter 18 = .ok (.lxor, 1) := by decide +kernel
theorem d_S_scatter_19 : decode b_S_scatter 19 = .ok (.ldc2_w 65, 3) := by decide +kernel
theorem d_S_scatter_22 : decode b_S_scatter 22 = .ok (.lmul, 1) := by decide +kernel
theorem d_S_scatter_23 : decode b_S_scatter 23 = .ok (.lstore_n 3, 1) := by decide +kernel
theorem d_S_scatter_24 : decode b_S_scatter 24 = .ok (.lload_n 3, 1) := by decide +kernel
theorem d_S_scatter_25 : decode b_S_scatter 25 = .ok (.lload_n 3, 1) := by decide +kernel
theorem d_S_scatter_26 : decode b_S_scatter 26 = .ok (.bipush 32, 2) := by decide +kernel
theorem d_S_scatter_28 : decode b_S_scatter 28 = .ok (.lushr, 1) := by decide +kernel
theorem d_S_scatter_29 : decode b_S_scatter 29 = .ok (.lxor, 1) := by decide +kernel
theorem d_S_scatter_30 : decode b_S_scatter 30 = .ok (.l2i, 1) := by decide +kernel
theorem d_S_scatter_31 : decode b_S_scatter 31 = .ok (.ireturn, 1) := by decide +kernel
theorem d_S_setValue_0 : decode b_S_setValue 0 = .ok (.aload_n 0, 1) := by decide +kernel
theorem d_S_setValue_1 : decode b_S_setValue 1 = .ok (.getfield 23, 3) := by decide +kernel
theorem d_S_setValue_4 : decode b_S_setValue 4 = .ok (.iload_n 1, 1) := by decide +kernel
theorem d_S_setValue_5 : decode b_S_setValue 5 = .ok (.iload_n 2, 1) := by decide +kernel
theorem d_S_setValue_6 : decode b_S_setValue 6 = .ok (.i2b, 1) := by decide +kernel
theorem d_S_setValue_7 : decode b_S_setValue 7 = .ok (.bastore, 1) := by decide +kernel
theorem d_S_setValue_8 : decode b_S_setValue 8 = .ok (.aload_n 0, 1) := by decide +kernel
theorem d_S_setValue_9 : decode b_S_setValue 9 = .ok (.getfield 27, 3) := by decide +kernel
theorem d_S_setValue_12 : decode b_S_setValue 12 = .ok (.iload_n 1, 1) := by decide +kernel
theorem d_S_setValue_13 : decode b_S_setValue 13 = .ok (.iload_n 2, 1) := by decide +kernel
theorem d_S_setValue_14 : decode b_S_setValue 14 = .ok (.ifCond .ne 7, 3) := by decide +kernel
theorem d_S_setValue_17 : decode b_S_setValue 17 = .ok (.lconst 0, 1) := by decide +kernel
theorem d_S_setValue_18 : decode b_S_setValue 18 = .ok (.goto 4, 3) := by decide +kernel
theorem d_S_setValue_21 : decode b_S_setValue 21 = .ok (.lload_n 3, 1) := by decide +kernel
theorem d_S_setValue_22 : decode b_S_setValue 22 = .ok (.lastore, 1) := by decide +kernel
theorem d_S_setValue_23 : decode b_S_setValue 23 = .ok (.return_, 1) := by decide +kernel
theorem d_S_slotOf_0 : decode b_S_slotOf 0 = .ok (.aload_n 0, 1) := by decide +kernel
theorem d_S_slotOf_1 : decode b_S_slotOf 1 = .ok (.getfield 33, 3) := by decide +kernel
theorem d_S_slotOf_4 : decode b_S_slotOf 4 = .ok (.arraylength, 1) := by decide +kernel
theorem d_S_slotOf_5 : decode b_S_slotOf 5 = .ok (.iconst 1, 1) := by decide +kernel
theorem d_S_slotOf_6 : decode b_S_slotOf 6 = .ok (.isub, 1) := by decide +kernel
theorem d_S_slotOf_7 : decode b_S_slotOf 7 = .ok (.istore 4, 2) := by decide +kernel
theorem d_S_slotOf_9 : decode b_S_slotOf 9 = .ok (.iload_n 1, 1) := by decide +kernel
theorem d_S_slotOf_10 : decode b_S_slotOf 10 = .ok (.lload_n 2, 1) := by decide +kernel
theorem d_S_slotOf_11 : decode b_S_slotOf 11 = .ok (.invokestatic 58, 3) := by decide +kernel
theorem d_S_slotOf_14 : decode b_S_slotOf 14 = .ok (.iload 4, 2) := by decide +kernel
theorem d_S_slotOf_16 : decode b_S_slotOf 16 = .ok (.iand, 1) := by decide +kernel
theorem d_S_slotOf_17 : decode b_S_slotOf 17 = .ok (.istore 5, 2) := by decide +kernel
theorem d_S_slotOf_19 : decode b_S_slotOf 19 = .ok (.iconst 0, 1) := by decide +kernel
theorem d_S_slotOf_20 : decode b_S_slotOf 20 = .ok (.istore 6, 2) := by decide +kernel
theorem d_S_slotOf_22 : decode b_S_slotOf 22 = .ok (.iload 6, 2) := by decide +kernel
theorem d_S_slotOf_24 : decode b_S_slotOf 24 = .ok (.iload 4, 2) := by decide +kernel
theorem d_S_slotOf_26 : decode b_S_slotOf 26 = .ok (.if_icmp .gt 58, 3) := by decide +kernel
theorem d_S_slotOf_29 : decode b_S_slotOf 29 = .ok (.aload_n 0, 1) := by decide +kernel
theorem d_S_slotOf_30 : decode b_S_slotOf 30 = .ok (.getfield 33, 3) := by decide +kernel
theorem d_S_slotOf_33 : decode b_S_slotOf 33 = .ok (.iload 5, 2) := by decide +kernel
theorem d_S_slotOf_35 : decode b_S_slotOf 35 = .ok (.iaload, 1) := by decide +kernel
theorem d_S_slotOf_36 : decode b_S_slotOf 36 = .ok (.istore 7, 2) := by decide +kernel
theorem d_S_slotOf_38 : decode b_S_slotOf 38 = .ok (.iload 7, 2) := by decide +kernel
theorem d_S_slotOf_40 : decode b_S_slotOf 40 = .ok (.ifCond .eq 26, 3) := by decide +kernel
theorem d_S_slotOf_43 : decode b_S_slotOf 43 = .ok (.aload_n 0, 1) := by decide +kernel
theorem d_S_slotOf_44 : decode b_S_slotOf 44 = .ok (.getfield 19, 3) := by decide +kernel
theorem d_S_slotOf_47 : decode b_S_slotOf 47 = .ok (.iload 7, 2) := by decide +kernel
theorem d_S_slotOf_49 : decode b_S_slotOf 49 = .ok (.laload, 1) := by decide +kernel
theorem d_S_slotOf_50 : decode b_S_slotOf 50 = .ok (.lload_n 2, 1) := by decide +kernel
theorem d_S_slotOf_51 : decode b_S_slotOf 51 = .ok (.lcmp, 1) := by decide +kernel
theorem d_S_slotOf_52 : decode b_S_slotOf 52 = .ok (.ifCond .ne 17, 3) := by decide +kernel
theorem d_S_slotOf_55 : decode b_S_slotOf 55 = .ok (.aload_n 0, 1) := by decide +kernel
theorem d_S_slotOf_56 : decode b_S_slotOf 56 = .ok (.getfield 15, 3) := by decide +kernel
theorem d_S_slotOf_59 : decode b_S_slotOf 59 = .ok (.iload 7, 2) := by decide +kernel
theorem d_S_slotOf_61 : decode b_S_slotOf 61 = .ok (.iaload, 1) := by decide +kernel
theorem d_S_slotOf_62 : decode b_S_slotOf 62 = .ok (.iload_n 1, 1) := by decide +kernel
theorem d_S_slotOf_63 : decode b_S_slotOf 63 = .ok (.if_icmp .ne 6, 3) := by decide +kernel
theorem d_S_slotOf_66 : decode b_S_slotOf 66 = .ok (.iload 5, 2) := by decide +kernel
theorem d_S_slotOf_68 : decode b_S_slotOf 68 = .ok (.ireturn, 1) := by decide +kernel
theorem d_S_slotOf_69 : decode b_S_slotOf 69 = .ok (.iload 5, 2) := by decide +kernel
theorem d_S_slotOf_71 : decode b_S_slotOf 71 = .ok (.iconst 1, 1) := by decide +kernel
theorem d_S_slotOf_72 : decode b_S_slotOf 72 = .ok (.iadd, 1) := by decide +kernel
theorem d_S_slotOf_73 : decode b_S_slotOf 73 = .ok (.iload 4, 2) := by decide +kernel
theorem d_S_slotOf_75 : decode b_S_slotOf 75 = .ok (.iand, 1) := by decide +kernel
theorem d_S_slotOf_76 : decode b_S_slotOf 76 = .ok (.istore 5, 2) := by decide +kernel
theorem d_S_slotOf_78 : decode b_S_slotOf 78 = .ok (.iinc 6 1, 3) := by decide +kernel
theorem d_S_slotOf_81 : decode b_S_slotOf 81 = .ok (.goto (-59), 3) := by decide +kernel
theorem d_S_slotOf_84 : decode b_S_slotOf 84 = .ok (.iload 5, 2) := by decide +kernel
theorem d_S_slotOf_86 : decode b_S_slotOf 86 = .ok (.ireturn, 1) := by decide +kernel
theorem d_S_swapValues_0 : decode b_S_swapValues 0 = .ok (.aload_n 0, 1) := by decide +kernel
theorem d_S_swapValues_1 : decode b_S_swapValues 1 = .ok (.getfield 23, 3) := by decide +kernel
theorem d_S_swapValues_4 : decode b_S_swapValues 4 = .ok (.iload_n 1, 1) := by decide +kernel
theorem d_S_swapValues_5 : decode b_S_swapValues 5 = .ok (.baload, 1) := by decide +kernel
theorem d_S_swapValues_6 : decode b_S_swapValues 6 = .ok (.istore_n 3, 1) := by decide +kernel
theorem d_S_swapValues_7 : decode b_S_swapValues 7 = .ok (.aload_n 0, 1) := by decide +kernel
theorem d_S_swapValues_8 : decode b_S_swapValues 8 = .ok (.getfield 27, 3) := by decide +kernel
theorem d_S_swapValues_11 : decode b_S_swapValues 11 = .ok (.iload_n 1, 1) := by decide +kernel
theorem d_S_swapValues_12 : decode b_S_swapValues 12 = .ok (.laload, 1) := by decide +kernel
theorem d_S_swapValues_13 : decode b_S_swapValues 13 = .ok (.lstore 4, 2) := by decide +kernel
theorem d_S_swapValues_15 : decode b_S_swapValues 15 = .ok (.aload_n 0, 1) := by decide +kernel
theorem d_S_swapValues_16 : decode b_S_swapValues 16 = .ok (.iload_n 1, 1) := by decide +kernel
theorem d_S_swapValues_17 : decode b_S_swapValues 17 = .ok (.iload_n 2, 1) := by decide +kernel
theorem d_S_swapValues_18 : decode b_S_swapValues 18 = .ok (.invokevirtual 48, 3) := by decide +kernel
theorem d_S_swapValues_21 : decode b_S_swapValues 21 = .ok (.aload_n 0, 1) := by decide +kernel
theorem d_S_swapValues_22 : decode b_S_swapValues 22 = .ok (.getfield 23, 3) := by decide +kernel
theorem d_S_swapValues_25 : decode b_S_swapValues 25 = .ok (.iload_n 2, 1) := by decide +kernel
theorem d_S_swapValues_26 : decode b_S_swapValues 26 = .ok (.iload_n 3, 1) := by decide +kernel
theorem d_S_swapValues_27 : decode b_S_swapValues 27 = .ok (.bastore, 1) := by decide +kernel
theorem d_S_swapValues_28 : decode b_S_swapValues 28 = .ok (.aload_n 0, 1) := by decide +kernel
theorem d_S_swapValues_29 : decode b_S_swapValues 29 = .ok (.getfield 27, 3) := by decide +kernel
theorem d_S_swapValues_32 : decode b_S_swapValues 32 = .ok (.iload_n 2, 1) := by decide +kernel
theorem d_S_swapValues_33 : decode b_S_swapValues 33 = .ok (.lload 4, 2) := by decide +kernel
theorem d_S_swapValues_35 : decode b_S_swapValues 35 = .ok (.lastore, 1) := by decide +kernel
theorem d_S_swapValues_36 : decode b_S_swapValues 36 = .ok (.return_, 1) := by decide +kernel
end
section
theorem d_T_forget_0 : decode b_T_forget 0 = .ok (.aload_n 0, 1) := by decide +kernel
theorem d_T_forget_1 : decode b_T_forget 1 = .ok (.iconst 0, 1) := by decide +kernel
theorem d_T_forget_2 : decode b_T_forget 2 = .ok (.putfield 9, 3) := by decide +kernel
theorem d_T_forget_5 : decode b_T_forget 5 = .ok (.return_, 1) := by decide +kernel
theorem d_T_grow_0 : decode b_T_grow 0 = .ok (.aload_n 0, 1) := by decide +kernel
theorem d_T_grow_1 : decode b_T_grow 1 = .ok (.getfield 15, 3) := by decide +kernel
theorem d_T_grow_4 : decode b_T_grow 4 = .ok (.arraylength, 1) := by decide +kernel
theorem d_T_grow_5 : decode b_T_grow 5 = .ok (.iconst 2, 1) := by decide +kernel
theorem d_T_grow_6 : decode b_T_grow 6 = .ok (.imul, 1) := by decide +kernel
theorem d_T_grow_7 : decode b_T_grow 7 = .ok (.sipush 30001, 3) := by decide +kernel
theorem d_T_grow_10 : decode b_T_grow 10 = .ok (.invokestatic 34, 3) := by decide +kernel
theorem d_T_grow_13 : decode b_T_grow 13 = .ok (.istore_n 1, 1) := by decide +kernel
theorem d_T_grow_14 : decode b_T_grow 14 = .ok (.aload_n 0, 1) := by decide +kernel
theorem d_T_grow_15 : decode b_T_grow 15 = .ok (.aload_n 0, 1) := by decide +kernel
theorem d_T_grow_16 : decode b_T_grow 16 = .ok (.getfield 15, 3) := by decide +kernel
theorem d_T_grow_19 : decode b_T_grow 19 = .ok (.iload_n 1, 1) := by decide +kernel
theorem d_T_grow_20 : decode b_T_grow 20 = .ok (.invokestatic 40, 3) := by decide +kernel
theorem d_T_grow_23 : decode b_T_grow 23 = .ok (.putfield 15, 3) := by decide +kernel
theorem d_T_grow_26 : decode b_T_grow 26 = .ok (.aload_n 0, 1) := by decide +kernel
theorem d_T_grow_27 : decode b_T_grow 27 = .ok (.aload_n 0, 1) := by decide +kernel
theorem d_T_grow_28 : decode b_T_grow 28 = .ok (.getfield 19, 3) := by decide +kernel
theorem d_T_grow_31 : decode b_T_grow 31 = .ok (.iload_n 1, 1) := by decide +kernel
theorem d_T_grow_32 : decode b_T_grow 32 = .ok (.invokestatic 40, 3) := by decide +kernel
theorem d_T_grow_35 : decode b_T_grow 35 = .ok (.putfield 19, 3) := by decide +kernel
theorem d_T_grow_38 : decode b_T_grow 38 = .ok (.aload_n 0, 1) := by decide +kernel
theorem d_T_grow_39 : decode b_T_grow 39 = .ok (.aload_n 0, 1) := by decide +kernel
theorem d_T_grow_40 : decode b_T_grow 40 = .ok (.getfield 22, 3) := by decide +kernel
theorem d_T_grow_43 : decode b_T_grow 43 = .ok (.iload_n 1, 1) := by decide +kernel
theorem d_T_grow_44 : decode b_T_grow 44 = .ok (.invokestatic 40, 3) := by decide +kernel
theorem d_T_grow_47 : decode b_T_grow 47 = .ok (.putfield 22, 3) := by decide +kernel
theorem d_T_grow_50 : decode b_T_grow 50 = .ok (.aload_n 0, 1) := by decide +kernel
theorem d_T_grow_51 : decode b_T_grow 51 = .ok (.aload_n 0, 1) := by decide +kernel
theorem d_T_grow_52 : decode b_T_grow 52 = .ok (.getfield 25, 3) := by decide +kernel
theorem d_T_grow_55 : decode b_T_grow 55 = .ok (.iload_n 1, 1) := by decide +kernel
theorem d_T_grow_56 : decode b_T_grow 56 = .ok (.invokestatic 40, 3) := by decide +kernel
theorem d_T_grow_59 : decode b_T_grow 59 = .ok (.putfield 25, 3) := by decide +kernel
theorem d_T_grow_62 : decode b_T_grow 62 = .ok (.aload_n 0, 1) := by decide +kernel
theorem d_T_grow_63 : decode b_T_grow 63 = .ok (.aload_n 0, 1) := by decide +kernel
theorem d_T_grow_64 : decode b_T_grow 64 = .ok (.getfield 28, 3) := by decide +kernel
theorem d_T_grow_67 : decode b_T_grow 67 = .ok (.iload_n 1, 1) := by decide +kernel
theorem d_T_grow_68 : decode b_T_grow 68 = .ok (.invokestatic 40, 3) := by decide +kernel
theorem d_T_grow_71 : decode b_T_grow 71 = .ok (.putfield 28, 3) := by decide +kernel
theorem d_T_grow_74 : decode b_T_grow 74 = .ok (.return_, 1) := by decide +kernel
theorem d_T_has_0 : decode b_T_has 0 = .ok (.iload_n 1, 1) := by decide +kernel
theorem d_T_has_1 : decode b_T_has 1 = .ok (.iconst 1, 1) := by decide +kernel
theorem d_T_has_2 : decode b_T_has 2 = .ok (.if_icmp .lt 15, 3) := by decide +kernel
theorem d_T_has_5 : decode b_T_has 5 = .ok (.iload_n 1, 1) := by decide +kernel
theorem d_T_has_6 : decode b_T_has 6 = .ok (.aload_n 0, 1) := by decide +kernel
theorem d_T_has_7 : decode b_T_has 7 = .ok (.getfield 9, 3) := by decide +kernel
theorem d_T_has_10 : decode b_T_has 10 = .ok (.if_icmp .gt 7, 3) := by decide +kernel
theorem d_T_has_13 : decode b_T_has 13 = .ok (.iconst 1, 1) := by decide +kernel
theorem d_T_has_14 : decode b_T_has 14 = .ok (.goto 4, 3) := by decide +kernel
theorem d_T_has_17 : decode b_T_has 17 = .ok (.iconst 0, 1) := by decide +kernel
theorem d_T_has_18 : decode b_T_has 18 = .ok (.ireturn, 1) := by decide +kernel
theorem d_T_init_0 : decode b_T_init 0 = .ok (.aload_n 0, 1) := by decide +kernel
theorem d_T_init_1 : decode b_T_init 1 = .ok (.invokespecial 3, 3) := by decide +kernel
theorem d_T_init_4 : decode b_T_init 4 = .ok (.aload_n 0, 1) := by decide +kernel
theorem d_T_init_5 : decode b_T_init 5 = .ok (.iconst 0, 1) := by decide +kernel
theorem d_T_init_6 : decode b_T_init 6 = .ok (.putfield 9, 3) := by decide +kernel
theorem d_T_init_9 : decode b_T_init 9 = .ok (.aload_n 0, 1) := by decide +kernel
theorem d_T_init_10 : decode b_T_init 10 = .ok (.bipush 16, 2) := by decide +kernel
theorem d_T_init_12 : decode b_T_init 12 = .ok (.newarray .int, 2) := by decide +kernel
theorem d_T_init_14 : decode b_T_init 14 = .ok (.putfield 15, 3) := by decide +kernel
theorem d_T_init_17 : decode b_T_init 17 = .ok (.aload_n 0, 1) := by decide +kernel
theorem d_T_init_18 : decode b_T_init 18 = .ok (.bipush 16, 2) := by decide +kernel
theorem d_T_init_20 : decode b_T_init 20 = .ok (.newarray .int, 2) := by decide +kernel
theorem d_T_init_22 : decode b_T_init 22 = .ok (.putfield 19, 3) := by decide +kernel
theorem d_T_init_25 : decode b_T_init 25 = .ok (.aload_n 0, 1) := by decide +kernel
theorem d_T_init_26 : decode b_T_init 26 = .ok (.bipush 16, 2) := by decide +kernel
theorem d_T_init_28 : decode b_T_init 28 = .ok (.newarray .int, 2) := by decide +kernel
theorem d_T_init_30 : decode b_T_init 30 = .ok (.putfield 22, 3) := by decide +kernel
theorem d_T_init_33 : decode b_T_init 33 = .ok (.aload_n 0, 1) := by decide +kernel
theorem d_T_init_34 : decode b_T_init 34 = .ok (.bipush 16, 2) := by decide +kernel
theorem d_T_init_36 : decode b_T_init 36 = .ok (.newarray .int, 2) := by decide +kernel
theorem d_T_init_38 : decode b_T_init 38 = .ok (.putfield 25, 3) := by decide +kernel
theorem d_T_init_41 : decode b_T_init 41 = .ok (.aload_n 0, 1) := by decide +kernel
theorem d_T_init_42 : decode b_T_init 42 = .ok (.bipush 16, 2) := by decide +kernel
theorem d_T_init_44 : decode b_T_init 44 = .ok (.newarray .int, 2) := by decide +kernel
theorem d_T_init_46 : decode b_T_init 46 = .ok (.putfield 28, 3) := by decide +kernel
theorem d_T_init_49 : decode b_T_init 49 = .ok (.return_, 1) := by decide +kernel
theorem d_T_open_0 : decode b_T_open 0 = .ok (.aload_n 0, 1) := by decide +kernel
theorem d_T_open_1 : decode b_T_open 1 = .ok (.getfield 9, 3) := by decide +kernel
theorem d_T_open_4 : decode b_T_open 4 = .ok (.iconst 1, 1) := by decide +kernel
theorem d_T_open_5 : decode b_T_open 5 = .ok (.iadd, 1) := by decide +kernel
theorem d_T_open_6 : decode b_T_open 6 = .ok (.aload_n 0, 1) := by decide +kernel
theorem d_T_open_7 : decode b_T_open 7 = .ok (.getfield 15, 3) := by decide +kernel
theorem d_T_open_10 : decode b_T_open 10 = .ok (.arraylength, 1) := by decide +kernel
theorem d_T_open_11 : decode b_T_open 11 = .ok (.if_icmp .lt 7, 3) := by decide +kernel
theorem d_T_open_14 : decode b_T_open 14 = .ok (.aload_n 0, 1) := by decide +kernel
theorem d_T_open_15 : decode b_T_open 15 = .ok (.invokevirtual 31, 3) := by decide +kernel
theorem d_T_open_18 : decode b_T_open 18 = .ok (.aload_n 0, 1) := by decide +kernel
theorem d_T_open_19 : decode b_T_open 19 = .ok (.dup, 1) := by decide +kernel
theorem d_T_open_20 : decode b_T_open 20 = .ok (.getfield 9, 3) := by decide +kernel
theorem d_T_open_23 : decode b_T_open 23 = .ok (.iconst 1, 1) := by decide +kernel
theorem d_T_open_24 : decode b_T_open 24 = .ok (.iadd, 1) := by decide +kernel
theorem d_T_open_25 : decode b_T_open 25 = .ok (.putfield 9, 3) := by decide +kernel
theorem d_T_open_28 : decode b_T_open 28 = .ok (.aload_n 0, 1) := by decide +kernel
theorem d_T_open_29 : decode b_T_open 29 = .ok (.getfield 15, 3) := by decide +kernel
theorem d_T_open_32 : decode b_T_open 32 = .ok (.aload_n 0, 1) := by decide +kernel
theorem d_T_open_33 : decode b_T_open 33 = .ok (.getfield 9, 3) := by decide +kernel
theorem d_T_open_36 : decode b_T_open 36 = .ok (.iconst 0, 1) := by decide +kernel
theorem d_T_open_37 : decode b_T_open 37 = .ok (.iastore, 1) := by decide +kernel
theorem d_T_open_38 : decode b_T_open 38 = .ok (.aload_n 0, 1) := by decide +kernel
theorem d_T_open_39 : decode b_T_open 39 = .ok (.getfield 19, 3) := by decide +kernel
theorem d_T_open_42 : decode b_T_open 42 = .ok (.aload_n 0, 1) := by decide +kernel
theorem d_T_open_43 : decode b_T_open 43 = .ok (.getfield 9, 3) := by decide +kernel
theorem d_T_open_46 : decode b_T_open 46 = .ok (.iconst 0, 1) := by decide +kernel
theorem d_T_open_47 : decode b_T_open 47 = .ok (.iastore, 1) := by decide +kernel
theorem d_T_open_48 : decode b_T_open 48 = .ok (.aload_n 0, 1) := by decide +kernel
theorem d_T_open_49 : decode b_T_open 49 = .ok (.getfield 22, 3) := by decide +kernel
theorem d_T_open_52 : decode b_T_open 52 = .ok (.aload_n 0, 1) := by decide +kernel
theorem d_T_open_53 : decode b_T_open 53 = .ok (.getfield 9, 3) := by decide +kernel
theorem d_T_open_56 : decode b_T_open 56 = .ok (.iconst 0, 1) := by decide +kernel
theorem d_T_open_57 : decode b_T_open 57 = .ok (.iastore, 1) := by decide +kernel
theorem d_T_open_58 : decode b_T_open 58 = .ok (.aload_n 0, 1) := by decide +kernel
theorem d_T_open_59 : decode b_T_open 59 = .ok (.getfield 25, 3) := by decide +kernel
theorem d_T_open_62 : decode b_T_open 62 = .ok (.aload_n 0, 1) := by decide +kernel
theorem d_T_open_63 : decode b_T_open 63 = .ok (.getfield 9, 3) := by decide +kernel
theorem d_T_open_66 : decode b_T_open 66 = .ok (.iconst 0, 1) := by decide +kernel
theorem d_T_open_67 : decode b_T_open 67 = .ok (.iastore, 1) := by decide +kernel
theorem d_T_open_68 : decode b_T_open 68 = .ok (.aload_n 0, 1) := by decide +kernel
theorem d_T_open_69 : decode b_T_open 69 = .ok (.getfield 28, 3) := by decide +kernel
theorem d_T_open_72 : decode b_T_open 72 = .ok (.aload_n 0, 1) := by decide +kernel
theorem d_T_open_73 : decode b_T_open 73 = .ok (.getfield 9, 3) := by decide +kernel
theorem d_T_open_76 : decode b_T_open 76 = .ok (.iconst 0, 1) := by decide +kernel
theorem d_T_open_77 : decode b_T_open 77 = .ok (.iastore, 1) := by decide +kernel
theorem d_T_open_78 : decode b_T_open 78 = .ok (.aload_n 0, 1) := by decide +kernel
theorem d_T_open_79 : decode b_T_open 79 = .ok (.getfield 9, 3) := by decide +kernel
theorem d_T_open_82 : decode b_T_open 82 = .ok (.ireturn, 1) := by decide +kernel
end
section
theorem d_F_all_0 : decode b_F_all 0 = .ok (.aload_n 0, 1) := by decide +kernel
theorem d_F_all_1 : decode b_F_all 1 = .ok (.getfield 19, 3) := by decide +kernel
theorem d_F_all_4 : decode b_F_all 4 = .ok (.getfield 130, 3) := by decide +kernel
theorem d_F_all_7 : decode b_F_all 7 = .ok (.ireturn, 1) := by decide +kernel
theorem d_F_append_0 : decode b_F_append 0 = .ok (.aload_n 0, 1) := by decide +kernel
theorem d_F_append_1 : decode b_F_append 1 = .ok (.getfield 10, 3) := by decide +kernel
theorem d_F_append_4 : decode b_F_append 4 = .ok (.getfield 149, 3) := by decide +kernel
theorem d_F_append_7 : decode b_F_append 7 = .ok (.iload_n 1, 1) := by decide +kernel
theorem d_F_append_8 : decode b_F_append 8 = .ok (.iaload, 1) := by decide +kernel
theorem d_F_append_9 : decode b_F_append 9 = .ok (.istore_n 3, 1) := by decide +kernel
theorem d_F_append_10 : decode b_F_append 10 = .ok (.iload_n 3, 1) := by decide +kernel
theorem d_F_append_11 : decode b_F_append 11 = .ok (.ifCond .ne 16, 3) := by decide +kernel
theorem d_F_append_14 : decode b_F_append 14 = .ok (.aload_n 0, 1) := by decide +kernel
theorem d_F_append_15 : decode b_F_append 15 = .ok (.getfield 10, 3) := by decide +kernel
theorem d_F_append_18 : decode b_F_append 18 = .ok (.getfield 77, 3) := by decide +kernel
theorem d_F_append_21 : decode b_F_append 21 = .ok (.iload_n 1, 1) := by decide +kernel
theorem d_F_append_22 : decode b_F_append 22 = .ok (.iload_n 2, 1) := by decide +kernel
theorem d_F_append_23 : decode b_F_append 23 = .ok (.iastore, 1) := by decide +kernel
theorem d_F_append_24 : decode b_F_append 24 = .ok (.goto 13, 3) := by decide +kernel
theorem d_F_append_27 : decode b_F_append 27 = .ok (.aload_n 0, 1) := by decide +kernel
theorem d_F_append_28 : decode b_F_append 28 = .ok (.getfield 19, 3) := by decide +kernel
theorem d_F_append_31 : decode b_F_append 31 = .ok (.getfield 80, 3) := by decide +kernel
theorem d_F_append_34 : decode b_F_append 34 = .ok (.iload_n 3, 1) := by decide +kernel
theorem d_F_append_35 : decode b_F_append 35 = .ok (.iload_n 2, 1) := by decide +kernel
theorem d_F_append_36 : decode b_F_append 36 = .ok (.iastore, 1) := by decide +kernel
theorem d_F_append_37 : decode b_F_append 37 = .ok (.aload_n 0, 1) := by decide +kernel
theorem d_F_append_38 : decode b_F_append 38 = .ok (.getfield 10, 3) := by decide +kernel
theorem d_F_append_41 : decode b_F_append 41 = .ok (.getfield 149, 3) := by decide +kernel
theorem d_F_append_44 : decode b_F_append 44 = .ok (.iload_n 1, 1) := by decide +kernel
theorem d_F_append_45 : decode b_F_append 45 = .ok (.iload_n 2, 1) := by decide +kernel
theorem d_F_append_46 : decode b_F_append 46 = .ok (.iastore, 1) := by decide +kernel
theorem d_F_append_47 : decode b_F_append 47 = .ok (.aload_n 0, 1) := by decide +kernel
theorem d_F_append_48 : decode b_F_append 48 = .ok (.getfield 10, 3) := by decide +kernel
theorem d_F_append_51 : decode b_F_append 51 = .ok (.getfield 71, 3) := by decide +kernel
theorem d_F_append_54 : decode b_F_append 54 = .ok (.iload_n 1, 1) := by decide +kernel
theorem d_F_append_55 : decode b_F_append 55 = .ok (.dup2, 1) := by decide +kernel
theorem d_F_append_56 : decode b_F_append 56 = .ok (.iaload, 1) := by decide +kernel
theorem d_F_append_57 : decode b_F_append 57 = .ok (.iconst 1, 1) := by decide +kernel
theorem d_F_append_58 : decode b_F_append 58 = .ok (.iadd, 1) := by decide +kernel
theorem d_F_append_59 : decode b_F_append 59 = .ok (.iastore, 1) := by decide +kernel
theorem d_F_append_60 : decode b_F_append 60 = .ok (.return_, 1) := by decide +kernel
theorem d_F_border_0 : decode b_F_border 0 = .ok (.aload_n 0, 1) := by decide +kernel
theorem d_F_border_1 : decode b_F_border 1 = .ok (.getfield 10, 3) := by decide +kernel
theorem d_F_border_4 : decode b_F_border 4 = .ok (.iload_n 1, 1) := by decide +kernel
theorem d_F_border_5 : decode b_F_border 5 = .ok (.invokevirtual 38, 3) := by decide +kernel
theorem d_F_border_8 : decode b_F_border 8 = .ok (.ifCond .eq 15, 3) := by decide +kernel
theorem d_F_border_11 : decode b_F_border 11 = .ok (.aload_n 0, 1) := by decide +kernel
theorem d_F_border_12 : decode b_F_border 12 = .ok (.getfield 10, 3) := by decide +kernel
theorem d_F_border_15 : decode b_F_border 15 = .ok (.getfield 67, 3) := by decide +kernel
theorem d_F_border_18 : decode b_F_border 18 = .ok (.iload_n 1, 1) := by decide +kernel
theorem d_F_border_19 : decode b_F_border 19 = .ok (.iaload, 1) := by decide +kernel
theorem d_F_border_20 : decode b_F_border 20 = .ok (.goto 4, 3) := by decide +kernel
theorem d_F_border_23 : decode b_F_border 23 = .ok (.iconst (-1), 1) := by decide +kernel
theorem d_F_border_24 : decode b_F_border 24 = .ok (.ireturn, 1) := by decide +kernel
theorem d_F_change_0 : decode b_F_change 0 = .ok (.aload_n 0, 1) := by decide +kernel
theorem d_F_change_1 : decode b_F_change 1 = .ok (.getfield 19, 3) := by decide +kernel
theorem d_F_change_4 : decode b_F_change 4 = .ok (.getfield 59, 3) := by decide +kernel
theorem d_F_change_7 : decode b_F_change 7 = .ok (.iload_n 2, 1) := by decide +kernel
theorem d_F_change_8 : decode b_F_change 8 = .ok (.baload, 1) := by decide +kernel
theorem d_F_change_9 : decode b_F_change 9 = .ok (.ifCond .eq 7, 3) := by decide +kernel
theorem d_F_change_12 : decode b_F_change 12 = .ok (.iconst 1, 1) := by decide +kernel
theorem d_F_change_13 : decode b_F_change 13 = .ok (.goto 4, 3) := by decide +kernel
theorem d_F_change_16 : decode b_F_change 16 = .ok (.iconst 0, 1) := by decide +kernel
theorem d_F_change_17 : decode b_F_change 17 = .ok (.istore 6, 2) := by decide +kernel
theorem d_F_change_19 : decode b_F_change 19 = .ok (.iload_n 3, 1) := by decide +kernel
theorem d_F_change_20 : decode b_F_change 20 = .ok (.ifCond .eq 7, 3) := by decide +kernel
theorem d_F_change_23 : decode b_F_change 23 = .ok (.iconst 1, 1) := by decide +kernel
theorem d_F_change_24 : decode b_F_change 24 = .ok (.goto 4, 3) := by decide +kernel
theorem d_F_change_27 : decode b_F_change 27 = .ok (.iconst 0, 1) := by decide +kernel
theorem d_F_change_28 : decode b_F_change 28 = .ok (.istore 7, 2) := by decide +kernel
theorem d_F_change_30 : decode b_F_change 30 = .ok (.aload_n 0, 1) := by decide +kernel
theorem d_F_change_31 : decode b_F_change 31 = .ok (.getfield 19, 3) := by decide +kernel
theorem d_F_change_34 : decode b_F_change 34 = .ok (.iload_n 2, 1) := by decide +kernel
theorem d_F_change_35 : decode b_F_change 35 = .ok (.iload_n 3, 1) := by decide +kernel
theorem d_F_change_36 : decode b_F_change 36 = .ok (.lload 4, 2) := by decide +kernel
theorem d_F_change_38 : decode b_F_change 38 = .ok (.invokevirtual 152, 3) := by decide +kernel
theorem d_F_change_41 : decode b_F_change 41 = .ok (.iload 6, 2) := by decide +kernel
theorem d_F_change_43 : decode b_F_change 43 = .ok (.iload 7, 2) := by decide +kernel
theorem d_F_change_45 : decode b_F_change 45 = .ok (.if_icmp .ne 4, 3) := by decide +kernel
theorem d_F_change_48 : decode b_F_change 48 = .ok (.return_, 1) := by decide +kernel
theorem d_F_change_49 : decode b_F_change 49 = .ok (.aload_n 0, 1) := by decide +kernel
theorem d_F_change_50 : decode b_F_change 50 = .ok (.getfield 10, 3) := by decide +kernel
theorem d_F_change_53 : decode b_F_change 53 = .ok (.getfield 74, 3) := by decide +kernel
theorem d_F_change_56 : decode b_F_change 56 = .ok (.iload_n 1, 1) := by decide +kernel
theorem d_F_change_57 : decode b_F_change 57 = .ok (.dup2, 1) := by decide +kernel
theorem d_F_change_58 : decode b_F_change 58 = .ok (.iaload, 1) := by decide +kernel
theorem d_F_change_59 : decode b_F_change 59 = .ok (.iload 7, 2) := by decide +kernel
theorem d_F_change_61 : decode b_F_change 61 = .ok (.ifCond .eq 7, 3) := by decide +kernel
theorem d_F_change_64 : decode b_F_change 64 = .ok (.iconst 1, 1) := by decide +kernel
theorem d_F_change_65 : decode b_F_change 65 = .ok (.goto 4, 3) := by decide +kernel
theorem d_F_change_68 : decode b_F_change 68 = .ok (.iconst (-1), 1) := by decide +kernel
theorem d_F_change_69 : decode b_F_change 69 = .ok (.iadd, 1) := by decide +kernel
theorem d_F_change_70 : decode b_F_change 70 = .ok (.iastore, 1) := by decide +kernel
theorem d_F_change_71 : decode b_F_change 71 = .ok (.aload_n 0, 1) := by decide +kernel
theorem d_F_change_72 : decode b_F_change 72 = .ok (.getfield 19, 3) := by decide +kernel
theorem d_F_change_75 : decode b_F_change 75 = .ok (.iload_n 2, 1) := by decide +kernel
theorem d_F_change_76 : decode b_F_change 76 = .ok (.invokevirtual 124, 3) := by decide +kernel
theorem d_F_change_79 : decode b_F_change 79 = .ok (.iconst 3, 1) := by decide +kernel
theorem d_F_change_80 : decode b_F_change 80 = .ok (.if_icmp .eq 4, 3) := by decide +kernel
theorem d_F_change_83 : decode b_F_change 83 = .ok (.return_, 1) := by decide +kernel
theorem d_F_change_84 : decode b_F_change 84 = .ok (.iload 7, 2) := by decide +kernel
theorem d_F_change_86 : decode b_F_change 86 = .ok (.ifCond .eq 20, 3) := by decide +kernel
theorem d_F_change_89 : decode b_F_change 89 = .ok (.aload_n 0, 1) := by decide +kernel
theorem d_F_change_90 : decode b_F_change 90 = .ok (.iload_n 1, 1) := by decide +kernel
theorem d_F_change_91 : decode b_F_change 91 = .ok (.aload_n 0, 1) := by decide +kernel
theorem d_F_change_92 : decode b_F_change 92 = .ok (.getfield 19, 3) := by decide +kernel
theorem d_F_change_95 : decode b_F_change 95 = .ok (.getfield 127, 3) := by decide +kernel
theorem d_F_change_98 : decode b_F_change 98 = .ok (.iload_n 2, 1) := by decide +kernel
theorem d_F_change_99 : decode b_F_change 99 = .ok (.laload, 1) := by decide +kernel
theorem d_F_change_100 : decode b_F_change 100 = .ok (.invokevirtual 156, 3) := by decide +kernel
theorem d_F_change_103 : decode b_F_change 103 = .ok (.goto 17, 3) := by decide +kernel
theorem d_F_change_106 : decode b_F_change 106 = .ok (.aload_n 0, 1) := by decide +kernel
theorem d_F_change_107 : decode b_F_change 107 = .ok (.iload_n 1, 1) := by decide +kernel
theorem d_F_change_108 : decode b_F_change 108 = .ok (.aload_n 0, 1) := by decide +kernel
theorem d_F_change_109 : decode b_F_change 109 = .ok (.getfield 19, 3) := by decide +kernel
theorem d_F_change_112 : decode b_F_change 112 = .ok (.getfield 127, 3) := by decide +kernel
theorem d_F_change_115 : decode b_F_change 115 = .ok (.iload_n 2, 1) := by decide +kernel
theorem d_F_change_116 : decode b_F_change 116 = .ok (.laload, 1) := by decide +kernel
theorem d_F_change_117 : decode b_F_change 117 = .ok (.invokevirtual 160, 3) := by decide +kernel
theorem d_F_change_120 : decode b_F_change 120 = .ok (.return_, 1) := by decide +kernel
theorem d_F_clear_0 : decode b_F_clear 0 = .ok (.aload_n 0, 1) := by decide +kernel
theorem d_F_clear_1 : decode b_F_clear 1 = .ok (.iload_n 1, 1) := by decide +kernel
theorem d_F_clear_2 : decode b_F_clear 2 = .ok (.lload_n 2, 1) := by decide +kernel
theorem d_F_clear_3 : decode b_F_clear 3 = .ok (.iload 4, 2) := by decide +kernel
theorem d_F_clear_5 : decode b_F_clear 5 = .ok (.iload 5, 2) := by decide +kernel
theorem d_F_clear_7 : decode b_F_clear 7 = .ok (.invokevirtual 91, 3) := by decide +kernel
theorem d_F_clear_10 : decode b_F_clear 10 = .ok (.ifCond .ne 5, 3) := by decide +kernel
theorem d_F_clear_13 : decode b_F_clear 13 = .ok (.iconst (-1), 1) := by decide +kernel
theorem d_F_clear_14 : decode b_F_clear 14 = .ok (.ireturn, 1) := by decide +kernel
theorem d_F_clear_15 : decode b_F_clear 15 = .ok (.aload_n 0, 1) := by decide +kernel
theorem d_F_clear_16 : decode b_F_clear 16 = .ok (.getfield 10, 3) := by decide +kernel
theorem d_F_clear_19 : decode b_F_clear 19 = .ok (.getfield 74, 3) := by decide +kernel
theorem d_F_clear_22 : decode b_F_clear 22 = .ok (.iload_n 1, 1) := by decide +kernel
theorem d_F_clear_23 : decode b_F_clear 23 = .ok (.iaload, 1) := by decide +kernel
theorem d_F_clear_24 : decode b_F_clear 24 = .ok (.istore 6, 2) := by decide +kernel
theorem d_F_clear_26 : decode b_F_clear 26 = .ok (.lload_n 2, 1) := by decide +kernel
theorem d_F_clear_27 : decode b_F_clear 27 = .ok (.lstore 7, 2) := by decide +kernel
theorem d_F_clear_29 : decode b_F_clear 29 = .ok (.iconst 0, 1) := by decide +kernel
theorem d_F_clear_30 : decode b_F_clear 30 = .ok (.istore 9, 2) := by decide +kernel
theorem d_F_clear_32 : decode b_F_clear 32 = .ok (.iload 9, 2) := by decide +kernel
theorem d_F_clear_34 : decode b_F_clear 34 = .ok (.iload 4, 2) := by decide +kernel
theorem d_F_clear_36 : decode b_F_clear 36 = .ok (.if_icmp .ge 28, 3) := by decide +kernel
theorem d_F_clear_39 : decode b_F_clear 39 = .ok (.aload_n 0, 1) := by decide +kernel
theorem d_F_clear_40 : decode b_F_clear 40 = .ok (.iload_n 1, 1) := by decide +kernel
theorem d_F_clear_41 : decode b_F_clear 41 = .ok (.iconst 3, 1) := by decide +kernel
theorem d_F_clear_42 : decode b_F_clear 42 = .ok (.lload 7, 2) := by decide +kernel
theorem d_F_clear_44 : decode b_F_clear 44 = .ok (.iconst 0, 1) := by decide +kernel
theorem d_F_clear_45 : decode b_F_clear 45 = .ok (.lconst 0, 1) := by decide +kernel
theorem d_F_clear_46 : decode b_F_clear 46 = .ok (.invokevirtual 55, 3) := by decide +kernel
theorem d_F_clear_49 : decode b_F_clear 49 = .ok (.pop, 1) := by decide +kernel
theorem d_F_clear_50 : decode b_F_clear 50 = .ok (.lload 7, 2) := by decide +kernel
theorem d_F_clear_52 : decode b_F_clear 52 = .ok (.iload 5, 2) := by decide +kernel
theorem d_F_clear_54 : decode b_F_clear 54 = .ok (.i2l, 1) := by decide +kernel
theorem d_F_clear_55 : decode b_F_clear 55 = .ok (.ladd, 1) := by decide +kernel
theorem d_F_clear_56 : decode b_F_clear 56 = .ok (.lstore 7, 2) := by decide +kernel
theorem d_F_clear_58 : decode b_F_clear 58 = .ok (.iinc 9 1, 3) := by decide +kernel
theorem d_F_clear_61 : decode b_F_clear 61 = .ok (.goto (-29), 3) := by decide +kernel
theorem d_F_clear_64 : decode b_F_clear 64 = .ok (.iload 6, 2) := by decide +kernel
theorem d_F_clear_66 : decode b_F_clear 66 = .ok (.aload_n 0, 1) := by decide +kernel
theorem d_F_clear_67 : decode b_F_clear 67 = .ok (.getfield 10, 3) := by decide +kernel
theorem d_F_clear_70 : decode b_F_clear 70 = .ok (.getfield 74, 3) := by decide +kernel
theorem d_F_clear_73 : decode b_F_clear 73 = .ok (.iload_n 1, 1) := by decide +kernel
theorem d_F_clear_74 : decode b_F_clear 74 = .ok (.iaload, 1) := by decide +kernel
theorem d_F_clear_75 : decode b_F_clear 75 = .ok (.isub, 1) := by decide +kernel
theorem d_F_clear_76 : decode b_F_clear 76 = .ok (.ireturn, 1) := by decide +kernel
theorem d_F_copy_0 : decode b_F_copy 0 = .ok (.aload_n 0, 1) := by decide +kernel
theorem d_F_copy_1 : decode b_F_copy 1 = .ok (.getfield 10, 3) := by decide +kernel
theorem d_F_copy_4 : decode b_F_copy 4 = .ok (.iload_n 1, 1) := by decide +kernel
theorem d_F_copy_5 : decode b_F_copy 5 = .ok (.invokevirtual 38, 3) := by decide +kernel
theorem d_F_copy_8 : decode b_F_copy 8 = .ok (.ifCond .eq 14, 3) := by decide +kernel
theorem d_F_copy_11 : decode b_F_copy 11 = .ok (.aload_n 0, 1) := by decide +kernel
theorem d_F_copy_12 : decode b_F_copy 12 = .ok (.getfield 10, 3) := by decide +kernel
theorem d_F_copy_15 : decode b_F_copy 15 = .ok (.iload_n 2, 1) := by decide +kernel
theorem d_F_copy_16 : decode b_F_copy 16 = .ok (.invokevirtual 38, 3) := by decide +kernel
theorem d_F_copy_19 : decode b_F_copy 19 = .ok (.ifCond .ne 5, 3) := by decide +kernel
theorem d_F_copy_22 : decode b_F_copy 22 = .ok (.iconst (-1), 1) := by decide +kernel
theorem d_F_copy_23 : decode b_F_copy 23 = .ok (.ireturn, 1) := by decide +kernel
theorem d_F_copy_24 : decode b_F_copy 24 = .ok (.aload_n 0, 1) := by decide +kernel
theorem d_F_copy_25 : decode b_F_copy 25 = .ok (.getfield 10, 3) := by decide +kernel
theorem d_F_copy_28 : decode b_F_copy 28 = .ok (.getfield 74, 3) := by decide +kernel
theorem d_F_copy_31 : decode b_F_copy 31 = .ok (.iload_n 2, 1) := by decide +kernel
theorem d_F_copy_32 : decode b_F_copy 32 = .ok (.iaload, 1) := by decide +kernel
theorem d_F_copy_33 : decode b_F_copy 33 = .ok (.aload_n 0, 1) := by decide +kernel
theorem d_F_copy_34 : decode b_F_copy 34 = .ok (.getfield 19, 3) := by decide +kernel
theorem d_F_copy_37 : decode b_F_copy 37 = .ok (.invokevirtual 48, 3) := by decide +kernel
theorem d_F_copy_40 : decode b_F_copy 40 = .ok (.if_icmp .le 22, 3) := by decide +kernel
theorem d_F_copy_43 : decode b_F_copy 43 = .ok (.aload_n 0, 1) := by decide +kernel
theorem d_F_copy_44 : decode b_F_copy 44 = .ok (.iload_n 1, 1) := by decide +kernel
theorem d_F_copy_45 : decode b_F_copy 45 = .ok (.iload_n 2, 1) := by decide +kernel
theorem d_F_copy_46 : decode b_F_copy 46 = .ok (.invokevirtual 121, 3) := by decide +kernel
theorem d_F_copy_49 : decode b_F_copy 49 = .ok (.aload_n 0, 1) := by decide +kernel
theorem d_F_copy_50 : decode b_F_copy 50 = .ok (.getfield 19, 3) := by decide +kernel
theorem d_F_copy_53 : decode b_F_copy 53 = .ok (.invokevirtual 48, 3) := by decide +kernel
theorem d_F_copy_56 : decode b_F_copy 56 = .ok (.if_icmp .le 6, 3) := by decide +kernel
theorem d_F_copy_59 : decode b_F_copy 59 = .ok (.bipush (-3), 2) := by decide +kernel
theorem d_F_copy_61 : decode b_F_copy 61 = .ok (.ireturn, 1) := by decide +kernel
theorem d_F_copy_62 : decode b_F_copy 62 = .ok (.iconst 0, 1) := by decide +kernel
theorem d_F_copy_63 : decode b_F_copy 63 = .ok (.istore_n 3, 1) := by decide +kernel
theorem d_F_copy_64 : decode b_F_copy 64 = .ok (.aload_n 0, 1) := by decide +kernel
theorem d_F_copy_65 : decode b_F_copy 65 = .ok (.getfield 10, 3) := by decide +kernel
theorem d_F_copy_68 : decode b_F_copy 68 = .ok (.getfield 77, 3) := by decide +kernel
theorem d_F_copy_71 : decode b_F_copy 71 = .ok (.iload_n 2, 1) := by decide +kernel
theorem d_F_copy_72 : decode b_F_copy 72 = .ok (.iaload, 1) := by decide +kernel
theorem d_F_copy_73 : decode b_F_copy 73 = .ok (.istore 4, 2) := by decide +kernel
theorem d_F_copy_75 : decode b_F_copy 75 = .ok (.aload_n 0, 1) := by decide +kernel
theorem d_F_copy_76 : decode b_F_copy 76 = .ok (.getfield 10, 3) := by decide +kernel
theorem d_F_copy_79 : decode b_F_copy 79 = .ok (.getfield 71, 3) := by decide +kernel
theorem d_F_copy_82 : decode b_F_copy 82 = .ok (.iload_n 2, 1) := by decide +kernel
theorem d_F_copy_83 : decode b_F_copy 83 = .ok (.iaload, 1) := by decide +kernel
theorem d_F_copy_84 : decode b_F_copy 84 = .ok (.istore 5, 2) := by decide +kernel
theorem d_F_copy_86 : decode b_F_copy 86 = .ok (.iconst 0, 1) := by decide +kernel
theorem d_F_copy_87 : decode b_F_copy 87 = .ok (.istore 6, 2) := by decide +kernel
theorem d_F_copy_89 : decode b_F_copy 89 = .ok (.iload 6, 2) := by decide +kernel
theorem d_F_copy_91 : decode b_F_copy 91 = .ok (.iload 5, 2) := by decide +kernel
theorem d_F_copy_93 : decode b_F_copy 93 = .ok (.if_icmp .ge 82, 3) := by decide +kernel
theorem d_F_copy_96 : decode b_F_copy 96 = .ok (.iload 4, 2) := by decide +kernel
theorem d_F_copy_98 : decode b_F_copy 98 = .ok (.ifCond .eq 77, 3) := by decide +kernel
theorem d_F_copy_101 : decode b_F_copy 101 = .ok (.aload_n 0, 1) := by decide +kernel
theorem d_F_copy_102 : decode b_F_copy 102 = .ok (.getfield 19, 3) := by decide +kernel
theorem d_F_copy_105 : decode b_F_copy 105 = .ok (.getfield 59, 3) := by decide +kernel
theorem d_F_copy_108 : decode b_F_copy 108 = .ok (.iload 4, 2) := by decide +kernel
theorem d_F_copy_110 : decode b_F_copy 110 = .ok (.baload, 1) := by decide +kernel
theorem d_F_copy_111 : decode b_F_copy 111 = .ok (.istore 7, 2) := by decide +kernel
theorem d_F_copy_113 : decode b_F_copy 113 = .ok (.iload 7, 2) := by decide +kernel
theorem d_F_copy_115 : decode b_F_copy 115 = .ok (.ifCond .eq 42, 3) := by decide +kernel
theorem d_F_copy_118 : decode b_F_copy 118 = .ok (.iload_n 3, 1) := by decide +kernel
theorem d_F_copy_119 : decode b_F_copy 119 = .ok (.aload_n 0, 1) := by decide +kernel
theorem d_F_copy_120 : decode b_F_copy 120 = .ok (.iload_n 1, 1) := by decide +kernel
theorem d_F_copy_121 : decode b_F_copy 121 = .ok (.aload_n 0, 1) := by decide +kernel
theorem d_F_copy_122 : decode b_F_copy 122 = .ok (.getfield 19, 3) := by decide +kernel
theorem d_F_copy_125 : decode b_F_copy 125 = .ok (.iload 4, 2) := by decide +kernel
theorem d_F_copy_127 : decode b_F_copy 127 = .ok (.invokevirtual 124, 3) := by decide +kernel
theorem d_F_copy_130 : decode b_F_copy 130 = .ok (.aload_n 0, 1) := by decide +kernel
theorem d_F_copy_131 : decode b_F_copy 131 = .ok (.getfield 19, 3) := by decide +kernel
theorem d_F_copy_134 : decode b_F_copy 134 = .ok (.getfield 127, 3) := by decide +kernel
theorem d_F_copy_137 : decode b_F_copy 137 = .ok (.iload 4, 2) := by decide +kernel
theorem d_F_copy_139 : decode b_F_copy 139 = .ok (.laload, 1) := by decide +kernel
theorem d_F_copy_140 : decode b_F_copy 140 = .ok (.iload 7, 2) := by decide +kernel
theorem d_F_copy_142 : decode b_F_copy 142 = .ok (.aload_n 0, 1) := by decide +kernel
theorem d_F_copy_143 : decode b_F_copy 143 = .ok (.getfield 19, 3) := by decide +kernel
theorem d_F_copy_146 : decode b_F_copy 146 = .ok (.getfield 63, 3) := by decide +kernel
theorem d_F_copy_149 : decode b_F_copy 149 = .ok (.iload 4, 2) := by decide +kernel
theorem d_F_copy_151 : decode b_F_copy 151 = .ok (.laload, 1) := by decide +kernel
theorem d_F_copy_152 : decode b_F_copy 152 = .ok (.invokevirtual 55, 3) := by decide +kernel
theorem d_F_copy_155 : decode b_F_copy 155 = .ok (.iadd, 1) := by decide +kernel
theorem d_F_copy_156 : decode b_F_copy 156 = .ok (.istore_n 3, 1) := by decide +kernel
theorem d_F_copy_157 : decode b_F_copy 157 = .ok (.aload_n 0, 1) := by decide +kernel
theorem d_F_copy_158 : decode b_F_copy 158 = .ok (.getfield 19, 3) := by decide +kernel
theorem d_F_copy_161 : decode b_F_copy 161 = .ok (.getfield 80, 3) := by decide +kernel
theorem d_F_copy_164 : decode b_F_copy 164 = .ok (.iload 4, 2) := by decide +kernel
theorem d_F_copy_166 : decode b_F_copy 166 = .ok (.iaload, 1) := by decide +kernel
theorem d_F_copy_167 : decode b_F_copy 167 = .ok (.istore 4, 2) := by decide +kernel
theorem d_F_copy_169 : decode b_F_copy 169 = .ok (.iinc 6 1, 3) := by decide +kernel
theorem d_F_copy_172 : decode b_F_copy 172 = .ok (.goto (-83), 3) := by decide +kernel
theorem d_F_copy_175 : decode b_F_copy 175 = .ok (.iload_n 3, 1) := by decide +kernel
theorem d_F_copy_176 : decode b_F_copy 176 = .ok (.ireturn, 1) := by decide +kernel
theorem d_F_cursorKind_0 : decode b_F_cursorKind 0 = .ok (.aload_n 0, 1) := by decide +kernel
theorem d_F_cursorKind_1 : decode b_F_cursorKind 1 = .ok (.getfield 23, 3) := by decide +kernel
theorem d_F_cursorKind_4 : decode b_F_cursorKind 4 = .ok (.ireturn, 1) := by decide +kernel
theorem d_F_cursorNumber_0 : decode b_F_cursorNumber 0 = .ok (.aload_n 0, 1) := by decide +kernel
theorem d_F_cursorNumber_1 : decode b_F_cursorNumber 1 = .ok (.getfield 27, 3) := by decide +kernel
theorem d_F_cursorNumber_4 : decode b_F_cursorNumber 4 = .ok (.lreturn, 1) := by decide +kernel
theorem d_F_empty_0 : decode b_F_empty 0 = .ok (.aload_n 0, 1) := by decide +kernel
theorem d_F_empty_1 : decode b_F_empty 1 = .ok (.getfield 19, 3) := by decide +kernel
theorem d_F_empty_4 : decode b_F_empty 4 = .ok (.getfield 130, 3) := by decide +kernel
theorem d_F_empty_7 : decode b_F_empty 7 = .ok (.istore_n 1, 1) := by decide +kernel
theorem d_F_empty_8 : decode b_F_empty 8 = .ok (.aload_n 0, 1) := by decide +kernel
theorem d_F_empty_9 : decode b_F_empty 9 = .ok (.getfield 10, 3) := by decide +kernel
theorem d_F_empty_12 : decode b_F_empty 12 = .ok (.invokevirtual 131, 3) := by decide +kernel
theorem d_F_empty_15 : decode b_F_empty 15 = .ok (.aload_n 0, 1) := by decide +kernel
theorem d_F_empty_16 : decode b_F_empty 16 = .ok (.getfield 19, 3) := by decide +kernel
theorem d_F_empty_19 : decode b_F_empty 19 = .ok (.invokevirtual 134, 3) := by decide +kernel
theorem d_F_empty_22 : decode b_F_empty 22 = .ok (.aload_n 0, 1) := by decide +kernel
theorem d_F_empty_23 : decode b_F_empty 23 = .ok (.iconst 0, 1) := by decide +kernel
theorem d_F_empty_24 : decode b_F_empty 24 = .ok (.invokevirtual 87, 3) := by decide +kernel
theorem d_F_empty_27 : decode b_F_empty 27 = .ok (.pop, 1) := by decide +kernel
theorem d_F_empty_28 : decode b_F_empty 28 = .ok (.iload_n 1, 1) := by decide +kernel
theorem d_F_empty_29 : decode b_F_empty 29 = .ok (.ireturn, 1) := by decide +kernel
theorem d_F_fields_0 : decode b_F_fields 0 = .ok (.aload_n 0, 1) := by decide +kernel
theorem d_F_fields_1 : decode b_F_fields 1 = .ok (.getfield 10, 3) := by decide +kernel
theorem d_F_fields_4 : decode b_F_fields 4 = .ok (.iload_n 1, 1) := by decide +kernel
theorem d_F_fields_5 : decode b_F_fields 5 = .ok (.invokevirtual 38, 3) := by decide +kernel
theorem d_F_fields_8 : decode b_F_fields 8 = .ok (.ifCond .eq 15, 3) := by decide +kernel
theorem d_F_fields_11 : decode b_F_fields 11 = .ok (.aload_n 0, 1) := by decide +kernel
theorem d_F_fields_12 : decode b_F_fields 12 = .ok (.getfield 10, 3) := by decide +kernel
theorem d_F_fields_15 : decode b_F_fields 15 = .ok (.getfield 74, 3) := by decide +kernel
theorem d_F_fields_18 : decode b_F_fields 18 = .ok (.iload_n 1, 1) := by decide +kernel
theorem d_F_fields_19 : decode b_F_fields 19 = .ok (.iaload, 1) := by decide +kernel
theorem d_F_fields_20 : decode b_F_fields 20 = .ok (.goto 4, 3) := by decide +kernel
theorem d_F_fields_23 : decode b_F_fields 23 = .ok (.iconst (-1), 1) := by decide +kernel
theorem d_F_fields_24 : decode b_F_fields 24 = .ok (.ireturn, 1) := by decide +kernel
theorem d_F_fill_0 : decode b_F_fill 0 = .ok (.aload_n 0, 1) := by decide +kernel
theorem d_F_fill_1 : decode b_F_fill 1 = .ok (.iload_n 1, 1) := by decide +kernel
theorem d_F_fill_2 : decode b_F_fill 2 = .ok (.lload_n 2, 1) := by decide +kernel
theorem d_F_fill_3 : decode b_F_fill 3 = .ok (.iload 4, 2) := by decide +kernel
theorem d_F_fill_5 : decode b_F_fill 5 = .ok (.iload 5, 2) := by decide +kernel
theorem d_F_fill_7 : decode b_F_fill 7 = .ok (.invokevirtual 91, 3) := by decide +kernel
theorem d_F_fill_10 : decode b_F_fill 10 = .ok (.ifCond .ne 5, 3) := by decide +kernel
theorem d_F_fill_13 : decode b_F_fill 13 = .ok (.iconst (-1), 1) := by decide +kernel
theorem d_F_fill_14 : decode b_F_fill 14 = .ok (.ireturn, 1) := by decide +kernel
theorem d_F_fill_15 : decode b_F_fill 15 = .ok (.iload 4, 2) := by decide +kernel
theorem d_F_fill_17 : decode b_F_fill 17 = .ok (.aload_n 0, 1) := by decide +kernel
theorem d_F_fill_18 : decode b_F_fill 18 = .ok (.getfield 19, 3) := by decide +kernel
theorem d_F_fill_21 : decode b_F_fill 21 = .ok (.invokevirtual 48, 3) := by decide +kernel
theorem d_F_fill_24 : decode b_F_fill 24 = .ok (.if_icmp .le 26, 3) := by decide +kernel
theorem d_F_fill_27 : decode b_F_fill 27 = .ok (.aload_n 0, 1) := by decide +kernel
theorem d_F_fill_28 : decode b_F_fill 28 = .ok (.iload_n 1, 1) := by decide +kernel
theorem d_F_fill_29 : decode b_F_fill 29 = .ok (.lload_n 2, 1) := by decide +kernel
theorem d_F_fill_30 : decode b_F_fill 30 = .ok (.iload 4, 2) := by decide +kernel
theorem d_F_fill_32 : decode b_F_fill 32 = .ok (.iload 5, 2) := by decide +kernel
theorem d_F_fill_34 : decode b_F_fill 34 = .ok (.invokevirtual 95, 3) := by decide +kernel
theorem d_F_fill_37 : decode b_F_fill 37 = .ok (.aload_n 0, 1) := by decide +kernel
theorem d_F_fill_38 : decode b_F_fill 38 = .ok (.getfield 19, 3) := by decide +kernel
theorem d_F_fill_41 : decode b_F_fill 41 = .ok (.invokevirtual 48, 3) := by decide +kernel
theorem d_F_fill_44 : decode b_F_fill 44 = .ok (.if_icmp .le 6, 3) := by decide +kernel
theorem d_F_fill_47 : decode b_F_fill 47 = .ok (.bipush (-3), 2) := by decide +kernel
theorem d_F_fill_49 : decode b_F_fill 49 = .ok (.ireturn, 1) := by decide +kernel
theorem d_F_fill_50 : decode b_F_fill 50 = .ok (.iconst 0, 1) := by decide +kernel
theorem d_F_fill_51 : decode b_F_fill 51 = .ok (.istore 6, 2) := by decide +kernel
theorem d_F_fill_53 : decode b_F_fill 53 = .ok (.lload_n 2, 1) := by decide +kernel
theorem d_F_fill_54 : decode b_F_fill 54 = .ok (.lstore 7, 2) := by decide +kernel
theorem d_F_fill_56 : decode b_F_fill 56 = .ok (.iconst 1, 1) := by decide +kernel
theorem d_F_fill_57 : decode b_F_fill 57 = .ok (.istore 9, 2) := by decide +kernel
theorem d_F_fill_59 : decode b_F_fill 59 = .ok (.iload 9, 2) := by decide +kernel
theorem d_F_fill_61 : decode b_F_fill 61 = .ok (.iload 4, 2) := by decide +kernel
theorem d_F_fill_63 : decode b_F_fill 63 = .ok (.if_icmp .gt 34, 3) := by decide +kernel
theorem d_F_fill_66 : decode b_F_fill 66 = .ok (.iload 6, 2) := by decide +kernel
theorem d_F_fill_68 : decode b_F_fill 68 = .ok (.aload_n 0, 1) := by decide +kernel
theorem d_F_fill_69 : decode b_F_fill 69 = .ok (.iload_n 1, 1) := by decide +kernel
theorem d_F_fill_70 : decode b_F_fill 70 = .ok (.iconst 3, 1) := by decide +kernel
theorem d_F_fill_71 : decode b_F_fill 71 = .ok (.lload 7, 2) := by decide +kernel
theorem d_F_fill_73 : decode b_F_fill 73 = .ok (.iconst 3, 1) := by decide +kernel
theorem d_F_fill_74 : decode b_F_fill 74 = .ok (.iload 9, 2) := by decide +kernel
theorem d_F_fill_76 : decode b_F_fill 76 = .ok (.i2l, 1) := by decide +kernel
theorem d_F_fill_77 : decode b_F_fill 77 = .ok (.invokevirtual 55, 3) := by decide +kernel
theorem d_F_fill_80 : decode b_F_fill 80 = .ok (.iadd, 1) := by decide +kernel
theorem d_F_fill_81 : decode b_F_fill 81 = .ok (.istore 6, 2) := by decide +kernel
theorem d_F_fill_83 : decode b_F_fill 83 = .ok (.lload 7, 2) := by decide +kernel
theorem d_F_fill_85 : decode b_F_fill 85 = .ok (.iload 5, 2) := by decide +kernel
theorem d_F_fill_87 : decode b_F_fill 87 = .ok (.i2l, 1) := by decide +kernel
theorem d_F_fill_88 : decode b_F_fill 88 = .ok (.ladd, 1) := by decide +kernel
theorem d_F_fill_89 : decode b_F_fill 89 = .ok (.lstore 7, 2) := by decide +kernel
theorem d_F_fill_91 : decode b_F_fill 91 = .ok (.iinc 9 1, 3) := by decide +kernel
theorem d_F_fill_94 : decode b_F_fill 94 = .ok (.goto (-35), 3) := by decide +kernel
theorem d_F_fill_97 : decode b_F_fill 97 = .ok (.iload 6, 2) := by decide +kernel
theorem d_F_fill_99 : decode b_F_fill 99 = .ok (.ireturn, 1) := by decide +kernel
theorem d_F_firstWithValue_0 : decode b_F_firstWithValue 0 = .ok (.iload_n 2, 1) := by decide +kernel
theorem d_F_firstWithValue_1 : decode b_F_firstWithValue 1 = .ok (.istore_n 3, 1) := by decide +kernel
theorem d_F_firstWithValue_2 : decode b_F_firstWithValue 2 = .ok (.aload_n 0, 1) := by decide +kernel
theorem d_F_firstWithValue_3 : decode b_F_firstWithValue 3 = .ok (.getfield 10, 3) := by decide +kernel
theorem d_F_firstWithValue_6 : decode b_F_firstWithValue 6 = .ok (.getfield 71, 3) := by decide +kernel
theorem d_F_firstWithValue_9 : decode b_F_firstWithValue 9 = .ok (.iload_n 1, 1) := by decide +kernel
theorem d_F_firstWithValue_10 : decode b_F_firstWithValue 10 = .ok (.iaload, 1) := by decide +kernel
theorem d_F_firstWithValue_11 : decode b_F_firstWithValue 11 = .ok (.istore 4, 2) := by decide +kernel
theorem d_F_firstWithValue_13 : decode b_F_firstWithValue 13 = .ok (.iconst 0, 1) := by decide +kernel
theorem d_F_firstWithValue_14 : decode b_F_firstWithValue 14 = .ok (.istore 5, 2) := by decide +kernel
theorem d_F_firstWithValue_16 : decode b_F_firstWithValue 16 = .ok (.iload 5, 2) := by decide +kernel
theorem d_F_firstWithValue_18 : decode b_F_firstWithValue 18 = .ok (.iload 4, 2) := by decide +kernel
theorem d_F_firstWithValue_20 : decode b_F_firstWithValue 20 = .ok (.if_icmp .ge 37, 3) := by decide +kernel
theorem d_F_firstWithValue_23 : decode b_F_firstWithValue 23 = .ok (.iload_n 3, 1) := by decide +kernel
theorem d_F_firstWithValue_24 : decode b_F_firstWithValue 24 = .ok (.ifCond .eq 33, 3) := by decide +kernel
theorem d_F_firstWithValue_27 : decode b_F_firstWithValue 27 = .ok (.aload_n 0, 1) := by decide +kernel
theorem d_F_firstWithValue_28 : decode b_F_firstWithValue 28 = .ok (.getfield 19, 3) := by decide +kernel
theorem d_F_firstWithValue_31 : decode b_F_firstWithValue 31 = .ok (.getfield 59, 3) := by decide +kernel
theorem d_F_firstWithValue_34 : decode b_F_firstWithValue 34 = .ok (.iload_n 3, 1) := by decide +kernel
theorem d_F_firstWithValue_35 : decode b_F_firstWithValue 35 = .ok (.baload, 1) := by decide +kernel
theorem d_F_firstWithValue_36 : decode b_F_firstWithValue 36 = .ok (.ifCond .eq 5, 3) := by decide +kernel
theorem d_F_firstWithValue_39 : decode b_F_firstWithValue 39 = .ok (.iload_n 3, 1) := by decide +kernel
theorem d_F_firstWithValue_40 : decode b_F_firstWithValue 40 = .ok (.ireturn, 1) := by decide +kernel
theorem d_F_firstWithValue_41 : decode b_F_firstWithValue 41 = .ok (.aload_n 0, 1) := by decide +kernel
theorem d_F_firstWithValue_42 : decode b_F_firstWithValue 42 = .ok (.getfield 19, 3) := by decide +kernel
theorem d_F_firstWithValue_45 : decode b_F_firstWithValue 45 = .ok (.getfield 80, 3) := by decide +kernel
theorem d_F_firstWithValue_48 : decode b_F_firstWithValue 48 = .ok (.iload_n 3, 1) := by decide +kernel
theorem d_F_firstWithValue_49 : decode b_F_firstWithValue 49 = .ok (.iaload, 1) := by decide +kernel
theorem d_F_firstWithValue_50 : decode b_F_firstWithValue 50 = .ok (.istore_n 3, 1) := by decide +kernel
theorem d_F_firstWithValue_51 : decode b_F_firstWithValue 51 = .ok (.iinc 5 1, 3) := by decide +kernel
theorem d_F_firstWithValue_54 : decode b_F_firstWithValue 54 = .ok (.goto (-38), 3) := by decide +kernel
theorem d_F_firstWithValue_57 : decode b_F_firstWithValue 57 = .ok (.iconst 0, 1) := by decide +kernel
theorem d_F_firstWithValue_58 : decode b_F_firstWithValue 58 = .ok (.ireturn, 1) := by decide +kernel
theorem d_F_give_0 : decode b_F_give 0 = .ok (.aload_n 0, 1) := by decide +kernel
theorem d_F_give_1 : decode b_F_give 1 = .ok (.getfield 19, 3) := by decide +kernel
theorem d_F_give_4 : decode b_F_give 4 = .ok (.iload_n 1, 1) := by decide +kernel
theorem d_F_give_5 : decode b_F_give 5 = .ok (.iload_n 2, 1) := by decide +kernel
theorem d_F_give_6 : decode b_F_give 6 = .ok (.lload_n 3, 1) := by decide +kernel
theorem d_F_give_7 : decode b_F_give 7 = .ok (.invokevirtual 51, 3) := by decide +kernel
theorem d_F_give_10 : decode b_F_give 10 = .ok (.istore 8, 2) := by decide +kernel
theorem d_F_give_12 : decode b_F_give 12 = .ok (.iconst 0, 1) := by decide +kernel
theorem d_F_give_13 : decode b_F_give 13 = .ok (.istore 9, 2) := by decide +kernel
theorem d_F_give_15 : decode b_F_give 15 = .ok (.iload 8, 2) := by decide +kernel
theorem d_F_give_17 : decode b_F_give 17 = .ok (.ifCond .ne 32, 3) := by decide +kernel
theorem d_F_give_20 : decode b_F_give 20 = .ok (.iload 5, 2) := by decide +kernel
theorem d_F_give_22 : decode b_F_give 22 = .ok (.ifCond .ne 5, 3) := by decide +kernel
theorem d_F_give_25 : decode b_F_give 25 = .ok (.iconst 0, 1) := by decide +kernel
theorem d_F_give_26 : decode b_F_give 26 = .ok (.ireturn, 1) := by decide +kernel
theorem d_F_give_27 : decode b_F_give 27 = .ok (.aload_n 0, 1) := by decide +kernel
theorem d_F_give_28 : decode b_F_give 28 = .ok (.getfield 19, 3) := by decide +kernel
theorem d_F_give_31 : decode b_F_give 31 = .ok (.iload_n 1, 1) := by decide +kernel
theorem d_F_give_32 : decode b_F_give 32 = .ok (.iload_n 2, 1) := by decide +kernel
theorem d_F_give_33 : decode b_F_give 33 = .ok (.lload_n 3, 1) := by decide +kernel
theorem d_F_give_34 : decode b_F_give 34 = .ok (.invokevirtual 139, 3) := by decide +kernel
theorem d_F_give_37 : decode b_F_give 37 = .ok (.istore 8, 2) := by decide +kernel
theorem d_F_give_39 : decode b_F_give 39 = .ok (.aload_n 0, 1) := by decide +kernel
theorem d_F_give_40 : decode b_F_give 40 = .ok (.iload_n 1, 1) := by decide +kernel
theorem d_F_give_41 : decode b_F_give 41 = .ok (.iload 8, 2) := by decide +kernel
theorem d_F_give_43 : decode b_F_give 43 = .ok (.invokevirtual 142, 3) := by decide +kernel
theorem d_F_give_46 : decode b_F_give 46 = .ok (.iconst 1, 1) := by decide +kernel
theorem d_F_give_47 : decode b_F_give 47 = .ok (.istore 9, 2) := by decide +kernel
theorem d_F_give_49 : decode b_F_give 49 = .ok (.aload_n 0, 1) := by decide +kernel
theorem d_F_give_50 : decode b_F_give 50 = .ok (.iload_n 1, 1) := by decide +kernel
theorem d_F_give_51 : decode b_F_give 51 = .ok (.iload 8, 2) := by decide +kernel
theorem d_F_give_53 : decode b_F_give 53 = .ok (.iload 5, 2) := by decide +kernel
theorem d_F_give_55 : decode b_F_give 55 = .ok (.lload 6, 2) := by decide +kernel
theorem d_F_give_57 : decode b_F_give 57 = .ok (.invokevirtual 145, 3) := by decide +kernel
theorem d_F_give_60 : decode b_F_give 60 = .ok (.iload 9, 2) := by decide +kernel
theorem d_F_give_62 : decode b_F_give 62 = .ok (.ireturn, 1) := by decide +kernel
theorem d_F_holdsAll_0 : decode b_F_holdsAll 0 = .ok (.aload_n 0, 1) := by decide +kernel
theorem d_F_holdsAll_1 : decode b_F_holdsAll 1 = .ok (.getfield 10, 3) := by decide +kernel
theorem d_F_holdsAll_4 : decode b_F_holdsAll 4 = .ok (.getfield 77, 3) := by decide +kernel
theorem d_F_holdsAll_7 : decode b_F_holdsAll 7 = .ok (.iload_n 2, 1) := by decide +kernel
theorem d_F_holdsAll_8 : decode b_F_holdsAll 8 = .ok (.iaload, 1) := by decide +kernel
theorem d_F_holdsAll_9 : decode b_F_holdsAll 9 = .ok (.istore_n 3, 1) := by decide +kernel
theorem d_F_holdsAll_10 : decode b_F_holdsAll 10 = .ok (.aload_n 0, 1) := by decide +kernel
theorem d_F_holdsAll_11 : decode b_F_holdsAll 11 = .ok (.getfield 10, 3) := by decide +kernel
theorem d_F_holdsAll_14 : decode b_F_holdsAll 14 = .ok (.getfield 71, 3) := by decide +kernel
theorem d_F_holdsAll_17 : decode b_F_holdsAll 17 = .ok (.iload_n 2, 1) := by decide +kernel
theorem d_F_holdsAll_18 : decode b_F_holdsAll 18 = .ok (.iaload, 1) := by decide +kernel
theorem d_F_holdsAll_19 : decode b_F_holdsAll 19 = .ok (.istore 4, 2) := by decide +kernel
theorem d_F_holdsAll_21 : decode b_F_holdsAll 21 = .ok (.iconst 0, 1) := by decide +kernel
theorem d_F_holdsAll_22 : decode b_F_holdsAll 22 = .ok (.istore 5, 2) := by decide +kernel
theorem d_F_holdsAll_24 : decode b_F_holdsAll 24 = .ok (.iload 5, 2) := by decide +kernel
theorem d_F_holdsAll_26 : decode b_F_holdsAll 26 = .ok (.iload 4, 2) := by decide +kernel
theorem d_F_holdsAll_28 : decode b_F_holdsAll 28 = .ok (.if_icmp .ge 54, 3) := by decide +kernel
theorem d_F_holdsAll_31 : decode b_F_holdsAll 31 = .ok (.iload_n 3, 1) := by decide +kernel
theorem d_F_holdsAll_32 : decode b_F_holdsAll 32 = .ok (.ifCond .eq 50, 3) := by decide +kernel
theorem d_F_holdsAll_35 : decode b_F_holdsAll 35 = .ok (.aload_n 0, 1) := by decide +kernel
theorem d_F_holdsAll_36 : decode b_F_holdsAll 36 = .ok (.getfield 19, 3) := by decide +kernel
theorem d_F_holdsAll_39 : decode b_F_holdsAll 39 = .ok (.getfield 59, 3) := by decide +kernel
theorem d_F_holdsAll_42 : decode b_F_holdsAll 42 = .ok (.iload_n 3, 1) := by decide +kernel
theorem d_F_holdsAll_43 : decode b_F_holdsAll 43 = .ok (.baload, 1) := by decide +kernel
theorem d_F_holdsAll_44 : decode b_F_holdsAll 44 = .ok (.ifCond .eq 22, 3) := by decide +kernel
theorem d_F_holdsAll_47 : decode b_F_holdsAll 47 = .ok (.aload_n 0, 1) := by decide +kernel
theorem d_F_holdsAll_48 : decode b_F_holdsAll 48 = .ok (.getfield 19, 3) := by decide +kernel
theorem d_F_holdsAll_51 : decode b_F_holdsAll 51 = .ok (.iload_n 3, 1) := by decide +kernel
theorem d_F_holdsAll_52 : decode b_F_holdsAll 52 = .ok (.aload_n 0, 1) := by decide +kernel
theorem d_F_holdsAll_53 : decode b_F_holdsAll 53 = .ok (.iload_n 1, 1) := by decide +kernel
theorem d_F_holdsAll_54 : decode b_F_holdsAll 54 = .ok (.iload_n 3, 1) := by decide +kernel
theorem d_F_holdsAll_55 : decode b_F_holdsAll 55 = .ok (.invokevirtual 164, 3) := by decide +kernel
theorem d_F_holdsAll_58 : decode b_F_holdsAll 58 = .ok (.invokevirtual 167, 3) := by decide +kernel
theorem d_F_holdsAll_61 : decode b_F_holdsAll 61 = .ok (.ifCond .ne 5, 3) := by decide +kernel
theorem d_F_holdsAll_64 : decode b_F_holdsAll 64 = .ok (.iconst 0, 1) := by decide +kernel
theorem d_F_holdsAll_65 : decode b_F_holdsAll 65 = .ok (.ireturn, 1) := by decide +kernel
theorem d_F_holdsAll_66 : decode b_F_holdsAll 66 = .ok (.aload_n 0, 1) := by decide +kernel
theorem d_F_holdsAll_67 : decode b_F_holdsAll 67 = .ok (.getfield 19, 3) := by decide +kernel
theorem d_F_holdsAll_70 : decode b_F_holdsAll 70 = .ok (.getfield 80, 3) := by decide +kernel
theorem d_F_holdsAll_73 : decode b_F_holdsAll 73 = .ok (.iload_n 3, 1) := by decide +kernel
theorem d_F_holdsAll_74 : decode b_F_holdsAll 74 = .ok (.iaload, 1) := by decide +kernel
theorem d_F_holdsAll_75 : decode b_F_holdsAll 75 = .ok (.istore_n 3, 1) := by decide +kernel
theorem d_F_holdsAll_76 : decode b_F_holdsAll 76 = .ok (.iinc 5 1, 3) := by decide +kernel
theorem d_F_holdsAll_79 : decode b_F_holdsAll 79 = .ok (.goto (-55), 3) := by decide +kernel
theorem d_F_holdsAll_82 : decode b_F_holdsAll 82 = .ok (.iconst 1, 1) := by decide +kernel
theorem d_F_holdsAll_83 : decode b_F_holdsAll 83 = .ok (.ireturn, 1) := by decide +kernel
theorem d_F_init_0 : decode b_F_init 0 = .ok (.aload_n 0, 1) := by decide +kernel
theorem d_F_init_1 : decode b_F_init 1 = .ok (.invokespecial 1, 3) := by decide +kernel
theorem d_F_init_4 : decode b_F_init 4 = .ok (.aload_n 0, 1) := by decide +kernel
theorem d_F_init_5 : decode b_F_init 5 = .ok (.new 7, 3) := by decide +kernel
theorem d_F_init_8 : decode b_F_init 8 = .ok (.dup, 1) := by decide +kernel
theorem d_F_init_9 : decode b_F_init 9 = .ok (.invokespecial 9, 3) := by decide +kernel
theorem d_F_init_12 : decode b_F_init 12 = .ok (.putfield 10, 3) := by decide +kernel
theorem d_F_init_15 : decode b_F_init 15 = .ok (.aload_n 0, 1) := by decide +kernel
theorem d_F_init_16 : decode b_F_init 16 = .ok (.new 16, 3) := by decide +kernel
theorem d_F_init_19 : decode b_F_init 19 = .ok (.dup, 1) := by decide +kernel
theorem d_F_init_20 : decode b_F_init 20 = .ok (.invokespecial 18, 3) := by decide +kernel
theorem d_F_init_23 : decode b_F_init 23 = .ok (.putfield 19, 3) := by decide +kernel
theorem d_F_init_26 : decode b_F_init 26 = .ok (.aload_n 0, 1) := by decide +kernel
theorem d_F_init_27 : decode b_F_init 27 = .ok (.iconst 0, 1) := by decide +kernel
theorem d_F_init_28 : decode b_F_init 28 = .ok (.putfield 23, 3) := by decide +kernel
theorem d_F_init_31 : decode b_F_init 31 = .ok (.aload_n 0, 1) := by decide +kernel
theorem d_F_init_32 : decode b_F_init 32 = .ok (.lconst 0, 1) := by decide +kernel
theorem d_F_init_33 : decode b_F_init 33 = .ok (.putfield 27, 3) := by decide +kernel
theorem d_F_init_36 : decode b_F_init 36 = .ok (.return_, 1) := by decide +kernel
theorem d_F_insert_0 : decode b_F_insert 0 = .ok (.aload_n 0, 1) := by decide +kernel
theorem d_F_insert_1 : decode b_F_insert 1 = .ok (.iload_n 1, 1) := by decide +kernel
theorem d_F_insert_2 : decode b_F_insert 2 = .ok (.iload_n 2, 1) := by decide +kernel
theorem d_F_insert_3 : decode b_F_insert 3 = .ok (.invokevirtual 99, 3) := by decide +kernel
theorem d_F_insert_6 : decode b_F_insert 6 = .ok (.ifCond .eq 10, 3) := by decide +kernel
theorem d_F_insert_9 : decode b_F_insert 9 = .ok (.iload_n 3, 1) := by decide +kernel
theorem d_F_insert_10 : decode b_F_insert 10 = .ok (.invokestatic 45, 3) := by decide +kernel
theorem d_F_insert_13 : decode b_F_insert 13 = .ok (.ifCond .ne 5, 3) := by decide +kernel
theorem d_F_insert_16 : decode b_F_insert 16 = .ok (.iconst (-1), 1) := by decide +kernel
theorem d_F_insert_17 : decode b_F_insert 17 = .ok (.ireturn, 1) := by decide +kernel
theorem d_F_insert_18 : decode b_F_insert 18 = .ok (.aload_n 0, 1) := by decide +kernel
theorem d_F_insert_19 : decode b_F_insert 19 = .ok (.getfield 10, 3) := by decide +kernel
theorem d_F_insert_22 : decode b_F_insert 22 = .ok (.getfield 67, 3) := by decide +kernel
theorem d_F_insert_25 : decode b_F_insert 25 = .ok (.iload_n 1, 1) := by decide +kernel
theorem d_F_insert_26 : decode b_F_insert 26 = .ok (.iaload, 1) := by decide +kernel
theorem d_F_insert_27 : decode b_F_insert 27 = .ok (.istore 6, 2) := by decide +kernel
theorem d_F_insert_29 : decode b_F_insert 29 = .ok (.iload_n 2, 1) := by decide +kernel
theorem d_F_insert_30 : decode b_F_insert 30 = .ok (.iload 6, 2) := by decide +kernel
theorem d_F_insert_32 : decode b_F_insert 32 = .ok (.if_icmp .le 7, 3) := by decide +kernel
theorem d_F_insert_35 : decode b_F_insert 35 = .ok (.iload_n 3, 1) := by decide +kernel
theorem d_F_insert_36 : decode b_F_insert 36 = .ok (.ifCond .eq 7, 3) := by decide +kernel
theorem d_F_insert_39 : decode b_F_insert 39 = .ok (.iconst 1, 1) := by decide +kernel
theorem d_F_insert_40 : decode b_F_insert 40 = .ok (.goto 4, 3) := by decide +kernel
theorem d_F_insert_43 : decode b_F_insert 43 = .ok (.iconst 0, 1) := by decide +kernel
theorem d_F_insert_44 : decode b_F_insert 44 = .ok (.istore 7, 2) := by decide +kernel
theorem d_F_insert_46 : decode b_F_insert 46 = .ok (.iload 7, 2) := by decide +kernel
theorem d_F_insert_48 : decode b_F_insert 48 = .ok (.ifCond .eq 29, 3) := by decide +kernel
theorem d_F_insert_51 : decode b_F_insert 51 = .ok (.aload_n 0, 1) := by decide +kernel
theorem d_F_insert_52 : decode b_F_insert 52 = .ok (.getfield 19, 3) := by decide +kernel
theorem d_F_insert_55 : decode b_F_insert 55 = .ok (.invokevirtual 48, 3) := by decide +kernel
theorem d_F_insert_58 : decode b_F_insert 58 = .ok (.ifCond .ne 19, 3) := by decide +kernel
theorem d_F_insert_61 : decode b_F_insert 61 = .ok (.aload_n 0, 1) := by decide +kernel
theorem d_F_insert_62 : decode b_F_insert 62 = .ok (.iload_n 1, 1) := by decide +kernel
theorem d_F_insert_63 : decode b_F_insert 63 = .ok (.iload 6, 2) := by decide +kernel
theorem d_F_insert_65 : decode b_F_insert 65 = .ok (.i2l, 1) := by decide +kernel
theorem d_F_insert_66 : decode b_F_insert 66 = .ok (.lconst 1, 1) := by decide +kernel
theorem d_F_insert_67 : decode b_F_insert 67 = .ok (.ladd, 1) := by decide +kernel
theorem d_F_insert_68 : decode b_F_insert 68 = .ok (.invokevirtual 103, 3) := by decide +kernel
theorem d_F_insert_71 : decode b_F_insert 71 = .ok (.ifCond .ne 6, 3) := by decide +kernel
theorem d_F_insert_74 : decode b_F_insert 74 = .ok (.bipush (-3), 2) := by decide +kernel
theorem d_F_insert_76 : decode b_F_insert 76 = .ok (.ireturn, 1) := by decide +kernel
theorem d_F_insert_77 : decode b_F_insert 77 = .ok (.iload_n 2, 1) := by decide +kernel
theorem d_F_insert_78 : decode b_F_insert 78 = .ok (.iload 6, 2) := by decide +kernel
theorem d_F_insert_80 : decode b_F_insert 80 = .ok (.if_icmp .gt 53, 3) := by decide +kernel
theorem d_F_insert_83 : decode b_F_insert 83 = .ok (.aload_n 0, 1) := by decide +kernel
theorem d_F_insert_84 : decode b_F_insert 84 = .ok (.iload_n 1, 1) := by decide +kernel
theorem d_F_insert_85 : decode b_F_insert 85 = .ok (.iload 6, 2) := by decide +kernel
theorem d_F_insert_87 : decode b_F_insert 87 = .ok (.i2l, 1) := by decide +kernel
theorem d_F_insert_88 : decode b_F_insert 88 = .ok (.invokevirtual 103, 3) := by decide +kernel
theorem d_F_insert_91 : decode b_F_insert 91 = .ok (.istore 8, 2) := by decide +kernel
theorem d_F_insert_93 : decode b_F_insert 93 = .ok (.aload_n 0, 1) := by decide +kernel
theorem d_F_insert_94 : decode b_F_insert 94 = .ok (.iload_n 1, 1) := by decide +kernel
theorem d_F_insert_95 : decode b_F_insert 95 = .ok (.iconst 3, 1) := by decide +kernel
theorem d_F_insert_96 : decode b_F_insert 96 = .ok (.iload 6, 2) := by decide +kernel
theorem d_F_insert_98 : decode b_F_insert 98 = .ok (.i2l, 1) := by decide +kernel
theorem d_F_insert_99 : decode b_F_insert 99 = .ok (.lconst 1, 1) := by decide +kernel
theorem d_F_insert_100 : decode b_F_insert 100 = .ok (.ladd, 1) := by decide +kernel
theorem d_F_insert_101 : decode b_F_insert 101 = .ok (.aload_n 0, 1) := by decide +kernel
theorem d_F_insert_102 : decode b_F_insert 102 = .ok (.getfield 19, 3) := by decide +kernel
theorem d_F_insert_105 : decode b_F_insert 105 = .ok (.getfield 59, 3) := by decide +kernel
theorem d_F_insert_108 : decode b_F_insert 108 = .ok (.iload 8, 2) := by decide +kernel
theorem d_F_insert_110 : decode b_F_insert 110 = .ok (.baload, 1) := by decide +kernel
theorem d_F_insert_111 : decode b_F_insert 111 = .ok (.aload_n 0, 1) := by decide +kernel
theorem d_F_insert_112 : decode b_F_insert 112 = .ok (.getfield 19, 3) := by decide +kernel
theorem d_F_insert_115 : decode b_F_insert 115 = .ok (.getfield 63, 3) := by decide +kernel
theorem d_F_insert_118 : decode b_F_insert 118 = .ok (.iload 8, 2) := by decide +kernel
theorem d_F_insert_120 : decode b_F_insert 120 = .ok (.laload, 1) := by decide +kernel
theorem d_F_insert_121 : decode b_F_insert 121 = .ok (.invokevirtual 55, 3) := by decide +kernel
theorem d_F_insert_124 : decode b_F_insert 124 = .ok (.pop, 1) := by decide +kernel
theorem d_F_insert_125 : decode b_F_insert 125 = .ok (.aload_n 0, 1) := by decide +kernel
theorem d_F_insert_126 : decode b_F_insert 126 = .ok (.iload_n 1, 1) := by decide +kernel
theorem d_F_insert_127 : decode b_F_insert 127 = .ok (.iload_n 2, 1) := by decide +kernel
theorem d_F_insert_128 : decode b_F_insert 128 = .ok (.iload 6, 2) := by decide +kernel
theorem d_F_insert_130 : decode b_F_insert 130 = .ok (.invokevirtual 107, 3) := by decide +kernel
theorem d_F_insert_133 : decode b_F_insert 133 = .ok (.aload_n 0, 1) := by decide +kernel
theorem d_F_insert_134 : decode b_F_insert 134 = .ok (.iload_n 1, 1) := by decide +kernel
theorem d_F_insert_135 : decode b_F_insert 135 = .ok (.iconst 3, 1) := by decide +kernel
theorem d_F_insert_136 : decode b_F_insert 136 = .ok (.iload_n 2, 1) := by decide +kernel
theorem d_F_insert_137 : decode b_F_insert 137 = .ok (.i2l, 1) := by decide +kernel
theorem d_F_insert_138 : decode b_F_insert 138 = .ok (.iload_n 3, 1) := by decide +kernel
theorem d_F_insert_139 : decode b_F_insert 139 = .ok (.lload 4, 2) := by decide +kernel
theorem d_F_insert_141 : decode b_F_insert 141 = .ok (.invokevirtual 55, 3) := by decide +kernel
theorem d_F_insert_144 : decode b_F_insert 144 = .ok (.pop, 1) := by decide +kernel
theorem d_F_insert_145 : decode b_F_insert 145 = .ok (.aload_n 0, 1) := by decide +kernel
theorem d_F_insert_146 : decode b_F_insert 146 = .ok (.getfield 10, 3) := by decide +kernel
theorem d_F_insert_149 : decode b_F_insert 149 = .ok (.getfield 67, 3) := by decide +kernel
theorem d_F_insert_152 : decode b_F_insert 152 = .ok (.iload_n 1, 1) := by decide +kernel
theorem d_F_insert_153 : decode b_F_insert 153 = .ok (.iaload, 1) := by decide +kernel
theorem d_F_insert_154 : decode b_F_insert 154 = .ok (.ireturn, 1) := by decide +kernel
theorem d_F_isKeyKind_0 : decode b_F_isKeyKind 0 = .ok (.iload_n 0, 1) := by decide +kernel
theorem d_F_isKeyKind_1 : decode b_F_isKeyKind 1 = .ok (.ifCond .eq 14, 3) := by decide +kernel
theorem d_F_isKeyKind_4 : decode b_F_isKeyKind 4 = .ok (.iload_n 0, 1) := by decide +kernel
theorem d_F_isKeyKind_5 : decode b_F_isKeyKind 5 = .ok (.invokestatic 45, 3) := by decide +kernel
theorem d_F_isKeyKind_8 : decode b_F_isKeyKind 8 = .ok (.ifCond .eq 7, 3) := by decide +kernel
theorem d_F_isKeyKind_11 : decode b_F_isKeyKind 11 = .ok (.iconst 1, 1) := by decide +kernel
theorem d_F_isKeyKind_12 : decode b_F_isKeyKind 12 = .ok (.goto 4, 3) := by decide +kernel
theorem d_F_isKeyKind_15 : decode b_F_isKeyKind 15 = .ok (.iconst 0, 1) := by decide +kernel
theorem d_F_isKeyKind_16 : decode b_F_isKeyKind 16 = .ok (.ireturn, 1) := by decide +kernel
theorem d_F_isKind_0 : decode b_F_isKind 0 = .ok (.iload_n 0, 1) := by decide +kernel
theorem d_F_isKind_1 : decode b_F_isKind 1 = .ok (.ifCond .lt 13, 3) := by decide +kernel
theorem d_F_isKind_4 : decode b_F_isKind 4 = .ok (.iload_n 0, 1) := by decide +kernel
theorem d_F_isKind_5 : decode b_F_isKind 5 = .ok (.bipush 7, 2) := by decide +kernel
theorem d_F_isKind_7 : decode b_F_isKind 7 = .ok (.if_icmp .gt 7, 3) := by decide +kernel
theorem d_F_isKind_10 : decode b_F_isKind 10 = .ok (.iconst 1, 1) := by decide +kernel
theorem d_F_isKind_11 : decode b_F_isKind 11 = .ok (.goto 4, 3) := by decide +kernel
theorem d_F_isKind_14 : decode b_F_isKind 14 = .ok (.iconst 0, 1) := by decide +kernel
theorem d_F_isKind_15 : decode b_F_isKind 15 = .ok (.ireturn, 1) := by decide +kernel
theorem d_F_isPlace_0 : decode b_F_isPlace 0 = .ok (.aload_n 0, 1) := by decide +kernel
theorem d_F_isPlace_1 : decode b_F_isPlace 1 = .ok (.getfield 10, 3) := by decide +kernel
theorem d_F_isPlace_4 : decode b_F_isPlace 4 = .ok (.iload_n 1, 1) := by decide +kernel
theorem d_F_isPlace_5 : decode b_F_isPlace 5 = .ok (.invokevirtual 38, 3) := by decide +kernel
theorem d_F_isPlace_8 : decode b_F_isPlace 8 = .ok (.ifCond .eq 27, 3) := by decide +kernel
theorem d_F_isPlace_11 : decode b_F_isPlace 11 = .ok (.iload_n 2, 1) := by decide +kernel
theorem d_F_isPlace_12 : decode b_F_isPlace 12 = .ok (.iconst 1, 1) := by decide +kernel
theorem d_F_isPlace_13 : decode b_F_isPlace 13 = .ok (.if_icmp .lt 22, 3) := by decide +kernel
theorem d_F_isPlace_16 : decode b_F_isPlace 16 = .ok (.iload_n 2, 1) := by decide +kernel
theorem d_F_isPlace_17 : decode b_F_isPlace 17 = .ok (.aload_n 0, 1) := by decide +kernel
theorem d_F_isPlace_18 : decode b_F_isPlace 18 = .ok (.getfield 10, 3) := by decide +kernel
theorem d_F_isPlace_21 : decode b_F_isPlace 21 = .ok (.getfield 67, 3) := by decide +kernel
theorem d_F_isPlace_24 : decode b_F_isPlace 24 = .ok (.iload_n 1, 1) := by decide +kernel
theorem d_F_isPlace_25 : decode b_F_isPlace 25 = .ok (.iaload, 1) := by decide +kernel
theorem d_F_isPlace_26 : decode b_F_isPlace 26 = .ok (.iconst 1, 1) := by decide +kernel
theorem d_F_isPlace_27 : decode b_F_isPlace 27 = .ok (.iadd, 1) := by decide +kernel
theorem d_F_isPlace_28 : decode b_F_isPlace 28 = .ok (.if_icmp .gt 7, 3) := by decide +kernel
theorem d_F_isPlace_31 : decode b_F_isPlace 31 = .ok (.iconst 1, 1) := by decide +kernel
theorem d_F_isPlace_32 : decode b_F_isPlace 32 = .ok (.goto 4, 3) := by decide +kernel
theorem d_F_isPlace_35 : decode b_F_isPlace 35 = .ok (.iconst 0, 1) := by decide +kernel
theorem d_F_isPlace_36 : decode b_F_isPlace 36 = .ok (.ireturn, 1) := by decide +kernel
theorem d_F_isRun_0 : decode b_F_isRun 0 = .ok (.aload_n 0, 1) := by decide +kernel
theorem d_F_isRun_1 : decode b_F_isRun 1 = .ok (.getfield 10, 3) := by decide +kernel
theorem d_F_isRun_4 : decode b_F_isRun 4 = .ok (.iload_n 1, 1) := by decide +kernel
theorem d_F_isRun_5 : decode b_F_isRun 5 = .ok (.invokevirtual 38, 3) := by decide +kernel
theorem d_F_isRun_8 : decode b_F_isRun 8 = .ok (.ifCond .eq 50, 3) := by decide +kernel
theorem d_F_isRun_11 : decode b_F_isRun 11 = .ok (.iload 4, 2) := by decide +kernel
theorem d_F_isRun_13 : decode b_F_isRun 13 = .ok (.ifCond .lt 45, 3) := by decide +kernel
theorem d_F_isRun_16 : decode b_F_isRun 16 = .ok (.iload 4, 2) := by decide +kernel
theorem d_F_isRun_18 : decode b_F_isRun 18 = .ok (.sipush 20000, 3) := by decide +kernel
theorem d_F_isRun_21 : decode b_F_isRun 21 = .ok (.if_icmp .gt 37, 3) := by decide +kernel
theorem d_F_isRun_24 : decode b_F_isRun 24 = .ok (.iload 5, 2) := by decide +kernel
theorem d_F_isRun_26 : decode b_F_isRun 26 = .ok (.iconst 1, 1) := by decide +kernel
theorem d_F_isRun_27 : decode b_F_isRun 27 = .ok (.if_icmp .lt 31, 3) := by decide +kernel
theorem d_F_isRun_30 : decode b_F_isRun 30 = .ok (.iload 5, 2) := by decide +kernel
theorem d_F_isRun_32 : decode b_F_isRun 32 = .ok (.sipush 1000, 3) := by decide +kernel
theorem d_F_isRun_35 : decode b_F_isRun 35 = .ok (.if_icmp .gt 23, 3) := by decide +kernel
theorem d_F_isRun_38 : decode b_F_isRun 38 = .ok (.lload_n 2, 1) := by decide +kernel
theorem d_F_isRun_39 : decode b_F_isRun 39 = .ok (.ldc2_w 135, 3) := by decide +kernel
theorem d_F_isRun_42 : decode b_F_isRun 42 = .ok (.lcmp, 1) := by decide +kernel
theorem d_F_isRun_43 : decode b_F_isRun 43 = .ok (.ifCond .lt 15, 3) := by decide +kernel
theorem d_F_isRun_46 : decode b_F_isRun 46 = .ok (.lload_n 2, 1) := by decide +kernel
theorem d_F_isRun_47 : decode b_F_isRun 47 = .ok (.ldc2_w 137, 3) := by decide +kernel
theorem d_F_isRun_50 : decode b_F_isRun 50 = .ok (.lcmp, 1) := by decide +kernel
theorem d_F_isRun_51 : decode b_F_isRun 51 = .ok (.ifCond .gt 7, 3) := by decide +kernel
theorem d_F_isRun_54 : decode b_F_isRun 54 = .ok (.iconst 1, 1) := by decide +kernel
theorem d_F_isRun_55 : decode b_F_isRun 55 = .ok (.goto 4, 3) := by decide +kernel
theorem d_F_isRun_58 : decode b_F_isRun 58 = .ok (.iconst 0, 1) := by decide +kernel
theorem d_F_isRun_59 : decode b_F_isRun 59 = .ok (.ireturn, 1) := by decide +kernel
end
section
theorem d_F_keys_0 : decode b_F_keys 0 = .ok (.aload_n 0, 1) := by decide +kernel
theorem d_F_keys_1 : decode b_F_keys 1 = .ok (.getfield 10, 3) := by decide +kernel
theorem d_F_keys_4 : decode b_F_keys 4 = .ok (.iload_n 1, 1) := by decide +kernel
theorem d_F_keys_5 : decode b_F_keys 5 = .ok (.invokevirtual 38, 3) := by decide +kernel
theorem d_F_keys_8 : decode b_F_keys 8 = .ok (.ifCond .eq 15, 3) := by decide +kernel
theorem d_F_keys_11 : decode b_F_keys 11 = .ok (.aload_n 0, 1) := by decide +kernel
theorem d_F_keys_12 : decode b_F_keys 12 = .ok (.getfield 10, 3) := by decide +kernel
theorem d_F_keys_15 : decode b_F_keys 15 = .ok (.getfield 71, 3) := by decide +kernel
theorem d_F_keys_18 : decode b_F_keys 18 = .ok (.iload_n 1, 1) := by decide +kernel
theorem d_F_keys_19 : decode b_F_keys 19 = .ok (.iaload, 1) := by decide +kernel
theorem d_F_keys_20 : decode b_F_keys 20 = .ok (.goto 4, 3) := by decide +kernel
theorem d_F_keys_23 : decode b_F_keys 23 = .ok (.iconst (-1), 1) := by decide +kernel
theorem d_F_keys_24 : decode b_F_keys 24 = .ok (.ireturn, 1) := by decide +kernel
theorem d_F_kindAt_0 : decode b_F_kindAt 0 = .ok (.aload_n 0, 1) := by decide +kernel
theorem d_F_kindAt_1 : decode b_F_kindAt 1 = .ok (.getfield 10, 3) := by decide +kernel
theorem d_F_kindAt_4 : decode b_F_kindAt 4 = .ok (.iload_n 1, 1) := by decide +kernel
theorem d_F_kindAt_5 : decode b_F_kindAt 5 = .ok (.invokevirtual 38, 3) := by decide +kernel
theorem d_F_kindAt_8 : decode b_F_kindAt 8 = .ok (.ifCond .eq 10, 3) := by decide +kernel
theorem d_F_kindAt_11 : decode b_F_kindAt 11 = .ok (.iload_n 2, 1) := by decide +kernel
theorem d_F_kindAt_12 : decode b_F_kindAt 12 = .ok (.invokestatic 42, 3) := by decide +kernel
theorem d_F_kindAt_15 : decode b_F_kindAt 15 = .ok (.ifCond .ne 5, 3) := by decide +kernel
theorem d_F_kindAt_18 : decode b_F_kindAt 18 = .ok (.iconst (-1), 1) := by decide +kernel
theorem d_F_kindAt_19 : decode b_F_kindAt 19 = .ok (.ireturn, 1) := by decide +kernel
theorem d_F_kindAt_20 : decode b_F_kindAt 20 = .ok (.aload_n 0, 1) := by decide +kernel
theorem d_F_kindAt_21 : decode b_F_kindAt 21 = .ok (.getfield 19, 3) := by decide +kernel
theorem d_F_kindAt_24 : decode b_F_kindAt 24 = .ok (.getfield 59, 3) := by decide +kernel
theorem d_F_kindAt_27 : decode b_F_kindAt 27 = .ok (.aload_n 0, 1) := by decide +kernel
theorem d_F_kindAt_28 : decode b_F_kindAt 28 = .ok (.getfield 19, 3) := by decide +kernel
theorem d_F_kindAt_31 : decode b_F_kindAt 31 = .ok (.iload_n 1, 1) := by decide +kernel
theorem d_F_kindAt_32 : decode b_F_kindAt 32 = .ok (.iload_n 2, 1) := by decide +kernel
theorem d_F_kindAt_33 : decode b_F_kindAt 33 = .ok (.lload_n 3, 1) := by decide +kernel
theorem d_F_kindAt_34 : decode b_F_kindAt 34 = .ok (.invokevirtual 51, 3) := by decide +kernel
theorem d_F_kindAt_37 : decode b_F_kindAt 37 = .ok (.baload, 1) := by decide +kernel
theorem d_F_kindAt_38 : decode b_F_kindAt 38 = .ok (.ireturn, 1) := by decide +kernel
theorem d_F_lowerBorder_0 : decode b_F_lowerBorder 0 = .ok (.lload_n 2, 1) := by decide +kernel
theorem d_F_lowerBorder_1 : decode b_F_lowerBorder 1 = .ok (.lconst 1, 1) := by decide +kernel
theorem d_F_lowerBorder_2 : decode b_F_lowerBorder 2 = .ok (.lcmp, 1) := by decide +kernel
theorem d_F_lowerBorder_3 : decode b_F_lowerBorder 3 = .ok (.ifCond .lt 31, 3) := by decide +kernel
theorem d_F_lowerBorder_6 : decode b_F_lowerBorder 6 = .ok (.lload_n 2, 1) := by decide +kernel
theorem d_F_lowerBorder_7 : decode b_F_lowerBorder 7 = .ok (.aload_n 0, 1) := by decide +kernel
theorem d_F_lowerBorder_8 : decode b_F_lowerBorder 8 = .ok (.getfield 10, 3) := by decide +kernel
theorem d_F_lowerBorder_11 : decode b_F_lowerBorder 11 = .ok (.getfield 67, 3) := by decide +kernel
theorem d_F_lowerBorder_14 : decode b_F_lowerBorder 14 = .ok (.iload_n 1, 1) := by decide +kernel
theorem d_F_lowerBorder_15 : decode b_F_lowerBorder 15 = .ok (.iaload, 1) := by decide +kernel
theorem d_F_lowerBorder_16 : decode b_F_lowerBorder 16 = .ok (.i2l, 1) := by decide +kernel
theorem d_F_lowerBorder_17 : decode b_F_lowerBorder 17 = .ok (.lcmp, 1) := by decide +kernel
theorem d_F_lowerBorder_18 : decode b_F_lowerBorder 18 = .ok (.ifCond .gt 16, 3) := by decide +kernel
theorem d_F_lowerBorder_21 : decode b_F_lowerBorder 21 = .ok (.aload_n 0, 1) := by decide +kernel
theorem d_F_lowerBorder_22 : decode b_F_lowerBorder 22 = .ok (.getfield 10, 3) := by decide +kernel
theorem d_F_lowerBorder_25 : decode b_F_lowerBorder 25 = .ok (.getfield 67, 3) := by decide +kernel
theorem d_F_lowerBorder_28 : decode b_F_lowerBorder 28 = .ok (.iload_n 1, 1) := by decide +kernel
theorem d_F_lowerBorder_29 : decode b_F_lowerBorder 29 = .ok (.lload_n 2, 1) := by decide +kernel
theorem d_F_lowerBorder_30 : decode b_F_lowerBorder 30 = .ok (.lconst 1, 1) := by decide +kernel
theorem d_F_lowerBorder_31 : decode b_F_lowerBorder 31 = .ok (.lsub, 1) := by decide +kernel
theorem d_F_lowerBorder_32 : decode b_F_lowerBorder 32 = .ok (.l2i, 1) := by decide +kernel
theorem d_F_lowerBorder_33 : decode b_F_lowerBorder 33 = .ok (.iastore, 1) := by decide +kernel
theorem d_F_lowerBorder_34 : decode b_F_lowerBorder 34 = .ok (.return_, 1) := by decide +kernel
theorem d_F_make_0 : decode b_F_make 0 = .ok (.aload_n 0, 1) := by decide +kernel
theorem d_F_make_1 : decode b_F_make 1 = .ok (.getfield 10, 3) := by decide +kernel
theorem d_F_make_4 : decode b_F_make 4 = .ok (.getfield 31, 3) := by decide +kernel
theorem d_F_make_7 : decode b_F_make 7 = .ok (.sipush 30000, 3) := by decide +kernel
theorem d_F_make_10 : decode b_F_make 10 = .ok (.if_icmp .ne 8, 3) := by decide +kernel
theorem d_F_make_13 : decode b_F_make 13 = .ok (.bipush (-3), 2) := by decide +kernel
theorem d_F_make_15 : decode b_F_make 15 = .ok (.goto 10, 3) := by decide +kernel
theorem d_F_make_18 : decode b_F_make 18 = .ok (.aload_n 0, 1) := by decide +kernel
theorem d_F_make_19 : decode b_F_make 19 = .ok (.getfield 10, 3) := by decide +kernel
theorem d_F_make_22 : decode b_F_make 22 = .ok (.invokevirtual 34, 3) := by decide +kernel
theorem d_F_make_25 : decode b_F_make 25 = .ok (.ireturn, 1) := by decide +kernel
theorem d_F_missing_0 : decode b_F_missing 0 = .ok (.iconst 0, 1) := by decide +kernel
theorem d_F_missing_1 : decode b_F_missing 1 = .ok (.istore 6, 2) := by decide +kernel
theorem d_F_missing_3 : decode b_F_missing 3 = .ok (.lload_n 2, 1) := by decide +kernel
theorem d_F_missing_4 : decode b_F_missing 4 = .ok (.lstore 7, 2) := by decide +kernel
theorem d_F_missing_6 : decode b_F_missing 6 = .ok (.iconst 0, 1) := by decide +kernel
theorem d_F_missing_7 : decode b_F_missing 7 = .ok (.istore 9, 2) := by decide +kernel
theorem d_F_missing_9 : decode b_F_missing 9 = .ok (.iload 9, 2) := by decide +kernel
theorem d_F_missing_11 : decode b_F_missing 11 = .ok (.iload 4, 2) := by decide +kernel
theorem d_F_missing_13 : decode b_F_missing 13 = .ok (.if_icmp .ge 30, 3) := by decide +kernel
theorem d_F_missing_16 : decode b_F_missing 16 = .ok (.aload_n 0, 1) := by decide +kernel
theorem d_F_missing_17 : decode b_F_missing 17 = .ok (.iload_n 1, 1) := by decide +kernel
theorem d_F_missing_18 : decode b_F_missing 18 = .ok (.lload 7, 2) := by decide +kernel
theorem d_F_missing_20 : decode b_F_missing 20 = .ok (.invokevirtual 103, 3) := by decide +kernel
theorem d_F_missing_23 : decode b_F_missing 23 = .ok (.ifCond .ne 6, 3) := by decide +kernel
theorem d_F_missing_26 : decode b_F_missing 26 = .ok (.iinc 6 1, 3) := by decide +kernel
theorem d_F_missing_29 : decode b_F_missing 29 = .ok (.lload 7, 2) := by decide +kernel
theorem d_F_missing_31 : decode b_F_missing 31 = .ok (.iload 5, 2) := by decide +kernel
theorem d_F_missing_33 : decode b_F_missing 33 = .ok (.i2l, 1) := by decide +kernel
theorem d_F_missing_34 : decode b_F_missing 34 = .ok (.ladd, 1) := by decide +kernel
theorem d_F_missing_35 : decode b_F_missing 35 = .ok (.lstore 7, 2) := by decide +kernel
theorem d_F_missing_37 : decode b_F_missing 37 = .ok (.iinc 9 1, 3) := by decide +kernel
theorem d_F_missing_40 : decode b_F_missing 40 = .ok (.goto (-31), 3) := by decide +kernel
theorem d_F_missing_43 : decode b_F_missing 43 = .ok (.iload 6, 2) := by decide +kernel
theorem d_F_missing_45 : decode b_F_missing 45 = .ok (.ireturn, 1) := by decide +kernel
theorem d_F_missingOf_0 : decode b_F_missingOf 0 = .ok (.iconst 0, 1) := by decide +kernel
theorem d_F_missingOf_1 : decode b_F_missingOf 1 = .ok (.istore_n 3, 1) := by decide +kernel
theorem d_F_missingOf_2 : decode b_F_missingOf 2 = .ok (.aload_n 0, 1) := by decide +kernel
theorem d_F_missingOf_3 : decode b_F_missingOf 3 = .ok (.getfield 10, 3) := by decide +kernel
theorem d_F_missingOf_6 : decode b_F_missingOf 6 = .ok (.getfield 77, 3) := by decide +kernel
theorem d_F_missingOf_9 : decode b_F_missingOf 9 = .ok (.iload_n 2, 1) := by decide +kernel
theorem d_F_missingOf_10 : decode b_F_missingOf 10 = .ok (.iaload, 1) := by decide +kernel
theorem d_F_missingOf_11 : decode b_F_missingOf 11 = .ok (.istore 4, 2) := by decide +kernel
theorem d_F_missingOf_13 : decode b_F_missingOf 13 = .ok (.aload_n 0, 1) := by decide +kernel
theorem d_F_missingOf_14 : decode b_F_missingOf 14 = .ok (.getfield 10, 3) := by decide +kernel
theorem d_F_missingOf_17 : decode b_F_missingOf 17 = .ok (.getfield 71, 3) := by decide +kernel
theorem d_F_missingOf_20 : decode b_F_missingOf 20 = .ok (.iload_n 2, 1) := by decide +kernel
theorem d_F_missingOf_21 : decode b_F_missingOf 21 = .ok (.iaload, 1) := by decide +kernel
theorem d_F_missingOf_22 : decode b_F_missingOf 22 = .ok (.istore 5, 2) := by decide +kernel
theorem d_F_missingOf_24 : decode b_F_missingOf 24 = .ok (.iconst 0, 1) := by decide +kernel
theorem d_F_missingOf_25 : decode b_F_missingOf 25 = .ok (.istore 6, 2) := by decide +kernel
theorem d_F_missingOf_27 : decode b_F_missingOf 27 = .ok (.iload 6, 2) := by decide +kernel
theorem d_F_missingOf_29 : decode b_F_missingOf 29 = .ok (.iload 5, 2) := by decide +kernel
theorem d_F_missingOf_31 : decode b_F_missingOf 31 = .ok (.if_icmp .ge 52, 3) := by decide +kernel
theorem d_F_missingOf_34 : decode b_F_missingOf 34 = .ok (.iload 4, 2) := by decide +kernel
theorem d_F_missingOf_36 : decode b_F_missingOf 36 = .ok (.ifCond .eq 47, 3) := by decide +kernel
theorem d_F_missingOf_39 : decode b_F_missingOf 39 = .ok (.aload_n 0, 1) := by decide +kernel
theorem d_F_missingOf_40 : decode b_F_missingOf 40 = .ok (.getfield 19, 3) := by decide +kernel
theorem d_F_missingOf_43 : decode b_F_missingOf 43 = .ok (.getfield 59, 3) := by decide +kernel
theorem d_F_missingOf_46 : decode b_F_missingOf 46 = .ok (.iload 4, 2) := by decide +kernel
theorem d_F_missingOf_48 : decode b_F_missingOf 48 = .ok (.baload, 1) := by decide +kernel
theorem d_F_missingOf_49 : decode b_F_missingOf 49 = .ok (.ifCond .eq 16, 3) := by decide +kernel
theorem d_F_missingOf_52 : decode b_F_missingOf 52 = .ok (.aload_n 0, 1) := by decide +kernel
theorem d_F_missingOf_53 : decode b_F_missingOf 53 = .ok (.iload_n 1, 1) := by decide +kernel
theorem d_F_missingOf_54 : decode b_F_missingOf 54 = .ok (.iload 4, 2) := by decide +kernel
theorem d_F_missingOf_56 : decode b_F_missingOf 56 = .ok (.invokevirtual 164, 3) := by decide +kernel
theorem d_F_missingOf_59 : decode b_F_missingOf 59 = .ok (.ifCond .ne 6, 3) := by decide +kernel
theorem d_F_missingOf_62 : decode b_F_missingOf 62 = .ok (.iinc 3 1, 3) := by decide +kernel
theorem d_F_missingOf_65 : decode b_F_missingOf 65 = .ok (.aload_n 0, 1) := by decide +kernel
theorem d_F_missingOf_66 : decode b_F_missingOf 66 = .ok (.getfield 19, 3) := by decide +kernel
theorem d_F_missingOf_69 : decode b_F_missingOf 69 = .ok (.getfield 80, 3) := by decide +kernel
theorem d_F_missingOf_72 : decode b_F_missingOf 72 = .ok (.iload 4, 2) := by decide +kernel
theorem d_F_missingOf_74 : decode b_F_missingOf 74 = .ok (.iaload, 1) := by decide +kernel
theorem d_F_missingOf_75 : decode b_F_missingOf 75 = .ok (.istore 4, 2) := by decide +kernel
theorem d_F_missingOf_77 : decode b_F_missingOf 77 = .ok (.iinc 6 1, 3) := by decide +kernel
theorem d_F_missingOf_80 : decode b_F_missingOf 80 = .ok (.goto (-53), 3) := by decide +kernel
theorem d_F_missingOf_83 : decode b_F_missingOf 83 = .ok (.iload_n 3, 1) := by decide +kernel
theorem d_F_missingOf_84 : decode b_F_missingOf 84 = .ok (.ireturn, 1) := by decide +kernel
theorem d_F_moveDown_0 : decode b_F_moveDown 0 = .ok (.aload_n 0, 1) := by decide +kernel
theorem d_F_moveDown_1 : decode b_F_moveDown 1 = .ok (.iload_n 1, 1) := by decide +kernel
theorem d_F_moveDown_2 : decode b_F_moveDown 2 = .ok (.iload_n 2, 1) := by decide +kernel
theorem d_F_moveDown_3 : decode b_F_moveDown 3 = .ok (.i2l, 1) := by decide +kernel
theorem d_F_moveDown_4 : decode b_F_moveDown 4 = .ok (.invokevirtual 103, 3) := by decide +kernel
theorem d_F_moveDown_7 : decode b_F_moveDown 7 = .ok (.istore 4, 2) := by decide +kernel
theorem d_F_moveDown_9 : decode b_F_moveDown 9 = .ok (.iload_n 2, 1) := by decide +kernel
theorem d_F_moveDown_10 : decode b_F_moveDown 10 = .ok (.iconst 1, 1) := by decide +kernel
theorem d_F_moveDown_11 : decode b_F_moveDown 11 = .ok (.iadd, 1) := by decide +kernel
theorem d_F_moveDown_12 : decode b_F_moveDown 12 = .ok (.istore 5, 2) := by decide +kernel
theorem d_F_moveDown_14 : decode b_F_moveDown 14 = .ok (.iload 5, 2) := by decide +kernel
theorem d_F_moveDown_16 : decode b_F_moveDown 16 = .ok (.iload_n 3, 1) := by decide +kernel
theorem d_F_moveDown_17 : decode b_F_moveDown 17 = .ok (.if_icmp .gt 34, 3) := by decide +kernel
theorem d_F_moveDown_20 : decode b_F_moveDown 20 = .ok (.aload_n 0, 1) := by decide +kernel
theorem d_F_moveDown_21 : decode b_F_moveDown 21 = .ok (.iload_n 1, 1) := by decide +kernel
theorem d_F_moveDown_22 : decode b_F_moveDown 22 = .ok (.iload 5, 2) := by decide +kernel
theorem d_F_moveDown_24 : decode b_F_moveDown 24 = .ok (.i2l, 1) := by decide +kernel
theorem d_F_moveDown_25 : decode b_F_moveDown 25 = .ok (.invokevirtual 103, 3) := by decide +kernel
theorem d_F_moveDown_28 : decode b_F_moveDown 28 = .ok (.istore 6, 2) := by decide +kernel
theorem d_F_moveDown_30 : decode b_F_moveDown 30 = .ok (.aload_n 0, 1) := by decide +kernel
theorem d_F_moveDown_31 : decode b_F_moveDown 31 = .ok (.getfield 19, 3) := by decide +kernel
theorem d_F_moveDown_34 : decode b_F_moveDown 34 = .ok (.iload 4, 2) := by decide +kernel
theorem d_F_moveDown_36 : decode b_F_moveDown 36 = .ok (.iload 6, 2) := by decide +kernel
theorem d_F_moveDown_38 : decode b_F_moveDown 38 = .ok (.invokevirtual 170, 3) := by decide +kernel
theorem d_F_moveDown_41 : decode b_F_moveDown 41 = .ok (.iload 6, 2) := by decide +kernel
theorem d_F_moveDown_43 : decode b_F_moveDown 43 = .ok (.istore 4, 2) := by decide +kernel
theorem d_F_moveDown_45 : decode b_F_moveDown 45 = .ok (.iinc 5 1, 3) := by decide +kernel
theorem d_F_moveDown_48 : decode b_F_moveDown 48 = .ok (.goto (-34), 3) := by decide +kernel
theorem d_F_moveDown_51 : decode b_F_moveDown 51 = .ok (.return_, 1) := by decide +kernel
theorem d_F_moveUp_0 : decode b_F_moveUp 0 = .ok (.aload_n 0, 1) := by decide +kernel
theorem d_F_moveUp_1 : decode b_F_moveUp 1 = .ok (.iload_n 1, 1) := by decide +kernel
theorem d_F_moveUp_2 : decode b_F_moveUp 2 = .ok (.iload_n 3, 1) := by decide +kernel
theorem d_F_moveUp_3 : decode b_F_moveUp 3 = .ok (.i2l, 1) := by decide +kernel
theorem d_F_moveUp_4 : decode b_F_moveUp 4 = .ok (.invokevirtual 103, 3) := by decide +kernel
theorem d_F_moveUp_7 : decode b_F_moveUp 7 = .ok (.istore 4, 2) := by decide +kernel
theorem d_F_moveUp_9 : decode b_F_moveUp 9 = .ok (.iload_n 3, 1) := by decide +kernel
theorem d_F_moveUp_10 : decode b_F_moveUp 10 = .ok (.iconst 1, 1) := by decide +kernel
theorem d_F_moveUp_11 : decode b_F_moveUp 11 = .ok (.isub, 1) := by decide +kernel
theorem d_F_moveUp_12 : decode b_F_moveUp 12 = .ok (.istore 5, 2) := by decide +kernel
theorem d_F_moveUp_14 : decode b_F_moveUp 14 = .ok (.iload 5, 2) := by decide +kernel
theorem d_F_moveUp_16 : decode b_F_moveUp 16 = .ok (.iload_n 2, 1) := by decide +kernel
theorem d_F_moveUp_17 : decode b_F_moveUp 17 = .ok (.if_icmp .lt 34, 3) := by decide +kernel
theorem d_F_moveUp_20 : decode b_F_moveUp 20 = .ok (.aload_n 0, 1) := by decide +kernel
theorem d_F_moveUp_21 : decode b_F_moveUp 21 = .ok (.iload_n 1, 1) := by decide +kernel
theorem d_F_moveUp_22 : decode b_F_moveUp 22 = .ok (.iload 5, 2) := by decide +kernel
theorem d_F_moveUp_24 : decode b_F_moveUp 24 = .ok (.i2l, 1) := by decide +kernel
theorem d_F_moveUp_25 : decode b_F_moveUp 25 = .ok (.invokevirtual 103, 3) := by decide +kernel
theorem d_F_moveUp_28 : decode b_F_moveUp 28 = .ok (.istore 6, 2) := by decide +kernel
theorem d_F_moveUp_30 : decode b_F_moveUp 30 = .ok (.aload_n 0, 1) := by decide +kernel
theorem d_F_moveUp_31 : decode b_F_moveUp 31 = .ok (.getfield 19, 3) := by decide +kernel
theorem d_F_moveUp_34 : decode b_F_moveUp 34 = .ok (.iload 4, 2) := by decide +kernel
theorem d_F_moveUp_36 : decode b_F_moveUp 36 = .ok (.iload 6, 2) := by decide +kernel
theorem d_F_moveUp_38 : decode b_F_moveUp 38 = .ok (.invokevirtual 170, 3) := by decide +kernel
theorem d_F_moveUp_41 : decode b_F_moveUp 41 = .ok (.iload 6, 2) := by decide +kernel
theorem d_F_moveUp_43 : decode b_F_moveUp 43 = .ok (.istore 4, 2) := by decide +kernel
theorem d_F_moveUp_45 : decode b_F_moveUp 45 = .ok (.iinc 5 (-1), 3) := by decide +kernel
theorem d_F_moveUp_48 : decode b_F_moveUp 48 = .ok (.goto (-34), 3) := by decide +kernel
theorem d_F_moveUp_51 : decode b_F_moveUp 51 = .ok (.return_, 1) := by decide +kernel
theorem d_F_next_0 : decode b_F_next 0 = .ok (.aload_n 0, 1) := by decide +kernel
theorem d_F_next_1 : decode b_F_next 1 = .ok (.getfield 10, 3) := by decide +kernel
theorem d_F_next_4 : decode b_F_next 4 = .ok (.iload_n 1, 1) := by decide +kernel
theorem d_F_next_5 : decode b_F_next 5 = .ok (.invokevirtual 38, 3) := by decide +kernel
theorem d_F_next_8 : decode b_F_next 8 = .ok (.ifCond .eq 10, 3) := by decide +kernel
theorem d_F_next_11 : decode b_F_next 11 = .ok (.iload_n 2, 1) := by decide +kernel
theorem d_F_next_12 : decode b_F_next 12 = .ok (.invokestatic 45, 3) := by decide +kernel
theorem d_F_next_15 : decode b_F_next 15 = .ok (.ifCond .ne 5, 3) := by decide +kernel
theorem d_F_next_18 : decode b_F_next 18 = .ok (.iconst (-1), 1) := by decide +kernel
theorem d_F_next_19 : decode b_F_next 19 = .ok (.ireturn, 1) := by decide +kernel
theorem d_F_next_20 : decode b_F_next 20 = .ok (.aload_n 0, 1) := by decide +kernel
theorem d_F_next_21 : decode b_F_next 21 = .ok (.getfield 10, 3) := by decide +kernel
theorem d_F_next_24 : decode b_F_next 24 = .ok (.getfield 77, 3) := by decide +kernel
theorem d_F_next_27 : decode b_F_next 27 = .ok (.iload_n 1, 1) := by decide +kernel
theorem d_F_next_28 : decode b_F_next 28 = .ok (.iaload, 1) := by decide +kernel
theorem d_F_next_29 : decode b_F_next 29 = .ok (.istore 5, 2) := by decide +kernel
theorem d_F_next_31 : decode b_F_next 31 = .ok (.iload_n 2, 1) := by decide +kernel
theorem d_F_next_32 : decode b_F_next 32 = .ok (.ifCond .eq 35, 3) := by decide +kernel
theorem d_F_next_35 : decode b_F_next 35 = .ok (.aload_n 0, 1) := by decide +kernel
theorem d_F_next_36 : decode b_F_next 36 = .ok (.getfield 19, 3) := by decide +kernel
theorem d_F_next_39 : decode b_F_next 39 = .ok (.iload_n 1, 1) := by decide +kernel
theorem d_F_next_40 : decode b_F_next 40 = .ok (.iload_n 2, 1) := by decide +kernel
theorem d_F_next_41 : decode b_F_next 41 = .ok (.lload_n 3, 1) := by decide +kernel
theorem d_F_next_42 : decode b_F_next 42 = .ok (.invokevirtual 51, 3) := by decide +kernel
theorem d_F_next_45 : decode b_F_next 45 = .ok (.istore 6, 2) := by decide +kernel
theorem d_F_next_47 : decode b_F_next 47 = .ok (.iload 6, 2) := by decide +kernel
theorem d_F_next_49 : decode b_F_next 49 = .ok (.ifCond .ne 6, 3) := by decide +kernel
theorem d_F_next_52 : decode b_F_next 52 = .ok (.bipush (-2), 2) := by decide +kernel
theorem d_F_next_54 : decode b_F_next 54 = .ok (.ireturn, 1) := by decide +kernel
theorem d_F_next_55 : decode b_F_next 55 = .ok (.aload_n 0, 1) := by decide +kernel
theorem d_F_next_56 : decode b_F_next 56 = .ok (.getfield 19, 3) := by decide +kernel
theorem d_F_next_59 : decode b_F_next 59 = .ok (.getfield 80, 3) := by decide +kernel
theorem d_F_next_62 : decode b_F_next 62 = .ok (.iload 6, 2) := by decide +kernel
theorem d_F_next_64 : decode b_F_next 64 = .ok (.iaload, 1) := by decide +kernel
theorem d_F_next_65 : decode b_F_next 65 = .ok (.istore 5, 2) := by decide +kernel
theorem d_F_next_67 : decode b_F_next 67 = .ok (.aload_n 0, 1) := by decide +kernel
theorem d_F_next_68 : decode b_F_next 68 = .ok (.aload_n 0, 1) := by decide +kernel
theorem d_F_next_69 : decode b_F_next 69 = .ok (.iload_n 1, 1) := by decide +kernel
theorem d_F_next_70 : decode b_F_next 70 = .ok (.iload 5, 2) := by decide +kernel
theorem d_F_next_72 : decode b_F_next 72 = .ok (.invokevirtual 83, 3) := by decide +kernel
theorem d_F_next_75 : decode b_F_next 75 = .ok (.invokevirtual 87, 3) := by decide +kernel
theorem d_F_next_78 : decode b_F_next 78 = .ok (.ireturn, 1) := by decide +kernel
theorem d_F_numberAt_0 : decode b_F_numberAt 0 = .ok (.aload_n 0, 1) := by decide +kernel
theorem d_F_numberAt_1 : decode b_F_numberAt 1 = .ok (.getfield 10, 3) := by decide +kernel
theorem d_F_numberAt_4 : decode b_F_numberAt 4 = .ok (.iload_n 1, 1) := by decide +kernel
theorem d_F_numberAt_5 : decode b_F_numberAt 5 = .ok (.invokevirtual 38, 3) := by decide +kernel
theorem d_F_numberAt_8 : decode b_F_numberAt 8 = .ok (.ifCond .eq 10, 3) := by decide +kernel
theorem d_F_numberAt_11 : decode b_F_numberAt 11 = .ok (.iload_n 2, 1) := by decide +kernel
theorem d_F_numberAt_12 : decode b_F_numberAt 12 = .ok (.invokestatic 42, 3) := by decide +kernel
theorem d_F_numberAt_15 : decode b_F_numberAt 15 = .ok (.ifCond .ne 5, 3) := by decide +kernel
theorem d_F_numberAt_18 : decode b_F_numberAt 18 = .ok (.lconst 0, 1) := by decide +kernel
theorem d_F_numberAt_19 : decode b_F_numberAt 19 = .ok (.lreturn, 1) := by decide +kernel
theorem d_F_numberAt_20 : decode b_F_numberAt 20 = .ok (.aload_n 0, 1) := by decide +kernel
theorem d_F_numberAt_21 : decode b_F_numberAt 21 = .ok (.getfield 19, 3) := by decide +kernel
theorem d_F_numberAt_24 : decode b_F_numberAt 24 = .ok (.getfield 63, 3) := by decide +kernel
theorem d_F_numberAt_27 : decode b_F_numberAt 27 = .ok (.aload_n 0, 1) := by decide +kernel
theorem d_F_numberAt_28 : decode b_F_numberAt 28 = .ok (.getfield 19, 3) := by decide +kernel
theorem d_F_numberAt_31 : decode b_F_numberAt 31 = .ok (.iload_n 1, 1) := by decide +kernel
theorem d_F_numberAt_32 : decode b_F_numberAt 32 = .ok (.iload_n 2, 1) := by decide +kernel
theorem d_F_numberAt_33 : decode b_F_numberAt 33 = .ok (.lload_n 3, 1) := by decide +kernel
theorem d_F_numberAt_34 : decode b_F_numberAt 34 = .ok (.invokevirtual 51, 3) := by decide +kernel
theorem d_F_numberAt_37 : decode b_F_numberAt 37 = .ok (.laload, 1) := by decide +kernel
theorem d_F_numberAt_38 : decode b_F_numberAt 38 = .ok (.lreturn, 1) := by decide +kernel
theorem d_F_put_0 : decode b_F_put 0 = .ok (.aload_n 0, 1) := by decide +kernel
theorem d_F_put_1 : decode b_F_put 1 = .ok (.getfield 10, 3) := by decide +kernel
theorem d_F_put_4 : decode b_F_put 4 = .ok (.iload_n 1, 1) := by decide +kernel
theorem d_F_put_5 : decode b_F_put 5 = .ok (.invokevirtual 38, 3) := by decide +kernel
theorem d_F_put_8 : decode b_F_put 8 = .ok (.ifCond .eq 18, 3) := by decide +kernel
theorem d_F_put_11 : decode b_F_put 11 = .ok (.iload_n 2, 1) := by decide +kernel
theorem d_F_put_12 : decode b_F_put 12 = .ok (.invokestatic 42, 3) := by decide +kernel
theorem d_F_put_15 : decode b_F_put 15 = .ok (.ifCond .eq 11, 3) := by decide +kernel
theorem d_F_put_18 : decode b_F_put 18 = .ok (.iload 5, 2) := by decide +kernel
theorem d_F_put_20 : decode b_F_put 20 = .ok (.invokestatic 45, 3) := by decide +kernel
theorem d_F_put_23 : decode b_F_put 23 = .ok (.ifCond .ne 5, 3) := by decide +kernel
theorem d_F_put_26 : decode b_F_put 26 = .ok (.iconst (-1), 1) := by decide +kernel
theorem d_F_put_27 : decode b_F_put 27 = .ok (.ireturn, 1) := by decide +kernel
theorem d_F_put_28 : decode b_F_put 28 = .ok (.iload 5, 2) := by decide +kernel
theorem d_F_put_30 : decode b_F_put 30 = .ok (.ifCond .eq 29, 3) := by decide +kernel
theorem d_F_put_33 : decode b_F_put 33 = .ok (.aload_n 0, 1) := by decide +kernel
theorem d_F_put_34 : decode b_F_put 34 = .ok (.getfield 19, 3) := by decide +kernel
theorem d_F_put_37 : decode b_F_put 37 = .ok (.invokevirtual 48, 3) := by decide +kernel
theorem d_F_put_40 : decode b_F_put 40 = .ok (.ifCond .ne 19, 3) := by decide +kernel
theorem d_F_put_43 : decode b_F_put 43 = .ok (.aload_n 0, 1) := by decide +kernel
theorem d_F_put_44 : decode b_F_put 44 = .ok (.getfield 19, 3) := by decide +kernel
theorem d_F_put_47 : decode b_F_put 47 = .ok (.iload_n 1, 1) := by decide +kernel
theorem d_F_put_48 : decode b_F_put 48 = .ok (.iload_n 2, 1) := by decide +kernel
theorem d_F_put_49 : decode b_F_put 49 = .ok (.lload_n 3, 1) := by decide +kernel
theorem d_F_put_50 : decode b_F_put 50 = .ok (.invokevirtual 51, 3) := by decide +kernel
theorem d_F_put_53 : decode b_F_put 53 = .ok (.ifCond .ne 6, 3) := by decide +kernel
theorem d_F_put_56 : decode b_F_put 56 = .ok (.bipush (-3), 2) := by decide +kernel
theorem d_F_put_58 : decode b_F_put 58 = .ok (.ireturn, 1) := by decide +kernel
theorem d_F_put_59 : decode b_F_put 59 = .ok (.aload_n 0, 1) := by decide +kernel
theorem d_F_put_60 : decode b_F_put 60 = .ok (.iload_n 1, 1) := by decide +kernel
theorem d_F_put_61 : decode b_F_put 61 = .ok (.iload_n 2, 1) := by decide +kernel
theorem d_F_put_62 : decode b_F_put 62 = .ok (.lload_n 3, 1) := by decide +kernel
theorem d_F_put_63 : decode b_F_put 63 = .ok (.iload 5, 2) := by decide +kernel
theorem d_F_put_65 : decode b_F_put 65 = .ok (.lload 6, 2) := by decide +kernel
theorem d_F_put_67 : decode b_F_put 67 = .ok (.invokevirtual 55, 3) := by decide +kernel
theorem d_F_put_70 : decode b_F_put 70 = .ok (.ireturn, 1) := by decide +kernel
theorem d_F_raiseBorder_0 : decode b_F_raiseBorder 0 = .ok (.aload_n 0, 1) := by decide +kernel
theorem d_F_raiseBorder_1 : decode b_F_raiseBorder 1 = .ok (.getfield 10, 3) := by decide +kernel
theorem d_F_raiseBorder_4 : decode b_F_raiseBorder 4 = .ok (.getfield 67, 3) := by decide +kernel
theorem d_F_raiseBorder_7 : decode b_F_raiseBorder 7 = .ok (.iload_n 1, 1) := by decide +kernel
theorem d_F_raiseBorder_8 : decode b_F_raiseBorder 8 = .ok (.iaload, 1) := by decide +kernel
theorem d_F_raiseBorder_9 : decode b_F_raiseBorder 9 = .ok (.istore 4, 2) := by decide +kernel
theorem d_F_raiseBorder_11 : decode b_F_raiseBorder 11 = .ok (.lload_n 2, 1) := by decide +kernel
theorem d_F_raiseBorder_12 : decode b_F_raiseBorder 12 = .ok (.iload 4, 2) := by decide +kernel
theorem d_F_raiseBorder_14 : decode b_F_raiseBorder 14 = .ok (.i2l, 1) := by decide +kernel
theorem d_F_raiseBorder_15 : decode b_F_raiseBorder 15 = .ok (.lconst 1, 1) := by decide +kernel
theorem d_F_raiseBorder_16 : decode b_F_raiseBorder 16 = .ok (.ladd, 1) := by decide +kernel
theorem d_F_raiseBorder_17 : decode b_F_raiseBorder 17 = .ok (.lcmp, 1) := by decide +kernel
theorem d_F_raiseBorder_18 : decode b_F_raiseBorder 18 = .ok (.ifCond .eq 4, 3) := by decide +kernel
theorem d_F_raiseBorder_21 : decode b_F_raiseBorder 21 = .ok (.return_, 1) := by decide +kernel
theorem d_F_raiseBorder_22 : decode b_F_raiseBorder 22 = .ok (.iinc 4 1, 3) := by decide +kernel
theorem d_F_raiseBorder_25 : decode b_F_raiseBorder 25 = .ok (.iload 4, 2) := by decide +kernel
theorem d_F_raiseBorder_27 : decode b_F_raiseBorder 27 = .ok (.ldc 163, 2) := by decide +kernel
theorem d_F_raiseBorder_29 : decode b_F_raiseBorder 29 = .ok (.if_icmp .ge 34, 3) := by decide +kernel
theorem d_F_raiseBorder_32 : decode b_F_raiseBorder 32 = .ok (.aload_n 0, 1) := by decide +kernel
theorem d_F_raiseBorder_33 : decode b_F_raiseBorder 33 = .ok (.getfield 19, 3) := by decide +kernel
theorem d_F_raiseBorder_36 : decode b_F_raiseBorder 36 = .ok (.getfield 59, 3) := by decide +kernel
theorem d_F_raiseBorder_39 : decode b_F_raiseBorder 39 = .ok (.aload_n 0, 1) := by decide +kernel
theorem d_F_raiseBorder_40 : decode b_F_raiseBorder 40 = .ok (.getfield 19, 3) := by decide +kernel
theorem d_F_raiseBorder_43 : decode b_F_raiseBorder 43 = .ok (.iload_n 1, 1) := by decide +kernel
theorem d_F_raiseBorder_44 : decode b_F_raiseBorder 44 = .ok (.iconst 3, 1) := by decide +kernel
theorem d_F_raiseBorder_45 : decode b_F_raiseBorder 45 = .ok (.iload 4, 2) := by decide +kernel
theorem d_F_raiseBorder_47 : decode b_F_raiseBorder 47 = .ok (.i2l, 1) := by decide +kernel
theorem d_F_raiseBorder_48 : decode b_F_raiseBorder 48 = .ok (.lconst 1, 1) := by decide +kernel
theorem d_F_raiseBorder_49 : decode b_F_raiseBorder 49 = .ok (.ladd, 1) := by decide +kernel
theorem d_F_raiseBorder_50 : decode b_F_raiseBorder 50 = .ok (.invokevirtual 51, 3) := by decide +kernel
theorem d_F_raiseBorder_53 : decode b_F_raiseBorder 53 = .ok (.baload, 1) := by decide +kernel
theorem d_F_raiseBorder_54 : decode b_F_raiseBorder 54 = .ok (.ifCond .eq 9, 3) := by decide +kernel
theorem d_F_raiseBorder_57 : decode b_F_raiseBorder 57 = .ok (.iinc 4 1, 3) := by decide +kernel
theorem d_F_raiseBorder_60 : decode b_F_raiseBorder 60 = .ok (.goto (-35), 3) := by decide +kernel
theorem d_F_raiseBorder_63 : decode b_F_raiseBorder 63 = .ok (.aload_n 0, 1) := by decide +kernel
theorem d_F_raiseBorder_64 : decode b_F_raiseBorder 64 = .ok (.getfield 10, 3) := by decide +kernel
theorem d_F_raiseBorder_67 : decode b_F_raiseBorder 67 = .ok (.getfield 67, 3) := by decide +kernel
theorem d_F_raiseBorder_70 : decode b_F_raiseBorder 70 = .ok (.iload_n 1, 1) := by decide +kernel
theorem d_F_raiseBorder_71 : decode b_F_raiseBorder 71 = .ok (.iload 4, 2) := by decide +kernel
theorem d_F_raiseBorder_73 : decode b_F_raiseBorder 73 = .ok (.iastore, 1) := by decide +kernel
theorem d_F_raiseBorder_74 : decode b_F_raiseBorder 74 = .ok (.return_, 1) := by decide +kernel
theorem d_F_remove_0 : decode b_F_remove 0 = .ok (.aload_n 0, 1) := by decide +kernel
theorem d_F_remove_1 : decode b_F_remove 1 = .ok (.iload_n 1, 1) := by decide +kernel
theorem d_F_remove_2 : decode b_F_remove 2 = .ok (.iload_n 2, 1) := by decide +kernel
theorem d_F_remove_3 : decode b_F_remove 3 = .ok (.invokevirtual 99, 3) := by decide +kernel
theorem d_F_remove_6 : decode b_F_remove 6 = .ok (.ifCond .ne 5, 3) := by decide +kernel
theorem d_F_remove_9 : decode b_F_remove 9 = .ok (.iconst (-1), 1) := by decide +kernel
theorem d_F_remove_10 : decode b_F_remove 10 = .ok (.ireturn, 1) := by decide +kernel
theorem d_F_remove_11 : decode b_F_remove 11 = .ok (.aload_n 0, 1) := by decide +kernel
theorem d_F_remove_12 : decode b_F_remove 12 = .ok (.getfield 10, 3) := by decide +kernel
theorem d_F_remove_15 : decode b_F_remove 15 = .ok (.getfield 67, 3) := by decide +kernel
theorem d_F_remove_18 : decode b_F_remove 18 = .ok (.iload_n 1, 1) := by decide +kernel
theorem d_F_remove_19 : decode b_F_remove 19 = .ok (.iaload, 1) := by decide +kernel
theorem d_F_remove_20 : decode b_F_remove 20 = .ok (.istore_n 3, 1) := by decide +kernel
theorem d_F_remove_21 : decode b_F_remove 21 = .ok (.iload_n 2, 1) := by decide +kernel
theorem d_F_remove_22 : decode b_F_remove 22 = .ok (.iload_n 3, 1) := by decide +kernel
theorem d_F_remove_23 : decode b_F_remove 23 = .ok (.if_icmp .gt 21, 3) := by decide +kernel
theorem d_F_remove_26 : decode b_F_remove 26 = .ok (.aload_n 0, 1) := by decide +kernel
theorem d_F_remove_27 : decode b_F_remove 27 = .ok (.iload_n 1, 1) := by decide +kernel
theorem d_F_remove_28 : decode b_F_remove 28 = .ok (.iload_n 2, 1) := by decide +kernel
theorem d_F_remove_29 : decode b_F_remove 29 = .ok (.iload_n 3, 1) := by decide +kernel
theorem d_F_remove_30 : decode b_F_remove 30 = .ok (.invokevirtual 111, 3) := by decide +kernel
theorem d_F_remove_33 : decode b_F_remove 33 = .ok (.aload_n 0, 1) := by decide +kernel
theorem d_F_remove_34 : decode b_F_remove 34 = .ok (.iload_n 1, 1) := by decide +kernel
theorem d_F_remove_35 : decode b_F_remove 35 = .ok (.iconst 3, 1) := by decide +kernel
theorem d_F_remove_36 : decode b_F_remove 36 = .ok (.iload_n 3, 1) := by decide +kernel
theorem d_F_remove_37 : decode b_F_remove 37 = .ok (.i2l, 1) := by decide +kernel
theorem d_F_remove_38 : decode b_F_remove 38 = .ok (.iconst 0, 1) := by decide +kernel
theorem d_F_remove_39 : decode b_F_remove 39 = .ok (.lconst 0, 1) := by decide +kernel
theorem d_F_remove_40 : decode b_F_remove 40 = .ok (.invokevirtual 55, 3) := by decide +kernel
theorem d_F_remove_43 : decode b_F_remove 43 = .ok (.pop, 1) := by decide +kernel
theorem d_F_remove_44 : decode b_F_remove 44 = .ok (.aload_n 0, 1) := by decide +kernel
theorem d_F_remove_45 : decode b_F_remove 45 = .ok (.getfield 10, 3) := by decide +kernel
theorem d_F_remove_48 : decode b_F_remove 48 = .ok (.getfield 67, 3) := by decide +kernel
theorem d_F_remove_51 : decode b_F_remove 51 = .ok (.iload_n 1, 1) := by decide +kernel
theorem d_F_remove_52 : decode b_F_remove 52 = .ok (.iaload, 1) := by decide +kernel
theorem d_F_remove_53 : decode b_F_remove 53 = .ok (.ireturn, 1) := by decide +kernel
theorem d_F_reverse_0 : decode b_F_reverse 0 = .ok (.aload_n 0, 1) := by decide +kernel
theorem d_F_reverse_1 : decode b_F_reverse 1 = .ok (.getfield 10, 3) := by decide +kernel
theorem d_F_reverse_4 : decode b_F_reverse 4 = .ok (.iload_n 1, 1) := by decide +kernel
theorem d_F_reverse_5 : decode b_F_reverse 5 = .ok (.invokevirtual 38, 3) := by decide +kernel
theorem d_F_reverse_8 : decode b_F_reverse 8 = .ok (.ifCond .ne 5, 3) := by decide +kernel
theorem d_F_reverse_11 : decode b_F_reverse 11 = .ok (.iconst (-1), 1) := by decide +kernel
theorem d_F_reverse_12 : decode b_F_reverse 12 = .ok (.ireturn, 1) := by decide +kernel
theorem d_F_reverse_13 : decode b_F_reverse 13 = .ok (.aload_n 0, 1) := by decide +kernel
theorem d_F_reverse_14 : decode b_F_reverse 14 = .ok (.getfield 10, 3) := by decide +kernel
theorem d_F_reverse_17 : decode b_F_reverse 17 = .ok (.getfield 67, 3) := by decide +kernel
theorem d_F_reverse_20 : decode b_F_reverse 20 = .ok (.iload_n 1, 1) := by decide +kernel
theorem d_F_reverse_21 : decode b_F_reverse 21 = .ok (.iaload, 1) := by decide +kernel
theorem d_F_reverse_22 : decode b_F_reverse 22 = .ok (.istore_n 2, 1) := by decide +kernel
theorem d_F_reverse_23 : decode b_F_reverse 23 = .ok (.iload_n 2, 1) := by decide +kernel
theorem d_F_reverse_24 : decode b_F_reverse 24 = .ok (.istore_n 3, 1) := by decide +kernel
theorem d_F_reverse_25 : decode b_F_reverse 25 = .ok (.iconst 1, 1) := by decide +kernel
theorem d_F_reverse_26 : decode b_F_reverse 26 = .ok (.istore 4, 2) := by decide +kernel
theorem d_F_reverse_28 : decode b_F_reverse 28 = .ok (.iload 4, 2) := by decide +kernel
theorem d_F_reverse_30 : decode b_F_reverse 30 = .ok (.iload_n 3, 1) := by decide +kernel
theorem d_F_reverse_31 : decode b_F_reverse 31 = .ok (.if_icmp .ge 34, 3) := by decide +kernel
theorem d_F_reverse_34 : decode b_F_reverse 34 = .ok (.aload_n 0, 1) := by decide +kernel
theorem d_F_reverse_35 : decode b_F_reverse 35 = .ok (.getfield 19, 3) := by decide +kernel
theorem d_F_reverse_38 : decode b_F_reverse 38 = .ok (.aload_n 0, 1) := by decide +kernel
theorem d_F_reverse_39 : decode b_F_reverse 39 = .ok (.iload_n 1, 1) := by decide +kernel
theorem d_F_reverse_40 : decode b_F_reverse 40 = .ok (.iload 4, 2) := by decide +kernel
theorem d_F_reverse_42 : decode b_F_reverse 42 = .ok (.i2l, 1) := by decide +kernel
theorem d_F_reverse_43 : decode b_F_reverse 43 = .ok (.invokevirtual 103, 3) := by decide +kernel
theorem d_F_reverse_46 : decode b_F_reverse 46 = .ok (.aload_n 0, 1) := by decide +kernel
theorem d_F_reverse_47 : decode b_F_reverse 47 = .ok (.iload_n 1, 1) := by decide +kernel
theorem d_F_reverse_48 : decode b_F_reverse 48 = .ok (.iload_n 3, 1) := by decide +kernel
theorem d_F_reverse_49 : decode b_F_reverse 49 = .ok (.i2l, 1) := by decide +kernel
theorem d_F_reverse_50 : decode b_F_reverse 50 = .ok (.invokevirtual 103, 3) := by decide +kernel
theorem d_F_reverse_53 : decode b_F_reverse 53 = .ok (.invokevirtual 114, 3) := by decide +kernel
theorem d_F_reverse_56 : decode b_F_reverse 56 = .ok (.iinc 3 (-1), 3) := by decide +kernel
theorem d_F_reverse_59 : decode b_F_reverse 59 = .ok (.iinc 4 1, 3) := by decide +kernel
theorem d_F_reverse_62 : decode b_F_reverse 62 = .ok (.goto (-34), 3) := by decide +kernel
theorem d_F_reverse_65 : decode b_F_reverse 65 = .ok (.iload_n 2, 1) := by decide +kernel
theorem d_F_reverse_66 : decode b_F_reverse 66 = .ok (.ireturn, 1) := by decide +kernel
theorem d_F_same_0 : decode b_F_same 0 = .ok (.aload_n 0, 1) := by decide +kernel
theorem d_F_same_1 : decode b_F_same 1 = .ok (.getfield 10, 3) := by decide +kernel
theorem d_F_same_4 : decode b_F_same 4 = .ok (.iload_n 1, 1) := by decide +kernel
theorem d_F_same_5 : decode b_F_same 5 = .ok (.invokevirtual 38, 3) := by decide +kernel
theorem d_F_same_8 : decode b_F_same 8 = .ok (.ifCond .eq 14, 3) := by decide +kernel
theorem d_F_same_11 : decode b_F_same 11 = .ok (.aload_n 0, 1) := by decide +kernel
theorem d_F_same_12 : decode b_F_same 12 = .ok (.getfield 10, 3) := by decide +kernel
theorem d_F_same_15 : decode b_F_same 15 = .ok (.iload_n 2, 1) := by decide +kernel
theorem d_F_same_16 : decode b_F_same 16 = .ok (.invokevirtual 38, 3) := by decide +kernel
theorem d_F_same_19 : decode b_F_same 19 = .ok (.ifCond .ne 5, 3) := by decide +kernel
theorem d_F_same_22 : decode b_F_same 22 = .ok (.iconst (-1), 1) := by decide +kernel
theorem d_F_same_23 : decode b_F_same 23 = .ok (.ireturn, 1) := by decide +kernel
theorem d_F_same_24 : decode b_F_same 24 = .ok (.aload_n 0, 1) := by decide +kernel
theorem d_F_same_25 : decode b_F_same 25 = .ok (.getfield 10, 3) := by decide +kernel
theorem d_F_same_28 : decode b_F_same 28 = .ok (.getfield 74, 3) := by decide +kernel
theorem d_F_same_31 : decode b_F_same 31 = .ok (.iload_n 1, 1) := by decide +kernel
theorem d_F_same_32 : decode b_F_same 32 = .ok (.iaload, 1) := by decide +kernel
theorem d_F_same_33 : decode b_F_same 33 = .ok (.aload_n 0, 1) := by decide +kernel
theorem d_F_same_34 : decode b_F_same 34 = .ok (.getfield 10, 3) := by decide +kernel
theorem d_F_same_37 : decode b_F_same 37 = .ok (.getfield 74, 3) := by decide +kernel
theorem d_F_same_40 : decode b_F_same 40 = .ok (.iload_n 2, 1) := by decide +kernel
theorem d_F_same_41 : decode b_F_same 41 = .ok (.iaload, 1) := by decide +kernel
theorem d_F_same_42 : decode b_F_same 42 = .ok (.if_icmp .ne 16, 3) := by decide +kernel
theorem d_F_same_45 : decode b_F_same 45 = .ok (.aload_n 0, 1) := by decide +kernel
theorem d_F_same_46 : decode b_F_same 46 = .ok (.iload_n 2, 1) := by decide +kernel
theorem d_F_same_47 : decode b_F_same 47 = .ok (.iload_n 1, 1) := by decide +kernel
theorem d_F_same_48 : decode b_F_same 48 = .ok (.invokevirtual 118, 3) := by decide +kernel
theorem d_F_same_51 : decode b_F_same 51 = .ok (.ifCond .eq 7, 3) := by decide +kernel
theorem d_F_same_54 : decode b_F_same 54 = .ok (.iconst 1, 1) := by decide +kernel
theorem d_F_same_55 : decode b_F_same 55 = .ok (.goto 4, 3) := by decide +kernel
theorem d_F_same_58 : decode b_F_same 58 = .ok (.iconst 0, 1) := by decide +kernel
theorem d_F_same_59 : decode b_F_same 59 = .ok (.istore_n 3, 1) := by decide +kernel
theorem d_F_same_60 : decode b_F_same 60 = .ok (.iload_n 3, 1) := by decide +kernel
theorem d_F_same_61 : decode b_F_same 61 = .ok (.ifCond .eq 7, 3) := by decide +kernel
theorem d_F_same_64 : decode b_F_same 64 = .ok (.iconst 1, 1) := by decide +kernel
theorem d_F_same_65 : decode b_F_same 65 = .ok (.goto 4, 3) := by decide +kernel
theorem d_F_same_68 : decode b_F_same 68 = .ok (.iconst 0, 1) := by decide +kernel
theorem d_F_same_69 : decode b_F_same 69 = .ok (.ireturn, 1) := by decide +kernel
theorem d_F_setCursor_0 : decode b_F_setCursor 0 = .ok (.iload_n 1, 1) := by decide +kernel
theorem d_F_setCursor_1 : decode b_F_setCursor 1 = .ok (.ifCond .ne 15, 3) := by decide +kernel
theorem d_F_setCursor_4 : decode b_F_setCursor 4 = .ok (.aload_n 0, 1) := by decide +kernel
theorem d_F_setCursor_5 : decode b_F_setCursor 5 = .ok (.iconst 0, 1) := by decide +kernel
theorem d_F_setCursor_6 : decode b_F_setCursor 6 = .ok (.putfield 23, 3) := by decide +kernel
theorem d_F_setCursor_9 : decode b_F_setCursor 9 = .ok (.aload_n 0, 1) := by decide +kernel
theorem d_F_setCursor_10 : decode b_F_setCursor 10 = .ok (.lconst 0, 1) := by decide +kernel
theorem d_F_setCursor_11 : decode b_F_setCursor 11 = .ok (.putfield 27, 3) := by decide +kernel
theorem d_F_setCursor_14 : decode b_F_setCursor 14 = .ok (.iconst 0, 1) := by decide +kernel
theorem d_F_setCursor_15 : decode b_F_setCursor 15 = .ok (.ireturn, 1) := by decide +kernel
theorem d_F_setCursor_16 : decode b_F_setCursor 16 = .ok (.aload_n 0, 1) := by decide +kernel
theorem d_F_setCursor_17 : decode b_F_setCursor 17 = .ok (.aload_n 0, 1) := by decide +kernel
theorem d_F_setCursor_18 : decode b_F_setCursor 18 = .ok (.getfield 19, 3) := by decide +kernel
theorem d_F_setCursor_21 : decode b_F_setCursor 21 = .ok (.iload_n 1, 1) := by decide +kernel
theorem d_F_setCursor_22 : decode b_F_setCursor 22 = .ok (.invokevirtual 124, 3) := by decide +kernel
theorem d_F_setCursor_25 : decode b_F_setCursor 25 = .ok (.putfield 23, 3) := by decide +kernel
theorem d_F_setCursor_28 : decode b_F_setCursor 28 = .ok (.aload_n 0, 1) := by decide +kernel
theorem d_F_setCursor_29 : decode b_F_setCursor 29 = .ok (.aload_n 0, 1) := by decide +kernel
theorem d_F_setCursor_30 : decode b_F_setCursor 30 = .ok (.getfield 19, 3) := by decide +kernel
theorem d_F_setCursor_33 : decode b_F_setCursor 33 = .ok (.getfield 127, 3) := by decide +kernel
theorem d_F_setCursor_36 : decode b_F_setCursor 36 = .ok (.iload_n 1, 1) := by decide +kernel
theorem d_F_setCursor_37 : decode b_F_setCursor 37 = .ok (.laload, 1) := by decide +kernel
theorem d_F_setCursor_38 : decode b_F_setCursor 38 = .ok (.putfield 27, 3) := by decide +kernel
theorem d_F_setCursor_41 : decode b_F_setCursor 41 = .ok (.iconst 1, 1) := by decide +kernel
theorem d_F_setCursor_42 : decode b_F_setCursor 42 = .ok (.ireturn, 1) := by decide +kernel
theorem d_F_twin_0 : decode b_F_twin 0 = .ok (.aload_n 0, 1) := by decide +kernel
theorem d_F_twin_1 : decode b_F_twin 1 = .ok (.getfield 19, 3) := by decide +kernel
theorem d_F_twin_4 : decode b_F_twin 4 = .ok (.iload_n 1, 1) := by decide +kernel
theorem d_F_twin_5 : decode b_F_twin 5 = .ok (.aload_n 0, 1) := by decide +kernel
theorem d_F_twin_6 : decode b_F_twin 6 = .ok (.getfield 19, 3) := by decide +kernel
theorem d_F_twin_9 : decode b_F_twin 9 = .ok (.iload_n 2, 1) := by decide +kernel
theorem d_F_twin_10 : decode b_F_twin 10 = .ok (.invokevirtual 124, 3) := by decide +kernel
theorem d_F_twin_13 : decode b_F_twin 13 = .ok (.aload_n 0, 1) := by decide +kernel
theorem d_F_twin_14 : decode b_F_twin 14 = .ok (.getfield 19, 3) := by decide +kernel
theorem d_F_twin_17 : decode b_F_twin 17 = .ok (.getfield 127, 3) := by decide +kernel
theorem d_F_twin_20 : decode b_F_twin 20 = .ok (.iload_n 2, 1) := by decide +kernel
theorem d_F_twin_21 : decode b_F_twin 21 = .ok (.laload, 1) := by decide +kernel
theorem d_F_twin_22 : decode b_F_twin 22 = .ok (.invokevirtual 51, 3) := by decide +kernel
theorem d_F_twin_25 : decode b_F_twin 25 = .ok (.ireturn, 1) := by decide +kernel
theorem d_F_whole_0 : decode b_F_whole 0 = .ok (.aload_n 0, 1) := by decide +kernel
theorem d_F_whole_1 : decode b_F_whole 1 = .ok (.getfield 19, 3) := by decide +kernel
theorem d_F_whole_4 : decode b_F_whole 4 = .ok (.iload_n 1, 1) := by decide +kernel
theorem d_F_whole_5 : decode b_F_whole 5 = .ok (.iconst 3, 1) := by decide +kernel
theorem d_F_whole_6 : decode b_F_whole 6 = .ok (.lload_n 2, 1) := by decide +kernel
theorem d_F_whole_7 : decode b_F_whole 7 = .ok (.invokevirtual 51, 3) := by decide +kernel
theorem d_F_whole_10 : decode b_F_whole 10 = .ok (.ireturn, 1) := by decide +kernel
end
section
set_option maxHeartbeats 4000000 in
set_option maxRecDepth 100000 in
/-- scatter: what it computes -/
theorem c_scatter (l : Launch) (dC : Nat → ClassId) (dI : Nat → Nat → Nat) (cI cL cB : ClassId) (o : Nat) (k : Int64) (ho : o < 2 ^ 20) : QryI l y_S_scatter (wd y_S_scatter b_S_scatter 5 (some .int)) 0 0 (dC, dI) classes (tyK cI cL cB) [.int (nI o), .long k] [] (fun r : Int32 => r = hz_scat o k) := by
  refine QryI.mk (cc := b_S_scatter) (maxL := 5) (by decide) rfl (Nat.le_of_ble_eq_true rfl) ?_
  intro p e s m below meth c Z ls hx hb hml hown hts hP hK hret hl
  have hP : va_P (dC, dI) classes [] s.heap := hP
  have hown : s.vm.findClass R_S = some m.cls := hown
  have hw : ∀ x ∈ WALL, x.before _ s = true := fun x h => hts x (List.mem_cons_of_mem _ h)
  have hl : lv_has ls 5 [(0, .int (nI o)), (1, .long k)] := hl
  refine lv_lload_n hx hb d_S_scatter_0 rfl (lv_at hl 1 rfl) ?_
  refine lv_ldc2 (v := -7046029254386353131) hx hb hown (hw _ m_158) d_S_scatter_1 ?_
  refine lv_lmul hx hb d_S_scatter_4 ?_
  refine lv_iload_n hx hb d_S_scatter_5 rfl (lv_at hl 0 rfl) ?_
  refine lv_i2l (v := lN o) hx hb d_S_scatter_6 (nI_l (by omega)) ?_
  refine lv_ldc2 (v := -4417276706812531889) hx hb hown (hw _ m_159) d_S_scatter_7 ?_
  refine lv_lmul hx hb d_S_scatter_10 ?_
  refine lv_ladd hx hb d_S_scatter_11 ?_
  refine lv_topl (fun x1 ex1 => ?_)
  refine lv_lstore_n (lv' := [(3, .long x1), (0, .int (nI o)), (1, .long k)]) hx hb d_S_scatter_12 rfl hl (by decide) rfl (fun ls hl => ?_)
  refine lv_lload_n hx hb d_S_scatter_13 rfl (lv_at hl 0 rfl) ?_
  refine lv_lload_n hx hb d_S_scatter_14 rfl (lv_at hl 0 rfl) ?_
  refine lv_bipush (v := nI 32) hx hb d_S_scatter_15 (by decide) ?_
  refine lv_lushr hx hb d_S_scatter_17 rfl ?_
  refine lv_lxor hx hb d_S_scatter_18 ?_
  refine lv_ldc2 (v := -2960836687051489901) hx hb hown (hw _ m_160) d_S_scatter_19 ?_
  refine lv_lmul hx hb d_S_scatter_22 ?_
  refine lv_topl (fun x2 ex2 => ?_)
  refine lv_lstore_n (lv' := [(3, .long x2), (0, .int (nI o)), (1, .long k)]) hx hb d_S_scatter_23 rfl hl (by decide) rfl (fun ls hl => ?_)
  refine lv_lload_n hx hb d_S_scatter_24 rfl (lv_at hl 0 rfl) ?_
  refine lv_lload_n hx hb d_S_scatter_25 rfl (lv_at hl 0 rfl) ?_
  refine lv_bipush (v := nI 32) hx hb d_S_scatter_26 (by decide) ?_
  refine lv_lushr hx hb d_S_scatter_28 rfl ?_
  refine lv_lxor hx hb d_S_scatter_29 ?_
  refine lv_l2i hx hb d_S_scatter_30 rfl ?_
  exact hret ((x2 ^^^ ((x2.toUInt64 >>> ((nI 32).toInt64.toUInt64 &&& Int64.toUInt64 63)).toInt64)).toInt32) 31 ls (by rw [ex2, ex1]; unfold hz_scat hz_fold hz_mix; rfl) d_S_scatter_31
set_option maxHeartbeats 4000000 in
set_option maxRecDepth 100000 in
/-- owner: table and kind in one number -/
theorem c_owner (l : Launch) (dC : Nat → ClassId) (dI : Nat → Nat → Nat) (cI cL cB : ClassId) (t : Nat) (kk : Nat) (ht : t < 2 ^ 28) (hk : kk < 8) : QryI l y_S_owner (wd y_S_owner b_S_owner 2 (some .int)) 0 0 (dC, dI) classes (tyK cI cL cB) [.int (nI t), .int (nI kk)] [] (fun r : Int32 => r = nI (t * 8 + kk)) := by
  refine QryI.mk (cc := b_S_owner) (maxL := 2) (by decide) rfl (Nat.le_of_ble_eq_true rfl) ?_
  intro p e s m below meth c Z ls hx hb hml hown hts hP hK hret hl
  have hP : va_P (dC, dI) classes [] s.heap := hP
  have hown : s.vm.findClass R_S = some m.cls := hown
  have hw : ∀ x ∈ WALL, x.before _ s = true := fun x h => hts x (List.mem_cons_of_mem _ h)
  have hl : lv_has ls 2 [(0, .int (nI t)), (1, .int (nI kk))] := hl
  refine lv_iload_n hx hb d_S_owner_0 rfl (lv_at hl 0 rfl) ?_
  refine lv_iconst (v := nI 3) hx hb d_S_owner_1 (by decide) ?_
  refine lv_ishl hx hb d_S_owner_2 ?_
  refine fz_eqi (y := nI (t * 8)) (pk_shlN _ 3 (by decide) (by omega)) ?_
  refine lv_iload_n hx hb d_S_owner_3 rfl (lv_at hl 1 rfl) ?_
  refine lv_ior hx hb d_S_owner_4 ?_
  refine fz_eqi (y := nI (t * 8 + kk)) (fz_or3 hk ht) ?_
  exact hret (nI (t * 8 + kk)) 5 ls rfl d_S_owner_5
set_option maxHeartbeats 4000000 in
set_option maxRecDepth 100000 in
/-- room -/
theorem c_room (l : Launch) (dC : Nat → ClassId) (dI : Nat → Nat → Nat) (cI cL cB : ClassId) (f : Nat) (a1 : Nat) (a2 : Nat) (a3 : Nat) (a4 : Nat) (a5 : Nat) (a6 : Nat) (cnt : Nat) (hc : cnt ≤ 40000) : QryI l y_S_room (wd y_S_room b_S_room 1 (some .int)) 0 0 (dC, dI) classes (tyK cI cL cB) [.ref f] [(f, .inr (2, [.int (nI cnt), .ref a1, .ref a2, .ref a3, .ref a4, .ref a5, .ref a6]))] (fun r : Int32 => r = nI (40000 - cnt)) := by
  refine QryI.mk (cc := b_S_room) (maxL := 1) (by decide) rfl (Nat.le_of_ble_eq_true rfl) ?_
  intro p e s m below meth c Z ls hx hb hml hown hts hP hK hret hl
  have hP : va_P (dC, dI) classes [(f, .inr (2, [.int (nI cnt), .ref a1, .ref a2, .ref a3, .ref a4, .ref a5, .ref a6]))] s.heap := hP
  have hown : s.vm.findClass R_S = some m.cls := hown
  have hw : ∀ x ∈ WALL, x.before _ s = true := fun x h => hts x (List.mem_cons_of_mem _ h)
  have hl : lv_has ls 1 [(0, .ref f)] := hl
  refine lv_ldc (v := 40000) hx hb hown (hw _ m_143) d_S_room_0 ?_
  refine fz_eqi (y := nI 40000) (by decide) ?_
  refine lv_aload_n hx hb d_S_room_2 rfl (lv_at hl 0 rfl) ?_
  refine va_get (D := (dC, dI)) (ci := 2) (v := .int (nI cnt)) (C := R_S) (T := T_S) (N := 7) hx hb hw in_S hown hK hP 0 rfl rfl 0 (by decide) (hw _ m_54) (fun _ h9 => h9) rfl d_S_room_3 ?_
  refine lv_isub hx hb d_S_room_6 ?_
  refine fz_eqi (y := nI (40000 - cnt)) (pk_sub (by omega)) ?_
  exact hret (nI (40000 - cnt)) 7 ls rfl d_S_room_7
set_option maxHeartbeats 4000000 in
set_option maxRecDepth 100000 in
/-- keyKind -/
theorem c_keyKind (l : Launch) (dC : Nat → ClassId) (dI : Nat → Nat → Nat) (cI cL cB : ClassId) (f : Nat) (a1 : Nat) (a2 : Nat) (a3 : Nat) (a4 : Nat) (a5 : Nat) (a6 : Nat) (cnt : Nat) (L : Nat) (i : Nat) (ow : Nat → Nat) (hi : i < L) (hL : L < 2 ^ 20) (ho : ow i < 2 ^ 20) : QryI l y_S_keyKind (wd y_S_keyKind b_S_keyKind 2 (some .int)) 0 0 (dC, dI) classes (tyK cI cL cB) [.ref f, .int (nI i)] [(f, .inr (2, [.int (nI cnt), .ref a1, .ref a2, .ref a3, .ref a4, .ref a5, .ref a6])), (a1, .inl (cI, L, .inl (nf ow)))] (fun r : Int32 => r = nI (ow i % 8)) := by
  refine QryI.mk (cc := b_S_keyKind) (maxL := 2) (by decide) rfl (Nat.le_of_ble_eq_true rfl) ?_
  intro p e s m below meth c Z ls hx hb hml hown hts hP hK hret hl
  have hP : va_P (dC, dI) classes [(f, .inr (2, [.int (nI cnt), .ref a1, .ref a2, .ref a3, .ref a4, .ref a5, .ref a6])), (a1, .inl (cI, L, .inl (nf ow)))] s.heap := hP
  have hown : s.vm.findClass R_S = some m.cls := hown
  have hw : ∀ x ∈ WALL, x.before _ s = true := fun x h => hts x (List.mem_cons_of_mem _ h)
  have hl : lv_has ls 2 [(0, .ref f), (1, .int (nI i))] := hl
  refine lv_aload_n hx hb d_S_keyKind_0 rfl (lv_at hl 0 rfl) ?_
  refine va_get (D := (dC, dI)) (ci := 2) (v := .ref a1) (C := R_S) (T := T_S) (N := 7) hx hb hw in_S hown hK hP 0 rfl rfl 1 (by decide) (hw _ m_56) (fun _ h9 => h9) rfl d_S_keyKind_1 ?_
  refine lv_iload_n hx hb d_S_keyKind_4 rfl (lv_at hl 1 rfl) ?_
  refine fz_iald hx hb hK hP 1 0 rfl rfl (j := i) (by omega) (by omega) d_S_keyKind_5 ?_
  refine lv_bipush (v := nI 7) hx hb d_S_keyKind_6 (by decide) ?_
  refine lv_iand hx hb d_S_keyKind_8 ?_
  refine fz_eqi (y := nI (ow i % 8)) (pk_andN (by omega) 3 (by decide)) ?_
  exact hret (nI (ow i % 8)) 9 ls rfl d_S_keyKind_9
set_option maxHeartbeats 4000000 in
set_option maxRecDepth 100000 in
/-- slotOf: where the search of a key ends -/
theorem c_slotOf (l : Launch) (dC : Nat → ClassId) (dI : Nat → Nat → Nat) (cI cL cB : ClassId) (f : Nat) (a1 : Nat) (a2 : Nat) (a3 : Nat) (a4 : Nat) (a5 : Nat) (a6 : Nat) (cnt : Nat) (L : Nat) (M : Nat) (kap : Nat) (n : Nat) (o : Nat) (k : Int64) (ow : Nat → Nat) (sn : Nat → Nat) (ky : Nat → Int64) (hn : n < L) (hL : L < 2 ^ 20) (hM : M = 2 ^ kap) (hM2 : M < 2 ^ 20) (hnM : n < M) (ho : o < 2 ^ 20) (hO : ∀ i, i ≤ n → ow i < 2 ^ 20) (hU : hz_U n ow ky) (hT : hz_T M n (fun i => hz_h M (ow i) (ky i)) sn) : QryI l y_S_slotOf (wd y_S_slotOf b_S_slotOf 8 (some .int)) 1 24 (dC, dI) classes (tyK cI cL cB) [.ref f, .int (nI o), .long k] [(f, .inr (2, [.int (nI cnt), .ref a1, .ref a2, .ref a3, .ref a4, .ref a5, .ref a6])), (a1, .inl (cI, L, .inl (nf ow))), (a2, .inl (cL, L, .inr (.inl ky))), (a6, .inl (cI, M, .inl (nf sn)))] (fun r : Int32 => ∃ d, d < M ∧ r = nI ((hz_h M o k + d) % M) ∧ (∀ d', d' < d → sn ((hz_h M o k + d') % M) ≠ 0) ∧ sn ((hz_h M o k + d) % M) = fnd ow ky o k n) := by
  refine QryI.mk (cc := b_S_slotOf) (maxL := 8) (by decide) rfl (Nat.le_of_ble_eq_true rfl) ?_
  intro p e s m below meth c Z ls hx hb hml hown hts hP hK hret hl
  have hP : va_P (dC, dI) classes [(f, .inr (2, [.int (nI cnt), .ref a1, .ref a2, .ref a3, .ref a4, .ref a5, .ref a6])), (a1, .inl (cI, L, .inl (nf ow))), (a2, .inl (cL, L, .inr (.inl ky))), (a6, .inl (cI, M, .inl (nf sn)))] s.heap := hP
  have hown : s.vm.findClass R_S = some m.cls := hown
  have hw : ∀ x ∈ WALL, x.before _ s = true := fun x h => hts x (List.mem_cons_of_mem _ h)
  have hl : lv_has ls 8 [(0, .ref f), (1, .int (nI o)), (2, .long k)] := hl
  refine lv_aload_n hx hb d_S_slotOf_0 rfl (lv_at hl 0 rfl) ?_
  refine va_get (D := (dC, dI)) (ci := 2) (v := .ref a6) (C := R_S) (T := T_S) (N := 7) hx hb hw in_S hown hK hP 0 rfl rfl 6 (by decide) (hw _ m_65) (fun _ h9 => h9) rfl d_S_slotOf_1 ?_
  refine fz_alen hx hb hK hP 3 0 rfl rfl d_S_slotOf_4 ?_
  refine lv_iconst (v := nI 1) hx hb d_S_slotOf_5 (by decide) ?_
  refine lv_isub hx hb d_S_slotOf_6 ?_
  refine fz_eqi (y := nI (M - 1)) (pk_sub (by omega)) ?_
  refine lv_istore (lv' := [(4, .int (nI (M - 1))), (0, .ref f), (1, .int (nI o)), (2, .long k)]) hx hb d_S_slotOf_7 hl (by decide) rfl (fun ls hl => ?_)
  refine lv_iload_n hx hb d_S_slotOf_9 rfl (lv_at hl 2 rfl) ?_
  refine lv_lload_n hx hb d_S_slotOf_10 rfl (lv_at hl 3 rfl) ?_
  refine QryI.callS (c_scatter l dC dI cI cL cB o k (by omega)) ⟨hx, hb, hml, hown, hw⟩ (fz_cwS 2 hw m_157 m_155 m_156 m_3 rfl rfl (by decide +kernel) ⟨Nat.le_of_ble_eq_true rfl, Nat.le_of_ble_eq_true rfl⟩) hK hP [] rfl rfl hl.1 rfl (Nat.le_of_ble_eq_true rfl) d_S_slotOf_11 ⟨(Nat.le_of_ble_eq_true rfl), (Nat.le_of_ble_eq_true rfl)⟩ (fun r11 h11 => ?_)
  subst h11
  refine lv_iload hx hb d_S_slotOf_14 (lv_at hl 0 rfl) ?_
  refine lv_iand hx hb d_S_slotOf_16 ?_
  refine fz_eqi (y := nI (hz_h M o k)) (hz_mask hM (by omega) _) ?_
  refine lv_istore (lv' := [(5, .int (nI (hz_h M o k))), (4, .int (nI (M - 1))), (0, .ref f), (1, .int (nI o)), (2, .long k)]) hx hb d_S_slotOf_17 hl (by decide) rfl (fun ls hl => ?_)
  refine lv_iconst (v := nI 0) hx hb d_S_slotOf_19 (by decide) ?_
  refine lv_istore (lv' := [(6, .int (nI 0)), (5, .int (nI (hz_h M o k))), (4, .int (nI (M - 1))), (0, .ref f), (1, .int (nI o)), (2, .long k)]) hx hb d_S_slotOf_20 hl (by decide) rfl (fun ls hl => ?_)
  have loop_22 : ∀ (fuel : Nat) (d : Nat) (sl : Nat), sl = (hz_h M o k + d) % M → d ≤ M → (∀ d', d' < d → sn ((hz_h M o k + d') % M) ≠ 0 ∧ ¬ (ow (sn ((hz_h M o k + d') % M)) = o ∧ ky (sn ((hz_h M o k + d') % M)) = k)) → M - d < fuel → ∀ (ls : Array Slot), lv_has ls 8 [(0, .ref f), (1, .int (nI o)), (2, .long k), (4, .int (nI (M - 1))), (5, .int (nI sl)), (6, .int (nI d))] → W p l e { frames := 1, cells := 0, slots := 0, locals := 24 } s m [.ref f, .int (nI o), .long k].toArray below meth c s.heap [] 0 0 Z (F0 m 22 ls []) := by
    intro fuel
    induction fuel with
    | zero => intro d sl hsl hd hbb hfuel; exact absurd hfuel (Nat.not_lt_zero _)
    | succ fuel ih =>
      intro d sl hsl hd hbb hfuel ls hl
      refine lv_iload hx hb d_S_slotOf_22 (lv_at hl 5 rfl) ?_
      refine lv_iload hx hb d_S_slotOf_24 (lv_at hl 3 rfl) ?_
      refine lv_icmp_gt (tgt := 84) hx hb d_S_slotOf_26 (by decide) (fun c26 => ?_) (fun c26 => ?_)
      · have c26 : M - 1 < d := by exact (nI_ltI (by omega) (by omega)).mp c26
        exact absurd (fun d' hd' => (hbb d' (by omega)).1) (hT.free hnM (hz_h M o k))
      · have c26 : ¬ M - 1 < d := fun h => c26 (by exact (nI_ltI (by omega) (by omega)).mpr h)
        have hslM : sl < M := by rw [hsl]; exact Nat.mod_lt _ (by omega)
        have hsn : sn sl ≤ n := hT.1 sl hslM
        refine lv_aload_n hx hb d_S_slotOf_29 rfl (lv_at hl 0 rfl) ?_
        refine va_get (D := (dC, dI)) (ci := 2) (v := .ref a6) (C := R_S) (T := T_S) (N := 7) hx hb hw in_S hown hK hP 0 rfl rfl 6 (by decide) (hw _ m_65) (fun _ h9 => h9) rfl d_S_slotOf_30 ?_
        refine lv_iload hx hb d_S_slotOf_33 (lv_at hl 4 rfl) ?_
        refine fz_iald hx hb hK hP 3 0 rfl rfl (j := sl) (by omega) (by omega) d_S_slotOf_35 ?_
        refine lv_istore (lv' := [(7, .int (nI (sn sl))), (0, .ref f), (1, .int (nI o)), (2, .long k), (4, .int (nI (M - 1))), (5, .int (nI sl)), (6, .int (nI d))]) hx hb d_S_slotOf_36 hl (by decide) rfl (fun ls hl => ?_)
        refine lv_iload hx hb d_S_slotOf_38 (lv_at hl 0 rfl) ?_
        refine lv_if_eq (tgt := 66) hx hb d_S_slotOf_40 (by decide) (fun c40 => ?_) (fun c40 => ?_)
        · have c40 : sn sl = 0 := (nI_eq (by omega) (by omega)).mp (c40.trans nI_0.symm)
          refine lv_iload hx hb d_S_slotOf_66 (lv_at hl 5 rfl) ?_
          exact hret (nI sl) 68 ls ⟨d, by omega, by rw [hsl], fun d' hd' => (hbb d' hd').1, hT.stop hU rfl (by omega) hbb (by rw [← hsl]; exact (by first | exact Or.inl c40 | exact Or.inr ⟨c63, c52⟩))⟩ d_S_slotOf_68
        · have c40 : ¬ sn sl = 0 := fun h => c40 (((nI_eq (by omega) (by omega)).mpr h).trans nI_0)
          refine lv_aload_n hx hb d_S_slotOf_43 rfl (lv_at hl 1 rfl) ?_
          refine va_get (D := (dC, dI)) (ci := 2) (v := .ref a2) (C := R_S) (T := T_S) (N := 7) hx hb hw in_S hown hK hP 0 rfl rfl 2 (by decide) (hw _ m_57) (fun _ h9 => h9) rfl d_S_slotOf_44 ?_
          refine lv_iload hx hb d_S_slotOf_47 (lv_at hl 0 rfl) ?_
          refine fz_lald hx hb hK hP 2 1 rfl rfl (j := sn sl) (by omega) (by omega) d_S_slotOf_49 ?_
          refine lv_lload_n hx hb d_S_slotOf_50 rfl (lv_at hl 3 rfl) ?_
          refine W.lcmp hx hb d_S_slotOf_51 ?_
          refine lv_if_ne (tgt := 69) hx hb d_S_slotOf_52 (by decide) (fun c52 => ?_) (fun c52 => ?_)
          · have c52 : ¬ ky (sn sl) = k := fun h => c52 ((lg_cmp_eq _ _).mpr h)
            refine lv_iload hx hb d_S_slotOf_69 (lv_at hl 5 rfl) ?_
            refine lv_iconst (v := nI 1) hx hb d_S_slotOf_71 (by decide) ?_
            refine lv_iadd hx hb d_S_slotOf_72 ?_
            refine fz_eqi (y := nI (sl + 1)) (nI_add sl 1) ?_
            refine lv_iload hx hb d_S_slotOf_73 (lv_at hl 4 rfl) ?_
            refine lv_iand hx hb d_S_slotOf_75 ?_
            refine fz_eqi (y := nI ((sl + 1) % M)) (hz_maskN hM (by omega) (by omega)) ?_
            refine lv_istore (lv' := [(5, .int (nI ((sl + 1) % M))), (7, .int (nI (sn sl))), (0, .ref f), (1, .int (nI o)), (2, .long k), (4, .int (nI (M - 1))), (6, .int (nI d))]) hx hb d_S_slotOf_76 hl (by decide) rfl (fun ls hl => ?_)
            refine lv_iinc (v := nI (d + 1)) (lv' := [(6, .int (nI (d + 1))), (5, .int (nI ((sl + 1) % M))), (7, .int (nI (sn sl))), (0, .ref f), (1, .int (nI o)), (2, .long k), (4, .int (nI (M - 1)))]) hx hb d_S_slotOf_78 hl (k := 6) rfl (fz_inc d) (by decide) rfl (fun ls hl => ?_)
            refine lv_goto (tgt := 22) hx hb d_S_slotOf_81 (by decide) ?_
            exact ih (d + 1) ((sl + 1) % M) (by rw [hsl, Nat.mod_add_mod, Nat.add_assoc]) (by omega) (fun d' hd' => by
                  rcases Nat.lt_or_ge d' d with q | q
                  · exact hbb d' q
                  · have e : d' = d := by omega
                    subst e; rw [← hsl]; exact ⟨c40, by first | exact fun h => c52 h.2 | exact fun h => c63 h.1⟩) (by omega) ls (lv_sub hl [3, 4, 5, 6, 1, 0] rfl)
          · have c52 : ky (sn sl) = k := (lg_cmp_eq _ _).mp c52
            have hosn : ow (sn sl) < 2 ^ 20 := hO _ hsn
            refine lv_aload_n hx hb d_S_slotOf_55 rfl (lv_at hl 1 rfl) ?_
            refine va_get (D := (dC, dI)) (ci := 2) (v := .ref a1) (C := R_S) (T := T_S) (N := 7) hx hb hw in_S hown hK hP 0 rfl rfl 1 (by decide) (hw _ m_56) (fun _ h9 => h9) rfl d_S_slotOf_56 ?_
            refine lv_iload hx hb d_S_slotOf_59 (lv_at hl 0 rfl) ?_
            refine fz_iald hx hb hK hP 1 0 rfl rfl (j := sn sl) (by omega) (by omega) d_S_slotOf_61 ?_
            refine lv_iload_n hx hb d_S_slotOf_62 rfl (lv_at hl 2 rfl) ?_
            refine lv_icmp_ne (tgt := 69) hx hb d_S_slotOf_63 (by decide) (fun c63 => ?_) (fun c63 => ?_)
            · have c63 : ¬ ow (sn sl) = o := fun h => c63 (by exact (nI_eq (by omega) (by omega)).mpr h)
              refine lv_iload hx hb d_S_slotOf_69 (lv_at hl 5 rfl) ?_
              refine lv_iconst (v := nI 1) hx hb d_S_slotOf_71 (by decide) ?_
              refine lv_iadd hx hb d_S_slotOf_72 ?_
              refine fz_eqi (y := nI (sl + 1)) (nI_add sl 1) ?_
              refine lv_iload hx hb d_S_slotOf_73 (lv_at hl 4 rfl) ?_
              refine lv_iand hx hb d_S_slotOf_75 ?_
              refine fz_eqi (y := nI ((sl + 1) % M)) (hz_maskN hM (by omega) (by omega)) ?_
              refine lv_istore (lv' := [(5, .int (nI ((sl + 1) % M))), (7, .int (nI (sn sl))), (0, .ref f), (1, .int (nI o)), (2, .long k), (4, .int (nI (M - 1))), (6, .int (nI d))]) hx hb d_S_slotOf_76 hl (by decide) rfl (fun ls hl => ?_)
              refine lv_iinc (v := nI (d + 1)) (lv' := [(6, .int (nI (d + 1))), (5, .int (nI ((sl + 1) % M))), (7, .int (nI (sn sl))), (0, .ref f), (1, .int (nI o)), (2, .long k), (4, .int (nI (M - 1)))]) hx hb d_S_slotOf_78 hl (k := 6) rfl (fz_inc d) (by decide) rfl (fun ls hl => ?_)
              refine lv_goto (tgt := 22) hx hb d_S_slotOf_81 (by decide) ?_
              exact ih (d + 1) ((sl + 1) % M) (by rw [hsl, Nat.mod_add_mod, Nat.add_assoc]) (by omega) (fun d' hd' => by
                    rcases Nat.lt_or_ge d' d with q | q
                    · exact hbb d' q
                    · have e : d' = d := by omega
                      subst e; rw [← hsl]; exact ⟨c40, by first | exact fun h => c52 h.2 | exact fun h => c63 h.1⟩) (by omega) ls (lv_sub hl [3, 4, 5, 6, 1, 0] rfl)
            · have c63 : ow (sn sl) = o := by exact (nI_eq (by omega) (by omega)).mp c63
              refine lv_iload hx hb d_S_slotOf_66 (lv_at hl 5 rfl) ?_
              exact hret (nI sl) 68 ls ⟨d, by omega, by rw [hsl], fun d' hd' => (hbb d' hd').1, hT.stop hU rfl (by omega) hbb (by rw [← hsl]; exact (by first | exact Or.inl c40 | exact Or.inr ⟨c63, c52⟩))⟩ d_S_slotOf_68
  exact loop_22 (M - 0 + 1) 0 (hz_h M o k) (by rw [Nat.add_zero]; exact (Nat.mod_eq_of_lt (hz_h_lt (by omega))).symm) (by omega) (fun d' hd' => absurd hd' (Nat.not_lt_zero _)) (Nat.lt_succ_self _) ls (lv_sub hl [3, 4, 5, 2, 1, 0] rfl)
set_option maxHeartbeats 4000000 in
set_option maxRecDepth 100000 in
/-- find: the field of a key, or 0 -/
theorem c_find (l : Launch) (dC : Nat → ClassId) (dI : Nat → Nat → Nat) (cI cL cB : ClassId) (f : Nat) (a1 : Nat) (a2 : Nat) (a3 : Nat) (a4 : Nat) (a5 : Nat) (a6 : Nat) (cnt : Nat) (L : Nat) (M : Nat) (kap : Nat) (n : Nat) (t : Nat) (kk : Nat) (k : Int64) (ow : Nat → Nat) (sn : Nat → Nat) (ky : Nat → Int64) (hn : n < L) (hL : L < 2 ^ 20) (hM : M = 2 ^ kap) (hM2 : M < 2 ^ 20) (hnM : n < M) (ht : t < 2 ^ 16) (hk : kk < 8) (hO : ∀ i, i ≤ n → ow i < 2 ^ 20) (hU : hz_U n ow ky) (hT : hz_T M n (fun i => hz_h M (ow i) (ky i)) sn) : QryI l y_S_find (wd y_S_find b_S_find 5 (some .int)) 2 51 (dC, dI) classes (tyK cI cL cB) [.ref f, .int (nI t), .int (nI kk), .long k] [(f, .inr (2, [.int (nI cnt), .ref a1, .ref a2, .ref a3, .ref a4, .ref a5, .ref a6])), (a1, .inl (cI, L, .inl (nf ow))), (a2, .inl (cL, L, .inr (.inl ky))), (a6, .inl (cI, M, .inl (nf sn)))] (fun r : Int32 => r = nI (fnd ow ky (t * 8 + kk) k n)) := by
  refine QryI.mk (cc := b_S_find) (maxL := 5) (by decide) rfl (Nat.le_of_ble_eq_true rfl) ?_
  intro p e s m below meth c Z ls hx hb hml hown hts hP hK hret hl
  have hP : va_P (dC, dI) classes [(f, .inr (2, [.int (nI cnt), .ref a1, .ref a2, .ref a3, .ref a4, .ref a5, .ref a6])), (a1, .inl (cI, L, .inl (nf ow))), (a2, .inl (cL, L, .inr (.inl ky))), (a6, .inl (cI, M, .inl (nf sn)))] s.heap := hP
  have hown : s.vm.findClass R_S = some m.cls := hown
  have hw : ∀ x ∈ WALL, x.before _ s = true := fun x h => hts x (List.mem_cons_of_mem _ h)
  have hl : lv_has ls 5 [(0, .ref f), (1, .int (nI t)), (2, .int (nI kk)), (3, .long k)] := hl
  refine lv_aload_n hx hb d_S_find_0 rfl (lv_at hl 0 rfl) ?_
  refine va_get (D := (dC, dI)) (ci := 2) (v := .ref a6) (C := R_S) (T := T_S) (N := 7) hx hb hw in_S hown hK hP 0 rfl rfl 6 (by decide) (hw _ m_65) (fun _ h9 => h9) rfl d_S_find_1 ?_
  refine lv_aload_n hx hb d_S_find_4 rfl (lv_at hl 0 rfl) ?_
  refine lv_iload_n hx hb d_S_find_5 rfl (lv_at hl 1 rfl) ?_
  refine lv_iload_n hx hb d_S_find_6 rfl (lv_at hl 2 rfl) ?_
  refine QryI.callS (c_owner l dC dI cI cL cB t kk (by omega) (by omega)) ⟨hx, hb, hml, hown, hw⟩ (fz_cwS 2 hw m_150 m_148 m_149 m_3 rfl rfl (by decide +kernel) ⟨Nat.le_of_ble_eq_true rfl, Nat.le_of_ble_eq_true rfl⟩) hK hP [] rfl rfl hl.1 rfl (Nat.le_of_ble_eq_true rfl) d_S_find_7 ⟨(Nat.le_of_ble_eq_true rfl), (Nat.le_of_ble_eq_true rfl)⟩ (fun r7 h7 => ?_)
  subst h7
  refine lv_lload_n hx hb d_S_find_10 rfl (lv_at hl 3 rfl) ?_
  refine QryI.callV (ci := 2) (q0 := 0) (c_slotOf l dC dI cI cL cB f a1 a2 a3 a4 a5 a6 cnt L M kap n (t * 8 + kk) k ow sn ky (by omega) (by omega) hM (by omega) (by omega) (by omega) hO hU hT) ⟨hx, hb, hml, hown, hw⟩ (fz_cwV 2 hw m_154 m_151 m_153 ms_1 m_3 rfl rfl (by decide +kernel) ⟨Nat.le_of_ble_eq_true rfl, Nat.le_of_ble_eq_true rfl⟩) hK hP [0, 1, 2, 3] rfl rfl rfl rfl rfl hl.1 rfl (Nat.le_of_ble_eq_true rfl) d_S_find_11 ⟨(Nat.le_of_ble_eq_true rfl), (Nat.le_of_ble_eq_true rfl)⟩ (fun r11 h11 => ?_)
  obtain ⟨d, hd, e11, hbb, hv⟩ := h11
  subst e11
  refine fz_iald hx hb hK hP 3 0 rfl rfl (j := (hz_h M (t * 8 + kk) k + d) % M) (Nat.mod_lt _ (by omega)) (by omega) d_S_find_14 ?_
  exact hret (nI (sn ((hz_h M (t * 8 + kk) k + d) % M))) 15 ls (by rw [hv]) d_S_find_15
end
section
set_option maxHeartbeats 4000000 in
set_option maxRecDepth 100000 in
/-- Arrays.copyOf -/
theorem c_copyOf_i (l : Launch) (dC : Nat → ClassId) (dI : Nat → Nat → Nat) (cI cL cB : ClassId) (a : Nat) (n : Nat) (N : Nat) (fn : Nat → Nat) (hLN : n < N) (hN : N < 2 ^ 20) : StdR l y_J_copyOf_i (wd y_J_copyOf_i b_J_copyOf_i 3 (some (.array .int))) 1 28 1 N (dC, dI) classes (tyK cI cL cB) [.ref a, .int (nI N)] [(a, .inl (cI, n, .inl (nf fn)))] (fun (r : Nat) (u : Unit) => True) (fun (u : Unit) (r : Nat) => [(a, .inl (cI, n, .inl (nf fn))), (r, .inl (cI, N, .inl (nf (cpz fn (fun _ => 0) n))))]) := by
  refine StdR.mk (cc := b_J_copyOf_i) (maxL := 3) (Or.inr ⟨_, rfl⟩) (by decide) rfl (Nat.le_of_ble_eq_true rfl) ?_
  intro p e s m below meth c A Z ls hx hb hml hown hts hin hP hK hD hA hS hret hl
  have hown : s.vm.findClass "java/util/Arrays" = some m.cls := hown
  have hw : ∀ x ∈ WALL, x.before _ s = true := fun x h => hts x (List.mem_cons_of_mem _ h)
  have hl : lv_has ls 3 [(0, .ref a), (1, .int (nI N))] := hl
  refine lv_iload_n hx hb d_J_copyOf_i_0 rfl (lv_at hl 1 rfl) ?_
  refine lv_aload_n hx hb d_J_copyOf_i_1 rfl (lv_at hl 0 rfl) ?_
  refine fz_alen hx hb hK hP 0 0 rfl rfl d_J_copyOf_i_2 ?_
  refine lv_icmp_ne (tgt := 14) hx hb d_J_copyOf_i_3 (by decide) (fun c3 => ?_) (fun c3 => ?_)
  · have c3 : ¬ N = n := fun h => c3 (by exact (nI_eq (by omega) (by omega)).mpr h)
    refine lv_iload_n hx hb d_J_copyOf_i_14 rfl (lv_at hl 1 rfl) ?_
    refine fz_newi hx hb (hw _ m_47) hK 0 rfl hP hD hS hA (by omega) (by (try dsimp only); omega) (by (try dsimp only); omega) d_J_copyOf_i_15 (fun q_1 H hP hD hS => ?_)
    have hP : va_P (dC, dI) classes [(a, .inl (cI, n, .inl (nf fn))), (q_1, .inl (cI, N, .inl (nf (fun _ => 0))))] H := hP
    have hD : va_D A [(a, .inl (cI, n, .inl (nf fn))), (q_1, .inl (cI, N, .inl (nf (fun _ => 0))))] := hD
    refine W.widen (k := 1) (n := N) (by omega) (by omega) ?_
    refine lv_astore_n (lv' := [(2, .ref q_1), (0, .ref a), (1, .int (nI N))]) hx hb d_J_copyOf_i_17 rfl hl (by decide) rfl (fun ls hl => ?_)
    refine lv_aload_n hx hb d_J_copyOf_i_18 rfl (lv_at hl 1 rfl) ?_
    refine lv_iconst (v := nI 0) hx hb d_J_copyOf_i_19 (by decide) ?_
    refine lv_aload_n hx hb d_J_copyOf_i_20 rfl (lv_at hl 0 rfl) ?_
    refine lv_iconst (v := nI 0) hx hb d_J_copyOf_i_21 (by decide) ?_
    refine lv_aload_n hx hb d_J_copyOf_i_22 rfl (lv_at hl 1 rfl) ?_
    refine fz_alen hx hb hK hP 0 0 rfl rfl d_J_copyOf_i_23 ?_
    refine lv_iload_n hx hb d_J_copyOf_i_24 rfl (lv_at hl 2 rfl) ?_
    refine va_mmin hx hb (hml.trans hl.1.symm) hown (hw _ m_121) (hw _ m_109) (hw _ m_5) (hw _ m_110) (Nat.le_of_ble_eq_true rfl) (Nat.le_of_ble_eq_true rfl) (by (try dsimp only); omega) (by (try dsimp only); omega) d_J_copyOf_i_25 ?_
    refine fz_eqi (y := nI n) (fz_minN (by omega) (by omega) (if_neg (by omega))) ?_
    refine fz_cpyi hx hb (hml.trans hl.1.symm) hown (hw _ m_122) (hw _ m_124) (hw _ m_123) (hw _ m_7) hK hP hD hS 0 1 0 rfl rfl rfl (by omega) (by omega) (by omega) (Nat.le_of_ble_eq_true rfl) (Nat.le_of_ble_eq_true rfl) d_J_copyOf_i_28 (fun H locs hP hD hS => ?_)
    have hP : va_P (dC, dI) classes [(a, .inl (cI, n, .inl (nf fn))), (q_1, .inl (cI, N, .inl (nf (cpz fn (fun _ => 0) n))))] H := hP
    have hD : va_D A [(a, .inl (cI, n, .inl (nf fn))), (q_1, .inl (cI, N, .inl (nf (cpz fn (fun _ => 0) n))))] := hD
    refine lv_aload_n hx hb d_J_copyOf_i_31 rfl (lv_at hl 0 rfl) ?_
    exact hret q_1 () _ _ 32 ls trivial hP hD hS d_J_copyOf_i_32
  · have c3 : N = n := by exact (nI_eq (by omega) (by omega)).mp c3
    exact absurd c3 (by omega)
set_option maxHeartbeats 4000000 in
set_option maxRecDepth 100000 in
/-- Arrays.copyOf -/
theorem c_copyOf_l (l : Launch) (dC : Nat → ClassId) (dI : Nat → Nat → Nat) (cI cL cB : ClassId) (a : Nat) (n : Nat) (N : Nat) (fn : Nat → Int64) (hLN : n < N) (hN : N < 2 ^ 20) : StdR l y_J_copyOf_l (wd y_J_copyOf_l b_J_copyOf_l 3 (some (.array .long))) 1 28 1 N (dC, dI) classes (tyK cI cL cB) [.ref a, .int (nI N)] [(a, .inl (cL, n, .inr (.inl fn)))] (fun (r : Nat) (u : Unit) => True) (fun (u : Unit) (r : Nat) => [(a, .inl (cL, n, .inr (.inl fn))), (r, .inl (cL, N, .inr (.inl (cpz fn (fun _ => 0) n))))]) := by
  refine StdR.mk (cc := b_J_copyOf_l) (maxL := 3) (Or.inr ⟨_, rfl⟩) (by decide) rfl (Nat.le_of_ble_eq_true rfl) ?_
  intro p e s m below meth c A Z ls hx hb hml hown hts hin hP hK hD hA hS hret hl
  have hown : s.vm.findClass "java/util/Arrays" = some m.cls := hown
  have hw : ∀ x ∈ WALL, x.before _ s = true := fun x h => hts x (List.mem_cons_of_mem _ h)
  have hl : lv_has ls 3 [(0, .ref a), (1, .int (nI N))] := hl
  refine lv_iload_n hx hb d_J_copyOf_l_0 rfl (lv_at hl 1 rfl) ?_
  refine lv_aload_n hx hb d_J_copyOf_l_1 rfl (lv_at hl 0 rfl) ?_
  refine fz_alen hx hb hK hP 0 1 rfl rfl d_J_copyOf_l_2 ?_
  refine lv_icmp_ne (tgt := 14) hx hb d_J_copyOf_l_3 (by decide) (fun c3 => ?_) (fun c3 => ?_)
  · have c3 : ¬ N = n := fun h => c3 (by exact (nI_eq (by omega) (by omega)).mpr h)
    refine lv_iload_n hx hb d_J_copyOf_l_14 rfl (lv_at hl 1 rfl) ?_
    refine fz_newl hx hb (hw _ m_81) hK 1 rfl hP hD hS hA (by omega) (by (try dsimp only); omega) (by (try dsimp only); omega) d_J_copyOf_l_15 (fun q_1 H hP hD hS => ?_)
    have hP : va_P (dC, dI) classes [(a, .inl (cL, n, .inr (.inl fn))), (q_1, .inl (cL, N, .inr (.inl (fun _ => 0))))] H := hP
    have hD : va_D A [(a, .inl (cL, n, .inr (.inl fn))), (q_1, .inl (cL, N, .inr (.inl (fun _ => 0))))] := hD
    refine W.widen (k := 1) (n := N) (by omega) (by omega) ?_
    refine lv_astore_n (lv' := [(2, .ref q_1), (0, .ref a), (1, .int (nI N))]) hx hb d_J_copyOf_l_17 rfl hl (by decide) rfl (fun ls hl => ?_)
    refine lv_aload_n hx hb d_J_copyOf_l_18 rfl (lv_at hl 1 rfl) ?_
    refine lv_iconst (v := nI 0) hx hb d_J_copyOf_l_19 (by decide) ?_
    refine lv_aload_n hx hb d_J_copyOf_l_20 rfl (lv_at hl 0 rfl) ?_
    refine lv_iconst (v := nI 0) hx hb d_J_copyOf_l_21 (by decide) ?_
    refine lv_aload_n hx hb d_J_copyOf_l_22 rfl (lv_at hl 1 rfl) ?_
    refine fz_alen hx hb hK hP 0 1 rfl rfl d_J_copyOf_l_23 ?_
    refine lv_iload_n hx hb d_J_copyOf_l_24 rfl (lv_at hl 2 rfl) ?_
    refine va_mmin hx hb (hml.trans hl.1.symm) hown (hw _ m_121) (hw _ m_109) (hw _ m_5) (hw _ m_110) (Nat.le_of_ble_eq_true rfl) (Nat.le_of_ble_eq_true rfl) (by (try dsimp only); omega) (by (try dsimp only); omega) d_J_copyOf_l_25 ?_
    refine fz_eqi (y := nI n) (fz_minN (by omega) (by omega) (if_neg (by omega))) ?_
    refine fz_cpyl hx hb (hml.trans hl.1.symm) hown (hw _ m_122) (hw _ m_124) (hw _ m_123) (hw _ m_7) hK hP hD hS 0 1 1 rfl rfl rfl (by omega) (by omega) (by omega) (Nat.le_of_ble_eq_true rfl) (Nat.le_of_ble_eq_true rfl) d_J_copyOf_l_28 (fun H locs hP hD hS => ?_)
    have hP : va_P (dC, dI) classes [(a, .inl (cL, n, .inr (.inl fn))), (q_1, .inl (cL, N, .inr (.inl (cpz fn (fun _ => 0) n))))] H := hP
    have hD : va_D A [(a, .inl (cL, n, .inr (.inl fn))), (q_1, .inl (cL, N, .inr (.inl (cpz fn (fun _ => 0) n))))] := hD
    refine lv_aload_n hx hb d_J_copyOf_l_31 rfl (lv_at hl 0 rfl) ?_
    exact hret q_1 () _ _ 32 ls trivial hP hD hS d_J_copyOf_l_32
  · have c3 : N = n := by exact (nI_eq (by omega) (by omega)).mp c3
    exact absurd c3 (by omega)
set_option maxHeartbeats 4000000 in
set_option maxRecDepth 100000 in
/-- Arrays.copyOf -/
theorem c_copyOf_b (l : Launch) (dC : Nat → ClassId) (dI : Nat → Nat → Nat) (cI cL cB : ClassId) (a : Nat) (n : Nat) (N : Nat) (fn : Nat → Nat) (hLN : n < N) (hN : N < 2 ^ 20) (hfit : ∀ i, fn i < 128) : StdR l y_J_copyOf_b (wd y_J_copyOf_b b_J_copyOf_b 3 (some (.array .byte))) 1 28 1 N (dC, dI) classes (tyK cI cL cB) [.ref a, .int (nI N)] [(a, .inl (cB, n, .inl (nf fn)))] (fun (r : Nat) (u : Unit) => True) (fun (u : Unit) (r : Nat) => [(a, .inl (cB, n, .inl (nf fn))), (r, .inl (cB, N, .inl (nf (cpz fn (fun _ => 0) n))))]) := by
  refine StdR.mk (cc := b_J_copyOf_b) (maxL := 3) (Or.inr ⟨_, rfl⟩) (by decide) rfl (Nat.le_of_ble_eq_true rfl) ?_
  intro p e s m below meth c A Z ls hx hb hml hown hts hin hP hK hD hA hS hret hl
  have hown : s.vm.findClass "java/util/Arrays" = some m.cls := hown
  have hw : ∀ x ∈ WALL, x.before _ s = true := fun x h => hts x (List.mem_cons_of_mem _ h)
  have hl : lv_has ls 3 [(0, .ref a), (1, .int (nI N))] := hl
  refine lv_iload_n hx hb d_J_copyOf_b_0 rfl (lv_at hl 1 rfl) ?_
  refine lv_aload_n hx hb d_J_copyOf_b_1 rfl (lv_at hl 0 rfl) ?_
  refine fz_alen hx hb hK hP 0 2 rfl rfl d_J_copyOf_b_2 ?_
  refine lv_icmp_ne (tgt := 14) hx hb d_J_copyOf_b_3 (by decide) (fun c3 => ?_) (fun c3 => ?_)
  · have c3 : ¬ N = n := fun h => c3 (by exact (nI_eq (by omega) (by omega)).mpr h)
    refine lv_iload_n hx hb d_J_copyOf_b_14 rfl (lv_at hl 1 rfl) ?_
    refine fz_newb hx hb (hw _ m_82) hK 2 rfl hP hD hS hA (by omega) (by (try dsimp only); omega) (by (try dsimp only); omega) d_J_copyOf_b_15 (fun q_1 H hP hD hS => ?_)
    have hP : va_P (dC, dI) classes [(a, .inl (cB, n, .inl (nf fn))), (q_1, .inl (cB, N, .inl (nf (fun _ => 0))))] H := hP
    have hD : va_D A [(a, .inl (cB, n, .inl (nf fn))), (q_1, .inl (cB, N, .inl (nf (fun _ => 0))))] := hD
    refine W.widen (k := 1) (n := N) (by omega) (by omega) ?_
    refine lv_astore_n (lv' := [(2, .ref q_1), (0, .ref a), (1, .int (nI N))]) hx hb d_J_copyOf_b_17 rfl hl (by decide) rfl (fun ls hl => ?_)
    refine lv_aload_n hx hb d_J_copyOf_b_18 rfl (lv_at hl 1 rfl) ?_
    refine lv_iconst (v := nI 0) hx hb d_J_copyOf_b_19 (by decide) ?_
    refine lv_aload_n hx hb d_J_copyOf_b_20 rfl (lv_at hl 0 rfl) ?_
    refine lv_iconst (v := nI 0) hx hb d_J_copyOf_b_21 (by decide) ?_
    refine lv_aload_n hx hb d_J_copyOf_b_22 rfl (lv_at hl 1 rfl) ?_
    refine fz_alen hx hb hK hP 0 2 rfl rfl d_J_copyOf_b_23 ?_
    refine lv_iload_n hx hb d_J_copyOf_b_24 rfl (lv_at hl 2 rfl) ?_
    refine va_mmin hx hb (hml.trans hl.1.symm) hown (hw _ m_121) (hw _ m_109) (hw _ m_5) (hw _ m_110) (Nat.le_of_ble_eq_true rfl) (Nat.le_of_ble_eq_true rfl) (by (try dsimp only); omega) (by (try dsimp only); omega) d_J_copyOf_b_25 ?_
    refine fz_eqi (y := nI n) (fz_minN (by omega) (by omega) (if_neg (by omega))) ?_
    refine fz_cpyb hx hb (hml.trans hl.1.symm) hown (hw _ m_122) (hw _ m_124) (hw _ m_123) (hw _ m_7) hK hP hD hS 0 1 2 rfl rfl rfl (fun i _ => fz_fitb (hfit i)) (by omega) (by omega) (by omega) (Nat.le_of_ble_eq_true rfl) (Nat.le_of_ble_eq_true rfl) d_J_copyOf_b_28 (fun H locs hP hD hS => ?_)
    have hP : va_P (dC, dI) classes [(a, .inl (cB, n, .inl (nf fn))), (q_1, .inl (cB, N, .inl (nf (cpz fn (fun _ => 0) n))))] H := hP
    have hD : va_D A [(a, .inl (cB, n, .inl (nf fn))), (q_1, .inl (cB, N, .inl (nf (cpz fn (fun _ => 0) n))))] := hD
    refine lv_aload_n hx hb d_J_copyOf_b_31 rfl (lv_at hl 0 rfl) ?_
    exact hret q_1 () _ _ 32 ls trivial hP hD hS d_J_copyOf_b_32
  · have c3 : N = n := by exact (nI_eq (by omega) (by omega)).mp c3
    exact absurd c3 (by omega)
set_option maxHeartbeats 4000000 in
set_option maxRecDepth 100000 in
/-- Arrays.fill -/
theorem c_fill0 (l : Launch) (dC : Nat → ClassId) (dI : Nat → Nat → Nat) (cI cL cB : ClassId) (a : Nat) (n : Nat) (x : Nat) (fn : Nat → Nat) (hn : n < 2 ^ 20) : StdV l y_J_fill (wd y_J_fill b_J_fill 4 none) 0 0 0 0 (dC, dI) classes (tyK cI cL cB) [.ref a, .int (nI x)] [(a, .inl (cI, n, .inl (nf fn)))] (fun (u : Unit) => True) (fun (u : Unit) => [(a, .inl (cI, n, .inl (nf (cpz (fun _ => x) fn n))))]) := by
  refine StdV.mk (cc := b_J_fill) (maxL := 4) (by decide) rfl (Nat.le_of_ble_eq_true rfl) ?_
  intro p e s m below meth c A Z ls hx hb hml hown hts hin hP hK hD hA hS hret hl
  have hown : s.vm.findClass "java/util/Arrays" = some m.cls := hown
  have hw : ∀ x ∈ WALL, x.before _ s = true := fun x h => hts x (List.mem_cons_of_mem _ h)
  have hl : lv_has ls 4 [(0, .ref a), (1, .int (nI x))] := hl
  refine lv_iconst (v := nI 0) hx hb d_J_fill_0 (by decide) ?_
  refine lv_istore_n (lv' := [(2, .int (nI 0)), (0, .ref a), (1, .int (nI x))]) hx hb d_J_fill_1 rfl hl (by decide) rfl (fun ls hl => ?_)
  refine lv_aload_n hx hb d_J_fill_2 rfl (lv_at hl 1 rfl) ?_
  refine fz_alen hx hb hK hP 0 0 rfl rfl d_J_fill_3 ?_
  refine lv_istore_n (lv' := [(3, .int (nI n)), (2, .int (nI 0)), (0, .ref a), (1, .int (nI x))]) hx hb d_J_fill_4 rfl hl (by decide) rfl (fun ls hl => ?_)
  have loop_5 : ∀ (fuel : Nat) (i : Nat) (fn2 : Nat → Nat), i ≤ n → fn2 = cpz (fun _ => x) fn i → n - i < fuel → ∀ (H : Heap) (locs : List Loc), va_P (dC, dI) classes [(a, .inl (cI, n, .inl (nf fn2)))] H → va_D A [(a, .inl (cI, n, .inl (nf fn2)))] → va_S A s.heap H locs → ∀ (ls : Array Slot), lv_has ls 4 [(0, .ref a), (1, .int (nI x)), (2, .int (nI i)), (3, .int (nI n))] → W p l e { frames := 0, cells := 0, slots := 0, locals := 0 } s m [.ref a, .int (nI x)].toArray below meth c H locs 0 0 Z (F0 m 5 ls []) := by
    intro fuel
    induction fuel with
    | zero => intro i fn2 hi hf2 hfuel; exact absurd hfuel (Nat.not_lt_zero _)
    | succ fuel ih =>
      intro i fn2 hi hf2 hfuel H locs hP hD hS ls hl
      refine lv_iload_n hx hb d_J_fill_5 rfl (lv_at hl 2 rfl) ?_
      refine lv_iload_n hx hb d_J_fill_6 rfl (lv_at hl 3 rfl) ?_
      refine lv_icmp_ge (tgt := 20) hx hb d_J_fill_7 (by decide) (fun c7 => ?_) (fun c7 => ?_)
      · have c7 : n ≤ i := by exact (nI_leI (by omega) (by omega)).mp c7
        have hin2 : i = n := by omega
        subst hin2
        subst hf2
        exact hret () _ _ 20 ls trivial hP hD hS d_J_fill_20
      · have c7 : ¬ n ≤ i := fun h => c7 (by exact (nI_leI (by omega) (by omega)).mpr h)
        refine lv_aload_n hx hb d_J_fill_10 rfl (lv_at hl 0 rfl) ?_
        refine lv_iload_n hx hb d_J_fill_11 rfl (lv_at hl 2 rfl) ?_
        refine lv_iload_n hx hb d_J_fill_12 rfl (lv_at hl 1 rfl) ?_
        refine fz_iast hx hb hK hP hD hS 0 0 rfl rfl (j := i) (by omega) (by omega) d_J_fill_13 (fun H locs hP hD hS => ?_)
        have hP : va_P (dC, dI) classes [(a, .inl (cI, n, .inl (nf (va_up fn2 i x))))] H := hP
        have hD : va_D A [(a, .inl (cI, n, .inl (nf (va_up fn2 i x))))] := hD
        refine lv_iinc (v := nI (i + 1)) (lv' := [(2, .int (nI (i + 1))), (0, .ref a), (1, .int (nI x)), (3, .int (nI n))]) hx hb d_J_fill_14 hl (k := 2) rfl (fz_inc i) (by decide) rfl (fun ls hl => ?_)
        refine lv_goto (tgt := 5) hx hb d_J_fill_17 (by decide) ?_
        exact ih (i + 1) (va_up fn2 i x) (by omega) (by rw [hf2, cpz_step]) (by omega) _ _ hP hD hS ls (lv_sub hl [1, 2, 0, 3] rfl)
  exact loop_5 (n - 0 + 1) 0 fn (by omega) (cpz_0 _ _).symm (Nat.lt_succ_self _) _ _ hP hD hS ls (lv_sub hl [2, 3, 1, 0] rfl)
set_option maxHeartbeats 4000000 in
set_option maxRecDepth 100000 in
/-- setValue -/
theorem c_setValue (l : Launch) (dC : Nat → ClassId) (dI : Nat → Nat → Nat) (cI cL cB : ClassId) (f : Nat) (a1 : Nat) (a2 : Nat) (a3 : Nat) (a4 : Nat) (a5 : Nat) (a6 : Nat) (cnt : Nat) (L : Nat) (i : Nat) (kind : Nat) (num : Int64) (kd : Nat → Nat) (nu : Nat → Int64) (hi : i < L) (hL : L < 2 ^ 20) (hk : kind < 128) : StdV l y_S_setValue (wd y_S_setValue b_S_setValue 5 none) 0 0 0 0 (dC, dI) classes (tyK cI cL cB) [.ref f, .int (nI i), .int (nI kind), .long num] [(f, .inr (2, [.int (nI cnt), .ref a1, .ref a2, .ref a3, .ref a4, .ref a5, .ref a6])), (a3, .inl (cB, L, .inl (nf kd))), (a4, .inl (cL, L, .inr (.inl nu)))] (fun (u : Unit) => True) (fun (u : Unit) => [(f, .inr (2, [.int (nI cnt), .ref a1, .ref a2, .ref a3, .ref a4, .ref a5, .ref a6])), (a3, .inl (cB, L, .inl (nf (va_up kd i kind)))), (a4, .inl (cL, L, .inr (.inl (vp_updL nu i (if kind = 0 then 0 else num)))))]) := by
  refine StdV.mk (cc := b_S_setValue) (maxL := 5) (by decide) rfl (Nat.le_of_ble_eq_true rfl) ?_
  intro p e s m below meth c A Z ls hx hb hml hown hts hin hP hK hD hA hS hret hl
  have hown : s.vm.findClass R_S = some m.cls := hown
  have hw : ∀ x ∈ WALL, x.before _ s = true := fun x h => hts x (List.mem_cons_of_mem _ h)
  have hl : lv_has ls 5 [(0, .ref f), (1, .int (nI i)), (2, .int (nI kind)), (3, .long num)] := hl
  refine lv_aload_n hx hb d_S_setValue_0 rfl (lv_at hl 0 rfl) ?_
  refine va_get (D := (dC, dI)) (ci := 2) (v := .ref a3) (C := R_S) (T := T_S) (N := 7) hx hb hw in_S hown hK hP 0 rfl rfl 3 (by decide) (hw _ m_59) (fun _ h9 => h9) rfl d_S_setValue_1 ?_
  refine lv_iload_n hx hb d_S_setValue_4 rfl (lv_at hl 1 rfl) ?_
  refine lv_iload_n hx hb d_S_setValue_5 rfl (lv_at hl 2 rfl) ?_
  refine lv_i2b (v := nI kind) hx hb d_S_setValue_6 (fz_i2b (by omega)) ?_
  refine fz_bast hx hb hK hP hD hS 1 2 rfl rfl (j := i) (fz_nb (by omega)) (by omega) (by omega) d_S_setValue_7 (fun H locs hP hD hS => ?_)
  have hP : va_P (dC, dI) classes [(f, .inr (2, [.int (nI cnt), .ref a1, .ref a2, .ref a3, .ref a4, .ref a5, .ref a6])), (a3, .inl (cB, L, .inl (nf (va_up kd i kind)))), (a4, .inl (cL, L, .inr (.inl nu)))] H := hP
  have hD : va_D A [(f, .inr (2, [.int (nI cnt), .ref a1, .ref a2, .ref a3, .ref a4, .ref a5, .ref a6])), (a3, .inl (cB, L, .inl (nf (va_up kd i kind)))), (a4, .inl (cL, L, .inr (.inl nu)))] := hD
  refine lv_aload_n hx hb d_S_setValue_8 rfl (lv_at hl 0 rfl) ?_
  refine va_get (D := (dC, dI)) (ci := 2) (v := .ref a4) (C := R_S) (T := T_S) (N := 7) hx hb hw in_S hown hK hP 0 rfl rfl 4 (by decide) (hw _ m_61) (fun _ h9 => h9) rfl d_S_setValue_9 ?_
  refine lv_iload_n hx hb d_S_setValue_12 rfl (lv_at hl 1 rfl) ?_
  refine lv_iload_n hx hb d_S_setValue_13 rfl (lv_at hl 2 rfl) ?_
  refine lv_if_ne (tgt := 21) hx hb d_S_setValue_14 (by decide) (fun c14 => ?_) (fun c14 => ?_)
  · have c14 : ¬ kind = 0 := fun h => c14 (((nI_eq (by omega) (by omega)).mpr h).trans nI_0)
    refine lv_lload_n hx hb d_S_setValue_21 rfl (lv_at hl 3 rfl) ?_
    refine fz_eql (y := if kind = 0 then 0 else num) (if_neg c14).symm ?_
    refine fz_last hx hb hK hP hD hS 2 1 rfl rfl (j := i) (by omega) (by omega) d_S_setValue_22 (fun H locs hP hD hS => ?_)
    have hP : va_P (dC, dI) classes [(f, .inr (2, [.int (nI cnt), .ref a1, .ref a2, .ref a3, .ref a4, .ref a5, .ref a6])), (a3, .inl (cB, L, .inl (nf (va_up kd i kind)))), (a4, .inl (cL, L, .inr (.inl (vp_updL nu i (if kind = 0 then 0 else num)))))] H := hP
    have hD : va_D A [(f, .inr (2, [.int (nI cnt), .ref a1, .ref a2, .ref a3, .ref a4, .ref a5, .ref a6])), (a3, .inl (cB, L, .inl (nf (va_up kd i kind)))), (a4, .inl (cL, L, .inr (.inl (vp_updL nu i (if kind = 0 then 0 else num)))))] := hD
    exact hret () _ _ 23 ls trivial hP hD hS d_S_setValue_23
  · have c14 : kind = 0 := (nI_eq (by omega) (by omega)).mp (c14.trans nI_0.symm)
    refine lv_lconst (v := lN 0) hx hb d_S_setValue_17 rfl ?_
    refine lv_goto (tgt := 22) hx hb d_S_setValue_18 (by decide) ?_
    refine fz_eql (y := if kind = 0 then 0 else num) (by rw [if_pos c14]; rfl) ?_
    refine fz_last hx hb hK hP hD hS 2 1 rfl rfl (j := i) (by omega) (by omega) d_S_setValue_22 (fun H locs hP hD hS => ?_)
    have hP : va_P (dC, dI) classes [(f, .inr (2, [.int (nI cnt), .ref a1, .ref a2, .ref a3, .ref a4, .ref a5, .ref a6])), (a3, .inl (cB, L, .inl (nf (va_up kd i kind)))), (a4, .inl (cL, L, .inr (.inl (vp_updL nu i (if kind = 0 then 0 else num)))))] H := hP
    have hD : va_D A [(f, .inr (2, [.int (nI cnt), .ref a1, .ref a2, .ref a3, .ref a4, .ref a5, .ref a6])), (a3, .inl (cB, L, .inl (nf (va_up kd i kind)))), (a4, .inl (cL, L, .inr (.inl (vp_updL nu i (if kind = 0 then 0 else num)))))] := hD
    exact hret () _ _ 23 ls trivial hP hD hS d_S_setValue_23
set_option maxHeartbeats 4000000 in
set_option maxRecDepth 100000 in
/-- copyValue -/
theorem c_copyValue (l : Launch) (dC : Nat → ClassId) (dI : Nat → Nat → Nat) (cI cL cB : ClassId) (f : Nat) (a1 : Nat) (a2 : Nat) (a3 : Nat) (a4 : Nat) (a5 : Nat) (a6 : Nat) (cnt : Nat) (L : Nat) (i : Nat) (j : Nat) (kd : Nat → Nat) (nu : Nat → Int64) (hi : i < L) (hj : j < L) (hL : L < 2 ^ 20) (hk : kd j < 128) : StdV l y_S_copyValue (wd y_S_copyValue b_S_copyValue 3 none) 0 0 0 0 (dC, dI) classes (tyK cI cL cB) [.ref f, .int (nI i), .int (nI j)] [(f, .inr (2, [.int (nI cnt), .ref a1, .ref a2, .ref a3, .ref a4, .ref a5, .ref a6])), (a3, .inl (cB, L, .inl (nf kd))), (a4, .inl (cL, L, .inr (.inl nu)))] (fun (u : Unit) => True) (fun (u : Unit) => [(f, .inr (2, [.int (nI cnt), .ref a1, .ref a2, .ref a3, .ref a4, .ref a5, .ref a6])), (a3, .inl (cB, L, .inl (nf (va_up kd i (kd j))))), (a4, .inl (cL, L, .inr (.inl (vp_updL nu i (nu j)))))]) := by
  refine StdV.mk (cc := b_S_copyValue) (maxL := 3) (by decide) rfl (Nat.le_of_ble_eq_true rfl) ?_
  intro p e s m below meth c A Z ls hx hb hml hown hts hin hP hK hD hA hS hret hl
  have hown : s.vm.findClass R_S = some m.cls := hown
  have hw : ∀ x ∈ WALL, x.before _ s = true := fun x h => hts x (List.mem_cons_of_mem _ h)
  have hl : lv_has ls 3 [(0, .ref f), (1, .int (nI i)), (2, .int (nI j))] := hl
  refine lv_aload_n hx hb d_S_copyValue_0 rfl (lv_at hl 0 rfl) ?_
  refine va_get (D := (dC, dI)) (ci := 2) (v := .ref a3) (C := R_S) (T := T_S) (N := 7) hx hb hw in_S hown hK hP 0 rfl rfl 3 (by decide) (hw _ m_59) (fun _ h9 => h9) rfl d_S_copyValue_1 ?_
  refine lv_iload_n hx hb d_S_copyValue_4 rfl (lv_at hl 1 rfl) ?_
  refine lv_aload_n hx hb d_S_copyValue_5 rfl (lv_at hl 0 rfl) ?_
  refine va_get (D := (dC, dI)) (ci := 2) (v := .ref a3) (C := R_S) (T := T_S) (N := 7) hx hb hw in_S hown hK hP 0 rfl rfl 3 (by decide) (hw _ m_59) (fun _ h9 => h9) rfl d_S_copyValue_6 ?_
  refine lv_iload_n hx hb d_S_copyValue_9 rfl (lv_at hl 2 rfl) ?_
  refine fz_bald hx hb hK hP 1 2 rfl rfl (j := j) (by omega) (by omega) d_S_copyValue_10 ?_
  refine fz_bast hx hb hK hP hD hS 1 2 rfl rfl (j := i) (fz_nb (by omega)) (by omega) (by omega) d_S_copyValue_11 (fun H locs hP hD hS => ?_)
  have hP : va_P (dC, dI) classes [(f, .inr (2, [.int (nI cnt), .ref a1, .ref a2, .ref a3, .ref a4, .ref a5, .ref a6])), (a3, .inl (cB, L, .inl (nf (va_up kd i (kd j))))), (a4, .inl (cL, L, .inr (.inl nu)))] H := hP
  have hD : va_D A [(f, .inr (2, [.int (nI cnt), .ref a1, .ref a2, .ref a3, .ref a4, .ref a5, .ref a6])), (a3, .inl (cB, L, .inl (nf (va_up kd i (kd j))))), (a4, .inl (cL, L, .inr (.inl nu)))] := hD
  refine lv_aload_n hx hb d_S_copyValue_12 rfl (lv_at hl 0 rfl) ?_
  refine va_get (D := (dC, dI)) (ci := 2) (v := .ref a4) (C := R_S) (T := T_S) (N := 7) hx hb hw in_S hown hK hP 0 rfl rfl 4 (by decide) (hw _ m_61) (fun _ h9 => h9) rfl d_S_copyValue_13 ?_
  refine lv_iload_n hx hb d_S_copyValue_16 rfl (lv_at hl 1 rfl) ?_
  refine lv_aload_n hx hb d_S_copyValue_17 rfl (lv_at hl 0 rfl) ?_
  refine va_get (D := (dC, dI)) (ci := 2) (v := .ref a4) (C := R_S) (T := T_S) (N := 7) hx hb hw in_S hown hK hP 0 rfl rfl 4 (by decide) (hw _ m_61) (fun _ h9 => h9) rfl d_S_copyValue_18 ?_
  refine lv_iload_n hx hb d_S_copyValue_21 rfl (lv_at hl 2 rfl) ?_
  refine fz_lald hx hb hK hP 2 1 rfl rfl (j := j) (by omega) (by omega) d_S_copyValue_22 ?_
  refine fz_last hx hb hK hP hD hS 2 1 rfl rfl (j := i) (by omega) (by omega) d_S_copyValue_23 (fun H locs hP hD hS => ?_)
  have hP : va_P (dC, dI) classes [(f, .inr (2, [.int (nI cnt), .ref a1, .ref a2, .ref a3, .ref a4, .ref a5, .ref a6])), (a3, .inl (cB, L, .inl (nf (va_up kd i (kd j))))), (a4, .inl (cL, L, .inr (.inl (vp_updL nu i (nu j)))))] H := hP
  have hD : va_D A [(f, .inr (2, [.int (nI cnt), .ref a1, .ref a2, .ref a3, .ref a4, .ref a5, .ref a6])), (a3, .inl (cB, L, .inl (nf (va_up kd i (kd j))))), (a4, .inl (cL, L, .inr (.inl (vp_updL nu i (nu j)))))] := hD
  exact hret () _ _ 24 ls trivial hP hD hS d_S_copyValue_24
set_option maxHeartbeats 4000000 in
set_option maxRecDepth 100000 in
/-- swapValues -/
theorem c_swapValues (l : Launch) (dC : Nat → ClassId) (dI : Nat → Nat → Nat) (cI cL cB : ClassId) (f : Nat) (a1 : Nat) (a2 : Nat) (a3 : Nat) (a4 : Nat) (a5 : Nat) (a6 : Nat) (cnt : Nat) (L : Nat) (i : Nat) (j : Nat) (kd : Nat → Nat) (nu : Nat → Int64) (hi : i < L) (hj : j < L) (hL : L < 2 ^ 20) (hk : kd j < 128) (hk2 : kd i < 128) : StdV l y_S_swapValues (wd y_S_swapValues b_S_swapValues 6 none) 1 22 0 0 (dC, dI) classes (tyK cI cL cB) [.ref f, .int (nI i), .int (nI j)] [(f, .inr (2, [.int (nI cnt), .ref a1, .ref a2, .ref a3, .ref a4, .ref a5, .ref a6])), (a3, .inl (cB, L, .inl (nf kd))), (a4, .inl (cL, L, .inr (.inl nu)))] (fun (u : Unit) => True) (fun (u : Unit) => [(f, .inr (2, [.int (nI cnt), .ref a1, .ref a2, .ref a3, .ref a4, .ref a5, .ref a6])), (a3, .inl (cB, L, .inl (nf (va_up (va_up kd i (kd j)) j (kd i))))), (a4, .inl (cL, L, .inr (.inl (vp_updL (vp_updL nu i (nu j)) j (nu i)))))]) := by
  refine StdV.mk (cc := b_S_swapValues) (maxL := 6) (by decide) rfl (Nat.le_of_ble_eq_true rfl) ?_
  intro p e s m below meth c A Z ls hx hb hml hown hts hin hP hK hD hA hS hret hl
  have hown : s.vm.findClass R_S = some m.cls := hown
  have hw : ∀ x ∈ WALL, x.before _ s = true := fun x h => hts x (List.mem_cons_of_mem _ h)
  have hl : lv_has ls 6 [(0, .ref f), (1, .int (nI i)), (2, .int (nI j))] := hl
  refine lv_aload_n hx hb d_S_swapValues_0 rfl (lv_at hl 0 rfl) ?_
  refine va_get (D := (dC, dI)) (ci := 2) (v := .ref a3) (C := R_S) (T := T_S) (N := 7) hx hb hw in_S hown hK hP 0 rfl rfl 3 (by decide) (hw _ m_59) (fun _ h9 => h9) rfl d_S_swapValues_1 ?_
  refine lv_iload_n hx hb d_S_swapValues_4 rfl (lv_at hl 1 rfl) ?_
  refine fz_bald hx hb hK hP 1 2 rfl rfl (j := i) (by omega) (by omega) d_S_swapValues_5 ?_
  refine lv_istore_n (lv' := [(3, .int (nI (kd i))), (0, .ref f), (1, .int (nI i)), (2, .int (nI j))]) hx hb d_S_swapValues_6 rfl hl (by decide) rfl (fun ls hl => ?_)
  refine lv_aload_n hx hb d_S_swapValues_7 rfl (lv_at hl 1 rfl) ?_
  refine va_get (D := (dC, dI)) (ci := 2) (v := .ref a4) (C := R_S) (T := T_S) (N := 7) hx hb hw in_S hown hK hP 0 rfl rfl 4 (by decide) (hw _ m_61) (fun _ h9 => h9) rfl d_S_swapValues_8 ?_
  refine lv_iload_n hx hb d_S_swapValues_11 rfl (lv_at hl 2 rfl) ?_
  refine fz_lald hx hb hK hP 2 1 rfl rfl (j := i) (by omega) (by omega) d_S_swapValues_12 ?_
  refine lv_lstore (lv' := [(4, .long (nu i)), (3, .int (nI (kd i))), (0, .ref f), (1, .int (nI i)), (2, .int (nI j))]) hx hb d_S_swapValues_13 hl (by decide) rfl (fun ls hl => ?_)
  refine lv_aload_n hx hb d_S_swapValues_15 rfl (lv_at hl 2 rfl) ?_
  refine lv_iload_n hx hb d_S_swapValues_16 rfl (lv_at hl 3 rfl) ?_
  refine lv_iload_n hx hb d_S_swapValues_17 rfl (lv_at hl 4 rfl) ?_
  refine StdV.callV (ci := 2) (q0 := 0) (wr := []) (c_copyValue l dC dI cI cL cB f a1 a2 a3 a4 a5 a6 cnt L i j kd nu (by omega) (by omega) (by omega) (by omega)) ⟨hx, hb, hml, hown, hw⟩ (fz_cwV 2 hw m_294 m_311 m_292 m_293 m_3 rfl rfl (by decide +kernel) ⟨Nat.le_of_ble_eq_true rfl, Nat.le_of_ble_eq_true rfl⟩) hK hP hD hS hA [0, 1, 2] [] rfl rfl (by decide) (by decide) (by decide) rfl rfl rfl rfl hl.1 rfl (Nat.le_of_ble_eq_true rfl) d_S_swapValues_18 ⟨(Nat.le_of_ble_eq_true rfl), (Nat.le_of_ble_eq_true rfl)⟩ (fun u18 H locs h18 hP hD hS => ?_)
  try dsimp only at h18
  have hP : va_P (dC, dI) classes [(f, .inr (2, [.int (nI cnt), .ref a1, .ref a2, .ref a3, .ref a4, .ref a5, .ref a6])), (a3, .inl (cB, L, .inl (nf (va_up kd i (kd j))))), (a4, .inl (cL, L, .inr (.inl (vp_updL nu i (nu j)))))] H := hP
  have hD : va_D A [(f, .inr (2, [.int (nI cnt), .ref a1, .ref a2, .ref a3, .ref a4, .ref a5, .ref a6])), (a3, .inl (cB, L, .inl (nf (va_up kd i (kd j))))), (a4, .inl (cL, L, .inr (.inl (vp_updL nu i (nu j)))))] := hD
  refine lv_aload_n hx hb d_S_swapValues_21 rfl (lv_at hl 2 rfl) ?_
  refine va_get (D := (dC, dI)) (ci := 2) (v := .ref a3) (C := R_S) (T := T_S) (N := 7) hx hb hw in_S hown hK hP 0 rfl rfl 3 (by decide) (hw _ m_59) (fun _ h9 => h9) rfl d_S_swapValues_22 ?_
  refine lv_iload_n hx hb d_S_swapValues_25 rfl (lv_at hl 4 rfl) ?_
  refine lv_iload_n hx hb d_S_swapValues_26 rfl (lv_at hl 1 rfl) ?_
  refine fz_bast hx hb hK hP hD hS 1 2 rfl rfl (j := j) (fz_nb (by omega)) (by omega) (by omega) d_S_swapValues_27 (fun H locs hP hD hS => ?_)
  have hP : va_P (dC, dI) classes [(f, .inr (2, [.int (nI cnt), .ref a1, .ref a2, .ref a3, .ref a4, .ref a5, .ref a6])), (a3, .inl (cB, L, .inl (nf (va_up (va_up kd i (kd j)) j (kd i))))), (a4, .inl (cL, L, .inr (.inl (vp_updL nu i (nu j)))))] H := hP
  have hD : va_D A [(f, .inr (2, [.int (nI cnt), .ref a1, .ref a2, .ref a3, .ref a4, .ref a5, .ref a6])), (a3, .inl (cB, L, .inl (nf (va_up (va_up kd i (kd j)) j (kd i))))), (a4, .inl (cL, L, .inr (.inl (vp_updL nu i (nu j)))))] := hD
  refine lv_aload_n hx hb d_S_swapValues_28 rfl (lv_at hl 2 rfl) ?_
  refine va_get (D := (dC, dI)) (ci := 2) (v := .ref a4) (C := R_S) (T := T_S) (N := 7) hx hb hw in_S hown hK hP 0 rfl rfl 4 (by decide) (hw _ m_61) (fun _ h9 => h9) rfl d_S_swapValues_29 ?_
  refine lv_iload_n hx hb d_S_swapValues_32 rfl (lv_at hl 4 rfl) ?_
  refine lv_lload hx hb d_S_swapValues_33 (lv_at hl 0 rfl) ?_
  refine fz_last hx hb hK hP hD hS 2 1 rfl rfl (j := j) (by omega) (by omega) d_S_swapValues_35 (fun H locs hP hD hS => ?_)
  have hP : va_P (dC, dI) classes [(f, .inr (2, [.int (nI cnt), .ref a1, .ref a2, .ref a3, .ref a4, .ref a5, .ref a6])), (a3, .inl (cB, L, .inl (nf (va_up (va_up kd i (kd j)) j (kd i))))), (a4, .inl (cL, L, .inr (.inl (vp_updL (vp_updL nu i (nu j)) j (nu i)))))] H := hP
  have hD : va_D A [(f, .inr (2, [.int (nI cnt), .ref a1, .ref a2, .ref a3, .ref a4, .ref a5, .ref a6])), (a3, .inl (cB, L, .inl (nf (va_up (va_up kd i (kd j)) j (kd i))))), (a4, .inl (cL, L, .inr (.inl (vp_updL (vp_updL nu i (nu j)) j (nu i)))))] := hD
  exact hret () _ _ 36 ls trivial hP hD hS d_S_swapValues_36
set_option maxHeartbeats 4000000 in
set_option maxRecDepth 100000 in
/-- sameValues -/
theorem c_sameValues (l : Launch) (dC : Nat → ClassId) (dI : Nat → Nat → Nat) (cI cL cB : ClassId) (f : Nat) (a1 : Nat) (a2 : Nat) (a3 : Nat) (a4 : Nat) (a5 : Nat) (a6 : Nat) (cnt : Nat) (L : Nat) (i : Nat) (j : Nat) (kd : Nat → Nat) (nu : Nat → Int64) (hi : i < L) (hj : j < L) (hL : L < 2 ^ 20) (hk : kd j < 128) (hk2 : kd i < 128) : QryI l y_S_sameValues (wd y_S_sameValues b_S_sameValues 3 (some .boolean)) 0 0 (dC, dI) classes (tyK cI cL cB) [.ref f, .int (nI i), .int (nI j)] [(f, .inr (2, [.int (nI cnt), .ref a1, .ref a2, .ref a3, .ref a4, .ref a5, .ref a6])), (a3, .inl (cB, L, .inl (nf kd))), (a4, .inl (cL, L, .inr (.inl nu)))] (fun r : Int32 => r = nI (if kd i = kd j ∧ nu i = nu j then 1 else 0)) := by
  refine QryZ.mk (cc := b_S_sameValues) (maxL := 3) (by decide) rfl (Nat.le_of_ble_eq_true rfl) ?_
  intro p e s m below meth c Z ls hx hb hml hown hts hP hK hret hl
  have hP : va_P (dC, dI) classes [(f, .inr (2, [.int (nI cnt), .ref a1, .ref a2, .ref a3, .ref a4, .ref a5, .ref a6])), (a3, .inl (cB, L, .inl (nf kd))), (a4, .inl (cL, L, .inr (.inl nu)))] s.heap := hP
  have hown : s.vm.findClass R_S = some m.cls := hown
  have hw : ∀ x ∈ WALL, x.before _ s = true := fun x h => hts x (List.mem_cons_of_mem _ h)
  have hl : lv_has ls 3 [(0, .ref f), (1, .int (nI i)), (2, .int (nI j))] := hl
  refine lv_aload_n hx hb d_S_sameValues_0 rfl (lv_at hl 0 rfl) ?_
  refine va_get (D := (dC, dI)) (ci := 2) (v := .ref a3) (C := R_S) (T := T_S) (N := 7) hx hb hw in_S hown hK hP 0 rfl rfl 3 (by decide) (hw _ m_59) (fun _ h9 => h9) rfl d_S_sameValues_1 ?_
  refine lv_iload_n hx hb d_S_sameValues_4 rfl (lv_at hl 1 rfl) ?_
  refine fz_bald hx hb hK hP 1 2 rfl rfl (j := i) (by omega) (by omega) d_S_sameValues_5 ?_
  refine lv_aload_n hx hb d_S_sameValues_6 rfl (lv_at hl 0 rfl) ?_
  refine va_get (D := (dC, dI)) (ci := 2) (v := .ref a3) (C := R_S) (T := T_S) (N := 7) hx hb hw in_S hown hK hP 0 rfl rfl 3 (by decide) (hw _ m_59) (fun _ h9 => h9) rfl d_S_sameValues_7 ?_
  refine lv_iload_n hx hb d_S_sameValues_10 rfl (lv_at hl 2 rfl) ?_
  refine fz_bald hx hb hK hP 1 2 rfl rfl (j := j) (by omega) (by omega) d_S_sameValues_11 ?_
  refine lv_icmp_ne (tgt := 35) hx hb d_S_sameValues_12 (by decide) (fun c12 => ?_) (fun c12 => ?_)
  · have c12 : ¬ kd i = kd j := fun h => c12 (by exact (nI_eq (by omega) (by omega)).mpr h)
    refine lv_iconst (v := nI 0) hx hb d_S_sameValues_35 (by decide) ?_
    exact hret (nI 0) 36 ls (Or.inl rfl) (by rw [if_neg (fun q => c12 q.1)]) d_S_sameValues_36
  · have c12 : kd i = kd j := by exact (nI_eq (by omega) (by omega)).mp c12
    refine lv_aload_n hx hb d_S_sameValues_15 rfl (lv_at hl 0 rfl) ?_
    refine va_get (D := (dC, dI)) (ci := 2) (v := .ref a4) (C := R_S) (T := T_S) (N := 7) hx hb hw in_S hown hK hP 0 rfl rfl 4 (by decide) (hw _ m_61) (fun _ h9 => h9) rfl d_S_sameValues_16 ?_
    refine lv_iload_n hx hb d_S_sameValues_19 rfl (lv_at hl 1 rfl) ?_
    refine fz_lald hx hb hK hP 2 1 rfl rfl (j := i) (by omega) (by omega) d_S_sameValues_20 ?_
    refine lv_aload_n hx hb d_S_sameValues_21 rfl (lv_at hl 0 rfl) ?_
    refine va_get (D := (dC, dI)) (ci := 2) (v := .ref a4) (C := R_S) (T := T_S) (N := 7) hx hb hw in_S hown hK hP 0 rfl rfl 4 (by decide) (hw _ m_61) (fun _ h9 => h9) rfl d_S_sameValues_22 ?_
    refine lv_iload_n hx hb d_S_sameValues_25 rfl (lv_at hl 2 rfl) ?_
    refine fz_lald hx hb hK hP 2 1 rfl rfl (j := j) (by omega) (by omega) d_S_sameValues_26 ?_
    refine W.lcmp hx hb d_S_sameValues_27 ?_
    refine lv_if_ne (tgt := 35) hx hb d_S_sameValues_28 (by decide) (fun c28 => ?_) (fun c28 => ?_)
    · have c28 : ¬ nu i = nu j := fun h => c28 ((lg_cmp_eq _ _).mpr h)
      refine lv_iconst (v := nI 0) hx hb d_S_sameValues_35 (by decide) ?_
      exact hret (nI 0) 36 ls (Or.inl rfl) (by rw [if_neg (fun q => c28 q.2)]) d_S_sameValues_36
    · have c28 : nu i = nu j := (lg_cmp_eq _ _).mp c28
      refine lv_iconst (v := nI 1) hx hb d_S_sameValues_31 (by decide) ?_
      refine lv_goto (tgt := 36) hx hb d_S_sameValues_32 (by decide) ?_
      exact hret (nI 1) 36 ls (Or.inr rfl) (by rw [if_pos ⟨c12, c28⟩]) d_S_sameValues_36
set_option maxHeartbeats 4000000 in
set_option maxRecDepth 100000 in
/-- FieldStore.forget -/
theorem c_Sforget (l : Launch) (dC : Nat → ClassId) (dI : Nat → Nat → Nat) (cI cL cB : ClassId) (f : Nat) (a1 : Nat) (a2 : Nat) (a3 : Nat) (a4 : Nat) (a5 : Nat) (a6 : Nat) (cnt : Nat) (M : Nat) (sn : Nat → Nat) (hM : M < 2 ^ 20) : StdV l y_S_forget (wd y_S_forget b_S_forget 1 none) 1 23 0 0 (dC, dI) classes (tyK cI cL cB) [.ref f] [(f, .inr (2, [.int (nI cnt), .ref a1, .ref a2, .ref a3, .ref a4, .ref a5, .ref a6])), (a6, .inl (cI, M, .inl (nf sn)))] (fun (u : Unit) => True) (fun (u : Unit) => [(f, .inr (2, [.int (nI 0), .ref a1, .ref a2, .ref a3, .ref a4, .ref a5, .ref a6])), (a6, .inl (cI, M, .inl (nf (cpz (fun _ => 0) sn M))))]) := by
  refine StdV.mk (cc := b_S_forget) (maxL := 1) (by decide) rfl (Nat.le_of_ble_eq_true rfl) ?_
  intro p e s m below meth c A Z ls hx hb hml hown hts hin hP hK hD hA hS hret hl
  have hown : s.vm.findClass R_S = some m.cls := hown
  have hw : ∀ x ∈ WALL, x.before _ s = true := fun x h => hts x (List.mem_cons_of_mem _ h)
  have hl : lv_has ls 1 [(0, .ref f)] := hl
  refine lv_aload_n hx hb d_S_forget_0 rfl (lv_at hl 0 rfl) ?_
  refine lv_iconst (v := nI 0) hx hb d_S_forget_1 (by decide) ?_
  refine va_put (D := (dC, dI)) (ci := 2) (v := .int (nI 0)) (ty := .int) (C := R_S) (T := T_S) (N := 7) hx hb hw in_S ty_S tyok_S nn_S hown hK hP hD hS 0 rfl rfl 0 (by decide) (hw _ m_54) (fun _ h9 => h9) rfl (by decide +kernel) rfl rfl (Nat.le_of_ble_eq_true rfl) d_S_forget_2 (fun H locs hP hD hS => ?_)
  have hP : va_P (dC, dI) classes [(f, .inr (2, [.int (nI 0), .ref a1, .ref a2, .ref a3, .ref a4, .ref a5, .ref a6])), (a6, .inl (cI, M, .inl (nf sn)))] H := hP
  have hD : va_D A [(f, .inr (2, [.int (nI 0), .ref a1, .ref a2, .ref a3, .ref a4, .ref a5, .ref a6])), (a6, .inl (cI, M, .inl (nf sn)))] := hD
  refine lv_aload_n hx hb d_S_forget_5 rfl (lv_at hl 0 rfl) ?_
  refine va_get (D := (dC, dI)) (ci := 2) (v := .ref a6) (C := R_S) (T := T_S) (N := 7) hx hb hw in_S hown hK hP 0 rfl rfl 6 (by decide) (hw _ m_65) (fun _ h9 => h9) rfl d_S_forget_6 ?_
  refine lv_iconst (v := nI 0) hx hb d_S_forget_9 (by decide) ?_
  refine StdV.callS (wr := [(f, .inr (2, [.int (nI 0), .ref a1, .ref a2, .ref a3, .ref a4, .ref a5, .ref a6]))]) (c_fill0 l dC dI cI cL cB a6 M 0 sn (by omega)) ⟨hx, hb, hml, hown, hw⟩ (fz_cwS 2 hw m_350 m_348 m_349 m_6 rfl rfl (by decide +kernel) ⟨Nat.le_of_ble_eq_true rfl, Nat.le_of_ble_eq_true rfl⟩) hK hP hD hS hA [1] [0] rfl rfl (by decide) (by decide) (by decide) rfl hl.1 rfl (Nat.le_of_ble_eq_true rfl) d_S_forget_10 ⟨(Nat.le_of_ble_eq_true rfl), (Nat.le_of_ble_eq_true rfl)⟩ (fun u10 H locs h10 hP hD hS => ?_)
  try dsimp only at h10
  have hP : va_P (dC, dI) classes [(f, .inr (2, [.int (nI 0), .ref a1, .ref a2, .ref a3, .ref a4, .ref a5, .ref a6])), (a6, .inl (cI, M, .inl (nf (cpz (fun _ => 0) sn M))))] H := hP
  have hD : va_D A [(f, .inr (2, [.int (nI 0), .ref a1, .ref a2, .ref a3, .ref a4, .ref a5, .ref a6])), (a6, .inl (cI, M, .inl (nf (cpz (fun _ => 0) sn M))))] := hD
  exact hret () _ _ 13 ls trivial hP hD hS d_S_forget_13
end
section
set_option maxHeartbeats 4000000 in
set_option maxRecDepth 100000 in
/-- FieldStore.grow -/
theorem c_Sgrow (l : Launch) (dC : Nat → ClassId) (dI : Nat → Nat → Nat) (cI cL cB : ClassId) (f : Nat) (a1 : Nat) (a2 : Nat) (a3 : Nat) (a4 : Nat) (a5 : Nat) (a6 : Nat) (n : Nat) (g : Nat) (ow : Nat → Nat) (ky : Nat → Int64) (kd : Nat → Nat) (nu : Nat → Int64) (fo : Nat → Nat) (sn : Nat → Nat) (hg : g < 5) (hn : n < hz_L g) (hU : hz_U n ow ky) (hO : ∀ i, i ≤ n → ow i < 2 ^ 20) (hk : ∀ i, kd i < 128) : StdV l y_S_grow (wd y_S_grow b_S_grow 3 none) 2 51 6 (5 * hz_L (g + 1) + hz_M (g + 1)) (dC, dI) classes (tyK cI cL cB) [.ref f] [(f, .inr (2, [.int (nI n), .ref a1, .ref a2, .ref a3, .ref a4, .ref a5, .ref a6])), (a1, .inl (cI, hz_L g, .inl (nf ow))), (a2, .inl (cL, hz_L g, .inr (.inl ky))), (a3, .inl (cB, hz_L g, .inl (nf kd))), (a4, .inl (cL, hz_L g, .inr (.inl nu))), (a5, .inl (cI, hz_L g, .inl (nf fo))), (a6, .inl (cI, hz_M g, .inl (nf sn)))] (fun (u : Nat × Nat × Nat × Nat × Nat × Nat × (Nat → Nat) × (Nat → Int64) × (Nat → Nat) × (Nat → Int64) × (Nat → Nat) × (Nat → Nat)) => (∀ i, i < hz_L g → u.2.2.2.2.2.2.1 i = ow i ∧ u.2.2.2.2.2.2.2.1 i = ky i ∧ u.2.2.2.2.2.2.2.2.1 i = kd i ∧ u.2.2.2.2.2.2.2.2.2.1 i = nu i ∧ u.2.2.2.2.2.2.2.2.2.2.1 i = fo i) ∧ (∀ i, u.2.2.2.2.2.2.2.2.1 i < 128) ∧ hz_T (hz_M (g + 1)) n (fun i => hz_h (hz_M (g + 1)) (u.2.2.2.2.2.2.1 i) (u.2.2.2.2.2.2.2.1 i)) u.2.2.2.2.2.2.2.2.2.2.2) (fun (u : Nat × Nat × Nat × Nat × Nat × Nat × (Nat → Nat) × (Nat → Int64) × (Nat → Nat) × (Nat → Int64) × (Nat → Nat) × (Nat → Nat)) => [(f, .inr (2, [.int (nI n), .ref u.1, .ref u.2.1, .ref u.2.2.1, .ref u.2.2.2.1, .ref u.2.2.2.2.1, .ref u.2.2.2.2.2.1])), (u.1, .inl (cI, hz_L (g + 1), .inl (nf u.2.2.2.2.2.2.1))), (u.2.1, .inl (cL, hz_L (g + 1), .inr (.inl u.2.2.2.2.2.2.2.1))), (u.2.2.1, .inl (cB, hz_L (g + 1), .inl (nf u.2.2.2.2.2.2.2.2.1))), (u.2.2.2.1, .inl (cL, hz_L (g + 1), .inr (.inl u.2.2.2.2.2.2.2.2.2.1))), (u.2.2.2.2.1, .inl (cI, hz_L (g + 1), .inl (nf u.2.2.2.2.2.2.2.2.2.2.1))), (u.2.2.2.2.2.1, .inl (cI, hz_M (g + 1), .inl (nf u.2.2.2.2.2.2.2.2.2.2.2)))]) := by
  have hg1 := hz_gen g (by omega)
  have hg2 := hz_gen (g + 1) (by omega)
  obtain ⟨hg3, hg4, hg5⟩ := hz_grow g hg
  refine StdV.mk (cc := b_S_grow) (maxL := 3) (by decide) rfl (Nat.le_of_ble_eq_true rfl) ?_
  intro p e s m below meth c A Z ls hx hb hml hown hts hin hP hK hD hA hS hret hl
  have hown : s.vm.findClass R_S = some m.cls := hown
  have hw : ∀ x ∈ WALL, x.before _ s = true := fun x h => hts x (List.mem_cons_of_mem _ h)
  have hl : lv_has ls 3 [(0, .ref f)] := hl
  refine lv_aload_n hx hb d_S_grow_0 rfl (lv_at hl 0 rfl) ?_
  refine va_get (D := (dC, dI)) (ci := 2) (v := .ref a1) (C := R_S) (T := T_S) (N := 7) hx hb hw in_S hown hK hP 0 rfl rfl 1 (by decide) (hw _ m_56) (fun _ h9 => h9) rfl d_S_grow_1 ?_
  refine fz_alen hx hb hK hP 1 0 rfl rfl d_S_grow_4 ?_
  refine lv_iconst (v := nI 4) hx hb d_S_grow_5 (by decide) ?_
  refine lv_imul hx hb d_S_grow_6 ?_
  refine fz_eqi (y := nI ((hz_L g) * 4)) (pk_mul (hz_L g) 4) ?_
  refine lv_ldc (v := 40001) hx hb hown (hw _ m_173) d_S_grow_7 ?_
  refine fz_eqi (y := nI 40001) (by decide) ?_
  refine va_mmin hx hb (hml.trans hl.1.symm) hown (hw _ m_174) (hw _ m_109) (hw _ m_5) (hw _ m_110) (Nat.le_of_ble_eq_true rfl) (Nat.le_of_ble_eq_true rfl) (by (try dsimp only); omega) (by (try dsimp only); omega) d_S_grow_9 ?_
  refine fz_eqi (y := nI (hz_L (g + 1))) (fz_minN (by omega) (by omega) hg3) ?_
  refine lv_istore_n (lv' := [(1, .int (nI (hz_L (g + 1)))), (0, .ref f)]) hx hb d_S_grow_12 rfl hl (by decide) rfl (fun ls hl => ?_)
  refine lv_aload_n hx hb d_S_grow_13 rfl (lv_at hl 1 rfl) ?_
  refine lv_aload_n hx hb d_S_grow_14 rfl (lv_at hl 1 rfl) ?_
  refine va_get (D := (dC, dI)) (ci := 2) (v := .ref a1) (C := R_S) (T := T_S) (N := 7) hx hb hw in_S hown hK hP 0 rfl rfl 1 (by decide) (hw _ m_56) (fun _ h9 => h9) rfl d_S_grow_15 ?_
  refine lv_iload_n hx hb d_S_grow_18 rfl (lv_at hl 0 rfl) ?_
  refine StdR.callS (wr := [(f, .inr (2, [.int (nI n), .ref a1, .ref a2, .ref a3, .ref a4, .ref a5, .ref a6])), (a2, .inl (cL, hz_L g, .inr (.inl ky))), (a3, .inl (cB, hz_L g, .inl (nf kd))), (a4, .inl (cL, hz_L g, .inr (.inl nu))), (a5, .inl (cI, hz_L g, .inl (nf fo))), (a6, .inl (cI, hz_M g, .inl (nf sn)))]) (c_copyOf_i l dC dI cI cL cB a1 (hz_L g) (hz_L (g + 1)) ow (by omega) (by omega)) ⟨hx, hb, hml, hown, hw⟩ (fz_cwS 2 hw m_113 m_175 m_112 m_6 rfl rfl (by decide +kernel) ⟨Nat.le_of_ble_eq_true rfl, Nat.le_of_ble_eq_true rfl⟩) hK hP hD hS hA [1] [0, 2, 3, 4, 5, 6] rfl rfl (by decide) (by decide) (by decide) rfl hl.1 rfl (Nat.le_of_ble_eq_true rfl) d_S_grow_19 ⟨(by (try dsimp only); omega), (by (try dsimp only); omega)⟩ (fun r19 u19 H locs h19 hP hD hS => ?_)
  try dsimp only at h19
  have hP : va_P (dC, dI) classes [(f, .inr (2, [.int (nI n), .ref a1, .ref a2, .ref a3, .ref a4, .ref a5, .ref a6])), (a2, .inl (cL, hz_L g, .inr (.inl ky))), (a3, .inl (cB, hz_L g, .inl (nf kd))), (a4, .inl (cL, hz_L g, .inr (.inl nu))), (a5, .inl (cI, hz_L g, .inl (nf fo))), (a6, .inl (cI, hz_M g, .inl (nf sn))), (a1, .inl (cI, (hz_L g), .inl (nf ow))), (r19, .inl (cI, (hz_L (g + 1)), .inl (nf (cpz ow (fun _ => 0) (hz_L g)))))] H := hP
  have hD : va_D A [(f, .inr (2, [.int (nI n), .ref a1, .ref a2, .ref a3, .ref a4, .ref a5, .ref a6])), (a2, .inl (cL, hz_L g, .inr (.inl ky))), (a3, .inl (cB, hz_L g, .inl (nf kd))), (a4, .inl (cL, hz_L g, .inr (.inl nu))), (a5, .inl (cI, hz_L g, .inl (nf fo))), (a6, .inl (cI, hz_M g, .inl (nf sn))), (a1, .inl (cI, (hz_L g), .inl (nf ow))), (r19, .inl (cI, (hz_L (g + 1)), .inl (nf (cpz ow (fun _ => 0) (hz_L g)))))] := hD
  refine W.widen (k := 1) (n := (hz_L (g + 1))) (by omega) (by omega) ?_
  obtain ⟨ow2, eow2⟩ : ∃ z, z = cpz ow (fun _ => 0) (hz_L g) := ⟨_, rfl⟩
  rw [← eow2] at hP hD
  have hP : va_P (dC, dI) classes [(f, .inr (2, [.int (nI n), .ref a1, .ref a2, .ref a3, .ref a4, .ref a5, .ref a6])), (a2, .inl (cL, hz_L g, .inr (.inl ky))), (a3, .inl (cB, hz_L g, .inl (nf kd))), (a4, .inl (cL, hz_L g, .inr (.inl nu))), (a5, .inl (cI, hz_L g, .inl (nf fo))), (a6, .inl (cI, hz_M g, .inl (nf sn))), (a1, .inl (cI, (hz_L g), .inl (nf ow))), (r19, .inl (cI, (hz_L (g + 1)), .inl (nf ow2)))] H := hP
  have hD : va_D A [(f, .inr (2, [.int (nI n), .ref a1, .ref a2, .ref a3, .ref a4, .ref a5, .ref a6])), (a2, .inl (cL, hz_L g, .inr (.inl ky))), (a3, .inl (cB, hz_L g, .inl (nf kd))), (a4, .inl (cL, hz_L g, .inr (.inl nu))), (a5, .inl (cI, hz_L g, .inl (nf fo))), (a6, .inl (cI, hz_M g, .inl (nf sn))), (a1, .inl (cI, (hz_L g), .inl (nf ow))), (r19, .inl (cI, (hz_L (g + 1)), .inl (nf ow2)))] := hD
  refine va_put (D := (dC, dI)) (ci := 2) (v := .ref r19) (ty := .array .int) (C := R_S) (T := T_S) (N := 7) hx hb hw in_S ty_S tyok_S nn_S hown hK hP hD hS 0 rfl rfl 1 (by decide) (hw _ m_56) (fun _ h9 => h9) rfl (by decide +kernel) rfl rfl (Nat.le_of_ble_eq_true rfl) d_S_grow_22 (fun H locs hP hD hS => ?_)
  have hP : va_P (dC, dI) classes [(f, .inr (2, [.int (nI n), .ref r19, .ref a2, .ref a3, .ref a4, .ref a5, .ref a6])), (a2, .inl (cL, hz_L g, .inr (.inl ky))), (a3, .inl (cB, hz_L g, .inl (nf kd))), (a4, .inl (cL, hz_L g, .inr (.inl nu))), (a5, .inl (cI, hz_L g, .inl (nf fo))), (a6, .inl (cI, hz_M g, .inl (nf sn))), (a1, .inl (cI, (hz_L g), .inl (nf ow))), (r19, .inl (cI, (hz_L (g + 1)), .inl (nf ow2)))] H := hP
  have hD : va_D A [(f, .inr (2, [.int (nI n), .ref r19, .ref a2, .ref a3, .ref a4, .ref a5, .ref a6])), (a2, .inl (cL, hz_L g, .inr (.inl ky))), (a3, .inl (cB, hz_L g, .inl (nf kd))), (a4, .inl (cL, hz_L g, .inr (.inl nu))), (a5, .inl (cI, hz_L g, .inl (nf fo))), (a6, .inl (cI, hz_M g, .inl (nf sn))), (a1, .inl (cI, (hz_L g), .inl (nf ow))), (r19, .inl (cI, (hz_L (g + 1)), .inl (nf ow2)))] := hD
  refine lv_aload_n hx hb d_S_grow_25 rfl (lv_at hl 1 rfl) ?_
  refine lv_aload_n hx hb d_S_grow_26 rfl (lv_at hl 1 rfl) ?_
  refine va_get (D := (dC, dI)) (ci := 2) (v := .ref a2) (C := R_S) (T := T_S) (N := 7) hx hb hw in_S hown hK hP 0 rfl rfl 2 (by decide) (hw _ m_57) (fun _ h9 => h9) rfl d_S_grow_27 ?_
  refine lv_iload_n hx hb d_S_grow_30 rfl (lv_at hl 0 rfl) ?_
  refine StdR.callS (wr := [(f, .inr (2, [.int (nI n), .ref r19, .ref a2, .ref a3, .ref a4, .ref a5, .ref a6])), (a3, .inl (cB, hz_L g, .inl (nf kd))), (a4, .inl (cL, hz_L g, .inr (.inl nu))), (a5, .inl (cI, hz_L g, .inl (nf fo))), (a6, .inl (cI, hz_M g, .inl (nf sn))), (a1, .inl (cI, (hz_L g), .inl (nf ow))), (r19, .inl (cI, (hz_L (g + 1)), .inl (nf ow2)))]) (c_copyOf_l l dC dI cI cL cB a2 (hz_L g) (hz_L (g + 1)) ky (by omega) (by omega)) ⟨hx, hb, hml, hown, hw⟩ (fz_cwS 2 hw m_178 m_176 m_177 m_6 rfl rfl (by decide +kernel) ⟨Nat.le_of_ble_eq_true rfl, Nat.le_of_ble_eq_true rfl⟩) hK hP hD hS hA [1] [0, 2, 3, 4, 5, 6, 7] rfl rfl (by decide) (by decide) (by decide) rfl hl.1 rfl (Nat.le_of_ble_eq_true rfl) d_S_grow_31 ⟨(by (try dsimp only); omega), (by (try dsimp only); omega)⟩ (fun r31 u31 H locs h31 hP hD hS => ?_)
  try dsimp only at h31
  have hP : va_P (dC, dI) classes [(f, .inr (2, [.int (nI n), .ref r19, .ref a2, .ref a3, .ref a4, .ref a5, .ref a6])), (a3, .inl (cB, hz_L g, .inl (nf kd))), (a4, .inl (cL, hz_L g, .inr (.inl nu))), (a5, .inl (cI, hz_L g, .inl (nf fo))), (a6, .inl (cI, hz_M g, .inl (nf sn))), (a1, .inl (cI, (hz_L g), .inl (nf ow))), (r19, .inl (cI, (hz_L (g + 1)), .inl (nf ow2))), (a2, .inl (cL, (hz_L g), .inr (.inl ky))), (r31, .inl (cL, (hz_L (g + 1)), .inr (.inl (cpz ky (fun _ => 0) (hz_L g)))))] H := hP
  have hD : va_D A [(f, .inr (2, [.int (nI n), .ref r19, .ref a2, .ref a3, .ref a4, .ref a5, .ref a6])), (a3, .inl (cB, hz_L g, .inl (nf kd))), (a4, .inl (cL, hz_L g, .inr (.inl nu))), (a5, .inl (cI, hz_L g, .inl (nf fo))), (a6, .inl (cI, hz_M g, .inl (nf sn))), (a1, .inl (cI, (hz_L g), .inl (nf ow))), (r19, .inl (cI, (hz_L (g + 1)), .inl (nf ow2))), (a2, .inl (cL, (hz_L g), .inr (.inl ky))), (r31, .inl (cL, (hz_L (g + 1)), .inr (.inl (cpz ky (fun _ => 0) (hz_L g)))))] := hD
  refine W.widen (k := 2) (n := (hz_L (g + 1)) + (hz_L (g + 1))) (by omega) (by omega) ?_
  obtain ⟨ky2, eky2⟩ : ∃ z, z = cpz ky (fun _ => 0) (hz_L g) := ⟨_, rfl⟩
  rw [← eky2] at hP hD
  have hP : va_P (dC, dI) classes [(f, .inr (2, [.int (nI n), .ref r19, .ref a2, .ref a3, .ref a4, .ref a5, .ref a6])), (a3, .inl (cB, hz_L g, .inl (nf kd))), (a4, .inl (cL, hz_L g, .inr (.inl nu))), (a5, .inl (cI, hz_L g, .inl (nf fo))), (a6, .inl (cI, hz_M g, .inl (nf sn))), (a1, .inl (cI, (hz_L g), .inl (nf ow))), (r19, .inl (cI, (hz_L (g + 1)), .inl (nf ow2))), (a2, .inl (cL, (hz_L g), .inr (.inl ky))), (r31, .inl (cL, (hz_L (g + 1)), .inr (.inl ky2)))] H := hP
  have hD : va_D A [(f, .inr (2, [.int (nI n), .ref r19, .ref a2, .ref a3, .ref a4, .ref a5, .ref a6])), (a3, .inl (cB, hz_L g, .inl (nf kd))), (a4, .inl (cL, hz_L g, .inr (.inl nu))), (a5, .inl (cI, hz_L g, .inl (nf fo))), (a6, .inl (cI, hz_M g, .inl (nf sn))), (a1, .inl (cI, (hz_L g), .inl (nf ow))), (r19, .inl (cI, (hz_L (g + 1)), .inl (nf ow2))), (a2, .inl (cL, (hz_L g), .inr (.inl ky))), (r31, .inl (cL, (hz_L (g + 1)), .inr (.inl ky2)))] := hD
  refine va_put (D := (dC, dI)) (ci := 2) (v := .ref r31) (ty := .array .long) (C := R_S) (T := T_S) (N := 7) hx hb hw in_S ty_S tyok_S nn_S hown hK hP hD hS 0 rfl rfl 2 (by decide) (hw _ m_57) (fun _ h9 => h9) rfl (by decide +kernel) rfl rfl (Nat.le_of_ble_eq_true rfl) d_S_grow_34 (fun H locs hP hD hS => ?_)
  have hP : va_P (dC, dI) classes [(f, .inr (2, [.int (nI n), .ref r19, .ref r31, .ref a3, .ref a4, .ref a5, .ref a6])), (a3, .inl (cB, hz_L g, .inl (nf kd))), (a4, .inl (cL, hz_L g, .inr (.inl nu))), (a5, .inl (cI, hz_L g, .inl (nf fo))), (a6, .inl (cI, hz_M g, .inl (nf sn))), (a1, .inl (cI, (hz_L g), .inl (nf ow))), (r19, .inl (cI, (hz_L (g + 1)), .inl (nf ow2))), (a2, .inl (cL, (hz_L g), .inr (.inl ky))), (r31, .inl (cL, (hz_L (g + 1)), .inr (.inl ky2)))] H := hP
  have hD : va_D A [(f, .inr (2, [.int (nI n), .ref r19, .ref r31, .ref a3, .ref a4, .ref a5, .ref a6])), (a3, .inl (cB, hz_L g, .inl (nf kd))), (a4, .inl (cL, hz_L g, .inr (.inl nu))), (a5, .inl (cI, hz_L g, .inl (nf fo))), (a6, .inl (cI, hz_M g, .inl (nf sn))), (a1, .inl (cI, (hz_L g), .inl (nf ow))), (r19, .inl (cI, (hz_L (g + 1)), .inl (nf ow2))), (a2, .inl (cL, (hz_L g), .inr (.inl ky))), (r31, .inl (cL, (hz_L (g + 1)), .inr (.inl ky2)))] := hD
  refine lv_aload_n hx hb d_S_grow_37 rfl (lv_at hl 1 rfl) ?_
  refine lv_aload_n hx hb d_S_grow_38 rfl (lv_at hl 1 rfl) ?_
  refine va_get (D := (dC, dI)) (ci := 2) (v := .ref a3) (C := R_S) (T := T_S) (N := 7) hx hb hw in_S hown hK hP 0 rfl rfl 3 (by decide) (hw _ m_59) (fun _ h9 => h9) rfl d_S_grow_39 ?_
  refine lv_iload_n hx hb d_S_grow_42 rfl (lv_at hl 0 rfl) ?_
  refine StdR.callS (wr := [(f, .inr (2, [.int (nI n), .ref r19, .ref r31, .ref a3, .ref a4, .ref a5, .ref a6])), (a4, .inl (cL, hz_L g, .inr (.inl nu))), (a5, .inl (cI, hz_L g, .inl (nf fo))), (a6, .inl (cI, hz_M g, .inl (nf sn))), (a1, .inl (cI, (hz_L g), .inl (nf ow))), (r19, .inl (cI, (hz_L (g + 1)), .inl (nf ow2))), (a2, .inl (cL, (hz_L g), .inr (.inl ky))), (r31, .inl (cL, (hz_L (g + 1)), .inr (.inl ky2)))]) (c_copyOf_b l dC dI cI cL cB a3 (hz_L g) (hz_L (g + 1)) kd (by omega) (by omega) hk) ⟨hx, hb, hml, hown, hw⟩ (fz_cwS 2 hw m_186 m_184 m_185 m_6 rfl rfl (by decide +kernel) ⟨Nat.le_of_ble_eq_true rfl, Nat.le_of_ble_eq_true rfl⟩) hK hP hD hS hA [1] [0, 2, 3, 4, 5, 6, 7, 8] rfl rfl (by decide) (by decide) (by decide) rfl hl.1 rfl (Nat.le_of_ble_eq_true rfl) d_S_grow_43 ⟨(by (try dsimp only); omega), (by (try dsimp only); omega)⟩ (fun r43 u43 H locs h43 hP hD hS => ?_)
  try dsimp only at h43
  have hP : va_P (dC, dI) classes [(f, .inr (2, [.int (nI n), .ref r19, .ref r31, .ref a3, .ref a4, .ref a5, .ref a6])), (a4, .inl (cL, hz_L g, .inr (.inl nu))), (a5, .inl (cI, hz_L g, .inl (nf fo))), (a6, .inl (cI, hz_M g, .inl (nf sn))), (a1, .inl (cI, (hz_L g), .inl (nf ow))), (r19, .inl (cI, (hz_L (g + 1)), .inl (nf ow2))), (a2, .inl (cL, (hz_L g), .inr (.inl ky))), (r31, .inl (cL, (hz_L (g + 1)), .inr (.inl ky2))), (a3, .inl (cB, (hz_L g), .inl (nf kd))), (r43, .inl (cB, (hz_L (g + 1)), .inl (nf (cpz kd (fun _ => 0) (hz_L g)))))] H := hP
  have hD : va_D A [(f, .inr (2, [.int (nI n), .ref r19, .ref r31, .ref a3, .ref a4, .ref a5, .ref a6])), (a4, .inl (cL, hz_L g, .inr (.inl nu))), (a5, .inl (cI, hz_L g, .inl (nf fo))), (a6, .inl (cI, hz_M g, .inl (nf sn))), (a1, .inl (cI, (hz_L g), .inl (nf ow))), (r19, .inl (cI, (hz_L (g + 1)), .inl (nf ow2))), (a2, .inl (cL, (hz_L g), .inr (.inl ky))), (r31, .inl (cL, (hz_L (g + 1)), .inr (.inl ky2))), (a3, .inl (cB, (hz_L g), .inl (nf kd))), (r43, .inl (cB, (hz_L (g + 1)), .inl (nf (cpz kd (fun _ => 0) (hz_L g)))))] := hD
  refine W.widen (k := 3) (n := ((hz_L (g + 1)) + (hz_L (g + 1))) + (hz_L (g + 1))) (by omega) (by omega) ?_
  obtain ⟨kd2, ekd2⟩ : ∃ z, z = cpz kd (fun _ => 0) (hz_L g) := ⟨_, rfl⟩
  rw [← ekd2] at hP hD
  have hP : va_P (dC, dI) classes [(f, .inr (2, [.int (nI n), .ref r19, .ref r31, .ref a3, .ref a4, .ref a5, .ref a6])), (a4, .inl (cL, hz_L g, .inr (.inl nu))), (a5, .inl (cI, hz_L g, .inl (nf fo))), (a6, .inl (cI, hz_M g, .inl (nf sn))), (a1, .inl (cI, (hz_L g), .inl (nf ow))), (r19, .inl (cI, (hz_L (g + 1)), .inl (nf ow2))), (a2, .inl (cL, (hz_L g), .inr (.inl ky))), (r31, .inl (cL, (hz_L (g + 1)), .inr (.inl ky2))), (a3, .inl (cB, (hz_L g), .inl (nf kd))), (r43, .inl (cB, (hz_L (g + 1)), .inl (nf kd2)))] H := hP
  have hD : va_D A [(f, .inr (2, [.int (nI n), .ref r19, .ref r31, .ref a3, .ref a4, .ref a5, .ref a6])), (a4, .inl (cL, hz_L g, .inr (.inl nu))), (a5, .inl (cI, hz_L g, .inl (nf fo))), (a6, .inl (cI, hz_M g, .inl (nf sn))), (a1, .inl (cI, (hz_L g), .inl (nf ow))), (r19, .inl (cI, (hz_L (g + 1)), .inl (nf ow2))), (a2, .inl (cL, (hz_L g), .inr (.inl ky))), (r31, .inl (cL, (hz_L (g + 1)), .inr (.inl ky2))), (a3, .inl (cB, (hz_L g), .inl (nf kd))), (r43, .inl (cB, (hz_L (g + 1)), .inl (nf kd2)))] := hD
  refine va_put (D := (dC, dI)) (ci := 2) (v := .ref r43) (ty := .array .byte) (C := R_S) (T := T_S) (N := 7) hx hb hw in_S ty_S tyok_S nn_S hown hK hP hD hS 0 rfl rfl 3 (by decide) (hw _ m_59) (fun _ h9 => h9) rfl (by decide +kernel) rfl rfl (Nat.le_of_ble_eq_true rfl) d_S_grow_46 (fun H locs hP hD hS => ?_)
  have hP : va_P (dC, dI) classes [(f, .inr (2, [.int (nI n), .ref r19, .ref r31, .ref r43, .ref a4, .ref a5, .ref a6])), (a4, .inl (cL, hz_L g, .inr (.inl nu))), (a5, .inl (cI, hz_L g, .inl (nf fo))), (a6, .inl (cI, hz_M g, .inl (nf sn))), (a1, .inl (cI, (hz_L g), .inl (nf ow))), (r19, .inl (cI, (hz_L (g + 1)), .inl (nf ow2))), (a2, .inl (cL, (hz_L g), .inr (.inl ky))), (r31, .inl (cL, (hz_L (g + 1)), .inr (.inl ky2))), (a3, .inl (cB, (hz_L g), .inl (nf kd))), (r43, .inl (cB, (hz_L (g + 1)), .inl (nf kd2)))] H := hP
  have hD : va_D A [(f, .inr (2, [.int (nI n), .ref r19, .ref r31, .ref r43, .ref a4, .ref a5, .ref a6])), (a4, .inl (cL, hz_L g, .inr (.inl nu))), (a5, .inl (cI, hz_L g, .inl (nf fo))), (a6, .inl (cI, hz_M g, .inl (nf sn))), (a1, .inl (cI, (hz_L g), .inl (nf ow))), (r19, .inl (cI, (hz_L (g + 1)), .inl (nf ow2))), (a2, .inl (cL, (hz_L g), .inr (.inl ky))), (r31, .inl (cL, (hz_L (g + 1)), .inr (.inl ky2))), (a3, .inl (cB, (hz_L g), .inl (nf kd))), (r43, .inl (cB, (hz_L (g + 1)), .inl (nf kd2)))] := hD
  refine lv_aload_n hx hb d_S_grow_49 rfl (lv_at hl 1 rfl) ?_
  refine lv_aload_n hx hb d_S_grow_50 rfl (lv_at hl 1 rfl) ?_
  refine va_get (D := (dC, dI)) (ci := 2) (v := .ref a4) (C := R_S) (T := T_S) (N := 7) hx hb hw in_S hown hK hP 0 rfl rfl 4 (by decide) (hw _ m_61) (fun _ h9 => h9) rfl d_S_grow_51 ?_
  refine lv_iload_n hx hb d_S_grow_54 rfl (lv_at hl 0 rfl) ?_
  refine StdR.callS (wr := [(f, .inr (2, [.int (nI n), .ref r19, .ref r31, .ref r43, .ref a4, .ref a5, .ref a6])), (a5, .inl (cI, hz_L g, .inl (nf fo))), (a6, .inl (cI, hz_M g, .inl (nf sn))), (a1, .inl (cI, (hz_L g), .inl (nf ow))), (r19, .inl (cI, (hz_L (g + 1)), .inl (nf ow2))), (a2, .inl (cL, (hz_L g), .inr (.inl ky))), (r31, .inl (cL, (hz_L (g + 1)), .inr (.inl ky2))), (a3, .inl (cB, (hz_L g), .inl (nf kd))), (r43, .inl (cB, (hz_L (g + 1)), .inl (nf kd2)))]) (c_copyOf_l l dC dI cI cL cB a4 (hz_L g) (hz_L (g + 1)) nu (by omega) (by omega)) ⟨hx, hb, hml, hown, hw⟩ (fz_cwS 2 hw m_178 m_176 m_177 m_6 rfl rfl (by decide +kernel) ⟨Nat.le_of_ble_eq_true rfl, Nat.le_of_ble_eq_true rfl⟩) hK hP hD hS hA [1] [0, 2, 3, 4, 5, 6, 7, 8, 9] rfl rfl (by decide) (by decide) (by decide) rfl hl.1 rfl (Nat.le_of_ble_eq_true rfl) d_S_grow_55 ⟨(by (try dsimp only); omega), (by (try dsimp only); omega)⟩ (fun r55 u55 H locs h55 hP hD hS => ?_)
  try dsimp only at h55
  have hP : va_P (dC, dI) classes [(f, .inr (2, [.int (nI n), .ref r19, .ref r31, .ref r43, .ref a4, .ref a5, .ref a6])), (a5, .inl (cI, hz_L g, .inl (nf fo))), (a6, .inl (cI, hz_M g, .inl (nf sn))), (a1, .inl (cI, (hz_L g), .inl (nf ow))), (r19, .inl (cI, (hz_L (g + 1)), .inl (nf ow2))), (a2, .inl (cL, (hz_L g), .inr (.inl ky))), (r31, .inl (cL, (hz_L (g + 1)), .inr (.inl ky2))), (a3, .inl (cB, (hz_L g), .inl (nf kd))), (r43, .inl (cB, (hz_L (g + 1)), .inl (nf kd2))), (a4, .inl (cL, (hz_L g), .inr (.inl nu))), (r55, .inl (cL, (hz_L (g + 1)), .inr (.inl (cpz nu (fun _ => 0) (hz_L g)))))] H := hP
  have hD : va_D A [(f, .inr (2, [.int (nI n), .ref r19, .ref r31, .ref r43, .ref a4, .ref a5, .ref a6])), (a5, .inl (cI, hz_L g, .inl (nf fo))), (a6, .inl (cI, hz_M g, .inl (nf sn))), (a1, .inl (cI, (hz_L g), .inl (nf ow))), (r19, .inl (cI, (hz_L (g + 1)), .inl (nf ow2))), (a2, .inl (cL, (hz_L g), .inr (.inl ky))), (r31, .inl (cL, (hz_L (g + 1)), .inr (.inl ky2))), (a3, .inl (cB, (hz_L g), .inl (nf kd))), (r43, .inl (cB, (hz_L (g + 1)), .inl (nf kd2))), (a4, .inl (cL, (hz_L g), .inr (.inl nu))), (r55, .inl (cL, (hz_L (g + 1)), .inr (.inl (cpz nu (fun _ => 0) (hz_L g)))))] := hD
  refine W.widen (k := 4) (n := (((hz_L (g + 1)) + (hz_L (g + 1))) + (hz_L (g + 1))) + (hz_L (g + 1))) (by omega) (by omega) ?_
  obtain ⟨nu2, enu2⟩ : ∃ z, z = cpz nu (fun _ => 0) (hz_L g) := ⟨_, rfl⟩
  rw [← enu2] at hP hD
  have hP : va_P (dC, dI) classes [(f, .inr (2, [.int (nI n), .ref r19, .ref r31, .ref r43, .ref a4, .ref a5, .ref a6])), (a5, .inl (cI, hz_L g, .inl (nf fo))), (a6, .inl (cI, hz_M g, .inl (nf sn))), (a1, .inl (cI, (hz_L g), .inl (nf ow))), (r19, .inl (cI, (hz_L (g + 1)), .inl (nf ow2))), (a2, .inl (cL, (hz_L g), .inr (.inl ky))), (r31, .inl (cL, (hz_L (g + 1)), .inr (.inl ky2))), (a3, .inl (cB, (hz_L g), .inl (nf kd))), (r43, .inl (cB, (hz_L (g + 1)), .inl (nf kd2))), (a4, .inl (cL, (hz_L g), .inr (.inl nu))), (r55, .inl (cL, (hz_L (g + 1)), .inr (.inl nu2)))] H := hP
  have hD : va_D A [(f, .inr (2, [.int (nI n), .ref r19, .ref r31, .ref r43, .ref a4, .ref a5, .ref a6])), (a5, .inl (cI, hz_L g, .inl (nf fo))), (a6, .inl (cI, hz_M g, .inl (nf sn))), (a1, .inl (cI, (hz_L g), .inl (nf ow))), (r19, .inl (cI, (hz_L (g + 1)), .inl (nf ow2))), (a2, .inl (cL, (hz_L g), .inr (.inl ky))), (r31, .inl (cL, (hz_L (g + 1)), .inr (.inl ky2))), (a3, .inl (cB, (hz_L g), .inl (nf kd))), (r43, .inl (cB, (hz_L (g + 1)), .inl (nf kd2))), (a4, .inl (cL, (hz_L g), .inr (.inl nu))), (r55, .inl (cL, (hz_L (g + 1)), .inr (.inl nu2)))] := hD
  refine va_put (D := (dC, dI)) (ci := 2) (v := .ref r55) (ty := .array .long) (C := R_S) (T := T_S) (N := 7) hx hb hw in_S ty_S tyok_S nn_S hown hK hP hD hS 0 rfl rfl 4 (by decide) (hw _ m_61) (fun _ h9 => h9) rfl (by decide +kernel) rfl rfl (Nat.le_of_ble_eq_true rfl) d_S_grow_58 (fun H locs hP hD hS => ?_)
  have hP : va_P (dC, dI) classes [(f, .inr (2, [.int (nI n), .ref r19, .ref r31, .ref r43, .ref r55, .ref a5, .ref a6])), (a5, .inl (cI, hz_L g, .inl (nf fo))), (a6, .inl (cI, hz_M g, .inl (nf sn))), (a1, .inl (cI, (hz_L g), .inl (nf ow))), (r19, .inl (cI, (hz_L (g + 1)), .inl (nf ow2))), (a2, .inl (cL, (hz_L g), .inr (.inl ky))), (r31, .inl (cL, (hz_L (g + 1)), .inr (.inl ky2))), (a3, .inl (cB, (hz_L g), .inl (nf kd))), (r43, .inl (cB, (hz_L (g + 1)), .inl (nf kd2))), (a4, .inl (cL, (hz_L g), .inr (.inl nu))), (r55, .inl (cL, (hz_L (g + 1)), .inr (.inl nu2)))] H := hP
  have hD : va_D A [(f, .inr (2, [.int (nI n), .ref r19, .ref r31, .ref r43, .ref r55, .ref a5, .ref a6])), (a5, .inl (cI, hz_L g, .inl (nf fo))), (a6, .inl (cI, hz_M g, .inl (nf sn))), (a1, .inl (cI, (hz_L g), .inl (nf ow))), (r19, .inl (cI, (hz_L (g + 1)), .inl (nf ow2))), (a2, .inl (cL, (hz_L g), .inr (.inl ky))), (r31, .inl (cL, (hz_L (g + 1)), .inr (.inl ky2))), (a3, .inl (cB, (hz_L g), .inl (nf kd))), (r43, .inl (cB, (hz_L (g + 1)), .inl (nf kd2))), (a4, .inl (cL, (hz_L g), .inr (.inl nu))), (r55, .inl (cL, (hz_L (g + 1)), .inr (.inl nu2)))] := hD
  refine lv_aload_n hx hb d_S_grow_61 rfl (lv_at hl 1 rfl) ?_
  refine lv_aload_n hx hb d_S_grow_62 rfl (lv_at hl 1 rfl) ?_
  refine va_get (D := (dC, dI)) (ci := 2) (v := .ref a5) (C := R_S) (T := T_S) (N := 7) hx hb hw in_S hown hK hP 0 rfl rfl 5 (by decide) (hw _ m_63) (fun _ h9 => h9) rfl d_S_grow_63 ?_
  refine lv_iload_n hx hb d_S_grow_66 rfl (lv_at hl 0 rfl) ?_
  refine StdR.callS (wr := [(f, .inr (2, [.int (nI n), .ref r19, .ref r31, .ref r43, .ref r55, .ref a5, .ref a6])), (a6, .inl (cI, hz_M g, .inl (nf sn))), (a1, .inl (cI, (hz_L g), .inl (nf ow))), (r19, .inl (cI, (hz_L (g + 1)), .inl (nf ow2))), (a2, .inl (cL, (hz_L g), .inr (.inl ky))), (r31, .inl (cL, (hz_L (g + 1)), .inr (.inl ky2))), (a3, .inl (cB, (hz_L g), .inl (nf kd))), (r43, .inl (cB, (hz_L (g + 1)), .inl (nf kd2))), (a4, .inl (cL, (hz_L g), .inr (.inl nu))), (r55, .inl (cL, (hz_L (g + 1)), .inr (.inl nu2)))]) (c_copyOf_i l dC dI cI cL cB a5 (hz_L g) (hz_L (g + 1)) fo (by omega) (by omega)) ⟨hx, hb, hml, hown, hw⟩ (fz_cwS 2 hw m_113 m_175 m_112 m_6 rfl rfl (by decide +kernel) ⟨Nat.le_of_ble_eq_true rfl, Nat.le_of_ble_eq_true rfl⟩) hK hP hD hS hA [1] [0, 2, 3, 4, 5, 6, 7, 8, 9, 10] rfl rfl (by decide) (by decide) (by decide) rfl hl.1 rfl (Nat.le_of_ble_eq_true rfl) d_S_grow_67 ⟨(by (try dsimp only); omega), (by (try dsimp only); omega)⟩ (fun r67 u67 H locs h67 hP hD hS => ?_)
  try dsimp only at h67
  have hP : va_P (dC, dI) classes [(f, .inr (2, [.int (nI n), .ref r19, .ref r31, .ref r43, .ref r55, .ref a5, .ref a6])), (a6, .inl (cI, hz_M g, .inl (nf sn))), (a1, .inl (cI, (hz_L g), .inl (nf ow))), (r19, .inl (cI, (hz_L (g + 1)), .inl (nf ow2))), (a2, .inl (cL, (hz_L g), .inr (.inl ky))), (r31, .inl (cL, (hz_L (g + 1)), .inr (.inl ky2))), (a3, .inl (cB, (hz_L g), .inl (nf kd))), (r43, .inl (cB, (hz_L (g + 1)), .inl (nf kd2))), (a4, .inl (cL, (hz_L g), .inr (.inl nu))), (r55, .inl (cL, (hz_L (g + 1)), .inr (.inl nu2))), (a5, .inl (cI, (hz_L g), .inl (nf fo))), (r67, .inl (cI, (hz_L (g + 1)), .inl (nf (cpz fo (fun _ => 0) (hz_L g)))))] H := hP
  have hD : va_D A [(f, .inr (2, [.int (nI n), .ref r19, .ref r31, .ref r43, .ref r55, .ref a5, .ref a6])), (a6, .inl (cI, hz_M g, .inl (nf sn))), (a1, .inl (cI, (hz_L g), .inl (nf ow))), (r19, .inl (cI, (hz_L (g + 1)), .inl (nf ow2))), (a2, .inl (cL, (hz_L g), .inr (.inl ky))), (r31, .inl (cL, (hz_L (g + 1)), .inr (.inl ky2))), (a3, .inl (cB, (hz_L g), .inl (nf kd))), (r43, .inl (cB, (hz_L (g + 1)), .inl (nf kd2))), (a4, .inl (cL, (hz_L g), .inr (.inl nu))), (r55, .inl (cL, (hz_L (g + 1)), .inr (.inl nu2))), (a5, .inl (cI, (hz_L g), .inl (nf fo))), (r67, .inl (cI, (hz_L (g + 1)), .inl (nf (cpz fo (fun _ => 0) (hz_L g)))))] := hD
  refine W.widen (k := 5) (n := ((((hz_L (g + 1)) + (hz_L (g + 1))) + (hz_L (g + 1))) + (hz_L (g + 1))) + (hz_L (g + 1))) (by omega) (by omega) ?_
  obtain ⟨fo2, efo2⟩ : ∃ z, z = cpz fo (fun _ => 0) (hz_L g) := ⟨_, rfl⟩
  rw [← efo2] at hP hD
  have hP : va_P (dC, dI) classes [(f, .inr (2, [.int (nI n), .ref r19, .ref r31, .ref r43, .ref r55, .ref a5, .ref a6])), (a6, .inl (cI, hz_M g, .inl (nf sn))), (a1, .inl (cI, (hz_L g), .inl (nf ow))), (r19, .inl (cI, (hz_L (g + 1)), .inl (nf ow2))), (a2, .inl (cL, (hz_L g), .inr (.inl ky))), (r31, .inl (cL, (hz_L (g + 1)), .inr (.inl ky2))), (a3, .inl (cB, (hz_L g), .inl (nf kd))), (r43, .inl (cB, (hz_L (g + 1)), .inl (nf kd2))), (a4, .inl (cL, (hz_L g), .inr (.inl nu))), (r55, .inl (cL, (hz_L (g + 1)), .inr (.inl nu2))), (a5, .inl (cI, (hz_L g), .inl (nf fo))), (r67, .inl (cI, (hz_L (g + 1)), .inl (nf fo2)))] H := hP
  have hD : va_D A [(f, .inr (2, [.int (nI n), .ref r19, .ref r31, .ref r43, .ref r55, .ref a5, .ref a6])), (a6, .inl (cI, hz_M g, .inl (nf sn))), (a1, .inl (cI, (hz_L g), .inl (nf ow))), (r19, .inl (cI, (hz_L (g + 1)), .inl (nf ow2))), (a2, .inl (cL, (hz_L g), .inr (.inl ky))), (r31, .inl (cL, (hz_L (g + 1)), .inr (.inl ky2))), (a3, .inl (cB, (hz_L g), .inl (nf kd))), (r43, .inl (cB, (hz_L (g + 1)), .inl (nf kd2))), (a4, .inl (cL, (hz_L g), .inr (.inl nu))), (r55, .inl (cL, (hz_L (g + 1)), .inr (.inl nu2))), (a5, .inl (cI, (hz_L g), .inl (nf fo))), (r67, .inl (cI, (hz_L (g + 1)), .inl (nf fo2)))] := hD
  refine va_put (D := (dC, dI)) (ci := 2) (v := .ref r67) (ty := .array .int) (C := R_S) (T := T_S) (N := 7) hx hb hw in_S ty_S tyok_S nn_S hown hK hP hD hS 0 rfl rfl 5 (by decide) (hw _ m_63) (fun _ h9 => h9) rfl (by decide +kernel) rfl rfl (Nat.le_of_ble_eq_true rfl) d_S_grow_70 (fun H locs hP hD hS => ?_)
  have hP : va_P (dC, dI) classes [(f, .inr (2, [.int (nI n), .ref r19, .ref r31, .ref r43, .ref r55, .ref r67, .ref a6])), (a6, .inl (cI, hz_M g, .inl (nf sn))), (a1, .inl (cI, (hz_L g), .inl (nf ow))), (r19, .inl (cI, (hz_L (g + 1)), .inl (nf ow2))), (a2, .inl (cL, (hz_L g), .inr (.inl ky))), (r31, .inl (cL, (hz_L (g + 1)), .inr (.inl ky2))), (a3, .inl (cB, (hz_L g), .inl (nf kd))), (r43, .inl (cB, (hz_L (g + 1)), .inl (nf kd2))), (a4, .inl (cL, (hz_L g), .inr (.inl nu))), (r55, .inl (cL, (hz_L (g + 1)), .inr (.inl nu2))), (a5, .inl (cI, (hz_L g), .inl (nf fo))), (r67, .inl (cI, (hz_L (g + 1)), .inl (nf fo2)))] H := hP
  have hD : va_D A [(f, .inr (2, [.int (nI n), .ref r19, .ref r31, .ref r43, .ref r55, .ref r67, .ref a6])), (a6, .inl (cI, hz_M g, .inl (nf sn))), (a1, .inl (cI, (hz_L g), .inl (nf ow))), (r19, .inl (cI, (hz_L (g + 1)), .inl (nf ow2))), (a2, .inl (cL, (hz_L g), .inr (.inl ky))), (r31, .inl (cL, (hz_L (g + 1)), .inr (.inl ky2))), (a3, .inl (cB, (hz_L g), .inl (nf kd))), (r43, .inl (cB, (hz_L (g + 1)), .inl (nf kd2))), (a4, .inl (cL, (hz_L g), .inr (.inl nu))), (r55, .inl (cL, (hz_L (g + 1)), .inr (.inl nu2))), (a5, .inl (cI, (hz_L g), .inl (nf fo))), (r67, .inl (cI, (hz_L (g + 1)), .inl (nf fo2)))] := hD
  refine lv_aload_n hx hb d_S_grow_73 rfl (lv_at hl 1 rfl) ?_
  refine lv_aload_n hx hb d_S_grow_74 rfl (lv_at hl 1 rfl) ?_
  refine va_get (D := (dC, dI)) (ci := 2) (v := .ref a6) (C := R_S) (T := T_S) (N := 7) hx hb hw in_S hown hK hP 0 rfl rfl 6 (by decide) (hw _ m_65) (fun _ h9 => h9) rfl d_S_grow_75 ?_
  refine fz_alen hx hb hK hP 1 0 rfl rfl d_S_grow_78 ?_
  refine lv_iconst (v := nI 4) hx hb d_S_grow_79 (by decide) ?_
  refine lv_imul hx hb d_S_grow_80 ?_
  refine fz_eqi (y := nI (hz_M (g + 1))) (by rw [pk_mul, hg4]) ?_
  refine fz_newi hx hb (hw _ m_47) hK 0 rfl hP hD hS hA (by omega) (by (try dsimp only); omega) (by (try dsimp only); omega) d_S_grow_81 (fun q_1 H hP hD hS => ?_)
  have hP : va_P (dC, dI) classes [(f, .inr (2, [.int (nI n), .ref r19, .ref r31, .ref r43, .ref r55, .ref r67, .ref a6])), (a6, .inl (cI, hz_M g, .inl (nf sn))), (a1, .inl (cI, (hz_L g), .inl (nf ow))), (r19, .inl (cI, (hz_L (g + 1)), .inl (nf ow2))), (a2, .inl (cL, (hz_L g), .inr (.inl ky))), (r31, .inl (cL, (hz_L (g + 1)), .inr (.inl ky2))), (a3, .inl (cB, (hz_L g), .inl (nf kd))), (r43, .inl (cB, (hz_L (g + 1)), .inl (nf kd2))), (a4, .inl (cL, (hz_L g), .inr (.inl nu))), (r55, .inl (cL, (hz_L (g + 1)), .inr (.inl nu2))), (a5, .inl (cI, (hz_L g), .inl (nf fo))), (r67, .inl (cI, (hz_L (g + 1)), .inl (nf fo2))), (q_1, .inl (cI, hz_M (g + 1), .inl (nf (fun _ => 0))))] H := hP
  have hD : va_D A [(f, .inr (2, [.int (nI n), .ref r19, .ref r31, .ref r43, .ref r55, .ref r67, .ref a6])), (a6, .inl (cI, hz_M g, .inl (nf sn))), (a1, .inl (cI, (hz_L g), .inl (nf ow))), (r19, .inl (cI, (hz_L (g + 1)), .inl (nf ow2))), (a2, .inl (cL, (hz_L g), .inr (.inl ky))), (r31, .inl (cL, (hz_L (g + 1)), .inr (.inl ky2))), (a3, .inl (cB, (hz_L g), .inl (nf kd))), (r43, .inl (cB, (hz_L (g + 1)), .inl (nf kd2))), (a4, .inl (cL, (hz_L g), .inr (.inl nu))), (r55, .inl (cL, (hz_L (g + 1)), .inr (.inl nu2))), (a5, .inl (cI, (hz_L g), .inl (nf fo))), (r67, .inl (cI, (hz_L (g + 1)), .inl (nf fo2))), (q_1, .inl (cI, hz_M (g + 1), .inl (nf (fun _ => 0))))] := hD
  refine W.widen (k := 6) (n := (((((hz_L (g + 1)) + (hz_L (g + 1))) + (hz_L (g + 1))) + (hz_L (g + 1))) + (hz_L (g + 1))) + (hz_M (g + 1))) (by omega) (by omega) ?_
  refine va_put (D := (dC, dI)) (ci := 2) (v := .ref q_1) (ty := .array .int) (C := R_S) (T := T_S) (N := 7) hx hb hw in_S ty_S tyok_S nn_S hown hK hP hD hS 0 rfl rfl 6 (by decide) (hw _ m_65) (fun _ h9 => h9) rfl (by decide +kernel) rfl rfl (Nat.le_of_ble_eq_true rfl) d_S_grow_83 (fun H locs hP hD hS => ?_)
  have hP : va_P (dC, dI) classes [(f, .inr (2, [.int (nI n), .ref r19, .ref r31, .ref r43, .ref r55, .ref r67, .ref q_1])), (a6, .inl (cI, hz_M g, .inl (nf sn))), (a1, .inl (cI, (hz_L g), .inl (nf ow))), (r19, .inl (cI, (hz_L (g + 1)), .inl (nf ow2))), (a2, .inl (cL, (hz_L g), .inr (.inl ky))), (r31, .inl (cL, (hz_L (g + 1)), .inr (.inl ky2))), (a3, .inl (cB, (hz_L g), .inl (nf kd))), (r43, .inl (cB, (hz_L (g + 1)), .inl (nf kd2))), (a4, .inl (cL, (hz_L g), .inr (.inl nu))), (r55, .inl (cL, (hz_L (g + 1)), .inr (.inl nu2))), (a5, .inl (cI, (hz_L g), .inl (nf fo))), (r67, .inl (cI, (hz_L (g + 1)), .inl (nf fo2))), (q_1, .inl (cI, hz_M (g + 1), .inl (nf (fun _ => 0))))] H := hP
  have hD : va_D A [(f, .inr (2, [.int (nI n), .ref r19, .ref r31, .ref r43, .ref r55, .ref r67, .ref q_1])), (a6, .inl (cI, hz_M g, .inl (nf sn))), (a1, .inl (cI, (hz_L g), .inl (nf ow))), (r19, .inl (cI, (hz_L (g + 1)), .inl (nf ow2))), (a2, .inl (cL, (hz_L g), .inr (.inl ky))), (r31, .inl (cL, (hz_L (g + 1)), .inr (.inl ky2))), (a3, .inl (cB, (hz_L g), .inl (nf kd))), (r43, .inl (cB, (hz_L (g + 1)), .inl (nf kd2))), (a4, .inl (cL, (hz_L g), .inr (.inl nu))), (r55, .inl (cL, (hz_L (g + 1)), .inr (.inl nu2))), (a5, .inl (cI, (hz_L g), .inl (nf fo))), (r67, .inl (cI, (hz_L (g + 1)), .inl (nf fo2))), (q_1, .inl (cI, hz_M (g + 1), .inl (nf (fun _ => 0))))] := hD
  have hA1 : ∀ i, i < hz_L g → ow2 i = ow i ∧ ky2 i = ky i ∧ kd2 i = kd i ∧ nu2 i = nu i ∧ fo2 i = fo i := fun i h => ⟨by rw [eow2, cpz_in h], by rw [eky2, cpz_in h], by rw [ekd2, cpz_in h], by rw [enu2, cpz_in h], by rw [efo2, cpz_in h]⟩
  have hk2 : ∀ i, kd2 i < 128 := fun i => by
    rw [ekd2]; unfold cpz; split
    · exact hk i
    · show 0 < 128; omega
  have hU2 : hz_U n ow2 ky2 := fun i j hi hi2 hj hj2 h1 h2 => hU i j hi hi2 hj hj2 (by rw [← (hA1 i (by omega)).1, ← (hA1 j (by omega)).1]; exact h1) (by rw [← (hA1 i (by omega)).2.1, ← (hA1 j (by omega)).2.1]; exact h2)
  have hO3 : ∀ i, i ≤ n → ow2 i < 2 ^ 20 := fun i hi => by rw [(hA1 i (by omega)).1]; exact hO i hi
  refine lv_iconst (v := nI 1) hx hb d_S_grow_86 (by decide) ?_
  refine lv_istore_n (lv' := [(2, .int (nI 1)), (1, .int (nI (hz_L (g + 1)))), (0, .ref f)]) hx hb d_S_grow_87 rfl hl (by decide) rfl (fun ls hl => ?_)
  have loop_88 : ∀ (fuel : Nat) (j : Nat) (sn2 : Nat → Nat), j ≤ n → hz_T (hz_M (g + 1)) j (fun i => hz_h (hz_M (g + 1)) (ow2 i) (ky2 i)) sn2 → n - j < fuel → ∀ (H : Heap) (locs : List Loc), va_P (dC, dI) classes [(f, .inr (2, [.int (nI n), .ref r19, .ref r31, .ref r43, .ref r55, .ref r67, .ref q_1])), (r19, .inl (cI, hz_L (g + 1), .inl (nf ow2))), (r31, .inl (cL, hz_L (g + 1), .inr (.inl ky2))), (r43, .inl (cB, hz_L (g + 1), .inl (nf kd2))), (r55, .inl (cL, hz_L (g + 1), .inr (.inl nu2))), (r67, .inl (cI, hz_L (g + 1), .inl (nf fo2))), (q_1, .inl (cI, hz_M (g + 1), .inl (nf sn2)))] H → va_D A [(f, .inr (2, [.int (nI n), .ref r19, .ref r31, .ref r43, .ref r55, .ref r67, .ref q_1])), (r19, .inl (cI, hz_L (g + 1), .inl (nf ow2))), (r31, .inl (cL, hz_L (g + 1), .inr (.inl ky2))), (r43, .inl (cB, hz_L (g + 1), .inl (nf kd2))), (r55, .inl (cL, hz_L (g + 1), .inr (.inl nu2))), (r67, .inl (cI, hz_L (g + 1), .inl (nf fo2))), (q_1, .inl (cI, hz_M (g + 1), .inl (nf sn2)))] → va_S A s.heap H locs → ∀ (ls : Array Slot), lv_has ls 3 [(0, .ref f), (1, .int (nI (hz_L (g + 1)))), (2, .int (nI (j + 1)))] → W p l e { frames := 2, cells := 6, slots := (5 * hz_L (g + 1) + hz_M (g + 1)), locals := 51 } s m [.ref f].toArray below meth c H locs 6 ((((((hz_L (g + 1)) + (hz_L (g + 1))) + (hz_L (g + 1))) + (hz_L (g + 1))) + (hz_L (g + 1))) + (hz_M (g + 1))) Z (F0 m 88 ls []) := by
    intro fuel
    induction fuel with
    | zero => intro j sn2 hj hT2 hfuel; exact absurd hfuel (Nat.not_lt_zero _)
    | succ fuel ih =>
      intro j sn2 hj hT2 hfuel H locs hP hD hS ls hl
      refine lv_iload_n hx hb d_S_grow_88 rfl (lv_at hl 2 rfl) ?_
      refine lv_aload_n hx hb d_S_grow_89 rfl (lv_at hl 0 rfl) ?_
      refine va_get (D := (dC, dI)) (ci := 2) (v := .int (nI n)) (C := R_S) (T := T_S) (N := 7) hx hb hw in_S hown hK hP 0 rfl rfl 0 (by decide) (hw _ m_54) (fun _ h9 => h9) rfl d_S_grow_90 ?_
      refine lv_icmp_gt (tgt := 124) hx hb d_S_grow_93 (by decide) (fun c93 => ?_) (fun c93 => ?_)
      · have c93 : n < j + 1 := by exact (nI_ltI (by omega) (by omega)).mp c93
        have ejn : j = n := by omega
        rw [ejn] at hT2
        refine W.widen (k := 6) (n := 5 * hz_L (g + 1) + hz_M (g + 1)) (by omega) (by omega) ?_
        have hpost : (∀ i, i < hz_L g → ow2 i = ow i ∧ ky2 i = ky i ∧ kd2 i = kd i ∧ nu2 i = nu i ∧ fo2 i = fo i) ∧ (∀ i, kd2 i < 128) ∧ hz_T (hz_M (g + 1)) n (fun i => hz_h (hz_M (g + 1)) (ow2 i) (ky2 i)) sn2 := ⟨hA1, hk2, hT2⟩
        exact hret (r19, r31, r43, r55, r67, q_1, ow2, ky2, kd2, nu2, fo2, sn2) _ _ 124 ls hpost hP hD hS d_S_grow_124
      · have c93 : ¬ n < j + 1 := fun h => c93 (by exact (nI_ltI (by omega) (by omega)).mpr h)
        have hO2 : ow2 (j + 1) < 2 ^ 20 := hO3 _ (by omega)
        have hO3 : ∀ i, i ≤ j → ow2 i < 2 ^ 20 := fun i hi => hO3 i (by omega)
        refine lv_aload_n hx hb d_S_grow_96 rfl (lv_at hl 0 rfl) ?_
        refine va_get (D := (dC, dI)) (ci := 2) (v := .ref q_1) (C := R_S) (T := T_S) (N := 7) hx hb hw in_S hown hK hP 0 rfl rfl 6 (by decide) (hw _ m_65) (fun _ h9 => h9) rfl d_S_grow_97 ?_
        refine lv_aload_n hx hb d_S_grow_100 rfl (lv_at hl 0 rfl) ?_
        refine lv_aload_n hx hb d_S_grow_101 rfl (lv_at hl 0 rfl) ?_
        refine va_get (D := (dC, dI)) (ci := 2) (v := .ref r19) (C := R_S) (T := T_S) (N := 7) hx hb hw in_S hown hK hP 0 rfl rfl 1 (by decide) (hw _ m_56) (fun _ h9 => h9) rfl d_S_grow_102 ?_
        refine lv_iload_n hx hb d_S_grow_105 rfl (lv_at hl 2 rfl) ?_
        refine fz_iald hx hb hK hP 1 0 rfl rfl (j := j + 1) (by omega) (by omega) d_S_grow_106 ?_
        refine lv_aload_n hx hb d_S_grow_107 rfl (lv_at hl 0 rfl) ?_
        refine va_get (D := (dC, dI)) (ci := 2) (v := .ref r31) (C := R_S) (T := T_S) (N := 7) hx hb hw in_S hown hK hP 0 rfl rfl 2 (by decide) (hw _ m_57) (fun _ h9 => h9) rfl d_S_grow_108 ?_
        refine lv_iload_n hx hb d_S_grow_111 rfl (lv_at hl 2 rfl) ?_
        refine fz_lald hx hb hK hP 2 1 rfl rfl (j := j + 1) (by omega) (by omega) d_S_grow_112 ?_
        refine QryI.callV (ci := 2) (q0 := 0) (c_slotOf l dC dI cI cL cB f r19 r31 r43 r55 r67 q_1 n (hz_L (g + 1)) (hz_M (g + 1)) (7 + 2 * (g + 1)) j (ow2 (j + 1)) (ky2 (j + 1)) ow2 sn2 ky2 (by omega) (by omega) rfl (by omega) (by omega) hO2 hO3 (hU2.less (by omega)) hT2) ⟨hx, hb, hml, hown, hw⟩ (fz_cwV 2 hw m_154 m_151 m_153 ms_1 m_3 rfl rfl (by decide +kernel) ⟨Nat.le_of_ble_eq_true rfl, Nat.le_of_ble_eq_true rfl⟩) hK hP [0, 1, 2, 6] rfl rfl rfl rfl rfl hl.1 rfl (Nat.le_of_ble_eq_true rfl) d_S_grow_113 ⟨(by (try dsimp only); omega), (by (try dsimp only); omega)⟩ (fun r113 h113 => ?_)
        obtain ⟨d, hd, e113, hbb, hv⟩ := h113
        subst e113
        refine lv_iload_n hx hb d_S_grow_116 rfl (lv_at hl 2 rfl) ?_
        refine fz_iast hx hb hK hP hD hS 6 0 rfl rfl (j := (hz_h (hz_M (g + 1)) (ow2 (j + 1)) (ky2 (j + 1)) + d) % (hz_M (g + 1))) (Nat.mod_lt _ (by omega)) (by omega) d_S_grow_117 (fun H locs hP hD hS => ?_)
        have hP : va_P (dC, dI) classes [(f, .inr (2, [.int (nI n), .ref r19, .ref r31, .ref r43, .ref r55, .ref r67, .ref q_1])), (r19, .inl (cI, hz_L (g + 1), .inl (nf ow2))), (r31, .inl (cL, hz_L (g + 1), .inr (.inl ky2))), (r43, .inl (cB, hz_L (g + 1), .inl (nf kd2))), (r55, .inl (cL, hz_L (g + 1), .inr (.inl nu2))), (r67, .inl (cI, hz_L (g + 1), .inl (nf fo2))), (q_1, .inl (cI, hz_M (g + 1), .inl (nf (va_up sn2 ((hz_h (hz_M (g + 1)) (ow2 (j + 1)) (ky2 (j + 1)) + d) % (hz_M (g + 1))) (j + 1)))))] H := hP
        have hD : va_D A [(f, .inr (2, [.int (nI n), .ref r19, .ref r31, .ref r43, .ref r55, .ref r67, .ref q_1])), (r19, .inl (cI, hz_L (g + 1), .inl (nf ow2))), (r31, .inl (cL, hz_L (g + 1), .inr (.inl ky2))), (r43, .inl (cB, hz_L (g + 1), .inl (nf kd2))), (r55, .inl (cL, hz_L (g + 1), .inr (.inl nu2))), (r67, .inl (cI, hz_L (g + 1), .inl (nf fo2))), (q_1, .inl (cI, hz_M (g + 1), .inl (nf (va_up sn2 ((hz_h (hz_M (g + 1)) (ow2 (j + 1)) (ky2 (j + 1)) + d) % (hz_M (g + 1))) (j + 1)))))] := hD
        refine lv_iinc (v := nI (j + 2)) (lv' := [(2, .int (nI (j + 2))), (0, .ref f), (1, .int (nI (hz_L (g + 1))))]) hx hb d_S_grow_118 hl (k := 2) rfl (fz_inc (j + 1)) (by decide) rfl (fun ls hl => ?_)
        refine lv_goto (tgt := 88) hx hb d_S_grow_121 (by decide) ?_
        exact ih (j + 1) (va_up sn2 ((hz_h (hz_M (g + 1)) (ow2 (j + 1)) (ky2 (j + 1)) + d) % (hz_M (g + 1))) (j + 1)) (by omega) (hz_T.add hT2 (fun _ _ _ => rfl) rfl hd hbb (by rw [hv]; exact fnd_zero (fun i h1 h2 h3 => by have := hU2 i (j + 1) h1 (by omega) (by omega) (by omega) h3.1 h3.2; omega))) (by omega) _ _ hP hD hS ls (lv_sub hl [1, 2, 0] rfl)
  exact loop_88 (n - 0 + 1) 0 (fun _ => 0) (by omega) hz_T.zero (Nat.lt_succ_self _) _ _ (fz_subP hP [0, 3, 5, 7, 9, 11, 12] rfl) (hD.sub [0, 3, 5, 7, 9, 11, 12] (by decide) rfl) hS ls (lv_sub hl [2, 1, 0] rfl)
set_option maxHeartbeats 4000000 in
set_option maxRecDepth 100000 in
/-- FieldStore.add -/
theorem c_Sadd (l : Launch) (dC : Nat → ClassId) (dI : Nat → Nat → Nat) (cI cL cB : ClassId) (f : Nat) (a1 : Nat) (a2 : Nat) (a3 : Nat) (a4 : Nat) (a5 : Nat) (a6 : Nat) (n : Nat) (g : Nat) (g2 : Nat) (t : Nat) (kk : Nat) (k : Int64) (ow : Nat → Nat) (ky : Nat → Int64) (kd : Nat → Nat) (nu : Nat → Int64) (fo : Nat → Nat) (sn : Nat → Nat) (hn4 : n < 40000) (hg : g ≤ 5) (hn : n < hz_L g) (hg2 : (n + 1 < hz_L g ∧ g2 = g) ∨ (hz_L g ≤ n + 1 ∧ g2 = g + 1)) (ht : t < 2 ^ 16) (hk : kk < 8) (hU : hz_U n ow ky) (hO : ∀ i, i ≤ n → ow i < 2 ^ 20) (hkd : ∀ i, kd i < 128) (hT : hz_T (hz_M g) n (fun i => hz_h (hz_M g) (ow i) (ky i)) sn) (hf : fnd ow ky (t * 8 + kk) k n = 0) : StdI l y_S_add (wd y_S_add b_S_add 5 (some .int)) 3 73 (6 * (g2 - g)) (Gs g2 - Gs g) (dC, dI) classes (tyK cI cL cB) [.ref f, .int (nI t), .int (nI kk), .long k] [(f, .inr (2, [.int (nI n), .ref a1, .ref a2, .ref a3, .ref a4, .ref a5, .ref a6])), (a1, .inl (cI, hz_L g, .inl (nf ow))), (a2, .inl (cL, hz_L g, .inr (.inl ky))), (a3, .inl (cB, hz_L g, .inl (nf kd))), (a4, .inl (cL, hz_L g, .inr (.inl nu))), (a5, .inl (cI, hz_L g, .inl (nf fo))), (a6, .inl (cI, hz_M g, .inl (nf sn)))] (fun (r : Int32) (u : Nat × Nat × Nat × Nat × Nat × Nat × (Nat → Nat) × (Nat → Int64) × (Nat → Nat) × (Nat → Int64) × (Nat → Nat) × (Nat → Nat)) => r = nI (n + 1) ∧ (∀ i, i ≤ n → u.2.2.2.2.2.2.1 i = ow i ∧ u.2.2.2.2.2.2.2.1 i = ky i ∧ u.2.2.2.2.2.2.2.2.1 i = kd i ∧ u.2.2.2.2.2.2.2.2.2.1 i = nu i ∧ u.2.2.2.2.2.2.2.2.2.2.1 i = fo i) ∧ u.2.2.2.2.2.2.1 (n + 1) = t * 8 + kk ∧ u.2.2.2.2.2.2.2.1 (n + 1) = k ∧ u.2.2.2.2.2.2.2.2.1 (n + 1) = 0 ∧ u.2.2.2.2.2.2.2.2.2.1 (n + 1) = 0 ∧ u.2.2.2.2.2.2.2.2.2.2.1 (n + 1) = 0 ∧ (∀ i, u.2.2.2.2.2.2.2.2.1 i < 128) ∧ hz_T (hz_M g2) (n + 1) (fun i => hz_h (hz_M g2) (u.2.2.2.2.2.2.1 i) (u.2.2.2.2.2.2.2.1 i)) u.2.2.2.2.2.2.2.2.2.2.2) (fun (u : Nat × Nat × Nat × Nat × Nat × Nat × (Nat → Nat) × (Nat → Int64) × (Nat → Nat) × (Nat → Int64) × (Nat → Nat) × (Nat → Nat)) => [(f, .inr (2, [.int (nI (n + 1)), .ref u.1, .ref u.2.1, .ref u.2.2.1, .ref u.2.2.2.1, .ref u.2.2.2.2.1, .ref u.2.2.2.2.2.1])), (u.1, .inl (cI, hz_L g2, .inl (nf u.2.2.2.2.2.2.1))), (u.2.1, .inl (cL, hz_L g2, .inr (.inl u.2.2.2.2.2.2.2.1))), (u.2.2.1, .inl (cB, hz_L g2, .inl (nf u.2.2.2.2.2.2.2.2.1))), (u.2.2.2.1, .inl (cL, hz_L g2, .inr (.inl u.2.2.2.2.2.2.2.2.2.1))), (u.2.2.2.2.1, .inl (cI, hz_L g2, .inl (nf u.2.2.2.2.2.2.2.2.2.2.1))), (u.2.2.2.2.2.1, .inl (cI, hz_M g2, .inl (nf u.2.2.2.2.2.2.2.2.2.2.2)))]) := by
  have hg1 := hz_gen g hg
  have hg9 : g2 ≤ 5 := by
    rcases Nat.lt_or_ge g 5 with q | q
    · rcases hg2 with z | z <;> omega
    · have e5 : g = 5 := by omega
      have e6 : hz_L 5 = 40001 := rfl
      rw [e5, e6] at hg2; omega
  have hg8 := hz_gen g2 hg9
  have hL2 : n + 1 < hz_L g2 := by
    rcases hg2 with z | z
    · rw [z.2]; exact z.1
    · rcases Nat.lt_or_ge g 5 with q | q
      · have := (hz_grow g q).2.2; rw [z.2]; omega
      · omega
  refine StdI.mk (cc := b_S_add) (maxL := 5) (by decide) rfl (Nat.le_of_ble_eq_true rfl) ?_
  intro p e s m below meth c A Z ls hx hb hml hown hts hin hP hK hD hA hS hret hl
  have hown : s.vm.findClass R_S = some m.cls := hown
  have hw : ∀ x ∈ WALL, x.before _ s = true := fun x h => hts x (List.mem_cons_of_mem _ h)
  have hl : lv_has ls 5 [(0, .ref f), (1, .int (nI t)), (2, .int (nI kk)), (3, .long k)] := hl
  have join_18 : ∀ (x1 : Nat) (x2 : Nat) (x3 : Nat) (x4 : Nat) (x5 : Nat) (x6 : Nat) (ow1 : Nat → Nat) (ky1 : Nat → Int64) (kd1 : Nat → Nat) (nu1 : Nat → Int64) (fo1 : Nat → Nat) (sn1 : Nat → Nat), (∀ i, i ≤ n → ow1 i = ow i ∧ ky1 i = ky i ∧ kd1 i = kd i ∧ nu1 i = nu i ∧ fo1 i = fo i) → (∀ i, kd1 i < 128) → hz_T (hz_M g2) n (fun i => hz_h (hz_M g2) (ow1 i) (ky1 i)) sn1 → ∀ (H : Heap) (locs : List Loc), va_P (dC, dI) classes [(f, .inr (2, [.int (nI n), .ref x1, .ref x2, .ref x3, .ref x4, .ref x5, .ref x6])), (x1, .inl (cI, hz_L g2, .inl (nf ow1))), (x2, .inl (cL, hz_L g2, .inr (.inl ky1))), (x3, .inl (cB, hz_L g2, .inl (nf kd1))), (x4, .inl (cL, hz_L g2, .inr (.inl nu1))), (x5, .inl (cI, hz_L g2, .inl (nf fo1))), (x6, .inl (cI, hz_M g2, .inl (nf sn1)))] H → va_D A [(f, .inr (2, [.int (nI n), .ref x1, .ref x2, .ref x3, .ref x4, .ref x5, .ref x6])), (x1, .inl (cI, hz_L g2, .inl (nf ow1))), (x2, .inl (cL, hz_L g2, .inr (.inl ky1))), (x3, .inl (cB, hz_L g2, .inl (nf kd1))), (x4, .inl (cL, hz_L g2, .inr (.inl nu1))), (x5, .inl (cI, hz_L g2, .inl (nf fo1))), (x6, .inl (cI, hz_M g2, .inl (nf sn1)))] → va_S A s.heap H locs → ∀ (ls : Array Slot), lv_has ls 5 [(0, .ref f), (1, .int (nI t)), (2, .int (nI kk)), (3, .long k)] → W p l e { frames := 3, cells := (6 * (g2 - g)), slots := (Gs g2 - Gs g), locals := 73 } s m [.ref f, .int (nI t), .int (nI kk), .long k].toArray below meth c H locs (6 * (g2 - g)) (Gs g2 - Gs g) Z (F0 m 18 ls []) := by
    intro x1 x2 x3 x4 x5 x6 ow1 ky1 kd1 nu1 fo1 sn1 hA1 hk1 hT1 H locs hP hD hS ls hl
    refine lv_aload_n hx hb d_S_add_18 rfl (lv_at hl 0 rfl) ?_
    refine lv_dup hx hb d_S_add_19 rfl ?_
    refine va_get (D := (dC, dI)) (ci := 2) (v := .int (nI n)) (C := R_S) (T := T_S) (N := 7) hx hb hw in_S hown hK hP 0 rfl rfl 0 (by decide) (hw _ m_54) (fun _ h9 => h9) rfl d_S_add_20 ?_
    refine lv_iconst (v := nI 1) hx hb d_S_add_23 (by decide) ?_
    refine lv_iadd hx hb d_S_add_24 ?_
    refine fz_eqi (y := nI (n + 1)) (nI_add n 1) ?_
    refine va_put (D := (dC, dI)) (ci := 2) (v := .int (nI (n + 1))) (ty := .int) (C := R_S) (T := T_S) (N := 7) hx hb hw in_S ty_S tyok_S nn_S hown hK hP hD hS 0 rfl rfl 0 (by decide) (hw _ m_54) (fun _ h9 => h9) rfl (by decide +kernel) rfl rfl (Nat.le_of_ble_eq_true rfl) d_S_add_25 (fun H locs hP hD hS => ?_)
    have hP : va_P (dC, dI) classes [(f, .inr (2, [.int (nI (n + 1)), .ref x1, .ref x2, .ref x3, .ref x4, .ref x5, .ref x6])), (x1, .inl (cI, hz_L g2, .inl (nf ow1))), (x2, .inl (cL, hz_L g2, .inr (.inl ky1))), (x3, .inl (cB, hz_L g2, .inl (nf kd1))), (x4, .inl (cL, hz_L g2, .inr (.inl nu1))), (x5, .inl (cI, hz_L g2, .inl (nf fo1))), (x6, .inl (cI, hz_M g2, .inl (nf sn1)))] H := hP
    have hD : va_D A [(f, .inr (2, [.int (nI (n + 1)), .ref x1, .ref x2, .ref x3, .ref x4, .ref x5, .ref x6])), (x1, .inl (cI, hz_L g2, .inl (nf ow1))), (x2, .inl (cL, hz_L g2, .inr (.inl ky1))), (x3, .inl (cB, hz_L g2, .inl (nf kd1))), (x4, .inl (cL, hz_L g2, .inr (.inl nu1))), (x5, .inl (cI, hz_L g2, .inl (nf fo1))), (x6, .inl (cI, hz_M g2, .inl (nf sn1)))] := hD
    refine lv_aload_n hx hb d_S_add_28 rfl (lv_at hl 0 rfl) ?_
    refine va_get (D := (dC, dI)) (ci := 2) (v := .ref x1) (C := R_S) (T := T_S) (N := 7) hx hb hw in_S hown hK hP 0 rfl rfl 1 (by decide) (hw _ m_56) (fun _ h9 => h9) rfl d_S_add_29 ?_
    refine lv_aload_n hx hb d_S_add_32 rfl (lv_at hl 0 rfl) ?_
    refine va_get (D := (dC, dI)) (ci := 2) (v := .int (nI (n + 1))) (C := R_S) (T := T_S) (N := 7) hx hb hw in_S hown hK hP 0 rfl rfl 0 (by decide) (hw _ m_54) (fun _ h9 => h9) rfl d_S_add_33 ?_
    refine lv_iload_n hx hb d_S_add_36 rfl (lv_at hl 1 rfl) ?_
    refine lv_iload_n hx hb d_S_add_37 rfl (lv_at hl 2 rfl) ?_
    refine QryI.callS (c_owner l dC dI cI cL cB t kk (by omega) (by omega)) ⟨hx, hb, hml, hown, hw⟩ (fz_cwS 2 hw m_150 m_148 m_149 m_3 rfl rfl (by decide +kernel) ⟨Nat.le_of_ble_eq_true rfl, Nat.le_of_ble_eq_true rfl⟩) hK hP [] rfl rfl hl.1 rfl (Nat.le_of_ble_eq_true rfl) d_S_add_38 ⟨(by (try dsimp only); omega), (by (try dsimp only); omega)⟩ (fun r38 h38 => ?_)
    subst h38
    refine fz_iast hx hb hK hP hD hS 1 0 rfl rfl (j := n + 1) (by omega) (by omega) d_S_add_41 (fun H locs hP hD hS => ?_)
    have hP : va_P (dC, dI) classes [(f, .inr (2, [.int (nI (n + 1)), .ref x1, .ref x2, .ref x3, .ref x4, .ref x5, .ref x6])), (x1, .inl (cI, hz_L g2, .inl (nf (va_up ow1 (n + 1) (t * 8 + kk))))), (x2, .inl (cL, hz_L g2, .inr (.inl ky1))), (x3, .inl (cB, hz_L g2, .inl (nf kd1))), (x4, .inl (cL, hz_L g2, .inr (.inl nu1))), (x5, .inl (cI, hz_L g2, .inl (nf fo1))), (x6, .inl (cI, hz_M g2, .inl (nf sn1)))] H := hP
    have hD : va_D A [(f, .inr (2, [.int (nI (n + 1)), .ref x1, .ref x2, .ref x3, .ref x4, .ref x5, .ref x6])), (x1, .inl (cI, hz_L g2, .inl (nf (va_up ow1 (n + 1) (t * 8 + kk))))), (x2, .inl (cL, hz_L g2, .inr (.inl ky1))), (x3, .inl (cB, hz_L g2, .inl (nf kd1))), (x4, .inl (cL, hz_L g2, .inr (.inl nu1))), (x5, .inl (cI, hz_L g2, .inl (nf fo1))), (x6, .inl (cI, hz_M g2, .inl (nf sn1)))] := hD
    refine lv_aload_n hx hb d_S_add_42 rfl (lv_at hl 0 rfl) ?_
    refine va_get (D := (dC, dI)) (ci := 2) (v := .ref x2) (C := R_S) (T := T_S) (N := 7) hx hb hw in_S hown hK hP 0 rfl rfl 2 (by decide) (hw _ m_57) (fun _ h9 => h9) rfl d_S_add_43 ?_
    refine lv_aload_n hx hb d_S_add_46 rfl (lv_at hl 0 rfl) ?_
    refine va_get (D := (dC, dI)) (ci := 2) (v := .int (nI (n + 1))) (C := R_S) (T := T_S) (N := 7) hx hb hw in_S hown hK hP 0 rfl rfl 0 (by decide) (hw _ m_54) (fun _ h9 => h9) rfl d_S_add_47 ?_
    refine lv_lload_n hx hb d_S_add_50 rfl (lv_at hl 3 rfl) ?_
    refine fz_last hx hb hK hP hD hS 2 1 rfl rfl (j := n + 1) (by omega) (by omega) d_S_add_51 (fun H locs hP hD hS => ?_)
    have hP : va_P (dC, dI) classes [(f, .inr (2, [.int (nI (n + 1)), .ref x1, .ref x2, .ref x3, .ref x4, .ref x5, .ref x6])), (x1, .inl (cI, hz_L g2, .inl (nf (va_up ow1 (n + 1) (t * 8 + kk))))), (x2, .inl (cL, hz_L g2, .inr (.inl (vp_updL ky1 (n + 1) k)))), (x3, .inl (cB, hz_L g2, .inl (nf kd1))), (x4, .inl (cL, hz_L g2, .inr (.inl nu1))), (x5, .inl (cI, hz_L g2, .inl (nf fo1))), (x6, .inl (cI, hz_M g2, .inl (nf sn1)))] H := hP
    have hD : va_D A [(f, .inr (2, [.int (nI (n + 1)), .ref x1, .ref x2, .ref x3, .ref x4, .ref x5, .ref x6])), (x1, .inl (cI, hz_L g2, .inl (nf (va_up ow1 (n + 1) (t * 8 + kk))))), (x2, .inl (cL, hz_L g2, .inr (.inl (vp_updL ky1 (n + 1) k)))), (x3, .inl (cB, hz_L g2, .inl (nf kd1))), (x4, .inl (cL, hz_L g2, .inr (.inl nu1))), (x5, .inl (cI, hz_L g2, .inl (nf fo1))), (x6, .inl (cI, hz_M g2, .inl (nf sn1)))] := hD
    refine lv_aload_n hx hb d_S_add_52 rfl (lv_at hl 0 rfl) ?_
    refine va_get (D := (dC, dI)) (ci := 2) (v := .ref x3) (C := R_S) (T := T_S) (N := 7) hx hb hw in_S hown hK hP 0 rfl rfl 3 (by decide) (hw _ m_59) (fun _ h9 => h9) rfl d_S_add_53 ?_
    refine lv_aload_n hx hb d_S_add_56 rfl (lv_at hl 0 rfl) ?_
    refine va_get (D := (dC, dI)) (ci := 2) (v := .int (nI (n + 1))) (C := R_S) (T := T_S) (N := 7) hx hb hw in_S hown hK hP 0 rfl rfl 0 (by decide) (hw _ m_54) (fun _ h9 => h9) rfl d_S_add_57 ?_
    refine lv_iconst (v := nI 0) hx hb d_S_add_60 (by decide) ?_
    refine fz_bast hx hb hK hP hD hS 3 2 rfl rfl (j := n + 1) (fz_nb (by omega)) (by omega) (by omega) d_S_add_61 (fun H locs hP hD hS => ?_)
    have hP : va_P (dC, dI) classes [(f, .inr (2, [.int (nI (n + 1)), .ref x1, .ref x2, .ref x3, .ref x4, .ref x5, .ref x6])), (x1, .inl (cI, hz_L g2, .inl (nf (va_up ow1 (n + 1) (t * 8 + kk))))), (x2, .inl (cL, hz_L g2, .inr (.inl (vp_updL ky1 (n + 1) k)))), (x3, .inl (cB, hz_L g2, .inl (nf (va_up kd1 (n + 1) 0)))), (x4, .inl (cL, hz_L g2, .inr (.inl nu1))), (x5, .inl (cI, hz_L g2, .inl (nf fo1))), (x6, .inl (cI, hz_M g2, .inl (nf sn1)))] H := hP
    have hD : va_D A [(f, .inr (2, [.int (nI (n + 1)), .ref x1, .ref x2, .ref x3, .ref x4, .ref x5, .ref x6])), (x1, .inl (cI, hz_L g2, .inl (nf (va_up ow1 (n + 1) (t * 8 + kk))))), (x2, .inl (cL, hz_L g2, .inr (.inl (vp_updL ky1 (n + 1) k)))), (x3, .inl (cB, hz_L g2, .inl (nf (va_up kd1 (n + 1) 0)))), (x4, .inl (cL, hz_L g2, .inr (.inl nu1))), (x5, .inl (cI, hz_L g2, .inl (nf fo1))), (x6, .inl (cI, hz_M g2, .inl (nf sn1)))] := hD
    refine lv_aload_n hx hb d_S_add_62 rfl (lv_at hl 0 rfl) ?_
    refine va_get (D := (dC, dI)) (ci := 2) (v := .ref x4) (C := R_S) (T := T_S) (N := 7) hx hb hw in_S hown hK hP 0 rfl rfl 4 (by decide) (hw _ m_61) (fun _ h9 => h9) rfl d_S_add_63 ?_
    refine lv_aload_n hx hb d_S_add_66 rfl (lv_at hl 0 rfl) ?_
    refine va_get (D := (dC, dI)) (ci := 2) (v := .int (nI (n + 1))) (C := R_S) (T := T_S) (N := 7) hx hb hw in_S hown hK hP 0 rfl rfl 0 (by decide) (hw _ m_54) (fun _ h9 => h9) rfl d_S_add_67 ?_
    refine lv_lconst (v := lN 0) hx hb d_S_add_70 rfl ?_
    refine fz_last hx hb hK hP hD hS 4 1 rfl rfl (j := n + 1) (by omega) (by omega) d_S_add_71 (fun H locs hP hD hS => ?_)
    have hP : va_P (dC, dI) classes [(f, .inr (2, [.int (nI (n + 1)), .ref x1, .ref x2, .ref x3, .ref x4, .ref x5, .ref x6])), (x1, .inl (cI, hz_L g2, .inl (nf (va_up ow1 (n + 1) (t * 8 + kk))))), (x2, .inl (cL, hz_L g2, .inr (.inl (vp_updL ky1 (n + 1) k)))), (x3, .inl (cB, hz_L g2, .inl (nf (va_up kd1 (n + 1) 0)))), (x4, .inl (cL, hz_L g2, .inr (.inl (vp_updL nu1 (n + 1) (lN 0))))), (x5, .inl (cI, hz_L g2, .inl (nf fo1))), (x6, .inl (cI, hz_M g2, .inl (nf sn1)))] H := hP
    have hD : va_D A [(f, .inr (2, [.int (nI (n + 1)), .ref x1, .ref x2, .ref x3, .ref x4, .ref x5, .ref x6])), (x1, .inl (cI, hz_L g2, .inl (nf (va_up ow1 (n + 1) (t * 8 + kk))))), (x2, .inl (cL, hz_L g2, .inr (.inl (vp_updL ky1 (n + 1) k)))), (x3, .inl (cB, hz_L g2, .inl (nf (va_up kd1 (n + 1) 0)))), (x4, .inl (cL, hz_L g2, .inr (.inl (vp_updL nu1 (n + 1) (lN 0))))), (x5, .inl (cI, hz_L g2, .inl (nf fo1))), (x6, .inl (cI, hz_M g2, .inl (nf sn1)))] := hD
    refine lv_aload_n hx hb d_S_add_72 rfl (lv_at hl 0 rfl) ?_
    refine va_get (D := (dC, dI)) (ci := 2) (v := .ref x5) (C := R_S) (T := T_S) (N := 7) hx hb hw in_S hown hK hP 0 rfl rfl 5 (by decide) (hw _ m_63) (fun _ h9 => h9) rfl d_S_add_73 ?_
    refine lv_aload_n hx hb d_S_add_76 rfl (lv_at hl 0 rfl) ?_
    refine va_get (D := (dC, dI)) (ci := 2) (v := .int (nI (n + 1))) (C := R_S) (T := T_S) (N := 7) hx hb hw in_S hown hK hP 0 rfl rfl 0 (by decide) (hw _ m_54) (fun _ h9 => h9) rfl d_S_add_77 ?_
    refine lv_iconst (v := nI 0) hx hb d_S_add_80 (by decide) ?_
    refine fz_iast hx hb hK hP hD hS 5 0 rfl rfl (j := n + 1) (by omega) (by omega) d_S_add_81 (fun H locs hP hD hS => ?_)
    have hP : va_P (dC, dI) classes [(f, .inr (2, [.int (nI (n + 1)), .ref x1, .ref x2, .ref x3, .ref x4, .ref x5, .ref x6])), (x1, .inl (cI, hz_L g2, .inl (nf (va_up ow1 (n + 1) (t * 8 + kk))))), (x2, .inl (cL, hz_L g2, .inr (.inl (vp_updL ky1 (n + 1) k)))), (x3, .inl (cB, hz_L g2, .inl (nf (va_up kd1 (n + 1) 0)))), (x4, .inl (cL, hz_L g2, .inr (.inl (vp_updL nu1 (n + 1) (lN 0))))), (x5, .inl (cI, hz_L g2, .inl (nf (va_up fo1 (n + 1) 0)))), (x6, .inl (cI, hz_M g2, .inl (nf sn1)))] H := hP
    have hD : va_D A [(f, .inr (2, [.int (nI (n + 1)), .ref x1, .ref x2, .ref x3, .ref x4, .ref x5, .ref x6])), (x1, .inl (cI, hz_L g2, .inl (nf (va_up ow1 (n + 1) (t * 8 + kk))))), (x2, .inl (cL, hz_L g2, .inr (.inl (vp_updL ky1 (n + 1) k)))), (x3, .inl (cB, hz_L g2, .inl (nf (va_up kd1 (n + 1) 0)))), (x4, .inl (cL, hz_L g2, .inr (.inl (vp_updL nu1 (n + 1) (lN 0))))), (x5, .inl (cI, hz_L g2, .inl (nf (va_up fo1 (n + 1) 0)))), (x6, .inl (cI, hz_M g2, .inl (nf sn1)))] := hD
    refine lv_aload_n hx hb d_S_add_82 rfl (lv_at hl 0 rfl) ?_
    refine va_get (D := (dC, dI)) (ci := 2) (v := .ref x6) (C := R_S) (T := T_S) (N := 7) hx hb hw in_S hown hK hP 0 rfl rfl 6 (by decide) (hw _ m_65) (fun _ h9 => h9) rfl d_S_add_83 ?_
    refine lv_aload_n hx hb d_S_add_86 rfl (lv_at hl 0 rfl) ?_
    refine lv_aload_n hx hb d_S_add_87 rfl (lv_at hl 0 rfl) ?_
    refine va_get (D := (dC, dI)) (ci := 2) (v := .ref x1) (C := R_S) (T := T_S) (N := 7) hx hb hw in_S hown hK hP 0 rfl rfl 1 (by decide) (hw _ m_56) (fun _ h9 => h9) rfl d_S_add_88 ?_
    refine lv_aload_n hx hb d_S_add_91 rfl (lv_at hl 0 rfl) ?_
    refine va_get (D := (dC, dI)) (ci := 2) (v := .int (nI (n + 1))) (C := R_S) (T := T_S) (N := 7) hx hb hw in_S hown hK hP 0 rfl rfl 0 (by decide) (hw _ m_54) (fun _ h9 => h9) rfl d_S_add_92 ?_
    refine fz_iald hx hb hK hP 1 0 rfl rfl (j := n + 1) (by omega) (by omega) d_S_add_95 ?_
    refine lv_lload_n hx hb d_S_add_96 rfl (lv_at hl 3 rfl) ?_
    have hU1 : hz_U n (va_up ow1 (n + 1) (t * 8 + kk)) (vp_updL ky1 (n + 1) k) := fun i j hi hi2 hj hj2 h1 h2 => by
      rw [va_up_ne _ _ (by omega), va_up_ne _ _ (by omega)] at h1
      rw [pk_uLn (by omega), pk_uLn (by omega)] at h2
      exact hU i j hi hi2 hj hj2 (by rw [← (hA1 i hi2).1, ← (hA1 j hj2).1]; exact h1) (by rw [← (hA1 i hi2).2.1, ← (hA1 j hj2).2.1]; exact h2)
    have hT3 : hz_T (hz_M g2) n (fun i => hz_h (hz_M g2) (va_up ow1 (n + 1) (t * 8 + kk) i) (vp_updL ky1 (n + 1) k i)) sn1 := hT1.congr (fun i h1 h2 => by rw [va_up_ne _ _ (by omega), pk_uLn (by omega)])
    have hO1 : ∀ i, i ≤ n → va_up ow1 (n + 1) (t * 8 + kk) i < 2 ^ 20 := fun i hi => by rw [va_up_ne _ _ (by omega), (hA1 i hi).1]; exact hO i hi
    refine QryI.callV (ci := 2) (q0 := 0) (c_slotOf l dC dI cI cL cB f x1 x2 x3 x4 x5 x6 (n + 1) (hz_L g2) (hz_M g2) (7 + 2 * g2) n ((va_up ow1 (n + 1) (t * 8 + kk)) (n + 1)) k (va_up ow1 (n + 1) (t * 8 + kk)) sn1 (vp_updL ky1 (n + 1) k) (by omega) (by omega) rfl (by omega) (by omega) (by rw [va_up_self]; omega) hO1 hU1 hT3) ⟨hx, hb, hml, hown, hw⟩ (fz_cwV 2 hw m_154 m_151 m_153 ms_1 m_3 rfl rfl (by decide +kernel) ⟨Nat.le_of_ble_eq_true rfl, Nat.le_of_ble_eq_true rfl⟩) hK hP [0, 1, 2, 6] rfl rfl rfl rfl rfl hl.1 rfl (Nat.le_of_ble_eq_true rfl) d_S_add_97 ⟨(by (try dsimp only); omega), (by (try dsimp only); omega)⟩ (fun r97 h97 => ?_)
    obtain ⟨d, hd, e97, hbb, hv⟩ := h97
    rw [va_up_self] at e97 hbb hv
    subst e97
    refine lv_aload_n hx hb d_S_add_100 rfl (lv_at hl 0 rfl) ?_
    refine va_get (D := (dC, dI)) (ci := 2) (v := .int (nI (n + 1))) (C := R_S) (T := T_S) (N := 7) hx hb hw in_S hown hK hP 0 rfl rfl 0 (by decide) (hw _ m_54) (fun _ h9 => h9) rfl d_S_add_101 ?_
    refine fz_iast hx hb hK hP hD hS 6 0 rfl rfl (j := (hz_h (hz_M g2) (t * 8 + kk) k + d) % (hz_M g2)) (Nat.mod_lt _ (by omega)) (by omega) d_S_add_104 (fun H locs hP hD hS => ?_)
    have hP : va_P (dC, dI) classes [(f, .inr (2, [.int (nI (n + 1)), .ref x1, .ref x2, .ref x3, .ref x4, .ref x5, .ref x6])), (x1, .inl (cI, hz_L g2, .inl (nf (va_up ow1 (n + 1) (t * 8 + kk))))), (x2, .inl (cL, hz_L g2, .inr (.inl (vp_updL ky1 (n + 1) k)))), (x3, .inl (cB, hz_L g2, .inl (nf (va_up kd1 (n + 1) 0)))), (x4, .inl (cL, hz_L g2, .inr (.inl (vp_updL nu1 (n + 1) (lN 0))))), (x5, .inl (cI, hz_L g2, .inl (nf (va_up fo1 (n + 1) 0)))), (x6, .inl (cI, hz_M g2, .inl (nf (va_up sn1 ((hz_h (hz_M g2) (t * 8 + kk) k + d) % (hz_M g2)) (n + 1)))))] H := hP
    have hD : va_D A [(f, .inr (2, [.int (nI (n + 1)), .ref x1, .ref x2, .ref x3, .ref x4, .ref x5, .ref x6])), (x1, .inl (cI, hz_L g2, .inl (nf (va_up ow1 (n + 1) (t * 8 + kk))))), (x2, .inl (cL, hz_L g2, .inr (.inl (vp_updL ky1 (n + 1) k)))), (x3, .inl (cB, hz_L g2, .inl (nf (va_up kd1 (n + 1) 0)))), (x4, .inl (cL, hz_L g2, .inr (.inl (vp_updL nu1 (n + 1) (lN 0))))), (x5, .inl (cI, hz_L g2, .inl (nf (va_up fo1 (n + 1) 0)))), (x6, .inl (cI, hz_M g2, .inl (nf (va_up sn1 ((hz_h (hz_M g2) (t * 8 + kk) k + d) % (hz_M g2)) (n + 1)))))] := hD
    refine lv_aload_n hx hb d_S_add_105 rfl (lv_at hl 0 rfl) ?_
    refine va_get (D := (dC, dI)) (ci := 2) (v := .int (nI (n + 1))) (C := R_S) (T := T_S) (N := 7) hx hb hw in_S hown hK hP 0 rfl rfl 0 (by decide) (hw _ m_54) (fun _ h9 => h9) rfl d_S_add_106 ?_
    have hpost : (nI (n + 1)) = nI (n + 1) ∧ (∀ i, i ≤ n → (va_up ow1 (n + 1) (t * 8 + kk)) i = ow i ∧ (vp_updL ky1 (n + 1) k) i = ky i ∧ (va_up kd1 (n + 1) 0) i = kd i ∧ (vp_updL nu1 (n + 1) (lN 0)) i = nu i ∧ (va_up fo1 (n + 1) 0) i = fo i) ∧ (va_up ow1 (n + 1) (t * 8 + kk)) (n + 1) = t * 8 + kk ∧ (vp_updL ky1 (n + 1) k) (n + 1) = k ∧ (va_up kd1 (n + 1) 0) (n + 1) = 0 ∧ (vp_updL nu1 (n + 1) (lN 0)) (n + 1) = 0 ∧ (va_up fo1 (n + 1) 0) (n + 1) = 0 ∧ (∀ i, (va_up kd1 (n + 1) 0) i < 128) ∧ hz_T (hz_M g2) (n + 1) (fun i => hz_h (hz_M g2) ((va_up ow1 (n + 1) (t * 8 + kk)) i) ((vp_updL ky1 (n + 1) k) i)) (va_up sn1 ((hz_h (hz_M g2) (t * 8 + kk) k + d) % (hz_M g2)) (n + 1)) := ⟨rfl, fun i hi => ⟨by rw [va_up_ne _ _ (by omega)]; exact (hA1 i hi).1, by rw [pk_uLn (by omega)]; exact (hA1 i hi).2.1, by rw [va_up_ne _ _ (by omega)]; exact (hA1 i hi).2.2.1, by rw [pk_uLn (by omega)]; exact (hA1 i hi).2.2.2.1, by rw [va_up_ne _ _ (by omega)]; exact (hA1 i hi).2.2.2.2⟩, va_up_self _ _ _, pk_uLs, va_up_self _ _ _, by rw [pk_uLs]; rfl, va_up_self _ _ _, fun i => by { unfold va_up; split <;> first | omega | exact hk1 i }, hz_T.add hT3 (fun _ _ _ => rfl) (by rw [va_up_self, pk_uLs]) hd hbb (by rw [hv]; exact (fnd_congr (fun j h1 h2 => ⟨by rw [va_up_ne _ _ (by omega)]; exact (hA1 j h2).1, by rw [pk_uLn (by omega)]; exact (hA1 j h2).2.1⟩)).trans hf)⟩
    exact hret (nI (n + 1)) (x1, x2, x3, x4, x5, x6, va_up ow1 (n + 1) (t * 8 + kk), vp_updL ky1 (n + 1) k, va_up kd1 (n + 1) 0, vp_updL nu1 (n + 1) (lN 0), va_up fo1 (n + 1) 0, va_up sn1 ((hz_h (hz_M g2) (t * 8 + kk) k + d) % (hz_M g2)) (n + 1)) _ _ 109 ls hpost hP hD hS d_S_add_109
  refine lv_aload_n hx hb d_S_add_0 rfl (lv_at hl 0 rfl) ?_
  refine va_get (D := (dC, dI)) (ci := 2) (v := .int (nI n)) (C := R_S) (T := T_S) (N := 7) hx hb hw in_S hown hK hP 0 rfl rfl 0 (by decide) (hw _ m_54) (fun _ h9 => h9) rfl d_S_add_1 ?_
  refine lv_iconst (v := nI 1) hx hb d_S_add_4 (by decide) ?_
  refine lv_iadd hx hb d_S_add_5 ?_
  refine fz_eqi (y := nI (n + 1)) (nI_add n 1) ?_
  refine lv_aload_n hx hb d_S_add_6 rfl (lv_at hl 0 rfl) ?_
  refine va_get (D := (dC, dI)) (ci := 2) (v := .ref a1) (C := R_S) (T := T_S) (N := 7) hx hb hw in_S hown hK hP 0 rfl rfl 1 (by decide) (hw _ m_56) (fun _ h9 => h9) rfl d_S_add_7 ?_
  refine fz_alen hx hb hK hP 1 0 rfl rfl d_S_add_10 ?_
  refine lv_icmp_lt (tgt := 18) hx hb d_S_add_11 (by decide) (fun c11 => ?_) (fun c11 => ?_)
  · have c11 : n + 1 < hz_L g := by exact (nI_ltI (by omega) (by omega)).mp c11
    have eg : g = g2 := by rcases hg2 with q | q <;> omega
    rw [eg] at hP hD
    have hT9 := hT
    rw [eg] at hT9
    have hP : va_P (dC, dI) classes [(f, .inr (2, [.int (nI n), .ref a1, .ref a2, .ref a3, .ref a4, .ref a5, .ref a6])), (a1, .inl (cI, hz_L g2, .inl (nf ow))), (a2, .inl (cL, hz_L g2, .inr (.inl ky))), (a3, .inl (cB, hz_L g2, .inl (nf kd))), (a4, .inl (cL, hz_L g2, .inr (.inl nu))), (a5, .inl (cI, hz_L g2, .inl (nf fo))), (a6, .inl (cI, hz_M g2, .inl (nf sn)))] s.heap := hP
    have hD : va_D A [(f, .inr (2, [.int (nI n), .ref a1, .ref a2, .ref a3, .ref a4, .ref a5, .ref a6])), (a1, .inl (cI, hz_L g2, .inl (nf ow))), (a2, .inl (cL, hz_L g2, .inr (.inl ky))), (a3, .inl (cB, hz_L g2, .inl (nf kd))), (a4, .inl (cL, hz_L g2, .inr (.inl nu))), (a5, .inl (cI, hz_L g2, .inl (nf fo))), (a6, .inl (cI, hz_M g2, .inl (nf sn)))] := hD
    refine W.widen (k := 6 * (g2 - g)) (n := Gs g2 - Gs g) (by omega) (by omega) ?_
    exact join_18 a1 a2 a3 a4 a5 a6 ow ky kd nu fo sn (fun i _ => ⟨rfl, rfl, rfl, rfl, rfl⟩) hkd hT9  _ _ hP hD hS ls (lv_sub hl [0, 1, 2, 3] rfl)
  · have c11 : ¬ n + 1 < hz_L g := fun h => c11 (by exact (nI_ltI (by omega) (by omega)).mpr h)
    have hg5 : g < 5 := by rcases hg2 with z | z <;> omega
    refine lv_aload_n hx hb d_S_add_14 rfl (lv_at hl 0 rfl) ?_
    have eg9 : g2 = g + 1 := by rcases hg2 with z | z <;> omega
    have eg8 : Gs g2 = Gs g + (5 * hz_L (g + 1) + hz_M (g + 1)) := by rw [eg9]; rfl
    refine StdV.callV (ci := 2) (q0 := 0) (wr := []) (c_Sgrow l dC dI cI cL cB f a1 a2 a3 a4 a5 a6 n g ow ky kd nu fo sn hg5 (by omega) hU hO hkd) ⟨hx, hb, hml, hown, hw⟩ (fz_cwV 0 hw m_172 m_169 m_171 ms_3 m_3 rfl rfl (by decide +kernel) ⟨Nat.le_of_ble_eq_true rfl, Nat.le_of_ble_eq_true rfl⟩) hK hP hD hS hA [0, 1, 2, 3, 4, 5, 6] [] rfl rfl (by decide) (by decide) (by decide) rfl rfl rfl rfl hl.1 rfl (Nat.le_of_ble_eq_true rfl) d_S_add_15 ⟨(by dsimp only; omega), (by dsimp only; omega)⟩ (fun u15 H locs h15 hP hD hS => ?_)
    obtain ⟨b115, b215, b315, b415, b515, b615, ow215, ky215, kd215, nu215, fo215, sn215⟩ := u15
    try dsimp only at h15
    have hP : va_P (dC, dI) classes [(f, .inr (2, [.int (nI n), .ref b115, .ref b215, .ref b315, .ref b415, .ref b515, .ref b615])), (b115, .inl (cI, hz_L (g + 1), .inl (nf ow215))), (b215, .inl (cL, hz_L (g + 1), .inr (.inl ky215))), (b315, .inl (cB, hz_L (g + 1), .inl (nf kd215))), (b415, .inl (cL, hz_L (g + 1), .inr (.inl nu215))), (b515, .inl (cI, hz_L (g + 1), .inl (nf fo215))), (b615, .inl (cI, hz_M (g + 1), .inl (nf sn215)))] H := hP
    have hD : va_D A [(f, .inr (2, [.int (nI n), .ref b115, .ref b215, .ref b315, .ref b415, .ref b515, .ref b615])), (b115, .inl (cI, hz_L (g + 1), .inl (nf ow215))), (b215, .inl (cL, hz_L (g + 1), .inr (.inl ky215))), (b315, .inl (cB, hz_L (g + 1), .inl (nf kd215))), (b415, .inl (cL, hz_L (g + 1), .inr (.inl nu215))), (b515, .inl (cI, hz_L (g + 1), .inl (nf fo215))), (b615, .inl (cI, hz_M (g + 1), .inl (nf sn215)))] := hD
    refine W.widen (k := 6) (n := 5 * hz_L (g + 1) + hz_M (g + 1)) (by omega) (by omega) ?_
    have eg : g + 1 = g2 := by rcases hg2 with q | q <;> omega
    obtain ⟨hA1, hk2, hT2⟩ := h15
    rw [eg] at hP hD hT2
    have hP : va_P (dC, dI) classes [(f, .inr (2, [.int (nI n), .ref b115, .ref b215, .ref b315, .ref b415, .ref b515, .ref b615])), (b115, .inl (cI, hz_L g2, .inl (nf ow215))), (b215, .inl (cL, hz_L g2, .inr (.inl ky215))), (b315, .inl (cB, hz_L g2, .inl (nf kd215))), (b415, .inl (cL, hz_L g2, .inr (.inl nu215))), (b515, .inl (cI, hz_L g2, .inl (nf fo215))), (b615, .inl (cI, hz_M g2, .inl (nf sn215)))] H := hP
    have hD : va_D A [(f, .inr (2, [.int (nI n), .ref b115, .ref b215, .ref b315, .ref b415, .ref b515, .ref b615])), (b115, .inl (cI, hz_L g2, .inl (nf ow215))), (b215, .inl (cL, hz_L g2, .inr (.inl ky215))), (b315, .inl (cB, hz_L g2, .inl (nf kd215))), (b415, .inl (cL, hz_L g2, .inr (.inl nu215))), (b515, .inl (cI, hz_L g2, .inl (nf fo215))), (b615, .inl (cI, hz_M g2, .inl (nf sn215)))] := hD
    refine W.widen (k := 6 * (g2 - g)) (n := Gs g2 - Gs g) (by omega) (by omega) ?_
    exact join_18 b115 b215 b315 b415 b515 b615 ow215 ky215 kd215 nu215 fo215 sn215 (fun i hi => hA1 i (by omega)) hk2 hT2  _ _ hP hD hS ls (lv_sub hl [0, 1, 2, 3] rfl)
end
section
set_option maxHeartbeats 4000000 in
set_option maxRecDepth 100000 in
/-- TableRows.has -/
theorem c_has (l : Launch) (dC : Nat → ClassId) (dI : Nat → Nat → Nat) (cI cL cB : ClassId) (tr : Nat) (y1 : Nat) (y2 : Nat) (y3 : Nat) (y4 : Nat) (y5 : Nat) (nT : Nat) (x : Int32) (hn : nT ≤ 30000) : QryI l y_T_has (wd y_T_has b_T_has 2 (some .boolean)) 0 0 (dC, dI) classes (tyK cI cL cB) [.ref tr, .int x] [(tr, .inr (1, [.int (nI nT), .ref y1, .ref y2, .ref y3, .ref y4, .ref y5]))] (fun r : Int32 => ∃ b, b ≤ 1 ∧ r = nI b ∧ (b = 1 ↔ okT nT x)) := by
  refine QryZ.mk (cc := b_T_has) (maxL := 2) (by decide) rfl (Nat.le_of_ble_eq_true rfl) ?_
  intro p e s m below meth c Z ls hx hb hml hown hts hP hK hret hl
  have hP : va_P (dC, dI) classes [(tr, .inr (1, [.int (nI nT), .ref y1, .ref y2, .ref y3, .ref y4, .ref y5]))] s.heap := hP
  have hown : s.vm.findClass R_T = some m.cls := hown
  have hw : ∀ x ∈ WALL, x.before _ s = true := fun x h => hts x (List.mem_cons_of_mem _ h)
  have hl : lv_has ls 2 [(0, .ref tr), (1, .int x)] := hl
  refine lv_iload_n hx hb d_T_has_0 rfl (lv_at hl 1 rfl) ?_
  refine lv_iconst (v := nI 1) hx hb d_T_has_1 (by decide) ?_
  refine lv_icmp_lt (tgt := 17) hx hb d_T_has_2 (by decide) (fun c2 => ?_) (fun c2 => ?_)
  · refine lv_iconst (v := nI 0) hx hb d_T_has_17 (by decide) ?_
    exact hret (nI 0) 18 ls (Or.inl rfl) ⟨0, by omega, rfl, fun h => absurd h (by omega), fun h => absurd h (okT_lt (by omega) c2)⟩ d_T_has_18
  · refine lv_iload_n hx hb d_T_has_5 rfl (lv_at hl 1 rfl) ?_
    refine lv_aload_n hx hb d_T_has_6 rfl (lv_at hl 0 rfl) ?_
    refine va_get (D := (dC, dI)) (ci := 1) (v := .int (nI nT)) (C := R_T) (T := T_T) (N := 6) hx hb hw in_T hown hK hP 0 rfl rfl 0 (by decide) (hw _ m_22) (fun _ h9 => h9) rfl d_T_has_7 ?_
    refine lv_icmp_gt (tgt := 17) hx hb d_T_has_10 (by decide) (fun c10 => ?_) (fun c10 => ?_)
    · refine lv_iconst (v := nI 0) hx hb d_T_has_17 (by decide) ?_
      exact hret (nI 0) 18 ls (Or.inl rfl) ⟨0, by omega, rfl, fun h => absurd h (by omega), fun h => absurd h (okT_gt (by omega) c10)⟩ d_T_has_18
    · refine lv_iconst (v := nI 1) hx hb d_T_has_13 (by decide) ?_
      refine lv_goto (tgt := 18) hx hb d_T_has_14 (by decide) ?_
      exact hret (nI 1) 18 ls (Or.inr rfl) ⟨1, by omega, rfl, fun _ => okT_of (by omega) c2 c10, fun _ => rfl⟩ d_T_has_18
set_option maxHeartbeats 4000000 in
set_option maxRecDepth 100000 in
/-- TableRows.forget -/
theorem c_Tforget (l : Launch) (dC : Nat → ClassId) (dI : Nat → Nat → Nat) (cI cL cB : ClassId) (tr : Nat) (y1 : Nat) (y2 : Nat) (y3 : Nat) (y4 : Nat) (y5 : Nat) (nT : Nat)  : StdV l y_T_forget (wd y_T_forget b_T_forget 1 none) 0 0 0 0 (dC, dI) classes (tyK cI cL cB) [.ref tr] [(tr, .inr (1, [.int (nI nT), .ref y1, .ref y2, .ref y3, .ref y4, .ref y5]))] (fun (u : Unit) => True) (fun (u : Unit) => [(tr, .inr (1, [.int (nI 0), .ref y1, .ref y2, .ref y3, .ref y4, .ref y5]))]) := by
  refine StdV.mk (cc := b_T_forget) (maxL := 1) (by decide) rfl (Nat.le_of_ble_eq_true rfl) ?_
  intro p e s m below meth c A Z ls hx hb hml hown hts hin hP hK hD hA hS hret hl
  have hown : s.vm.findClass R_T = some m.cls := hown
  have hw : ∀ x ∈ WALL, x.before _ s = true := fun x h => hts x (List.mem_cons_of_mem _ h)
  have hl : lv_has ls 1 [(0, .ref tr)] := hl
  refine lv_aload_n hx hb d_T_forget_0 rfl (lv_at hl 0 rfl) ?_
  refine lv_iconst (v := nI 0) hx hb d_T_forget_1 (by decide) ?_
  refine va_put (D := (dC, dI)) (ci := 1) (v := .int (nI 0)) (ty := .int) (C := R_T) (T := T_T) (N := 6) hx hb hw in_T ty_T tyok_T nn_T hown hK hP hD hS 0 rfl rfl 0 (by decide) (hw _ m_22) (fun _ h9 => h9) rfl (by decide +kernel) rfl rfl (Nat.le_of_ble_eq_true rfl) d_T_forget_2 (fun H locs hP hD hS => ?_)
  have hP : va_P (dC, dI) classes [(tr, .inr (1, [.int (nI 0), .ref y1, .ref y2, .ref y3, .ref y4, .ref y5]))] H := hP
  have hD : va_D A [(tr, .inr (1, [.int (nI 0), .ref y1, .ref y2, .ref y3, .ref y4, .ref y5]))] := hD
  exact hret () _ _ 5 ls trivial hP hD hS d_T_forget_5
set_option maxHeartbeats 4000000 in
set_option maxRecDepth 100000 in
/-- TableRows.grow -/
theorem c_Tgrow (l : Launch) (dC : Nat → ClassId) (dI : Nat → Nat → Nat) (cI cL cB : ClassId) (tr : Nat) (y1 : Nat) (y2 : Nat) (y3 : Nat) (y4 : Nat) (y5 : Nat) (nT : Nat) (gt : Nat) (fi : Nat → Nat) (la : Nat → Nat) (kc : Nat → Nat) (vc : Nat → Nat) (bo : Nat → Nat) (hg : gt < 11) : StdV l y_T_grow (wd y_T_grow b_T_grow 2 none) 2 50 5 (5 * hz_R (gt + 1)) (dC, dI) classes (tyK cI cL cB) [.ref tr] [(tr, .inr (1, [.int (nI nT), .ref y1, .ref y2, .ref y3, .ref y4, .ref y5])), (y1, .inl (cI, hz_R gt, .inl (nf fi))), (y2, .inl (cI, hz_R gt, .inl (nf la))), (y3, .inl (cI, hz_R gt, .inl (nf kc))), (y4, .inl (cI, hz_R gt, .inl (nf vc))), (y5, .inl (cI, hz_R gt, .inl (nf bo)))] (fun (u : Nat × Nat × Nat × Nat × Nat × (Nat → Nat) × (Nat → Nat) × (Nat → Nat) × (Nat → Nat) × (Nat → Nat)) => (∀ i, i < hz_R gt → u.2.2.2.2.2.1 i = fi i ∧ u.2.2.2.2.2.2.1 i = la i ∧ u.2.2.2.2.2.2.2.1 i = kc i ∧ u.2.2.2.2.2.2.2.2.1 i = vc i ∧ u.2.2.2.2.2.2.2.2.2 i = bo i)) (fun (u : Nat × Nat × Nat × Nat × Nat × (Nat → Nat) × (Nat → Nat) × (Nat → Nat) × (Nat → Nat) × (Nat → Nat)) => [(tr, .inr (1, [.int (nI nT), .ref u.1, .ref u.2.1, .ref u.2.2.1, .ref u.2.2.2.1, .ref u.2.2.2.2.1])), (u.1, .inl (cI, hz_R (gt + 1), .inl (nf u.2.2.2.2.2.1))), (u.2.1, .inl (cI, hz_R (gt + 1), .inl (nf u.2.2.2.2.2.2.1))), (u.2.2.1, .inl (cI, hz_R (gt + 1), .inl (nf u.2.2.2.2.2.2.2.1))), (u.2.2.2.1, .inl (cI, hz_R (gt + 1), .inl (nf u.2.2.2.2.2.2.2.2.1))), (u.2.2.2.2.1, .inl (cI, hz_R (gt + 1), .inl (nf u.2.2.2.2.2.2.2.2.2)))]) := by
  have hg1 := hz_Rgen gt (by omega)
  have hg2 := hz_Rgen (gt + 1) (by omega)
  obtain ⟨hg3, hg5⟩ := hz_Rgrow gt hg
  refine StdV.mk (cc := b_T_grow) (maxL := 2) (by decide) rfl (Nat.le_of_ble_eq_true rfl) ?_
  intro p e s m below meth c A Z ls hx hb hml hown hts hin hP hK hD hA hS hret hl
  have hown : s.vm.findClass R_T = some m.cls := hown
  have hw : ∀ x ∈ WALL, x.before _ s = true := fun x h => hts x (List.mem_cons_of_mem _ h)
  have hl : lv_has ls 2 [(0, .ref tr)] := hl
  refine lv_aload_n hx hb d_T_grow_0 rfl (lv_at hl 0 rfl) ?_
  refine va_get (D := (dC, dI)) (ci := 1) (v := .ref y1) (C := R_T) (T := T_T) (N := 6) hx hb hw in_T hown hK hP 0 rfl rfl 1 (by decide) (hw _ m_24) (fun _ h9 => h9) rfl d_T_grow_1 ?_
  refine fz_alen hx hb hK hP 1 0 rfl rfl d_T_grow_4 ?_
  refine lv_iconst (v := nI 2) hx hb d_T_grow_5 (by decide) ?_
  refine lv_imul hx hb d_T_grow_6 ?_
  refine fz_eqi (y := nI ((hz_R gt) * 2)) (pk_mul (hz_R gt) 2) ?_
  refine lv_sipush (v := nI 30001) hx hb d_T_grow_7 (by decide) ?_
  refine va_mmin hx hb (hml.trans hl.1.symm) hown (hw _ m_108) (hw _ m_109) (hw _ m_5) (hw _ m_110) (Nat.le_of_ble_eq_true rfl) (Nat.le_of_ble_eq_true rfl) (by (try dsimp only); omega) (by (try dsimp only); omega) d_T_grow_10 ?_
  refine fz_eqi (y := nI (hz_R (gt + 1))) (fz_minN (by omega) (by omega) hg3) ?_
  refine lv_istore_n (lv' := [(1, .int (nI (hz_R (gt + 1)))), (0, .ref tr)]) hx hb d_T_grow_13 rfl hl (by decide) rfl (fun ls hl => ?_)
  refine lv_aload_n hx hb d_T_grow_14 rfl (lv_at hl 1 rfl) ?_
  refine lv_aload_n hx hb d_T_grow_15 rfl (lv_at hl 1 rfl) ?_
  refine va_get (D := (dC, dI)) (ci := 1) (v := .ref y1) (C := R_T) (T := T_T) (N := 6) hx hb hw in_T hown hK hP 0 rfl rfl 1 (by decide) (hw _ m_24) (fun _ h9 => h9) rfl d_T_grow_16 ?_
  refine lv_iload_n hx hb d_T_grow_19 rfl (lv_at hl 0 rfl) ?_
  refine StdR.callS (wr := [(tr, .inr (1, [.int (nI nT), .ref y1, .ref y2, .ref y3, .ref y4, .ref y5])), (y2, .inl (cI, hz_R gt, .inl (nf la))), (y3, .inl (cI, hz_R gt, .inl (nf kc))), (y4, .inl (cI, hz_R gt, .inl (nf vc))), (y5, .inl (cI, hz_R gt, .inl (nf bo)))]) (c_copyOf_i l dC dI cI cL cB y1 (hz_R gt) (hz_R (gt + 1)) fi (by omega) (by omega)) ⟨hx, hb, hml, hown, hw⟩ (fz_cwS 2 hw m_113 m_111 m_112 m_6 rfl rfl (by decide +kernel) ⟨Nat.le_of_ble_eq_true rfl, Nat.le_of_ble_eq_true rfl⟩) hK hP hD hS hA [1] [0, 2, 3, 4, 5] rfl rfl (by decide) (by decide) (by decide) rfl hl.1 rfl (Nat.le_of_ble_eq_true rfl) d_T_grow_20 ⟨(by (try dsimp only); omega), (by (try dsimp only); omega)⟩ (fun r20 u20 H locs h20 hP hD hS => ?_)
  try dsimp only at h20
  have hP : va_P (dC, dI) classes [(tr, .inr (1, [.int (nI nT), .ref y1, .ref y2, .ref y3, .ref y4, .ref y5])), (y2, .inl (cI, hz_R gt, .inl (nf la))), (y3, .inl (cI, hz_R gt, .inl (nf kc))), (y4, .inl (cI, hz_R gt, .inl (nf vc))), (y5, .inl (cI, hz_R gt, .inl (nf bo))), (y1, .inl (cI, (hz_R gt), .inl (nf fi))), (r20, .inl (cI, (hz_R (gt + 1)), .inl (nf (cpz fi (fun _ => 0) (hz_R gt)))))] H := hP
  have hD : va_D A [(tr, .inr (1, [.int (nI nT), .ref y1, .ref y2, .ref y3, .ref y4, .ref y5])), (y2, .inl (cI, hz_R gt, .inl (nf la))), (y3, .inl (cI, hz_R gt, .inl (nf kc))), (y4, .inl (cI, hz_R gt, .inl (nf vc))), (y5, .inl (cI, hz_R gt, .inl (nf bo))), (y1, .inl (cI, (hz_R gt), .inl (nf fi))), (r20, .inl (cI, (hz_R (gt + 1)), .inl (nf (cpz fi (fun _ => 0) (hz_R gt)))))] := hD
  refine W.widen (k := 1) (n := (hz_R (gt + 1))) (by omega) (by omega) ?_
  obtain ⟨fi2, efi2⟩ : ∃ z, z = cpz fi (fun _ => 0) (hz_R gt) := ⟨_, rfl⟩
  rw [← efi2] at hP hD
  have hP : va_P (dC, dI) classes [(tr, .inr (1, [.int (nI nT), .ref y1, .ref y2, .ref y3, .ref y4, .ref y5])), (y2, .inl (cI, hz_R gt, .inl (nf la))), (y3, .inl (cI, hz_R gt, .inl (nf kc))), (y4, .inl (cI, hz_R gt, .inl (nf vc))), (y5, .inl (cI, hz_R gt, .inl (nf bo))), (y1, .inl (cI, (hz_R gt), .inl (nf fi))), (r20, .inl (cI, (hz_R (gt + 1)), .inl (nf fi2)))] H := hP
  have hD : va_D A [(tr, .inr (1, [.int (nI nT), .ref y1, .ref y2, .ref y3, .ref y4, .ref y5])), (y2, .inl (cI, hz_R gt, .inl (nf la))), (y3, .inl (cI, hz_R gt, .inl (nf kc))), (y4, .inl (cI, hz_R gt, .inl (nf vc))), (y5, .inl (cI, hz_R gt, .inl (nf bo))), (y1, .inl (cI, (hz_R gt), .inl (nf fi))), (r20, .inl (cI, (hz_R (gt + 1)), .inl (nf fi2)))] := hD
  refine va_put (D := (dC, dI)) (ci := 1) (v := .ref r20) (ty := .array .int) (C := R_T) (T := T_T) (N := 6) hx hb hw in_T ty_T tyok_T nn_T hown hK hP hD hS 0 rfl rfl 1 (by decide) (hw _ m_24) (fun _ h9 => h9) rfl (by decide +kernel) rfl rfl (Nat.le_of_ble_eq_true rfl) d_T_grow_23 (fun H locs hP hD hS => ?_)
  have hP : va_P (dC, dI) classes [(tr, .inr (1, [.int (nI nT), .ref r20, .ref y2, .ref y3, .ref y4, .ref y5])), (y2, .inl (cI, hz_R gt, .inl (nf la))), (y3, .inl (cI, hz_R gt, .inl (nf kc))), (y4, .inl (cI, hz_R gt, .inl (nf vc))), (y5, .inl (cI, hz_R gt, .inl (nf bo))), (y1, .inl (cI, (hz_R gt), .inl (nf fi))), (r20, .inl (cI, (hz_R (gt + 1)), .inl (nf fi2)))] H := hP
  have hD : va_D A [(tr, .inr (1, [.int (nI nT), .ref r20, .ref y2, .ref y3, .ref y4, .ref y5])), (y2, .inl (cI, hz_R gt, .inl (nf la))), (y3, .inl (cI, hz_R gt, .inl (nf kc))), (y4, .inl (cI, hz_R gt, .inl (nf vc))), (y5, .inl (cI, hz_R gt, .inl (nf bo))), (y1, .inl (cI, (hz_R gt), .inl (nf fi))), (r20, .inl (cI, (hz_R (gt + 1)), .inl (nf fi2)))] := hD
  refine lv_aload_n hx hb d_T_grow_26 rfl (lv_at hl 1 rfl) ?_
  refine lv_aload_n hx hb d_T_grow_27 rfl (lv_at hl 1 rfl) ?_
  refine va_get (D := (dC, dI)) (ci := 1) (v := .ref y2) (C := R_T) (T := T_T) (N := 6) hx hb hw in_T hown hK hP 0 rfl rfl 2 (by decide) (hw _ m_26) (fun _ h9 => h9) rfl d_T_grow_28 ?_
  refine lv_iload_n hx hb d_T_grow_31 rfl (lv_at hl 0 rfl) ?_
  refine StdR.callS (wr := [(tr, .inr (1, [.int (nI nT), .ref r20, .ref y2, .ref y3, .ref y4, .ref y5])), (y3, .inl (cI, hz_R gt, .inl (nf kc))), (y4, .inl (cI, hz_R gt, .inl (nf vc))), (y5, .inl (cI, hz_R gt, .inl (nf bo))), (y1, .inl (cI, (hz_R gt), .inl (nf fi))), (r20, .inl (cI, (hz_R (gt + 1)), .inl (nf fi2)))]) (c_copyOf_i l dC dI cI cL cB y2 (hz_R gt) (hz_R (gt + 1)) la (by omega) (by omega)) ⟨hx, hb, hml, hown, hw⟩ (fz_cwS 2 hw m_113 m_111 m_112 m_6 rfl rfl (by decide +kernel) ⟨Nat.le_of_ble_eq_true rfl, Nat.le_of_ble_eq_true rfl⟩) hK hP hD hS hA [1] [0, 2, 3, 4, 5, 6] rfl rfl (by decide) (by decide) (by decide) rfl hl.1 rfl (Nat.le_of_ble_eq_true rfl) d_T_grow_32 ⟨(by (try dsimp only); omega), (by (try dsimp only); omega)⟩ (fun r32 u32 H locs h32 hP hD hS => ?_)
  try dsimp only at h32
  have hP : va_P (dC, dI) classes [(tr, .inr (1, [.int (nI nT), .ref r20, .ref y2, .ref y3, .ref y4, .ref y5])), (y3, .inl (cI, hz_R gt, .inl (nf kc))), (y4, .inl (cI, hz_R gt, .inl (nf vc))), (y5, .inl (cI, hz_R gt, .inl (nf bo))), (y1, .inl (cI, (hz_R gt), .inl (nf fi))), (r20, .inl (cI, (hz_R (gt + 1)), .inl (nf fi2))), (y2, .inl (cI, (hz_R gt), .inl (nf la))), (r32, .inl (cI, (hz_R (gt + 1)), .inl (nf (cpz la (fun _ => 0) (hz_R gt)))))] H := hP
  have hD : va_D A [(tr, .inr (1, [.int (nI nT), .ref r20, .ref y2, .ref y3, .ref y4, .ref y5])), (y3, .inl (cI, hz_R gt, .inl (nf kc))), (y4, .inl (cI, hz_R gt, .inl (nf vc))), (y5, .inl (cI, hz_R gt, .inl (nf bo))), (y1, .inl (cI, (hz_R gt), .inl (nf fi))), (r20, .inl (cI, (hz_R (gt + 1)), .inl (nf fi2))), (y2, .inl (cI, (hz_R gt), .inl (nf la))), (r32, .inl (cI, (hz_R (gt + 1)), .inl (nf (cpz la (fun _ => 0) (hz_R gt)))))] := hD
  refine W.widen (k := 2) (n := (hz_R (gt + 1)) + (hz_R (gt + 1))) (by omega) (by omega) ?_
  obtain ⟨la2, ela2⟩ : ∃ z, z = cpz la (fun _ => 0) (hz_R gt) := ⟨_, rfl⟩
  rw [← ela2] at hP hD
  have hP : va_P (dC, dI) classes [(tr, .inr (1, [.int (nI nT), .ref r20, .ref y2, .ref y3, .ref y4, .ref y5])), (y3, .inl (cI, hz_R gt, .inl (nf kc))), (y4, .inl (cI, hz_R gt, .inl (nf vc))), (y5, .inl (cI, hz_R gt, .inl (nf bo))), (y1, .inl (cI, (hz_R gt), .inl (nf fi))), (r20, .inl (cI, (hz_R (gt + 1)), .inl (nf fi2))), (y2, .inl (cI, (hz_R gt), .inl (nf la))), (r32, .inl (cI, (hz_R (gt + 1)), .inl (nf la2)))] H := hP
  have hD : va_D A [(tr, .inr (1, [.int (nI nT), .ref r20, .ref y2, .ref y3, .ref y4, .ref y5])), (y3, .inl (cI, hz_R gt, .inl (nf kc))), (y4, .inl (cI, hz_R gt, .inl (nf vc))), (y5, .inl (cI, hz_R gt, .inl (nf bo))), (y1, .inl (cI, (hz_R gt), .inl (nf fi))), (r20, .inl (cI, (hz_R (gt + 1)), .inl (nf fi2))), (y2, .inl (cI, (hz_R gt), .inl (nf la))), (r32, .inl (cI, (hz_R (gt + 1)), .inl (nf la2)))] := hD
  refine va_put (D := (dC, dI)) (ci := 1) (v := .ref r32) (ty := .array .int) (C := R_T) (T := T_T) (N := 6) hx hb hw in_T ty_T tyok_T nn_T hown hK hP hD hS 0 rfl rfl 2 (by decide) (hw _ m_26) (fun _ h9 => h9) rfl (by decide +kernel) rfl rfl (Nat.le_of_ble_eq_true rfl) d_T_grow_35 (fun H locs hP hD hS => ?_)
  have hP : va_P (dC, dI) classes [(tr, .inr (1, [.int (nI nT), .ref r20, .ref r32, .ref y3, .ref y4, .ref y5])), (y3, .inl (cI, hz_R gt, .inl (nf kc))), (y4, .inl (cI, hz_R gt, .inl (nf vc))), (y5, .inl (cI, hz_R gt, .inl (nf bo))), (y1, .inl (cI, (hz_R gt), .inl (nf fi))), (r20, .inl (cI, (hz_R (gt + 1)), .inl (nf fi2))), (y2, .inl (cI, (hz_R gt), .inl (nf la))), (r32, .inl (cI, (hz_R (gt + 1)), .inl (nf la2)))] H := hP
  have hD : va_D A [(tr, .inr (1, [.int (nI nT), .ref r20, .ref r32, .ref y3, .ref y4, .ref y5])), (y3, .inl (cI, hz_R gt, .inl (nf kc))), (y4, .inl (cI, hz_R gt, .inl (nf vc))), (y5, .inl (cI, hz_R gt, .inl (nf bo))), (y1, .inl (cI, (hz_R gt), .inl (nf fi))), (r20, .inl (cI, (hz_R (gt + 1)), .inl (nf fi2))), (y2, .inl (cI, (hz_R gt), .inl (nf la))), (r32, .inl (cI, (hz_R (gt + 1)), .inl (nf la2)))] := hD
  refine lv_aload_n hx hb d_T_grow_38 rfl (lv_at hl 1 rfl) ?_
  refine lv_aload_n hx hb d_T_grow_39 rfl (lv_at hl 1 rfl) ?_
  refine va_get (D := (dC, dI)) (ci := 1) (v := .ref y3) (C := R_T) (T := T_T) (N := 6) hx hb hw in_T hown hK hP 0 rfl rfl 3 (by decide) (hw _ m_28) (fun _ h9 => h9) rfl d_T_grow_40 ?_
  refine lv_iload_n hx hb d_T_grow_43 rfl (lv_at hl 0 rfl) ?_
  refine StdR.callS (wr := [(tr, .inr (1, [.int (nI nT), .ref r20, .ref r32, .ref y3, .ref y4, .ref y5])), (y4, .inl (cI, hz_R gt, .inl (nf vc))), (y5, .inl (cI, hz_R gt, .inl (nf bo))), (y1, .inl (cI, (hz_R gt), .inl (nf fi))), (r20, .inl (cI, (hz_R (gt + 1)), .inl (nf fi2))), (y2, .inl (cI, (hz_R gt), .inl (nf la))), (r32, .inl (cI, (hz_R (gt + 1)), .inl (nf la2)))]) (c_copyOf_i l dC dI cI cL cB y3 (hz_R gt) (hz_R (gt + 1)) kc (by omega) (by omega)) ⟨hx, hb, hml, hown, hw⟩ (fz_cwS 2 hw m_113 m_111 m_112 m_6 rfl rfl (by decide +kernel) ⟨Nat.le_of_ble_eq_true rfl, Nat.le_of_ble_eq_true rfl⟩) hK hP hD hS hA [1] [0, 2, 3, 4, 5, 6, 7] rfl rfl (by decide) (by decide) (by decide) rfl hl.1 rfl (Nat.le_of_ble_eq_true rfl) d_T_grow_44 ⟨(by (try dsimp only); omega), (by (try dsimp only); omega)⟩ (fun r44 u44 H locs h44 hP hD hS => ?_)
  try dsimp only at h44
  have hP : va_P (dC, dI) classes [(tr, .inr (1, [.int (nI nT), .ref r20, .ref r32, .ref y3, .ref y4, .ref y5])), (y4, .inl (cI, hz_R gt, .inl (nf vc))), (y5, .inl (cI, hz_R gt, .inl (nf bo))), (y1, .inl (cI, (hz_R gt), .inl (nf fi))), (r20, .inl (cI, (hz_R (gt + 1)), .inl (nf fi2))), (y2, .inl (cI, (hz_R gt), .inl (nf la))), (r32, .inl (cI, (hz_R (gt + 1)), .inl (nf la2))), (y3, .inl (cI, (hz_R gt), .inl (nf kc))), (r44, .inl (cI, (hz_R (gt + 1)), .inl (nf (cpz kc (fun _ => 0) (hz_R gt)))))] H := hP
  have hD : va_D A [(tr, .inr (1, [.int (nI nT), .ref r20, .ref r32, .ref y3, .ref y4, .ref y5])), (y4, .inl (cI, hz_R gt, .inl (nf vc))), (y5, .inl (cI, hz_R gt, .inl (nf bo))), (y1, .inl (cI, (hz_R gt), .inl (nf fi))), (r20, .inl (cI, (hz_R (gt + 1)), .inl (nf fi2))), (y2, .inl (cI, (hz_R gt), .inl (nf la))), (r32, .inl (cI, (hz_R (gt + 1)), .inl (nf la2))), (y3, .inl (cI, (hz_R gt), .inl (nf kc))), (r44, .inl (cI, (hz_R (gt + 1)), .inl (nf (cpz kc (fun _ => 0) (hz_R gt)))))] := hD
  refine W.widen (k := 3) (n := ((hz_R (gt + 1)) + (hz_R (gt + 1))) + (hz_R (gt + 1))) (by omega) (by omega) ?_
  obtain ⟨kc2, ekc2⟩ : ∃ z, z = cpz kc (fun _ => 0) (hz_R gt) := ⟨_, rfl⟩
  rw [← ekc2] at hP hD
  have hP : va_P (dC, dI) classes [(tr, .inr (1, [.int (nI nT), .ref r20, .ref r32, .ref y3, .ref y4, .ref y5])), (y4, .inl (cI, hz_R gt, .inl (nf vc))), (y5, .inl (cI, hz_R gt, .inl (nf bo))), (y1, .inl (cI, (hz_R gt), .inl (nf fi))), (r20, .inl (cI, (hz_R (gt + 1)), .inl (nf fi2))), (y2, .inl (cI, (hz_R gt), .inl (nf la))), (r32, .inl (cI, (hz_R (gt + 1)), .inl (nf la2))), (y3, .inl (cI, (hz_R gt), .inl (nf kc))), (r44, .inl (cI, (hz_R (gt + 1)), .inl (nf kc2)))] H := hP
  have hD : va_D A [(tr, .inr (1, [.int (nI nT), .ref r20, .ref r32, .ref y3, .ref y4, .ref y5])), (y4, .inl (cI, hz_R gt, .inl (nf vc))), (y5, .inl (cI, hz_R gt, .inl (nf bo))), (y1, .inl (cI, (hz_R gt), .inl (nf fi))), (r20, .inl (cI, (hz_R (gt + 1)), .inl (nf fi2))), (y2, .inl (cI, (hz_R gt), .inl (nf la))), (r32, .inl (cI, (hz_R (gt + 1)), .inl (nf la2))), (y3, .inl (cI, (hz_R gt), .inl (nf kc))), (r44, .inl (cI, (hz_R (gt + 1)), .inl (nf kc2)))] := hD
  refine va_put (D := (dC, dI)) (ci := 1) (v := .ref r44) (ty := .array .int) (C := R_T) (T := T_T) (N := 6) hx hb hw in_T ty_T tyok_T nn_T hown hK hP hD hS 0 rfl rfl 3 (by decide) (hw _ m_28) (fun _ h9 => h9) rfl (by decide +kernel) rfl rfl (Nat.le_of_ble_eq_true rfl) d_T_grow_47 (fun H locs hP hD hS => ?_)
  have hP : va_P (dC, dI) classes [(tr, .inr (1, [.int (nI nT), .ref r20, .ref r32, .ref r44, .ref y4, .ref y5])), (y4, .inl (cI, hz_R gt, .inl (nf vc))), (y5, .inl (cI, hz_R gt, .inl (nf bo))), (y1, .inl (cI, (hz_R gt), .inl (nf fi))), (r20, .inl (cI, (hz_R (gt + 1)), .inl (nf fi2))), (y2, .inl (cI, (hz_R gt), .inl (nf la))), (r32, .inl (cI, (hz_R (gt + 1)), .inl (nf la2))), (y3, .inl (cI, (hz_R gt), .inl (nf kc))), (r44, .inl (cI, (hz_R (gt + 1)), .inl (nf kc2)))] H := hP
  have hD : va_D A [(tr, .inr (1, [.int (nI nT), .ref r20, .ref r32, .ref r44, .ref y4, .ref y5])), (y4, .inl (cI, hz_R gt, .inl (nf vc))), (y5, .inl (cI, hz_R gt, .inl (nf bo))), (y1, .inl (cI, (hz_R gt), .inl (nf fi))), (r20, .inl (cI, (hz_R (gt + 1)), .inl (nf fi2))), (y2, .inl (cI, (hz_R gt), .inl (nf la))), (r32, .inl (cI, (hz_R (gt + 1)), .inl (nf la2))), (y3, .inl (cI, (hz_R gt), .inl (nf kc))), (r44, .inl (cI, (hz_R (gt + 1)), .inl (nf kc2)))] := hD
  refine lv_aload_n hx hb d_T_grow_50 rfl (lv_at hl 1 rfl) ?_
  refine lv_aload_n hx hb d_T_grow_51 rfl (lv_at hl 1 rfl) ?_
  refine va_get (D := (dC, dI)) (ci := 1) (v := .ref y4) (C := R_T) (T := T_T) (N := 6) hx hb hw in_T hown hK hP 0 rfl rfl 4 (by decide) (hw _ m_30) (fun _ h9 => h9) rfl d_T_grow_52 ?_
  refine lv_iload_n hx hb d_T_grow_55 rfl (lv_at hl 0 rfl) ?_
  refine StdR.callS (wr := [(tr, .inr (1, [.int (nI nT), .ref r20, .ref r32, .ref r44, .ref y4, .ref y5])), (y5, .inl (cI, hz_R gt, .inl (nf bo))), (y1, .inl (cI, (hz_R gt), .inl (nf fi))), (r20, .inl (cI, (hz_R (gt + 1)), .inl (nf fi2))), (y2, .inl (cI, (hz_R gt), .inl (nf la))), (r32, .inl (cI, (hz_R (gt + 1)), .inl (nf la2))), (y3, .inl (cI, (hz_R gt), .inl (nf kc))), (r44, .inl (cI, (hz_R (gt + 1)), .inl (nf kc2)))]) (c_copyOf_i l dC dI cI cL cB y4 (hz_R gt) (hz_R (gt + 1)) vc (by omega) (by omega)) ⟨hx, hb, hml, hown, hw⟩ (fz_cwS 2 hw m_113 m_111 m_112 m_6 rfl rfl (by decide +kernel) ⟨Nat.le_of_ble_eq_true rfl, Nat.le_of_ble_eq_true rfl⟩) hK hP hD hS hA [1] [0, 2, 3, 4, 5, 6, 7, 8] rfl rfl (by decide) (by decide) (by decide) rfl hl.1 rfl (Nat.le_of_ble_eq_true rfl) d_T_grow_56 ⟨(by (try dsimp only); omega), (by (try dsimp only); omega)⟩ (fun r56 u56 H locs h56 hP hD hS => ?_)
  try dsimp only at h56
  have hP : va_P (dC, dI) classes [(tr, .inr (1, [.int (nI nT), .ref r20, .ref r32, .ref r44, .ref y4, .ref y5])), (y5, .inl (cI, hz_R gt, .inl (nf bo))), (y1, .inl (cI, (hz_R gt), .inl (nf fi))), (r20, .inl (cI, (hz_R (gt + 1)), .inl (nf fi2))), (y2, .inl (cI, (hz_R gt), .inl (nf la))), (r32, .inl (cI, (hz_R (gt + 1)), .inl (nf la2))), (y3, .inl (cI, (hz_R gt), .inl (nf kc))), (r44, .inl (cI, (hz_R (gt + 1)), .inl (nf kc2))), (y4, .inl (cI, (hz_R gt), .inl (nf vc))), (r56, .inl (cI, (hz_R (gt + 1)), .inl (nf (cpz vc (fun _ => 0) (hz_R gt)))))] H := hP
  have hD : va_D A [(tr, .inr (1, [.int (nI nT), .ref r20, .ref r32, .ref r44, .ref y4, .ref y5])), (y5, .inl (cI, hz_R gt, .inl (nf bo))), (y1, .inl (cI, (hz_R gt), .inl (nf fi))), (r20, .inl (cI, (hz_R (gt + 1)), .inl (nf fi2))), (y2, .inl (cI, (hz_R gt), .inl (nf la))), (r32, .inl (cI, (hz_R (gt + 1)), .inl (nf la2))), (y3, .inl (cI, (hz_R gt), .inl (nf kc))), (r44, .inl (cI, (hz_R (gt + 1)), .inl (nf kc2))), (y4, .inl (cI, (hz_R gt), .inl (nf vc))), (r56, .inl (cI, (hz_R (gt + 1)), .inl (nf (cpz vc (fun _ => 0) (hz_R gt)))))] := hD
  refine W.widen (k := 4) (n := (((hz_R (gt + 1)) + (hz_R (gt + 1))) + (hz_R (gt + 1))) + (hz_R (gt + 1))) (by omega) (by omega) ?_
  obtain ⟨vc2, evc2⟩ : ∃ z, z = cpz vc (fun _ => 0) (hz_R gt) := ⟨_, rfl⟩
  rw [← evc2] at hP hD
  have hP : va_P (dC, dI) classes [(tr, .inr (1, [.int (nI nT), .ref r20, .ref r32, .ref r44, .ref y4, .ref y5])), (y5, .inl (cI, hz_R gt, .inl (nf bo))), (y1, .inl (cI, (hz_R gt), .inl (nf fi))), (r20, .inl (cI, (hz_R (gt + 1)), .inl (nf fi2))), (y2, .inl (cI, (hz_R gt), .inl (nf la))), (r32, .inl (cI, (hz_R (gt + 1)), .inl (nf la2))), (y3, .inl (cI, (hz_R gt), .inl (nf kc))), (r44, .inl (cI, (hz_R (gt + 1)), .inl (nf kc2))), (y4, .inl (cI, (hz_R gt), .inl (nf vc))), (r56, .inl (cI, (hz_R (gt + 1)), .inl (nf vc2)))] H := hP
  have hD : va_D A [(tr, .inr (1, [.int (nI nT), .ref r20, .ref r32, .ref r44, .ref y4, .ref y5])), (y5, .inl (cI, hz_R gt, .inl (nf bo))), (y1, .inl (cI, (hz_R gt), .inl (nf fi))), (r20, .inl (cI, (hz_R (gt + 1)), .inl (nf fi2))), (y2, .inl (cI, (hz_R gt), .inl (nf la))), (r32, .inl (cI, (hz_R (gt + 1)), .inl (nf la2))), (y3, .inl (cI, (hz_R gt), .inl (nf kc))), (r44, .inl (cI, (hz_R (gt + 1)), .inl (nf kc2))), (y4, .inl (cI, (hz_R gt), .inl (nf vc))), (r56, .inl (cI, (hz_R (gt + 1)), .inl (nf vc2)))] := hD
  refine va_put (D := (dC, dI)) (ci := 1) (v := .ref r56) (ty := .array .int) (C := R_T) (T := T_T) (N := 6) hx hb hw in_T ty_T tyok_T nn_T hown hK hP hD hS 0 rfl rfl 4 (by decide) (hw _ m_30) (fun _ h9 => h9) rfl (by decide +kernel) rfl rfl (Nat.le_of_ble_eq_true rfl) d_T_grow_59 (fun H locs hP hD hS => ?_)
  have hP : va_P (dC, dI) classes [(tr, .inr (1, [.int (nI nT), .ref r20, .ref r32, .ref r44, .ref r56, .ref y5])), (y5, .inl (cI, hz_R gt, .inl (nf bo))), (y1, .inl (cI, (hz_R gt), .inl (nf fi))), (r20, .inl (cI, (hz_R (gt + 1)), .inl (nf fi2))), (y2, .inl (cI, (hz_R gt), .inl (nf la))), (r32, .inl (cI, (hz_R (gt + 1)), .inl (nf la2))), (y3, .inl (cI, (hz_R gt), .inl (nf kc))), (r44, .inl (cI, (hz_R (gt + 1)), .inl (nf kc2))), (y4, .inl (cI, (hz_R gt), .inl (nf vc))), (r56, .inl (cI, (hz_R (gt + 1)), .inl (nf vc2)))] H := hP
  have hD : va_D A [(tr, .inr (1, [.int (nI nT), .ref r20, .ref r32, .ref r44, .ref r56, .ref y5])), (y5, .inl (cI, hz_R gt, .inl (nf bo))), (y1, .inl (cI, (hz_R gt), .inl (nf fi))), (r20, .inl (cI, (hz_R (gt + 1)), .inl (nf fi2))), (y2, .inl (cI, (hz_R gt), .inl (nf la))), (r32, .inl (cI, (hz_R (gt + 1)), .inl (nf la2))), (y3, .inl (cI, (hz_R gt), .inl (nf kc))), (r44, .inl (cI, (hz_R (gt + 1)), .inl (nf kc2))), (y4, .inl (cI, (hz_R gt), .inl (nf vc))), (r56, .inl (cI, (hz_R (gt + 1)), .inl (nf vc2)))] := hD
  refine lv_aload_n hx hb d_T_grow_62 rfl (lv_at hl 1 rfl) ?_
  refine lv_aload_n hx hb d_T_grow_63 rfl (lv_at hl 1 rfl) ?_
  refine va_get (D := (dC, dI)) (ci := 1) (v := .ref y5) (C := R_T) (T := T_T) (N := 6) hx hb hw in_T hown hK hP 0 rfl rfl 5 (by decide) (hw _ m_32) (fun _ h9 => h9) rfl d_T_grow_64 ?_
  refine lv_iload_n hx hb d_T_grow_67 rfl (lv_at hl 0 rfl) ?_
  refine StdR.callS (wr := [(tr, .inr (1, [.int (nI nT), .ref r20, .ref r32, .ref r44, .ref r56, .ref y5])), (y1, .inl (cI, (hz_R gt), .inl (nf fi))), (r20, .inl (cI, (hz_R (gt + 1)), .inl (nf fi2))), (y2, .inl (cI, (hz_R gt), .inl (nf la))), (r32, .inl (cI, (hz_R (gt + 1)), .inl (nf la2))), (y3, .inl (cI, (hz_R gt), .inl (nf kc))), (r44, .inl (cI, (hz_R (gt + 1)), .inl (nf kc2))), (y4, .inl (cI, (hz_R gt), .inl (nf vc))), (r56, .inl (cI, (hz_R (gt + 1)), .inl (nf vc2)))]) (c_copyOf_i l dC dI cI cL cB y5 (hz_R gt) (hz_R (gt + 1)) bo (by omega) (by omega)) ⟨hx, hb, hml, hown, hw⟩ (fz_cwS 2 hw m_113 m_111 m_112 m_6 rfl rfl (by decide +kernel) ⟨Nat.le_of_ble_eq_true rfl, Nat.le_of_ble_eq_true rfl⟩) hK hP hD hS hA [1] [0, 2, 3, 4, 5, 6, 7, 8, 9] rfl rfl (by decide) (by decide) (by decide) rfl hl.1 rfl (Nat.le_of_ble_eq_true rfl) d_T_grow_68 ⟨(by (try dsimp only); omega), (by (try dsimp only); omega)⟩ (fun r68 u68 H locs h68 hP hD hS => ?_)
  try dsimp only at h68
  have hP : va_P (dC, dI) classes [(tr, .inr (1, [.int (nI nT), .ref r20, .ref r32, .ref r44, .ref r56, .ref y5])), (y1, .inl (cI, (hz_R gt), .inl (nf fi))), (r20, .inl (cI, (hz_R (gt + 1)), .inl (nf fi2))), (y2, .inl (cI, (hz_R gt), .inl (nf la))), (r32, .inl (cI, (hz_R (gt + 1)), .inl (nf la2))), (y3, .inl (cI, (hz_R gt), .inl (nf kc))), (r44, .inl (cI, (hz_R (gt + 1)), .inl (nf kc2))), (y4, .inl (cI, (hz_R gt), .inl (nf vc))), (r56, .inl (cI, (hz_R (gt + 1)), .inl (nf vc2))), (y5, .inl (cI, (hz_R gt), .inl (nf bo))), (r68, .inl (cI, (hz_R (gt + 1)), .inl (nf (cpz bo (fun _ => 0) (hz_R gt)))))] H := hP
  have hD : va_D A [(tr, .inr (1, [.int (nI nT), .ref r20, .ref r32, .ref r44, .ref r56, .ref y5])), (y1, .inl (cI, (hz_R gt), .inl (nf fi))), (r20, .inl (cI, (hz_R (gt + 1)), .inl (nf fi2))), (y2, .inl (cI, (hz_R gt), .inl (nf la))), (r32, .inl (cI, (hz_R (gt + 1)), .inl (nf la2))), (y3, .inl (cI, (hz_R gt), .inl (nf kc))), (r44, .inl (cI, (hz_R (gt + 1)), .inl (nf kc2))), (y4, .inl (cI, (hz_R gt), .inl (nf vc))), (r56, .inl (cI, (hz_R (gt + 1)), .inl (nf vc2))), (y5, .inl (cI, (hz_R gt), .inl (nf bo))), (r68, .inl (cI, (hz_R (gt + 1)), .inl (nf (cpz bo (fun _ => 0) (hz_R gt)))))] := hD
  refine W.widen (k := 5) (n := ((((hz_R (gt + 1)) + (hz_R (gt + 1))) + (hz_R (gt + 1))) + (hz_R (gt + 1))) + (hz_R (gt + 1))) (by omega) (by omega) ?_
  obtain ⟨bo2, ebo2⟩ : ∃ z, z = cpz bo (fun _ => 0) (hz_R gt) := ⟨_, rfl⟩
  rw [← ebo2] at hP hD
  have hP : va_P (dC, dI) classes [(tr, .inr (1, [.int (nI nT), .ref r20, .ref r32, .ref r44, .ref r56, .ref y5])), (y1, .inl (cI, (hz_R gt), .inl (nf fi))), (r20, .inl (cI, (hz_R (gt + 1)), .inl (nf fi2))), (y2, .inl (cI, (hz_R gt), .inl (nf la))), (r32, .inl (cI, (hz_R (gt + 1)), .inl (nf la2))), (y3, .inl (cI, (hz_R gt), .inl (nf kc))), (r44, .inl (cI, (hz_R (gt + 1)), .inl (nf kc2))), (y4, .inl (cI, (hz_R gt), .inl (nf vc))), (r56, .inl (cI, (hz_R (gt + 1)), .inl (nf vc2))), (y5, .inl (cI, (hz_R gt), .inl (nf bo))), (r68, .inl (cI, (hz_R (gt + 1)), .inl (nf bo2)))] H := hP
  have hD : va_D A [(tr, .inr (1, [.int (nI nT), .ref r20, .ref r32, .ref r44, .ref r56, .ref y5])), (y1, .inl (cI, (hz_R gt), .inl (nf fi))), (r20, .inl (cI, (hz_R (gt + 1)), .inl (nf fi2))), (y2, .inl (cI, (hz_R gt), .inl (nf la))), (r32, .inl (cI, (hz_R (gt + 1)), .inl (nf la2))), (y3, .inl (cI, (hz_R gt), .inl (nf kc))), (r44, .inl (cI, (hz_R (gt + 1)), .inl (nf kc2))), (y4, .inl (cI, (hz_R gt), .inl (nf vc))), (r56, .inl (cI, (hz_R (gt + 1)), .inl (nf vc2))), (y5, .inl (cI, (hz_R gt), .inl (nf bo))), (r68, .inl (cI, (hz_R (gt + 1)), .inl (nf bo2)))] := hD
  refine va_put (D := (dC, dI)) (ci := 1) (v := .ref r68) (ty := .array .int) (C := R_T) (T := T_T) (N := 6) hx hb hw in_T ty_T tyok_T nn_T hown hK hP hD hS 0 rfl rfl 5 (by decide) (hw _ m_32) (fun _ h9 => h9) rfl (by decide +kernel) rfl rfl (Nat.le_of_ble_eq_true rfl) d_T_grow_71 (fun H locs hP hD hS => ?_)
  have hP : va_P (dC, dI) classes [(tr, .inr (1, [.int (nI nT), .ref r20, .ref r32, .ref r44, .ref r56, .ref r68])), (y1, .inl (cI, (hz_R gt), .inl (nf fi))), (r20, .inl (cI, (hz_R (gt + 1)), .inl (nf fi2))), (y2, .inl (cI, (hz_R gt), .inl (nf la))), (r32, .inl (cI, (hz_R (gt + 1)), .inl (nf la2))), (y3, .inl (cI, (hz_R gt), .inl (nf kc))), (r44, .inl (cI, (hz_R (gt + 1)), .inl (nf kc2))), (y4, .inl (cI, (hz_R gt), .inl (nf vc))), (r56, .inl (cI, (hz_R (gt + 1)), .inl (nf vc2))), (y5, .inl (cI, (hz_R gt), .inl (nf bo))), (r68, .inl (cI, (hz_R (gt + 1)), .inl (nf bo2)))] H := hP
  have hD : va_D A [(tr, .inr (1, [.int (nI nT), .ref r20, .ref r32, .ref r44, .ref r56, .ref r68])), (y1, .inl (cI, (hz_R gt), .inl (nf fi))), (r20, .inl (cI, (hz_R (gt + 1)), .inl (nf fi2))), (y2, .inl (cI, (hz_R gt), .inl (nf la))), (r32, .inl (cI, (hz_R (gt + 1)), .inl (nf la2))), (y3, .inl (cI, (hz_R gt), .inl (nf kc))), (r44, .inl (cI, (hz_R (gt + 1)), .inl (nf kc2))), (y4, .inl (cI, (hz_R gt), .inl (nf vc))), (r56, .inl (cI, (hz_R (gt + 1)), .inl (nf vc2))), (y5, .inl (cI, (hz_R gt), .inl (nf bo))), (r68, .inl (cI, (hz_R (gt + 1)), .inl (nf bo2)))] := hD
  refine W.widen (k := 5) (n := 5 * hz_R (gt + 1)) (by omega) (by omega) ?_
  have hpost : (∀ i, i < hz_R gt → fi2 i = fi i ∧ la2 i = la i ∧ kc2 i = kc i ∧ vc2 i = vc i ∧ bo2 i = bo i) := fun i h => ⟨by rw [efi2, cpz_in h], by rw [ela2, cpz_in h], by rw [ekc2, cpz_in h], by rw [evc2, cpz_in h], by rw [ebo2, cpz_in h]⟩
  exact hret (r20, r32, r44, r56, r68, fi2, la2, kc2, vc2, bo2) _ _ 74 ls hpost (fz_subP hP [0, 2, 4, 6, 8, 10] rfl) (hD.sub [0, 2, 4, 6, 8, 10] (by decide) rfl) hS d_T_grow_74
set_option maxHeartbeats 4000000 in
set_option maxRecDepth 100000 in
/-- TableRows.open -/
theorem c_open (l : Launch) (dC : Nat → ClassId) (dI : Nat → Nat → Nat) (cI cL cB : ClassId) (tr : Nat) (y1 : Nat) (y2 : Nat) (y3 : Nat) (y4 : Nat) (y5 : Nat) (nT : Nat) (gt : Nat) (gt2 : Nat) (fi : Nat → Nat) (la : Nat → Nat) (kc : Nat → Nat) (vc : Nat → Nat) (bo : Nat → Nat) (hn3 : nT < 30000) (hg : gt ≤ 11) (hn : nT < hz_R gt) (hg2 : (nT + 1 < hz_R gt ∧ gt2 = gt) ∨ (hz_R gt ≤ nT + 1 ∧ gt2 = gt + 1)) : StdI l y_T_open (wd y_T_open b_T_open 1 (some .int)) 3 71 (5 * (gt2 - gt)) (Rs gt2 - Rs gt) (dC, dI) classes (tyK cI cL cB) [.ref tr] [(tr, .inr (1, [.int (nI nT), .ref y1, .ref y2, .ref y3, .ref y4, .ref y5])), (y1, .inl (cI, hz_R gt, .inl (nf fi))), (y2, .inl (cI, hz_R gt, .inl (nf la))), (y3, .inl (cI, hz_R gt, .inl (nf kc))), (y4, .inl (cI, hz_R gt, .inl (nf vc))), (y5, .inl (cI, hz_R gt, .inl (nf bo)))] (fun (r : Int32) (u : Nat × Nat × Nat × Nat × Nat × (Nat → Nat) × (Nat → Nat) × (Nat → Nat) × (Nat → Nat) × (Nat → Nat)) => r = nI (nT + 1) ∧ (∀ i, i ≤ nT → u.2.2.2.2.2.1 i = fi i ∧ u.2.2.2.2.2.2.1 i = la i ∧ u.2.2.2.2.2.2.2.1 i = kc i ∧ u.2.2.2.2.2.2.2.2.1 i = vc i ∧ u.2.2.2.2.2.2.2.2.2 i = bo i) ∧ u.2.2.2.2.2.1 (nT + 1) = 0 ∧ u.2.2.2.2.2.2.1 (nT + 1) = 0 ∧ u.2.2.2.2.2.2.2.1 (nT + 1) = 0 ∧ u.2.2.2.2.2.2.2.2.1 (nT + 1) = 0 ∧ u.2.2.2.2.2.2.2.2.2 (nT + 1) = 0) (fun (u : Nat × Nat × Nat × Nat × Nat × (Nat → Nat) × (Nat → Nat) × (Nat → Nat) × (Nat → Nat) × (Nat → Nat)) => [(tr, .inr (1, [.int (nI (nT + 1)), .ref u.1, .ref u.2.1, .ref u.2.2.1, .ref u.2.2.2.1, .ref u.2.2.2.2.1])), (u.1, .inl (cI, hz_R gt2, .inl (nf u.2.2.2.2.2.1))), (u.2.1, .inl (cI, hz_R gt2, .inl (nf u.2.2.2.2.2.2.1))), (u.2.2.1, .inl (cI, hz_R gt2, .inl (nf u.2.2.2.2.2.2.2.1))), (u.2.2.2.1, .inl (cI, hz_R gt2, .inl (nf u.2.2.2.2.2.2.2.2.1))), (u.2.2.2.2.1, .inl (cI, hz_R gt2, .inl (nf u.2.2.2.2.2.2.2.2.2)))]) := by
  have hg1 := hz_Rgen gt hg
  have hg9 : gt2 ≤ 11 := by
    rcases Nat.lt_or_ge gt 11 with q | q
    · rcases hg2 with z | z <;> omega
    · have e5 : gt = 11 := by omega
      have e6 : hz_R 11 = 30001 := rfl
      rw [e5, e6] at hg2; omega
  have hg8 := hz_Rgen gt2 hg9
  have hL2 : nT + 1 < hz_R gt2 := by
    rcases hg2 with z | z
    · rw [z.2]; exact z.1
    · rcases Nat.lt_or_ge gt 11 with q | q
      · have := (hz_Rgrow gt q).2; rw [z.2]; omega
      · omega
  refine StdI.mk (cc := b_T_open) (maxL := 1) (by decide) rfl (Nat.le_of_ble_eq_true rfl) ?_
  intro p e s m below meth c A Z ls hx hb hml hown hts hin hP hK hD hA hS hret hl
  have hown : s.vm.findClass R_T = some m.cls := hown
  have hw : ∀ x ∈ WALL, x.before _ s = true := fun x h => hts x (List.mem_cons_of_mem _ h)
  have hl : lv_has ls 1 [(0, .ref tr)] := hl
  have join_18 : ∀ (x1 : Nat) (x2 : Nat) (x3 : Nat) (x4 : Nat) (x5 : Nat) (fi1 : Nat → Nat) (la1 : Nat → Nat) (kc1 : Nat → Nat) (vc1 : Nat → Nat) (bo1 : Nat → Nat), (∀ i, i ≤ nT → fi1 i = fi i ∧ la1 i = la i ∧ kc1 i = kc i ∧ vc1 i = vc i ∧ bo1 i = bo i) → ∀ (H : Heap) (locs : List Loc), va_P (dC, dI) classes [(tr, .inr (1, [.int (nI nT), .ref x1, .ref x2, .ref x3, .ref x4, .ref x5])), (x1, .inl (cI, hz_R gt2, .inl (nf fi1))), (x2, .inl (cI, hz_R gt2, .inl (nf la1))), (x3, .inl (cI, hz_R gt2, .inl (nf kc1))), (x4, .inl (cI, hz_R gt2, .inl (nf vc1))), (x5, .inl (cI, hz_R gt2, .inl (nf bo1)))] H → va_D A [(tr, .inr (1, [.int (nI nT), .ref x1, .ref x2, .ref x3, .ref x4, .ref x5])), (x1, .inl (cI, hz_R gt2, .inl (nf fi1))), (x2, .inl (cI, hz_R gt2, .inl (nf la1))), (x3, .inl (cI, hz_R gt2, .inl (nf kc1))), (x4, .inl (cI, hz_R gt2, .inl (nf vc1))), (x5, .inl (cI, hz_R gt2, .inl (nf bo1)))] → va_S A s.heap H locs → ∀ (ls : Array Slot), lv_has ls 1 [(0, .ref tr)] → W p l e { frames := 3, cells := (5 * (gt2 - gt)), slots := (Rs gt2 - Rs gt), locals := 71 } s m [.ref tr].toArray below meth c H locs (5 * (gt2 - gt)) (Rs gt2 - Rs gt) Z (F0 m 18 ls []) := by
    intro x1 x2 x3 x4 x5 fi1 la1 kc1 vc1 bo1 hA1 H locs hP hD hS ls hl
    refine lv_aload_n hx hb d_T_open_18 rfl (lv_at hl 0 rfl) ?_
    refine lv_dup hx hb d_T_open_19 rfl ?_
    refine va_get (D := (dC, dI)) (ci := 1) (v := .int (nI nT)) (C := R_T) (T := T_T) (N := 6) hx hb hw in_T hown hK hP 0 rfl rfl 0 (by decide) (hw _ m_22) (fun _ h9 => h9) rfl d_T_open_20 ?_
    refine lv_iconst (v := nI 1) hx hb d_T_open_23 (by decide) ?_
    refine lv_iadd hx hb d_T_open_24 ?_
    refine fz_eqi (y := nI (nT + 1)) (nI_add nT 1) ?_
    refine va_put (D := (dC, dI)) (ci := 1) (v := .int (nI (nT + 1))) (ty := .int) (C := R_T) (T := T_T) (N := 6) hx hb hw in_T ty_T tyok_T nn_T hown hK hP hD hS 0 rfl rfl 0 (by decide) (hw _ m_22) (fun _ h9 => h9) rfl (by decide +kernel) rfl rfl (Nat.le_of_ble_eq_true rfl) d_T_open_25 (fun H locs hP hD hS => ?_)
    have hP : va_P (dC, dI) classes [(tr, .inr (1, [.int (nI (nT + 1)), .ref x1, .ref x2, .ref x3, .ref x4, .ref x5])), (x1, .inl (cI, hz_R gt2, .inl (nf fi1))), (x2, .inl (cI, hz_R gt2, .inl (nf la1))), (x3, .inl (cI, hz_R gt2, .inl (nf kc1))), (x4, .inl (cI, hz_R gt2, .inl (nf vc1))), (x5, .inl (cI, hz_R gt2, .inl (nf bo1)))] H := hP
    have hD : va_D A [(tr, .inr (1, [.int (nI (nT + 1)), .ref x1, .ref x2, .ref x3, .ref x4, .ref x5])), (x1, .inl (cI, hz_R gt2, .inl (nf fi1))), (x2, .inl (cI, hz_R gt2, .inl (nf la1))), (x3, .inl (cI, hz_R gt2, .inl (nf kc1))), (x4, .inl (cI, hz_R gt2, .inl (nf vc1))), (x5, .inl (cI, hz_R gt2, .inl (nf bo1)))] := hD
    refine lv_aload_n hx hb d_T_open_28 rfl (lv_at hl 0 rfl) ?_
    refine va_get (D := (dC, dI)) (ci := 1) (v := .ref x1) (C := R_T) (T := T_T) (N := 6) hx hb hw in_T hown hK hP 0 rfl rfl 1 (by decide) (hw _ m_24) (fun _ h9 => h9) rfl d_T_open_29 ?_
    refine lv_aload_n hx hb d_T_open_32 rfl (lv_at hl 0 rfl) ?_
    refine va_get (D := (dC, dI)) (ci := 1) (v := .int (nI (nT + 1))) (C := R_T) (T := T_T) (N := 6) hx hb hw in_T hown hK hP 0 rfl rfl 0 (by decide) (hw _ m_22) (fun _ h9 => h9) rfl d_T_open_33 ?_
    refine lv_iconst (v := nI 0) hx hb d_T_open_36 (by decide) ?_
    refine fz_iast hx hb hK hP hD hS 1 0 rfl rfl (j := nT + 1) (by omega) (by omega) d_T_open_37 (fun H locs hP hD hS => ?_)
    have hP : va_P (dC, dI) classes [(tr, .inr (1, [.int (nI (nT + 1)), .ref x1, .ref x2, .ref x3, .ref x4, .ref x5])), (x1, .inl (cI, hz_R gt2, .inl (nf (va_up fi1 (nT + 1) 0)))), (x2, .inl (cI, hz_R gt2, .inl (nf la1))), (x3, .inl (cI, hz_R gt2, .inl (nf kc1))), (x4, .inl (cI, hz_R gt2, .inl (nf vc1))), (x5, .inl (cI, hz_R gt2, .inl (nf bo1)))] H := hP
    have hD : va_D A [(tr, .inr (1, [.int (nI (nT + 1)), .ref x1, .ref x2, .ref x3, .ref x4, .ref x5])), (x1, .inl (cI, hz_R gt2, .inl (nf (va_up fi1 (nT + 1) 0)))), (x2, .inl (cI, hz_R gt2, .inl (nf la1))), (x3, .inl (cI, hz_R gt2, .inl (nf kc1))), (x4, .inl (cI, hz_R gt2, .inl (nf vc1))), (x5, .inl (cI, hz_R gt2, .inl (nf bo1)))] := hD
    refine lv_aload_n hx hb d_T_open_38 rfl (lv_at hl 0 rfl) ?_
    refine va_get (D := (dC, dI)) (ci := 1) (v := .ref x2) (C := R_T) (T := T_T) (N := 6) hx hb hw in_T hown hK hP 0 rfl rfl 2 (by decide) (hw _ m_26) (fun _ h9 => h9) rfl d_T_open_39 ?_
    refine lv_aload_n hx hb d_T_open_42 rfl (lv_at hl 0 rfl) ?_
    refine va_get (D := (dC, dI)) (ci := 1) (v := .int (nI (nT + 1))) (C := R_T) (T := T_T) (N := 6) hx hb hw in_T hown hK hP 0 rfl rfl 0 (by decide) (hw _ m_22) (fun _ h9 => h9) rfl d_T_open_43 ?_
    refine lv_iconst (v := nI 0) hx hb d_T_open_46 (by decide) ?_
    refine fz_iast hx hb hK hP hD hS 2 0 rfl rfl (j := nT + 1) (by omega) (by omega) d_T_open_47 (fun H locs hP hD hS => ?_)
    have hP : va_P (dC, dI) classes [(tr, .inr (1, [.int (nI (nT + 1)), .ref x1, .ref x2, .ref x3, .ref x4, .ref x5])), (x1, .inl (cI, hz_R gt2, .inl (nf (va_up fi1 (nT + 1) 0)))), (x2, .inl (cI, hz_R gt2, .inl (nf (va_up la1 (nT + 1) 0)))), (x3, .inl (cI, hz_R gt2, .inl (nf kc1))), (x4, .inl (cI, hz_R gt2, .inl (nf vc1))), (x5, .inl (cI, hz_R gt2, .inl (nf bo1)))] H := hP
    have hD : va_D A [(tr, .inr (1, [.int (nI (nT + 1)), .ref x1, .ref x2, .ref x3, .ref x4, .ref x5])), (x1, .inl (cI, hz_R gt2, .inl (nf (va_up fi1 (nT + 1) 0)))), (x2, .inl (cI, hz_R gt2, .inl (nf (va_up la1 (nT + 1) 0)))), (x3, .inl (cI, hz_R gt2, .inl (nf kc1))), (x4, .inl (cI, hz_R gt2, .inl (nf vc1))), (x5, .inl (cI, hz_R gt2, .inl (nf bo1)))] := hD
    refine lv_aload_n hx hb d_T_open_48 rfl (lv_at hl 0 rfl) ?_
    refine va_get (D := (dC, dI)) (ci := 1) (v := .ref x3) (C := R_T) (T := T_T) (N := 6) hx hb hw in_T hown hK hP 0 rfl rfl 3 (by decide) (hw _ m_28) (fun _ h9 => h9) rfl d_T_open_49 ?_
    refine lv_aload_n hx hb d_T_open_52 rfl (lv_at hl 0 rfl) ?_
    refine va_get (D := (dC, dI)) (ci := 1) (v := .int (nI (nT + 1))) (C := R_T) (T := T_T) (N := 6) hx hb hw in_T hown hK hP 0 rfl rfl 0 (by decide) (hw _ m_22) (fun _ h9 => h9) rfl d_T_open_53 ?_
    refine lv_iconst (v := nI 0) hx hb d_T_open_56 (by decide) ?_
    refine fz_iast hx hb hK hP hD hS 3 0 rfl rfl (j := nT + 1) (by omega) (by omega) d_T_open_57 (fun H locs hP hD hS => ?_)
    have hP : va_P (dC, dI) classes [(tr, .inr (1, [.int (nI (nT + 1)), .ref x1, .ref x2, .ref x3, .ref x4, .ref x5])), (x1, .inl (cI, hz_R gt2, .inl (nf (va_up fi1 (nT + 1) 0)))), (x2, .inl (cI, hz_R gt2, .inl (nf (va_up la1 (nT + 1) 0)))), (x3, .inl (cI, hz_R gt2, .inl (nf (va_up kc1 (nT + 1) 0)))), (x4, .inl (cI, hz_R gt2, .inl (nf vc1))), (x5, .inl (cI, hz_R gt2, .inl (nf bo1)))] H := hP
    have hD : va_D A [(tr, .inr (1, [.int (nI (nT + 1)), .ref x1, .ref x2, .ref x3, .ref x4, .ref x5])), (x1, .inl (cI, hz_R gt2, .inl (nf (va_up fi1 (nT + 1) 0)))), (x2, .inl (cI, hz_R gt2, .inl (nf (va_up la1 (nT + 1) 0)))), (x3, .inl (cI, hz_R gt2, .inl (nf (va_up kc1 (nT + 1) 0)))), (x4, .inl (cI, hz_R gt2, .inl (nf vc1))), (x5, .inl (cI, hz_R gt2, .inl (nf bo1)))] := hD
    refine lv_aload_n hx hb d_T_open_58 rfl (lv_at hl 0 rfl) ?_
    refine va_get (D := (dC, dI)) (ci := 1) (v := .ref x4) (C := R_T) (T := T_T) (N := 6) hx hb hw in_T hown hK hP 0 rfl rfl 4 (by decide) (hw _ m_30) (fun _ h9 => h9) rfl d_T_open_59 ?_
    refine lv_aload_n hx hb d_T_open_62 rfl (lv_at hl 0 rfl) ?_
    refine va_get (D := (dC, dI)) (ci := 1) (v := .int (nI (nT + 1))) (C := R_T) (T := T_T) (N := 6) hx hb hw in_T hown hK hP 0 rfl rfl 0 (by decide) (hw _ m_22) (fun _ h9 => h9) rfl d_T_open_63 ?_
    refine lv_iconst (v := nI 0) hx hb d_T_open_66 (by decide) ?_
    refine fz_iast hx hb hK hP hD hS 4 0 rfl rfl (j := nT + 1) (by omega) (by omega) d_T_open_67 (fun H locs hP hD hS => ?_)
    have hP : va_P (dC, dI) classes [(tr, .inr (1, [.int (nI (nT + 1)), .ref x1, .ref x2, .ref x3, .ref x4, .ref x5])), (x1, .inl (cI, hz_R gt2, .inl (nf (va_up fi1 (nT + 1) 0)))), (x2, .inl (cI, hz_R gt2, .inl (nf (va_up la1 (nT + 1) 0)))), (x3, .inl (cI, hz_R gt2, .inl (nf (va_up kc1 (nT + 1) 0)))), (x4, .inl (cI, hz_R gt2, .inl (nf (va_up vc1 (nT + 1) 0)))), (x5, .inl (cI, hz_R gt2, .inl (nf bo1)))] H := hP
    have hD : va_D A [(tr, .inr (1, [.int (nI (nT + 1)), .ref x1, .ref x2, .ref x3, .ref x4, .ref x5])), (x1, .inl (cI, hz_R gt2, .inl (nf (va_up fi1 (nT + 1) 0)))), (x2, .inl (cI, hz_R gt2, .inl (nf (va_up la1 (nT + 1) 0)))), (x3, .inl (cI, hz_R gt2, .inl (nf (va_up kc1 (nT + 1) 0)))), (x4, .inl (cI, hz_R gt2, .inl (nf (va_up vc1 (nT + 1) 0)))), (x5, .inl (cI, hz_R gt2, .inl (nf bo1)))] := hD
    refine lv_aload_n hx hb d_T_open_68 rfl (lv_at hl 0 rfl) ?_
    refine va_get (D := (dC, dI)) (ci := 1) (v := .ref x5) (C := R_T) (T := T_T) (N := 6) hx hb hw in_T hown hK hP 0 rfl rfl 5 (by decide) (hw _ m_32) (fun _ h9 => h9) rfl d_T_open_69 ?_
    refine lv_aload_n hx hb d_T_open_72 rfl (lv_at hl 0 rfl) ?_
    refine va_get (D := (dC, dI)) (ci := 1) (v := .int (nI (nT + 1))) (C := R_T) (T := T_T) (N := 6) hx hb hw in_T hown hK hP 0 rfl rfl 0 (by decide) (hw _ m_22) (fun _ h9 => h9) rfl d_T_open_73 ?_
    refine lv_iconst (v := nI 0) hx hb d_T_open_76 (by decide) ?_
    refine fz_iast hx hb hK hP hD hS 5 0 rfl rfl (j := nT + 1) (by omega) (by omega) d_T_open_77 (fun H locs hP hD hS => ?_)
    have hP : va_P (dC, dI) classes [(tr, .inr (1, [.int (nI (nT + 1)), .ref x1, .ref x2, .ref x3, .ref x4, .ref x5])), (x1, .inl (cI, hz_R gt2, .inl (nf (va_up fi1 (nT + 1) 0)))), (x2, .inl (cI, hz_R gt2, .inl (nf (va_up la1 (nT + 1) 0)))), (x3, .inl (cI, hz_R gt2, .inl (nf (va_up kc1 (nT + 1) 0)))), (x4, .inl (cI, hz_R gt2, .inl (nf (va_up vc1 (nT + 1) 0)))), (x5, .inl (cI, hz_R gt2, .inl (nf (va_up bo1 (nT + 1) 0))))] H := hP
    have hD : va_D A [(tr, .inr (1, [.int (nI (nT + 1)), .ref x1, .ref x2, .ref x3, .ref x4, .ref x5])), (x1, .inl (cI, hz_R gt2, .inl (nf (va_up fi1 (nT + 1) 0)))), (x2, .inl (cI, hz_R gt2, .inl (nf (va_up la1 (nT + 1) 0)))), (x3, .inl (cI, hz_R gt2, .inl (nf (va_up kc1 (nT + 1) 0)))), (x4, .inl (cI, hz_R gt2, .inl (nf (va_up vc1 (nT + 1) 0)))), (x5, .inl (cI, hz_R gt2, .inl (nf (va_up bo1 (nT + 1) 0))))] := hD
    refine lv_aload_n hx hb d_T_open_78 rfl (lv_at hl 0 rfl) ?_
    refine va_get (D := (dC, dI)) (ci := 1) (v := .int (nI (nT + 1))) (C := R_T) (T := T_T) (N := 6) hx hb hw in_T hown hK hP 0 rfl rfl 0 (by decide) (hw _ m_22) (fun _ h9 => h9) rfl d_T_open_79 ?_
    have hpost : (nI (nT + 1)) = nI (nT + 1) ∧ (∀ i, i ≤ nT → (va_up fi1 (nT + 1) 0) i = fi i ∧ (va_up la1 (nT + 1) 0) i = la i ∧ (va_up kc1 (nT + 1) 0) i = kc i ∧ (va_up vc1 (nT + 1) 0) i = vc i ∧ (va_up bo1 (nT + 1) 0) i = bo i) ∧ (va_up fi1 (nT + 1) 0) (nT + 1) = 0 ∧ (va_up la1 (nT + 1) 0) (nT + 1) = 0 ∧ (va_up kc1 (nT + 1) 0) (nT + 1) = 0 ∧ (va_up vc1 (nT + 1) 0) (nT + 1) = 0 ∧ (va_up bo1 (nT + 1) 0) (nT + 1) = 0 := ⟨rfl, fun i hi => ⟨by rw [va_up_ne _ _ (by omega)]; exact (hA1 i hi).1, by rw [va_up_ne _ _ (by omega)]; exact (hA1 i hi).2.1, by rw [va_up_ne _ _ (by omega)]; exact (hA1 i hi).2.2.1, by rw [va_up_ne _ _ (by omega)]; exact (hA1 i hi).2.2.2.1, by rw [va_up_ne _ _ (by omega)]; exact (hA1 i hi).2.2.2.2⟩, va_up_self _ _ _, va_up_self _ _ _, va_up_self _ _ _, va_up_self _ _ _, va_up_self _ _ _⟩
    exact hret (nI (nT + 1)) (x1, x2, x3, x4, x5, va_up fi1 (nT + 1) 0, va_up la1 (nT + 1) 0, va_up kc1 (nT + 1) 0, va_up vc1 (nT + 1) 0, va_up bo1 (nT + 1) 0) _ _ 82 ls hpost hP hD hS d_T_open_82
  refine lv_aload_n hx hb d_T_open_0 rfl (lv_at hl 0 rfl) ?_
  refine va_get (D := (dC, dI)) (ci := 1) (v := .int (nI nT)) (C := R_T) (T := T_T) (N := 6) hx hb hw in_T hown hK hP 0 rfl rfl 0 (by decide) (hw _ m_22) (fun _ h9 => h9) rfl d_T_open_1 ?_
  refine lv_iconst (v := nI 1) hx hb d_T_open_4 (by decide) ?_
  refine lv_iadd hx hb d_T_open_5 ?_
  refine fz_eqi (y := nI (nT + 1)) (nI_add nT 1) ?_
  refine lv_aload_n hx hb d_T_open_6 rfl (lv_at hl 0 rfl) ?_
  refine va_get (D := (dC, dI)) (ci := 1) (v := .ref y1) (C := R_T) (T := T_T) (N := 6) hx hb hw in_T hown hK hP 0 rfl rfl 1 (by decide) (hw _ m_24) (fun _ h9 => h9) rfl d_T_open_7 ?_
  refine fz_alen hx hb hK hP 1 0 rfl rfl d_T_open_10 ?_
  refine lv_icmp_lt (tgt := 18) hx hb d_T_open_11 (by decide) (fun c11 => ?_) (fun c11 => ?_)
  · have c11 : nT + 1 < hz_R gt := by exact (nI_ltI (by omega) (by omega)).mp c11
    have eg : gt = gt2 := by rcases hg2 with q | q <;> omega
    rw [eg] at hP hD
    have hP : va_P (dC, dI) classes [(tr, .inr (1, [.int (nI nT), .ref y1, .ref y2, .ref y3, .ref y4, .ref y5])), (y1, .inl (cI, hz_R gt2, .inl (nf fi))), (y2, .inl (cI, hz_R gt2, .inl (nf la))), (y3, .inl (cI, hz_R gt2, .inl (nf kc))), (y4, .inl (cI, hz_R gt2, .inl (nf vc))), (y5, .inl (cI, hz_R gt2, .inl (nf bo)))] s.heap := hP
    have hD : va_D A [(tr, .inr (1, [.int (nI nT), .ref y1, .ref y2, .ref y3, .ref y4, .ref y5])), (y1, .inl (cI, hz_R gt2, .inl (nf fi))), (y2, .inl (cI, hz_R gt2, .inl (nf la))), (y3, .inl (cI, hz_R gt2, .inl (nf kc))), (y4, .inl (cI, hz_R gt2, .inl (nf vc))), (y5, .inl (cI, hz_R gt2, .inl (nf bo)))] := hD
    refine W.widen (k := 5 * (gt2 - gt)) (n := Rs gt2 - Rs gt) (by omega) (by omega) ?_
    exact join_18 y1 y2 y3 y4 y5 fi la kc vc bo (fun i _ => ⟨rfl, rfl, rfl, rfl, rfl⟩)  _ _ hP hD hS ls (lv_sub hl [0] rfl)
  · have c11 : ¬ nT + 1 < hz_R gt := fun h => c11 (by exact (nI_ltI (by omega) (by omega)).mpr h)
    have hg5 : gt < 11 := by rcases hg2 with z | z <;> omega
    refine lv_aload_n hx hb d_T_open_14 rfl (lv_at hl 0 rfl) ?_
    have eg9 : gt2 = gt + 1 := by rcases hg2 with z | z <;> omega
    have eg8 : Rs gt2 = Rs gt + 5 * hz_R (gt + 1) := by rw [eg9]; rfl
    refine StdV.callV (ci := 1) (q0 := 0) (wr := []) (c_Tgrow l dC dI cI cL cB tr y1 y2 y3 y4 y5 nT gt fi la kc vc bo hg5) ⟨hx, hb, hml, hown, hw⟩ (fz_cwV 0 hw m_107 m_104 m_106 ms_0 m_2 rfl rfl (by decide +kernel) ⟨Nat.le_of_ble_eq_true rfl, Nat.le_of_ble_eq_true rfl⟩) hK hP hD hS hA [0, 1, 2, 3, 4, 5] [] rfl rfl (by decide) (by decide) (by decide) rfl rfl rfl rfl hl.1 rfl (Nat.le_of_ble_eq_true rfl) d_T_open_15 ⟨(by (try dsimp only); omega), (by (try dsimp only); omega)⟩ (fun u15 H locs h15 hP hD hS => ?_)
    obtain ⟨z115, z215, z315, z415, z515, fi215, la215, kc215, vc215, bo215⟩ := u15
    try dsimp only at h15
    have hP : va_P (dC, dI) classes [(tr, .inr (1, [.int (nI nT), .ref z115, .ref z215, .ref z315, .ref z415, .ref z515])), (z115, .inl (cI, hz_R (gt + 1), .inl (nf fi215))), (z215, .inl (cI, hz_R (gt + 1), .inl (nf la215))), (z315, .inl (cI, hz_R (gt + 1), .inl (nf kc215))), (z415, .inl (cI, hz_R (gt + 1), .inl (nf vc215))), (z515, .inl (cI, hz_R (gt + 1), .inl (nf bo215)))] H := hP
    have hD : va_D A [(tr, .inr (1, [.int (nI nT), .ref z115, .ref z215, .ref z315, .ref z415, .ref z515])), (z115, .inl (cI, hz_R (gt + 1), .inl (nf fi215))), (z215, .inl (cI, hz_R (gt + 1), .inl (nf la215))), (z315, .inl (cI, hz_R (gt + 1), .inl (nf kc215))), (z415, .inl (cI, hz_R (gt + 1), .inl (nf vc215))), (z515, .inl (cI, hz_R (gt + 1), .inl (nf bo215)))] := hD
    refine W.widen (k := 5) (n := 5 * hz_R (gt + 1)) (by omega) (by omega) ?_
    have eg : gt + 1 = gt2 := by rcases hg2 with q | q <;> omega
    rw [eg] at hP hD
    have hP : va_P (dC, dI) classes [(tr, .inr (1, [.int (nI nT), .ref z115, .ref z215, .ref z315, .ref z415, .ref z515])), (z115, .inl (cI, hz_R gt2, .inl (nf fi215))), (z215, .inl (cI, hz_R gt2, .inl (nf la215))), (z315, .inl (cI, hz_R gt2, .inl (nf kc215))), (z415, .inl (cI, hz_R gt2, .inl (nf vc215))), (z515, .inl (cI, hz_R gt2, .inl (nf bo215)))] H := hP
    have hD : va_D A [(tr, .inr (1, [.int (nI nT), .ref z115, .ref z215, .ref z315, .ref z415, .ref z515])), (z115, .inl (cI, hz_R gt2, .inl (nf fi215))), (z215, .inl (cI, hz_R gt2, .inl (nf la215))), (z315, .inl (cI, hz_R gt2, .inl (nf kc215))), (z415, .inl (cI, hz_R gt2, .inl (nf vc215))), (z515, .inl (cI, hz_R gt2, .inl (nf bo215)))] := hD
    refine W.widen (k := 5 * (gt2 - gt)) (n := Rs gt2 - Rs gt) (by omega) (by omega) ?_
    exact join_18 z115 z215 z315 z415 z515 fi215 la215 kc215 vc215 bo215 (fun i hi => h15 i (by omega))  _ _ hP hD hS ls (lv_sub hl [0] rfl)
end
section
set_option maxHeartbeats 4000000 in
set_option maxRecDepth 100000 in
/-- isKind -/
theorem c_isKind (l : Launch) (dC : Nat → ClassId) (dI : Nat → Nat → Nat) (cI cL cB : ClassId) (x : Int32)  : QryI l y_F_isKind (wd y_F_isKind b_F_isKind 1 (some .boolean)) 0 0 (dC, dI) classes (tyK cI cL cB) [.int x] [] (fun r : Int32 => ∃ b, b ≤ 1 ∧ r = nI b ∧ (b = 1 ↔ okV x)) := by
  refine QryZ.mk (cc := b_F_isKind) (maxL := 1) (by decide) rfl (Nat.le_of_ble_eq_true rfl) ?_
  intro p e s m below meth c Z ls hx hb hml hown hts hP hK hret hl
  have hP : va_P (dC, dI) classes [] s.heap := hP
  have hown : s.vm.findClass R_F = some m.cls := hown
  have hw : ∀ x ∈ WALL, x.before _ s = true := fun x h => hts x (List.mem_cons_of_mem _ h)
  have hl : lv_has ls 1 [(0, .int x)] := hl
  refine lv_iload_n hx hb d_F_isKind_0 rfl (lv_at hl 0 rfl) ?_
  refine lv_if_lt (tgt := 14) hx hb d_F_isKind_1 (by decide) (fun c1 => ?_) (fun c1 => ?_)
  · refine lv_iconst (v := nI 0) hx hb d_F_isKind_14 (by decide) ?_
    exact hret (nI 0) 15 ls (Or.inl rfl) ⟨0, by omega, rfl, fun h => absurd h (by omega), fun h => absurd h (okV_lt c1)⟩ d_F_isKind_15
  · refine lv_iload_n hx hb d_F_isKind_4 rfl (lv_at hl 0 rfl) ?_
    refine lv_bipush (v := nI 7) hx hb d_F_isKind_5 (by decide) ?_
    refine lv_icmp_gt (tgt := 14) hx hb d_F_isKind_7 (by decide) (fun c7 => ?_) (fun c7 => ?_)
    · refine lv_iconst (v := nI 0) hx hb d_F_isKind_14 (by decide) ?_
      exact hret (nI 0) 15 ls (Or.inl rfl) ⟨0, by omega, rfl, fun h => absurd h (by omega), fun h => absurd h (okV_gt c7)⟩ d_F_isKind_15
    · refine lv_iconst (v := nI 1) hx hb d_F_isKind_10 (by decide) ?_
      refine lv_goto (tgt := 15) hx hb d_F_isKind_11 (by decide) ?_
      exact hret (nI 1) 15 ls (Or.inr rfl) ⟨1, by omega, rfl, fun _ => okV_of c1 c7, fun _ => rfl⟩ d_F_isKind_15
set_option maxHeartbeats 4000000 in
set_option maxRecDepth 100000 in
/-- isKeyKind -/
theorem c_isKeyKind (l : Launch) (dC : Nat → ClassId) (dI : Nat → Nat → Nat) (cI cL cB : ClassId) (x : Int32)  : QryI l y_F_isKeyKind (wd y_F_isKeyKind b_F_isKeyKind 1 (some .boolean)) 1 20 (dC, dI) classes (tyK cI cL cB) [.int x] [] (fun r : Int32 => ∃ b, b ≤ 1 ∧ r = nI b ∧ (b = 1 ↔ okT 7 x)) := by
  refine QryZ.mk (cc := b_F_isKeyKind) (maxL := 1) (by decide) rfl (Nat.le_of_ble_eq_true rfl) ?_
  intro p e s m below meth c Z ls hx hb hml hown hts hP hK hret hl
  have hP : va_P (dC, dI) classes [] s.heap := hP
  have hown : s.vm.findClass R_F = some m.cls := hown
  have hw : ∀ x ∈ WALL, x.before _ s = true := fun x h => hts x (List.mem_cons_of_mem _ h)
  have hl : lv_has ls 1 [(0, .int x)] := hl
  refine lv_iload_n hx hb d_F_isKeyKind_0 rfl (lv_at hl 0 rfl) ?_
  refine lv_if_eq (tgt := 15) hx hb d_F_isKeyKind_1 (by decide) (fun c1 => ?_) (fun c1 => ?_)
  · refine lv_iconst (v := nI 0) hx hb d_F_isKeyKind_15 (by decide) ?_
    exact hret (nI 0) 16 ls (Or.inl rfl) ⟨0, by omega, rfl, fun h => absurd h (by omega), fun h => absurd h (by rw [c1]; rintro ⟨j, h1, h2, e⟩; exact nI_ne0 (by omega) (by omega) e.symm)⟩ d_F_isKeyKind_16
  · refine lv_iload_n hx hb d_F_isKeyKind_4 rfl (lv_at hl 0 rfl) ?_
    refine QryI.callS (c_isKind l dC dI cI cL cB x ) ⟨hx, hb, hml, hown, hw⟩ (fz_cwS 1 hw m_138 m_136 m_137 m_1 rfl rfl (by decide +kernel) ⟨Nat.le_of_ble_eq_true rfl, Nat.le_of_ble_eq_true rfl⟩) hK hP [] rfl rfl hl.1 rfl (Nat.le_of_ble_eq_true rfl) d_F_isKeyKind_5 ⟨(Nat.le_of_ble_eq_true rfl), (Nat.le_of_ble_eq_true rfl)⟩ (fun r5 h5 => ?_)
    obtain ⟨b5, hb5, e5, hok5⟩ := h5
    subst e5
    refine lv_if_eq (tgt := 15) hx hb d_F_isKeyKind_8 (by decide) (fun c8 => ?_) (fun c8 => ?_)
    · have c8 : b5 = 0 := (nI_eq (by omega) (by omega)).mp (c8.trans nI_0.symm)
      refine lv_iconst (v := nI 0) hx hb d_F_isKeyKind_15 (by decide) ?_
      exact hret (nI 0) 16 ls (Or.inl rfl) ⟨0, by omega, rfl, fun h => absurd h (by omega), fun h => absurd h (fun ⟨j, h1, h2, e⟩ => absurd (hok5.mpr ⟨j, h2, e⟩) (by omega))⟩ d_F_isKeyKind_16
    · have c8 : ¬ b5 = 0 := fun h => c8 (((nI_eq (by omega) (by omega)).mpr h).trans nI_0)
      refine lv_iconst (v := nI 1) hx hb d_F_isKeyKind_11 (by decide) ?_
      refine lv_goto (tgt := 16) hx hb d_F_isKeyKind_12 (by decide) ?_
      exact hret (nI 1) 16 ls (Or.inr rfl) ⟨1, by omega, rfl, fun _ => by obtain ⟨j, h2, e⟩ := hok5.mp (by omega); exact ⟨j, Nat.pos_of_ne_zero (fun z => c1 (by rw [e, z]; rfl)), h2, e⟩, fun _ => rfl⟩ d_F_isKeyKind_16
set_option maxHeartbeats 4000000 in
set_option maxRecDepth 100000 in
/-- whole -/
theorem c_whole (l : Launch) (dC : Nat → ClassId) (dI : Nat → Nat → Nat) (cI cL cB : ClassId) (x0 : Nat) (tr : Nat) (f : Nat) (y1 : Nat) (y2 : Nat) (y3 : Nat) (y4 : Nat) (y5 : Nat) (a1 : Nat) (a2 : Nat) (a3 : Nat) (a4 : Nat) (a5 : Nat) (a6 : Nat) (ck : Nat) (nT : Nat) (g : Nat) (gt : Nat) (cn : Int64) (a : AS) (fi : Nat → Nat) (la : Nat → Nat) (kc : Nat → Nat) (vc : Nat → Nat) (bo : Nat → Nat) (ow : Nat → Nat) (ky : Nat → Int64) (kd : Nat → Nat) (nu : Nat → Int64) (fo : Nat → Nat) (sn : Nat → Nat) (t : Nat) (k : Int64) (hCI : CI nT a g gt ow ky kd nu fo sn fi la kc vc bo) (ht2 : t ≤ nT) : QryI l y_F_whole (wd y_F_whole b_F_whole 4 (some .int)) 3 75 (dC, dI) classes (tyK cI cL cB) [.ref x0, .int (nI t), .long k] [(x0, .inr (0, [.ref tr, .ref f, .int (nI ck), .long cn])), (tr, .inr (1, [.int (nI nT), .ref y1, .ref y2, .ref y3, .ref y4, .ref y5])), (y1, .inl (cI, hz_R gt, .inl (nf fi))), (y2, .inl (cI, hz_R gt, .inl (nf la))), (y3, .inl (cI, hz_R gt, .inl (nf kc))), (y4, .inl (cI, hz_R gt, .inl (nf vc))), (y5, .inl (cI, hz_R gt, .inl (nf bo))), (f, .inr (2, [.int (nI (aN a)), .ref a1, .ref a2, .ref a3, .ref a4, .ref a5, .ref a6])), (a1, .inl (cI, hz_L g, .inl (nf ow))), (a2, .inl (cL, hz_L g, .inr (.inl ky))), (a3, .inl (cB, hz_L g, .inl (nf kd))), (a4, .inl (cL, hz_L g, .inr (.inl nu))), (a5, .inl (cI, hz_L g, .inl (nf fo))), (a6, .inl (cI, hz_M g, .inl (nf sn)))] (fun r : Int32 => r = nI (aF a (t * 8 + 3) k)) := by
  obtain ⟨hCS, hCT, hgt, hRT⟩ := id hCI
  have hAI := hCS.1
  have hnT := hCS.2.1
  have hg := hCS.2.2.1
  have hnL := hCS.2.2.2.1
  have hAg := hCS.2.2.2.2.1
  have hk8 := hCS.2.2.2.2.2.1
  have hT := hCS.2.2.2.2.2.2
  have hO := hCS.O
  have hU := hCS.U
  have hg1 := hz_gen g hg
  have hg2 := hz_Rgen gt hgt
  have hn4 := hAI.1
  refine QryI.mk (cc := b_F_whole) (maxL := 4) (by decide) rfl (Nat.le_of_ble_eq_true rfl) ?_
  intro p e s m below meth c Z ls hx hb hml hown hts hP hK hret hl
  have hP : va_P (dC, dI) classes [(x0, .inr (0, [.ref tr, .ref f, .int (nI ck), .long cn])), (tr, .inr (1, [.int (nI nT), .ref y1, .ref y2, .ref y3, .ref y4, .ref y5])), (y1, .inl (cI, hz_R gt, .inl (nf fi))), (y2, .inl (cI, hz_R gt, .inl (nf la))), (y3, .inl (cI, hz_R gt, .inl (nf kc))), (y4, .inl (cI, hz_R gt, .inl (nf vc))), (y5, .inl (cI, hz_R gt, .inl (nf bo))), (f, .inr (2, [.int (nI (aN a)), .ref a1, .ref a2, .ref a3, .ref a4, .ref a5, .ref a6])), (a1, .inl (cI, hz_L g, .inl (nf ow))), (a2, .inl (cL, hz_L g, .inr (.inl ky))), (a3, .inl (cB, hz_L g, .inl (nf kd))), (a4, .inl (cL, hz_L g, .inr (.inl nu))), (a5, .inl (cI, hz_L g, .inl (nf fo))), (a6, .inl (cI, hz_M g, .inl (nf sn)))] s.heap := hP
  have hown : s.vm.findClass R_F = some m.cls := hown
  have hw : ∀ x ∈ WALL, x.before _ s = true := fun x h => hts x (List.mem_cons_of_mem _ h)
  have hl : lv_has ls 4 [(0, .ref x0), (1, .int (nI t)), (2, .long k)] := hl
  refine lv_aload_n hx hb d_F_whole_0 rfl (lv_at hl 0 rfl) ?_
  refine va_get (D := (dC, dI)) (ci := 0) (v := .ref f) (C := R_F) (T := T_F) (N := 4) hx hb hw in_F hown hK hP 0 rfl rfl 1 (by decide) (hw _ m_84) (fun _ h9 => h9) rfl d_F_whole_1 ?_
  refine lv_iload_n hx hb d_F_whole_4 rfl (lv_at hl 1 rfl) ?_
  refine lv_iconst (v := nI 3) hx hb d_F_whole_5 (by decide) ?_
  refine lv_lload_n hx hb d_F_whole_6 rfl (lv_at hl 2 rfl) ?_
  refine QryI.callV (ci := 2) (q0 := 0) (c_find l dC dI cI cL cB f a1 a2 a3 a4 a5 a6 (aN a) (hz_L g) (hz_M g) (7 + 2 * g) (aN a) t 3 k ow sn ky (by omega) (by omega) rfl (by omega) (by omega) (by omega) (by omega) hO hU hT) ⟨hx, hb, hml, hown, hw⟩ (fz_cwV 3 hw m_147 m_144 m_145 m_146 m_3 rfl rfl (by decide +kernel) ⟨Nat.le_of_ble_eq_true rfl, Nat.le_of_ble_eq_true rfl⟩) hK hP [7, 8, 9, 13] rfl rfl rfl rfl rfl hl.1 rfl (Nat.le_of_ble_eq_true rfl) d_F_whole_7 ⟨(Nat.le_of_ble_eq_true rfl), (Nat.le_of_ble_eq_true rfl)⟩ (fun r7 h7 => ?_)
  rw [hCS.F] at h7
  subst h7
  exact hret (nI (aF a (t * 8 + 3) k)) 10 ls rfl d_F_whole_10
set_option maxHeartbeats 4000000 in
set_option maxRecDepth 100000 in
/-- twin -/
theorem c_twin (l : Launch) (dC : Nat → ClassId) (dI : Nat → Nat → Nat) (cI cL cB : ClassId) (x0 : Nat) (tr : Nat) (f : Nat) (y1 : Nat) (y2 : Nat) (y3 : Nat) (y4 : Nat) (y5 : Nat) (a1 : Nat) (a2 : Nat) (a3 : Nat) (a4 : Nat) (a5 : Nat) (a6 : Nat) (ck : Nat) (nT : Nat) (g : Nat) (gt : Nat) (cn : Int64) (a : AS) (fi : Nat → Nat) (la : Nat → Nat) (kc : Nat → Nat) (vc : Nat → Nat) (bo : Nat → Nat) (ow : Nat → Nat) (ky : Nat → Int64) (kd : Nat → Nat) (nu : Nat → Int64) (fo : Nat → Nat) (sn : Nat → Nat) (t : Nat) (i : Nat) (hCI : CI nT a g gt ow ky kd nu fo sn fi la kc vc bo) (ht2 : t ≤ nT) (hi : i ≤ aN a) : QryI l y_F_twin (wd y_F_twin b_F_twin 3 (some .int)) 3 75 (dC, dI) classes (tyK cI cL cB) [.ref x0, .int (nI t), .int (nI i)] [(x0, .inr (0, [.ref tr, .ref f, .int (nI ck), .long cn])), (tr, .inr (1, [.int (nI nT), .ref y1, .ref y2, .ref y3, .ref y4, .ref y5])), (y1, .inl (cI, hz_R gt, .inl (nf fi))), (y2, .inl (cI, hz_R gt, .inl (nf la))), (y3, .inl (cI, hz_R gt, .inl (nf kc))), (y4, .inl (cI, hz_R gt, .inl (nf vc))), (y5, .inl (cI, hz_R gt, .inl (nf bo))), (f, .inr (2, [.int (nI (aN a)), .ref a1, .ref a2, .ref a3, .ref a4, .ref a5, .ref a6])), (a1, .inl (cI, hz_L g, .inl (nf ow))), (a2, .inl (cL, hz_L g, .inr (.inl ky))), (a3, .inl (cB, hz_L g, .inl (nf kd))), (a4, .inl (cL, hz_L g, .inr (.inl nu))), (a5, .inl (cI, hz_L g, .inl (nf fo))), (a6, .inl (cI, hz_M g, .inl (nf sn)))] (fun r : Int32 => r = nI (aF a (t * 8 + aO a i % 8) (aK a i))) := by
  obtain ⟨hCS, hCT, hgt, hRT⟩ := id hCI
  have hAI := hCS.1
  have hnT := hCS.2.1
  have hg := hCS.2.2.1
  have hnL := hCS.2.2.2.1
  have hAg := hCS.2.2.2.2.1
  have hk8 := hCS.2.2.2.2.2.1
  have hT := hCS.2.2.2.2.2.2
  have hO := hCS.O
  have hU := hCS.U
  have hg1 := hz_gen g hg
  have hg2 := hz_Rgen gt hgt
  have hn4 := hAI.1
  refine QryI.mk (cc := b_F_twin) (maxL := 3) (by decide) rfl (Nat.le_of_ble_eq_true rfl) ?_
  intro p e s m below meth c Z ls hx hb hml hown hts hP hK hret hl
  have hP : va_P (dC, dI) classes [(x0, .inr (0, [.ref tr, .ref f, .int (nI ck), .long cn])), (tr, .inr (1, [.int (nI nT), .ref y1, .ref y2, .ref y3, .ref y4, .ref y5])), (y1, .inl (cI, hz_R gt, .inl (nf fi))), (y2, .inl (cI, hz_R gt, .inl (nf la))), (y3, .inl (cI, hz_R gt, .inl (nf kc))), (y4, .inl (cI, hz_R gt, .inl (nf vc))), (y5, .inl (cI, hz_R gt, .inl (nf bo))), (f, .inr (2, [.int (nI (aN a)), .ref a1, .ref a2, .ref a3, .ref a4, .ref a5, .ref a6])), (a1, .inl (cI, hz_L g, .inl (nf ow))), (a2, .inl (cL, hz_L g, .inr (.inl ky))), (a3, .inl (cB, hz_L g, .inl (nf kd))), (a4, .inl (cL, hz_L g, .inr (.inl nu))), (a5, .inl (cI, hz_L g, .inl (nf fo))), (a6, .inl (cI, hz_M g, .inl (nf sn)))] s.heap := hP
  have hown : s.vm.findClass R_F = some m.cls := hown
  have hw : ∀ x ∈ WALL, x.before _ s = true := fun x h => hts x (List.mem_cons_of_mem _ h)
  have hl : lv_has ls 3 [(0, .ref x0), (1, .int (nI t)), (2, .int (nI i))] := hl
  refine lv_aload_n hx hb d_F_twin_0 rfl (lv_at hl 0 rfl) ?_
  refine va_get (D := (dC, dI)) (ci := 0) (v := .ref f) (C := R_F) (T := T_F) (N := 4) hx hb hw in_F hown hK hP 0 rfl rfl 1 (by decide) (hw _ m_84) (fun _ h9 => h9) rfl d_F_twin_1 ?_
  refine lv_iload_n hx hb d_F_twin_4 rfl (lv_at hl 1 rfl) ?_
  refine lv_aload_n hx hb d_F_twin_5 rfl (lv_at hl 0 rfl) ?_
  refine va_get (D := (dC, dI)) (ci := 0) (v := .ref f) (C := R_F) (T := T_F) (N := 4) hx hb hw in_F hown hK hP 0 rfl rfl 1 (by decide) (hw _ m_84) (fun _ h9 => h9) rfl d_F_twin_6 ?_
  refine lv_iload_n hx hb d_F_twin_9 rfl (lv_at hl 2 rfl) ?_
  refine QryI.callV (ci := 2) (q0 := 0) (c_keyKind l dC dI cI cL cB f a1 a2 a3 a4 a5 a6 (aN a) (hz_L g) i ow (by omega) (by omega) (hO i hi)) ⟨hx, hb, hml, hown, hw⟩ (fz_cwV 1 hw m_207 m_204 m_205 m_206 m_3 rfl rfl (by decide +kernel) ⟨Nat.le_of_ble_eq_true rfl, Nat.le_of_ble_eq_true rfl⟩) hK hP [7, 8] rfl rfl rfl rfl rfl hl.1 rfl (Nat.le_of_ble_eq_true rfl) d_F_twin_10 ⟨(Nat.le_of_ble_eq_true rfl), (Nat.le_of_ble_eq_true rfl)⟩ (fun r10 h10 => ?_)
  rw [(hAg i hi).1] at h10
  subst h10
  refine lv_aload_n hx hb d_F_twin_13 rfl (lv_at hl 0 rfl) ?_
  refine va_get (D := (dC, dI)) (ci := 0) (v := .ref f) (C := R_F) (T := T_F) (N := 4) hx hb hw in_F hown hK hP 0 rfl rfl 1 (by decide) (hw _ m_84) (fun _ h9 => h9) rfl d_F_twin_14 ?_
  refine va_get (D := (dC, dI)) (ci := 2) (v := .ref a2) (C := R_S) (T := T_S) (N := 7) hx hb hw in_S hown hK hP 7 rfl rfl 2 (by decide) (hw _ m_58) (fun _ h9 => h9) rfl d_F_twin_17 ?_
  refine lv_iload_n hx hb d_F_twin_20 rfl (lv_at hl 2 rfl) ?_
  refine fz_lald hx hb hK hP 9 1 rfl rfl (j := i) (by omega) (by omega) d_F_twin_21 ?_
  refine QryI.callV (ci := 2) (q0 := 0) (c_find l dC dI cI cL cB f a1 a2 a3 a4 a5 a6 (aN a) (hz_L g) (hz_M g) (7 + 2 * g) (aN a) t (aO a i % 8) (ky i) ow sn ky (by omega) (by omega) rfl (by omega) (by omega) (by omega) (by omega) hO hU hT) ⟨hx, hb, hml, hown, hw⟩ (fz_cwV 3 hw m_147 m_144 m_145 m_146 m_3 rfl rfl (by decide +kernel) ⟨Nat.le_of_ble_eq_true rfl, Nat.le_of_ble_eq_true rfl⟩) hK hP [7, 8, 9, 13] rfl rfl rfl rfl rfl hl.1 rfl (Nat.le_of_ble_eq_true rfl) d_F_twin_22 ⟨(Nat.le_of_ble_eq_true rfl), (Nat.le_of_ble_eq_true rfl)⟩ (fun r22 h22 => ?_)
  rw [(hAg i hi).2.1] at h22
  rw [hCS.F] at h22
  subst h22
  exact hret (nI (aF a (t * 8 + aO a i % 8) (aK a i))) 25 ls rfl d_F_twin_25
set_option maxHeartbeats 4000000 in
set_option maxRecDepth 100000 in
/-- append -/
theorem c_append (l : Launch) (dC : Nat → ClassId) (dI : Nat → Nat → Nat) (cI cL cB : ClassId) (x0 : Nat) (tr : Nat) (f : Nat) (y1 : Nat) (y2 : Nat) (y3 : Nat) (y4 : Nat) (y5 : Nat) (a1 : Nat) (a2 : Nat) (a3 : Nat) (a4 : Nat) (a5 : Nat) (a6 : Nat) (ck : Nat) (nT : Nat) (R : Nat) (L : Nat) (cnt : Nat) (t : Nat) (i : Nat) (cn : Int64) (fi : Nat → Nat) (la : Nat → Nat) (kc : Nat → Nat) (fo : Nat → Nat) (hR : t < R) (hR2 : R < 2 ^ 20) (hL : L < 2 ^ 20) (hla : la t < L) : StdV l y_F_append (wd y_F_append b_F_append 4 none) 0 0 0 0 (dC, dI) classes (tyK cI cL cB) [.ref x0, .int (nI t), .int (nI i)] [(x0, .inr (0, [.ref tr, .ref f, .int (nI ck), .long cn])), (tr, .inr (1, [.int (nI nT), .ref y1, .ref y2, .ref y3, .ref y4, .ref y5])), (f, .inr (2, [.int (nI cnt), .ref a1, .ref a2, .ref a3, .ref a4, .ref a5, .ref a6])), (y1, .inl (cI, R, .inl (nf fi))), (y2, .inl (cI, R, .inl (nf la))), (y3, .inl (cI, R, .inl (nf kc))), (a5, .inl (cI, L, .inl (nf fo)))] (fun (u : (Nat → Nat) × (Nat → Nat)) => u.1 = (if la t = 0 then va_up fi t i else fi) ∧ u.2 = (if la t = 0 then fo else va_up fo (la t) i)) (fun (u : (Nat → Nat) × (Nat → Nat)) => [(x0, .inr (0, [.ref tr, .ref f, .int (nI ck), .long cn])), (tr, .inr (1, [.int (nI nT), .ref y1, .ref y2, .ref y3, .ref y4, .ref y5])), (f, .inr (2, [.int (nI cnt), .ref a1, .ref a2, .ref a3, .ref a4, .ref a5, .ref a6])), (y1, .inl (cI, R, .inl (nf u.1))), (y2, .inl (cI, R, .inl (nf (va_up la t i)))), (y3, .inl (cI, R, .inl (nf (va_up kc t (kc t + 1))))), (a5, .inl (cI, L, .inl (nf u.2)))]) := by
  refine StdV.mk (cc := b_F_append) (maxL := 4) (by decide) rfl (Nat.le_of_ble_eq_true rfl) ?_
  intro p e s m below meth c A Z ls hx hb hml hown hts hin hP hK hD hA hS hret hl
  have hown : s.vm.findClass R_F = some m.cls := hown
  have hw : ∀ x ∈ WALL, x.before _ s = true := fun x h => hts x (List.mem_cons_of_mem _ h)
  have hl : lv_has ls 4 [(0, .ref x0), (1, .int (nI t)), (2, .int (nI i))] := hl
  refine lv_aload_n hx hb d_F_append_0 rfl (lv_at hl 0 rfl) ?_
  refine va_get (D := (dC, dI)) (ci := 0) (v := .ref tr) (C := R_F) (T := T_F) (N := 4) hx hb hw in_F hown hK hP 0 rfl rfl 0 (by decide) (hw _ m_83) (fun _ h9 => h9) rfl d_F_append_1 ?_
  refine va_get (D := (dC, dI)) (ci := 1) (v := .ref y2) (C := R_T) (T := T_T) (N := 6) hx hb hw in_T hown hK hP 1 rfl rfl 2 (by decide) (hw _ m_27) (fun _ h9 => h9) rfl d_F_append_4 ?_
  refine lv_iload_n hx hb d_F_append_7 rfl (lv_at hl 1 rfl) ?_
  refine fz_iald hx hb hK hP 4 0 rfl rfl (j := t) (by omega) (by omega) d_F_append_8 ?_
  refine lv_istore_n (lv' := [(3, .int (nI (la t))), (0, .ref x0), (1, .int (nI t)), (2, .int (nI i))]) hx hb d_F_append_9 rfl hl (by decide) rfl (fun ls hl => ?_)
  refine lv_iload_n hx hb d_F_append_10 rfl (lv_at hl 0 rfl) ?_
  refine lv_if_ne (tgt := 27) hx hb d_F_append_11 (by decide) (fun c11 => ?_) (fun c11 => ?_)
  · have c11 : ¬ la t = 0 := fun h => c11 (((nI_eq (by omega) (by omega)).mpr h).trans nI_0)
    refine lv_aload_n hx hb d_F_append_27 rfl (lv_at hl 1 rfl) ?_
    refine va_get (D := (dC, dI)) (ci := 0) (v := .ref f) (C := R_F) (T := T_F) (N := 4) hx hb hw in_F hown hK hP 0 rfl rfl 1 (by decide) (hw _ m_84) (fun _ h9 => h9) rfl d_F_append_28 ?_
    refine va_get (D := (dC, dI)) (ci := 2) (v := .ref a5) (C := R_S) (T := T_S) (N := 7) hx hb hw in_S hown hK hP 2 rfl rfl 5 (by decide) (hw _ m_64) (fun _ h9 => h9) rfl d_F_append_31 ?_
    refine lv_iload_n hx hb d_F_append_34 rfl (lv_at hl 0 rfl) ?_
    refine lv_iload_n hx hb d_F_append_35 rfl (lv_at hl 3 rfl) ?_
    refine fz_iast hx hb hK hP hD hS 6 0 rfl rfl (j := la t) (by omega) (by omega) d_F_append_36 (fun H locs hP hD hS => ?_)
    have hP : va_P (dC, dI) classes [(x0, .inr (0, [.ref tr, .ref f, .int (nI ck), .long cn])), (tr, .inr (1, [.int (nI nT), .ref y1, .ref y2, .ref y3, .ref y4, .ref y5])), (f, .inr (2, [.int (nI cnt), .ref a1, .ref a2, .ref a3, .ref a4, .ref a5, .ref a6])), (y1, .inl (cI, R, .inl (nf fi))), (y2, .inl (cI, R, .inl (nf la))), (y3, .inl (cI, R, .inl (nf kc))), (a5, .inl (cI, L, .inl (nf (va_up fo (la t) i))))] H := hP
    have hD : va_D A [(x0, .inr (0, [.ref tr, .ref f, .int (nI ck), .long cn])), (tr, .inr (1, [.int (nI nT), .ref y1, .ref y2, .ref y3, .ref y4, .ref y5])), (f, .inr (2, [.int (nI cnt), .ref a1, .ref a2, .ref a3, .ref a4, .ref a5, .ref a6])), (y1, .inl (cI, R, .inl (nf fi))), (y2, .inl (cI, R, .inl (nf la))), (y3, .inl (cI, R, .inl (nf kc))), (a5, .inl (cI, L, .inl (nf (va_up fo (la t) i))))] := hD
    refine lv_aload_n hx hb d_F_append_37 rfl (lv_at hl 1 rfl) ?_
    refine va_get (D := (dC, dI)) (ci := 0) (v := .ref tr) (C := R_F) (T := T_F) (N := 4) hx hb hw in_F hown hK hP 0 rfl rfl 0 (by decide) (hw _ m_83) (fun _ h9 => h9) rfl d_F_append_38 ?_
    refine va_get (D := (dC, dI)) (ci := 1) (v := .ref y2) (C := R_T) (T := T_T) (N := 6) hx hb hw in_T hown hK hP 1 rfl rfl 2 (by decide) (hw _ m_27) (fun _ h9 => h9) rfl d_F_append_41 ?_
    refine lv_iload_n hx hb d_F_append_44 rfl (lv_at hl 2 rfl) ?_
    refine lv_iload_n hx hb d_F_append_45 rfl (lv_at hl 3 rfl) ?_
    refine fz_iast hx hb hK hP hD hS 4 0 rfl rfl (j := t) (by omega) (by omega) d_F_append_46 (fun H locs hP hD hS => ?_)
    have hP : va_P (dC, dI) classes [(x0, .inr (0, [.ref tr, .ref f, .int (nI ck), .long cn])), (tr, .inr (1, [.int (nI nT), .ref y1, .ref y2, .ref y3, .ref y4, .ref y5])), (f, .inr (2, [.int (nI cnt), .ref a1, .ref a2, .ref a3, .ref a4, .ref a5, .ref a6])), (y1, .inl (cI, R, .inl (nf fi))), (y2, .inl (cI, R, .inl (nf (va_up la t i)))), (y3, .inl (cI, R, .inl (nf kc))), (a5, .inl (cI, L, .inl (nf (va_up fo (la t) i))))] H := hP
    have hD : va_D A [(x0, .inr (0, [.ref tr, .ref f, .int (nI ck), .long cn])), (tr, .inr (1, [.int (nI nT), .ref y1, .ref y2, .ref y3, .ref y4, .ref y5])), (f, .inr (2, [.int (nI cnt), .ref a1, .ref a2, .ref a3, .ref a4, .ref a5, .ref a6])), (y1, .inl (cI, R, .inl (nf fi))), (y2, .inl (cI, R, .inl (nf (va_up la t i)))), (y3, .inl (cI, R, .inl (nf kc))), (a5, .inl (cI, L, .inl (nf (va_up fo (la t) i))))] := hD
    refine lv_aload_n hx hb d_F_append_47 rfl (lv_at hl 1 rfl) ?_
    refine va_get (D := (dC, dI)) (ci := 0) (v := .ref tr) (C := R_F) (T := T_F) (N := 4) hx hb hw in_F hown hK hP 0 rfl rfl 0 (by decide) (hw _ m_83) (fun _ h9 => h9) rfl d_F_append_48 ?_
    refine va_get (D := (dC, dI)) (ci := 1) (v := .ref y3) (C := R_T) (T := T_T) (N := 6) hx hb hw in_T hown hK hP 1 rfl rfl 3 (by decide) (hw _ m_29) (fun _ h9 => h9) rfl d_F_append_51 ?_
    refine lv_iload_n hx hb d_F_append_54 rfl (lv_at hl 2 rfl) ?_
    refine lv_dup2_11 hx hb d_F_append_55 rfl rfl ?_
    refine fz_iald hx hb hK hP 5 0 rfl rfl (j := t) (by omega) (by omega) d_F_append_56 ?_
    refine lv_iconst (v := nI 1) hx hb d_F_append_57 (by decide) ?_
    refine lv_iadd hx hb d_F_append_58 ?_
    refine fz_eqi (y := nI ((kc t) + 1)) (nI_add (kc t) 1) ?_
    refine fz_iast hx hb hK hP hD hS 5 0 rfl rfl (j := t) (by omega) (by omega) d_F_append_59 (fun H locs hP hD hS => ?_)
    have hP : va_P (dC, dI) classes [(x0, .inr (0, [.ref tr, .ref f, .int (nI ck), .long cn])), (tr, .inr (1, [.int (nI nT), .ref y1, .ref y2, .ref y3, .ref y4, .ref y5])), (f, .inr (2, [.int (nI cnt), .ref a1, .ref a2, .ref a3, .ref a4, .ref a5, .ref a6])), (y1, .inl (cI, R, .inl (nf fi))), (y2, .inl (cI, R, .inl (nf (va_up la t i)))), (y3, .inl (cI, R, .inl (nf (va_up kc t ((kc t) + 1))))), (a5, .inl (cI, L, .inl (nf (va_up fo (la t) i))))] H := hP
    have hD : va_D A [(x0, .inr (0, [.ref tr, .ref f, .int (nI ck), .long cn])), (tr, .inr (1, [.int (nI nT), .ref y1, .ref y2, .ref y3, .ref y4, .ref y5])), (f, .inr (2, [.int (nI cnt), .ref a1, .ref a2, .ref a3, .ref a4, .ref a5, .ref a6])), (y1, .inl (cI, R, .inl (nf fi))), (y2, .inl (cI, R, .inl (nf (va_up la t i)))), (y3, .inl (cI, R, .inl (nf (va_up kc t ((kc t) + 1))))), (a5, .inl (cI, L, .inl (nf (va_up fo (la t) i))))] := hD
    have hpost : fi = (if la t = 0 then va_up fi t i else fi) ∧ (va_up fo (la t) i) = (if la t = 0 then fo else va_up fo (la t) i) := ⟨(if_neg c11).symm, (if_neg c11).symm⟩
    exact hret (fi, va_up fo (la t) i) _ _ 60 ls hpost hP hD hS d_F_append_60
  · have c11 : la t = 0 := (nI_eq (by omega) (by omega)).mp (c11.trans nI_0.symm)
    refine lv_aload_n hx hb d_F_append_14 rfl (lv_at hl 1 rfl) ?_
    refine va_get (D := (dC, dI)) (ci := 0) (v := .ref tr) (C := R_F) (T := T_F) (N := 4) hx hb hw in_F hown hK hP 0 rfl rfl 0 (by decide) (hw _ m_83) (fun _ h9 => h9) rfl d_F_append_15 ?_
    refine va_get (D := (dC, dI)) (ci := 1) (v := .ref y1) (C := R_T) (T := T_T) (N := 6) hx hb hw in_T hown hK hP 1 rfl rfl 1 (by decide) (hw _ m_25) (fun _ h9 => h9) rfl d_F_append_18 ?_
    refine lv_iload_n hx hb d_F_append_21 rfl (lv_at hl 2 rfl) ?_
    refine lv_iload_n hx hb d_F_append_22 rfl (lv_at hl 3 rfl) ?_
    refine fz_iast hx hb hK hP hD hS 3 0 rfl rfl (j := t) (by omega) (by omega) d_F_append_23 (fun H locs hP hD hS => ?_)
    have hP : va_P (dC, dI) classes [(x0, .inr (0, [.ref tr, .ref f, .int (nI ck), .long cn])), (tr, .inr (1, [.int (nI nT), .ref y1, .ref y2, .ref y3, .ref y4, .ref y5])), (f, .inr (2, [.int (nI cnt), .ref a1, .ref a2, .ref a3, .ref a4, .ref a5, .ref a6])), (y1, .inl (cI, R, .inl (nf (va_up fi t i)))), (y2, .inl (cI, R, .inl (nf la))), (y3, .inl (cI, R, .inl (nf kc))), (a5, .inl (cI, L, .inl (nf fo)))] H := hP
    have hD : va_D A [(x0, .inr (0, [.ref tr, .ref f, .int (nI ck), .long cn])), (tr, .inr (1, [.int (nI nT), .ref y1, .ref y2, .ref y3, .ref y4, .ref y5])), (f, .inr (2, [.int (nI cnt), .ref a1, .ref a2, .ref a3, .ref a4, .ref a5, .ref a6])), (y1, .inl (cI, R, .inl (nf (va_up fi t i)))), (y2, .inl (cI, R, .inl (nf la))), (y3, .inl (cI, R, .inl (nf kc))), (a5, .inl (cI, L, .inl (nf fo)))] := hD
    refine lv_goto (tgt := 37) hx hb d_F_append_24 (by decide) ?_
    refine lv_aload_n hx hb d_F_append_37 rfl (lv_at hl 1 rfl) ?_
    refine va_get (D := (dC, dI)) (ci := 0) (v := .ref tr) (C := R_F) (T := T_F) (N := 4) hx hb hw in_F hown hK hP 0 rfl rfl 0 (by decide) (hw _ m_83) (fun _ h9 => h9) rfl d_F_append_38 ?_
    refine va_get (D := (dC, dI)) (ci := 1) (v := .ref y2) (C := R_T) (T := T_T) (N := 6) hx hb hw in_T hown hK hP 1 rfl rfl 2 (by decide) (hw _ m_27) (fun _ h9 => h9) rfl d_F_append_41 ?_
    refine lv_iload_n hx hb d_F_append_44 rfl (lv_at hl 2 rfl) ?_
    refine lv_iload_n hx hb d_F_append_45 rfl (lv_at hl 3 rfl) ?_
    refine fz_iast hx hb hK hP hD hS 4 0 rfl rfl (j := t) (by omega) (by omega) d_F_append_46 (fun H locs hP hD hS => ?_)
    have hP : va_P (dC, dI) classes [(x0, .inr (0, [.ref tr, .ref f, .int (nI ck), .long cn])), (tr, .inr (1, [.int (nI nT), .ref y1, .ref y2, .ref y3, .ref y4, .ref y5])), (f, .inr (2, [.int (nI cnt), .ref a1, .ref a2, .ref a3, .ref a4, .ref a5, .ref a6])), (y1, .inl (cI, R, .inl (nf (va_up fi t i)))), (y2, .inl (cI, R, .inl (nf (va_up la t i)))), (y3, .inl (cI, R, .inl (nf kc))), (a5, .inl (cI, L, .inl (nf fo)))] H := hP
    have hD : va_D A [(x0, .inr (0, [.ref tr, .ref f, .int (nI ck), .long cn])), (tr, .inr (1, [.int (nI nT), .ref y1, .ref y2, .ref y3, .ref y4, .ref y5])), (f, .inr (2, [.int (nI cnt), .ref a1, .ref a2, .ref a3, .ref a4, .ref a5, .ref a6])), (y1, .inl (cI, R, .inl (nf (va_up fi t i)))), (y2, .inl (cI, R, .inl (nf (va_up la t i)))), (y3, .inl (cI, R, .inl (nf kc))), (a5, .inl (cI, L, .inl (nf fo)))] := hD
    refine lv_aload_n hx hb d_F_append_47 rfl (lv_at hl 1 rfl) ?_
    refine va_get (D := (dC, dI)) (ci := 0) (v := .ref tr) (C := R_F) (T := T_F) (N := 4) hx hb hw in_F hown hK hP 0 rfl rfl 0 (by decide) (hw _ m_83) (fun _ h9 => h9) rfl d_F_append_48 ?_
    refine va_get (D := (dC, dI)) (ci := 1) (v := .ref y3) (C := R_T) (T := T_T) (N := 6) hx hb hw in_T hown hK hP 1 rfl rfl 3 (by decide) (hw _ m_29) (fun _ h9 => h9) rfl d_F_append_51 ?_
    refine lv_iload_n hx hb d_F_append_54 rfl (lv_at hl 2 rfl) ?_
    refine lv_dup2_11 hx hb d_F_append_55 rfl rfl ?_
    refine fz_iald hx hb hK hP 5 0 rfl rfl (j := t) (by omega) (by omega) d_F_append_56 ?_
    refine lv_iconst (v := nI 1) hx hb d_F_append_57 (by decide) ?_
    refine lv_iadd hx hb d_F_append_58 ?_
    refine fz_eqi (y := nI ((kc t) + 1)) (nI_add (kc t) 1) ?_
    refine fz_iast hx hb hK hP hD hS 5 0 rfl rfl (j := t) (by omega) (by omega) d_F_append_59 (fun H locs hP hD hS => ?_)
    have hP : va_P (dC, dI) classes [(x0, .inr (0, [.ref tr, .ref f, .int (nI ck), .long cn])), (tr, .inr (1, [.int (nI nT), .ref y1, .ref y2, .ref y3, .ref y4, .ref y5])), (f, .inr (2, [.int (nI cnt), .ref a1, .ref a2, .ref a3, .ref a4, .ref a5, .ref a6])), (y1, .inl (cI, R, .inl (nf (va_up fi t i)))), (y2, .inl (cI, R, .inl (nf (va_up la t i)))), (y3, .inl (cI, R, .inl (nf (va_up kc t ((kc t) + 1))))), (a5, .inl (cI, L, .inl (nf fo)))] H := hP
    have hD : va_D A [(x0, .inr (0, [.ref tr, .ref f, .int (nI ck), .long cn])), (tr, .inr (1, [.int (nI nT), .ref y1, .ref y2, .ref y3, .ref y4, .ref y5])), (f, .inr (2, [.int (nI cnt), .ref a1, .ref a2, .ref a3, .ref a4, .ref a5, .ref a6])), (y1, .inl (cI, R, .inl (nf (va_up fi t i)))), (y2, .inl (cI, R, .inl (nf (va_up la t i)))), (y3, .inl (cI, R, .inl (nf (va_up kc t ((kc t) + 1))))), (a5, .inl (cI, L, .inl (nf fo)))] := hD
    have hpost : (va_up fi t i) = (if la t = 0 then va_up fi t i else fi) ∧ fo = (if la t = 0 then fo else va_up fo (la t) i) := ⟨(if_pos c11).symm, (if_pos c11).symm⟩
    exact hret (va_up fi t i, fo) _ _ 60 ls hpost hP hD hS d_F_append_60
end
section
set_option maxHeartbeats 4000000 in
set_option maxRecDepth 100000 in
/-- lowerBorder -/
theorem c_lowerBorder (l : Launch) (dC : Nat → ClassId) (dI : Nat → Nat → Nat) (cI cL cB : ClassId) (x0 : Nat) (tr : Nat) (f : Nat) (y1 : Nat) (y2 : Nat) (y3 : Nat) (y4 : Nat) (y5 : Nat) (ck : Nat) (nT : Nat) (R : Nat) (t : Nat) (cn : Int64) (k : Int64) (bo : Nat → Nat) (hR : t < R) (hR2 : R < 2 ^ 20) (hbo : bo t < 2 ^ 20) : StdV l y_F_lowerBorder (wd y_F_lowerBorder b_F_lowerBorder 4 none) 0 0 0 0 (dC, dI) classes (tyK cI cL cB) [.ref x0, .int (nI t), .long k] [(x0, .inr (0, [.ref tr, .ref f, .int (nI ck), .long cn])), (tr, .inr (1, [.int (nI nT), .ref y1, .ref y2, .ref y3, .ref y4, .ref y5])), (y5, .inl (cI, R, .inl (nf bo)))] (fun (u : (Nat → Nat)) => (∀ jq, 1 ≤ jq → jq ≤ bo t → k = lN jq → u = va_up bo t (jq - 1)) ∧ ((∀ jq, 1 ≤ jq → jq ≤ bo t → k ≠ lN jq) → u = bo)) (fun (u : (Nat → Nat)) => [(x0, .inr (0, [.ref tr, .ref f, .int (nI ck), .long cn])), (tr, .inr (1, [.int (nI nT), .ref y1, .ref y2, .ref y3, .ref y4, .ref y5])), (y5, .inl (cI, R, .inl (nf u)))]) := by
  refine StdV.mk (cc := b_F_lowerBorder) (maxL := 4) (by decide) rfl (Nat.le_of_ble_eq_true rfl) ?_
  intro p e s m below meth c A Z ls hx hb hml hown hts hin hP hK hD hA hS hret hl
  have hown : s.vm.findClass R_F = some m.cls := hown
  have hw : ∀ x ∈ WALL, x.before _ s = true := fun x h => hts x (List.mem_cons_of_mem _ h)
  have hl : lv_has ls 4 [(0, .ref x0), (1, .int (nI t)), (2, .long k)] := hl
  refine lv_lload_n hx hb d_F_lowerBorder_0 rfl (lv_at hl 2 rfl) ?_
  refine lv_lconst (v := lN 1) hx hb d_F_lowerBorder_1 rfl ?_
  refine W.lcmp hx hb d_F_lowerBorder_2 ?_
  refine lv_if_lt (tgt := 34) hx hb d_F_lowerBorder_3 (by decide) (fun c3 => ?_) (fun c3 => ?_)
  · have c3 : k < lN 1 := (lg_cmp_lt _ _).mp c3
    have hpost : (∀ jq, 1 ≤ jq → jq ≤ bo t → k = lN jq → bo = va_up bo t (jq - 1)) ∧ ((∀ jq, 1 ≤ jq → jq ≤ bo t → k ≠ lN jq) → bo = bo) := ⟨fun j h1 h2 e => absurd c3 (by rw [e, pk_lLT (by omega) (by omega)]; omega), fun _ => rfl⟩
    exact hret (bo) _ _ 34 ls hpost hP hD hS d_F_lowerBorder_34
  · have c3 : ¬ k < lN 1 := fun h => c3 ((lg_cmp_lt _ _).mpr h)
    refine lv_lload_n hx hb d_F_lowerBorder_6 rfl (lv_at hl 2 rfl) ?_
    refine lv_aload_n hx hb d_F_lowerBorder_7 rfl (lv_at hl 0 rfl) ?_
    refine va_get (D := (dC, dI)) (ci := 0) (v := .ref tr) (C := R_F) (T := T_F) (N := 4) hx hb hw in_F hown hK hP 0 rfl rfl 0 (by decide) (hw _ m_83) (fun _ h9 => h9) rfl d_F_lowerBorder_8 ?_
    refine va_get (D := (dC, dI)) (ci := 1) (v := .ref y5) (C := R_T) (T := T_T) (N := 6) hx hb hw in_T hown hK hP 1 rfl rfl 5 (by decide) (hw _ m_33) (fun _ h9 => h9) rfl d_F_lowerBorder_11 ?_
    refine lv_iload_n hx hb d_F_lowerBorder_14 rfl (lv_at hl 1 rfl) ?_
    refine fz_iald hx hb hK hP 2 0 rfl rfl (j := t) (by omega) (by omega) d_F_lowerBorder_15 ?_
    refine lv_i2l (v := lN (bo t)) hx hb d_F_lowerBorder_16 (nI_l (by omega)) ?_
    refine W.lcmp hx hb d_F_lowerBorder_17 ?_
    refine lv_if_gt (tgt := 34) hx hb d_F_lowerBorder_18 (by decide) (fun c18 => ?_) (fun c18 => ?_)
    · have c18 : lN (bo t) < k := (lg_cmp_gt _ _).mp c18
      have hpost : (∀ jq, 1 ≤ jq → jq ≤ bo t → k = lN jq → bo = va_up bo t (jq - 1)) ∧ ((∀ jq, 1 ≤ jq → jq ≤ bo t → k ≠ lN jq) → bo = bo) := ⟨fun j h1 h2 e => absurd c18 (by rw [e, pk_lLT (by omega) (by omega)]; omega), fun _ => rfl⟩
      exact hret (bo) _ _ 34 ls hpost hP hD hS d_F_lowerBorder_34
    · have c18 : ¬ lN (bo t) < k := fun h => c18 ((lg_cmp_gt _ _).mpr h)
      obtain ⟨j, hj1, hj2, ekj⟩ := lN_of (by omega) c3 c18
      rw [ekj] at hl
      refine lv_aload_n hx hb d_F_lowerBorder_21 rfl (lv_at hl 0 rfl) ?_
      refine va_get (D := (dC, dI)) (ci := 0) (v := .ref tr) (C := R_F) (T := T_F) (N := 4) hx hb hw in_F hown hK hP 0 rfl rfl 0 (by decide) (hw _ m_83) (fun _ h9 => h9) rfl d_F_lowerBorder_22 ?_
      refine va_get (D := (dC, dI)) (ci := 1) (v := .ref y5) (C := R_T) (T := T_T) (N := 6) hx hb hw in_T hown hK hP 1 rfl rfl 5 (by decide) (hw _ m_33) (fun _ h9 => h9) rfl d_F_lowerBorder_25 ?_
      refine lv_iload_n hx hb d_F_lowerBorder_28 rfl (lv_at hl 1 rfl) ?_
      refine lv_lload_n hx hb d_F_lowerBorder_29 rfl (lv_at hl 2 rfl) ?_
      refine lv_lconst (v := lN 1) hx hb d_F_lowerBorder_30 rfl ?_
      refine lv_lsub hx hb d_F_lowerBorder_31 ?_
      refine fz_eql (y := lN (j - 1)) (lN_sub (by omega)) ?_
      refine lv_l2i (v := nI (j - 1)) hx hb d_F_lowerBorder_32 (lN_i (j - 1)) ?_
      refine fz_iast hx hb hK hP hD hS 2 0 rfl rfl (j := t) (by omega) (by omega) d_F_lowerBorder_33 (fun H locs hP hD hS => ?_)
      have hP : va_P (dC, dI) classes [(x0, .inr (0, [.ref tr, .ref f, .int (nI ck), .long cn])), (tr, .inr (1, [.int (nI nT), .ref y1, .ref y2, .ref y3, .ref y4, .ref y5])), (y5, .inl (cI, R, .inl (nf (va_up bo t (j - 1)))))] H := hP
      have hD : va_D A [(x0, .inr (0, [.ref tr, .ref f, .int (nI ck), .long cn])), (tr, .inr (1, [.int (nI nT), .ref y1, .ref y2, .ref y3, .ref y4, .ref y5])), (y5, .inl (cI, R, .inl (nf (va_up bo t (j - 1)))))] := hD
      have hpost : (∀ jq, 1 ≤ jq → jq ≤ bo t → k = lN jq → (va_up bo t (j - 1)) = va_up bo t (jq - 1)) ∧ ((∀ jq, 1 ≤ jq → jq ≤ bo t → k ≠ lN jq) → (va_up bo t (j - 1)) = bo) := ⟨fun i h1 h2 e => by rw [ekj] at e; rw [lN_ne (by omega) (by omega) e], fun h => absurd ekj (h j hj1 hj2)⟩
      exact hret (va_up bo t (j - 1)) _ _ 34 ls hpost hP hD hS d_F_lowerBorder_34
set_option maxHeartbeats 4000000 in
set_option maxRecDepth 100000 in
/-- raiseBorder -/
theorem c_raiseBorder (l : Launch) (dC : Nat → ClassId) (dI : Nat → Nat → Nat) (cI cL cB : ClassId) (x0 : Nat) (tr : Nat) (f : Nat) (y1 : Nat) (y2 : Nat) (y3 : Nat) (y4 : Nat) (y5 : Nat) (a1 : Nat) (a2 : Nat) (a3 : Nat) (a4 : Nat) (a5 : Nat) (a6 : Nat) (ck : Nat) (nT : Nat) (g : Nat) (gt : Nat) (cn : Int64) (a : AS) (fi : Nat → Nat) (la : Nat → Nat) (kc : Nat → Nat) (vc : Nat → Nat) (bo : Nat → Nat) (ow : Nat → Nat) (ky : Nat → Int64) (kd : Nat → Nat) (nu : Nat → Int64) (fo : Nat → Nat) (sn : Nat → Nat) (t : Nat) (k : Int64) (hCS : CS nT a g ow ky kd nu sn) (hgt : gt ≤ 11) (hRT : nT < hz_R gt) (ht2 : t ≤ nT) (hb1 : ∀ j, 1 ≤ j → j ≤ bo t → wK a t j ≠ 0) (hb2 : k = lN (bo t + 1) → wK a t (bo t + 1) ≠ 0) : StdV l y_F_raiseBorder (wd y_F_raiseBorder b_F_raiseBorder 5 none) 3 75 0 0 (dC, dI) classes (tyK cI cL cB) [.ref x0, .int (nI t), .long k] [(x0, .inr (0, [.ref tr, .ref f, .int (nI ck), .long cn])), (tr, .inr (1, [.int (nI nT), .ref y1, .ref y2, .ref y3, .ref y4, .ref y5])), (y1, .inl (cI, hz_R gt, .inl (nf fi))), (y2, .inl (cI, hz_R gt, .inl (nf la))), (y3, .inl (cI, hz_R gt, .inl (nf kc))), (y4, .inl (cI, hz_R gt, .inl (nf vc))), (y5, .inl (cI, hz_R gt, .inl (nf bo))), (f, .inr (2, [.int (nI (aN a)), .ref a1, .ref a2, .ref a3, .ref a4, .ref a5, .ref a6])), (a1, .inl (cI, hz_L g, .inl (nf ow))), (a2, .inl (cL, hz_L g, .inr (.inl ky))), (a3, .inl (cB, hz_L g, .inl (nf kd))), (a4, .inl (cL, hz_L g, .inr (.inl nu))), (a5, .inl (cI, hz_L g, .inl (nf fo))), (a6, .inl (cI, hz_M g, .inl (nf sn)))] (fun (u : (Nat → Nat)) => (k ≠ lN (bo t + 1) → u = bo) ∧ (k = lN (bo t + 1) → ∃ bq, isB a t bq ∧ u = va_up bo t bq)) (fun (u : (Nat → Nat)) => [(x0, .inr (0, [.ref tr, .ref f, .int (nI ck), .long cn])), (tr, .inr (1, [.int (nI nT), .ref y1, .ref y2, .ref y3, .ref y4, .ref y5])), (y1, .inl (cI, hz_R gt, .inl (nf fi))), (y2, .inl (cI, hz_R gt, .inl (nf la))), (y3, .inl (cI, hz_R gt, .inl (nf kc))), (y4, .inl (cI, hz_R gt, .inl (nf vc))), (y5, .inl (cI, hz_R gt, .inl (nf u))), (f, .inr (2, [.int (nI (aN a)), .ref a1, .ref a2, .ref a3, .ref a4, .ref a5, .ref a6])), (a1, .inl (cI, hz_L g, .inl (nf ow))), (a2, .inl (cL, hz_L g, .inr (.inl ky))), (a3, .inl (cB, hz_L g, .inl (nf kd))), (a4, .inl (cL, hz_L g, .inr (.inl nu))), (a5, .inl (cI, hz_L g, .inl (nf fo))), (a6, .inl (cI, hz_M g, .inl (nf sn)))]) := by
  have hAI := hCS.1
  have hnT := hCS.2.1
  have hg := hCS.2.2.1
  have hnL := hCS.2.2.2.1
  have hAg := hCS.2.2.2.2.1
  have hk8 := hCS.2.2.2.2.2.1
  have hT := hCS.2.2.2.2.2.2
  have hO := hCS.O
  have hU := hCS.U
  have hg1 := hz_gen g hg
  have hg2 := hz_Rgen gt hgt
  have hn4 := hAI.1
  refine StdV.mk (cc := b_F_raiseBorder) (maxL := 5) (by decide) rfl (Nat.le_of_ble_eq_true rfl) ?_
  intro p e s m below meth c A Z ls hx hb hml hown hts hin hP hK hD hA hS hret hl
  have hown : s.vm.findClass R_F = some m.cls := hown
  have hw : ∀ x ∈ WALL, x.before _ s = true := fun x h => hts x (List.mem_cons_of_mem _ h)
  have hl : lv_has ls 5 [(0, .ref x0), (1, .int (nI t)), (2, .long k)] := hl
  refine lv_aload_n hx hb d_F_raiseBorder_0 rfl (lv_at hl 0 rfl) ?_
  refine va_get (D := (dC, dI)) (ci := 0) (v := .ref tr) (C := R_F) (T := T_F) (N := 4) hx hb hw in_F hown hK hP 0 rfl rfl 0 (by decide) (hw _ m_83) (fun _ h9 => h9) rfl d_F_raiseBorder_1 ?_
  refine va_get (D := (dC, dI)) (ci := 1) (v := .ref y5) (C := R_T) (T := T_T) (N := 6) hx hb hw in_T hown hK hP 1 rfl rfl 5 (by decide) (hw _ m_33) (fun _ h9 => h9) rfl d_F_raiseBorder_4 ?_
  refine lv_iload_n hx hb d_F_raiseBorder_7 rfl (lv_at hl 1 rfl) ?_
  refine fz_iald hx hb hK hP 6 0 rfl rfl (j := t) (by omega) (by omega) d_F_raiseBorder_8 ?_
  have hb3 := wB_le hAI hb1
  refine lv_istore (lv' := [(4, .int (nI (bo t))), (0, .ref x0), (1, .int (nI t)), (2, .long k)]) hx hb d_F_raiseBorder_9 hl (by decide) rfl (fun ls hl => ?_)
  refine lv_lload_n hx hb d_F_raiseBorder_11 rfl (lv_at hl 3 rfl) ?_
  refine lv_iload hx hb d_F_raiseBorder_12 (lv_at hl 0 rfl) ?_
  refine lv_i2l (v := lN (bo t)) hx hb d_F_raiseBorder_14 (nI_l (by omega)) ?_
  refine lv_lconst (v := lN 1) hx hb d_F_raiseBorder_15 rfl ?_
  refine lv_ladd hx hb d_F_raiseBorder_16 ?_
  refine fz_eql (y := lN ((bo t) + 1)) (lN_add (bo t) 1) ?_
  refine W.lcmp hx hb d_F_raiseBorder_17 ?_
  refine lv_if_eq (tgt := 22) hx hb d_F_raiseBorder_18 (by decide) (fun c18 => ?_) (fun c18 => ?_)
  · have c18 : k = lN ((bo t) + 1) := (lg_cmp_eq _ _).mp c18
    refine lv_iinc (v := nI ((bo t) + 1)) (lv' := [(4, .int (nI ((bo t) + 1))), (0, .ref x0), (1, .int (nI t)), (2, .long k)]) hx hb d_F_raiseBorder_22 hl (k := 0) rfl (fz_inc (bo t)) (by decide) rfl (fun ls hl => ?_)
    have loop_25 : ∀ (fuel : Nat) (b : Nat), (∀ j, 1 ≤ j → j ≤ b → wK a t j ≠ 0) → 40001 - b < fuel → ∀ (H : Heap) (locs : List Loc), va_P (dC, dI) classes [(x0, .inr (0, [.ref tr, .ref f, .int (nI ck), .long cn])), (tr, .inr (1, [.int (nI nT), .ref y1, .ref y2, .ref y3, .ref y4, .ref y5])), (y1, .inl (cI, hz_R gt, .inl (nf fi))), (y2, .inl (cI, hz_R gt, .inl (nf la))), (y3, .inl (cI, hz_R gt, .inl (nf kc))), (y4, .inl (cI, hz_R gt, .inl (nf vc))), (y5, .inl (cI, hz_R gt, .inl (nf bo))), (f, .inr (2, [.int (nI (aN a)), .ref a1, .ref a2, .ref a3, .ref a4, .ref a5, .ref a6])), (a1, .inl (cI, hz_L g, .inl (nf ow))), (a2, .inl (cL, hz_L g, .inr (.inl ky))), (a3, .inl (cB, hz_L g, .inl (nf kd))), (a4, .inl (cL, hz_L g, .inr (.inl nu))), (a5, .inl (cI, hz_L g, .inl (nf fo))), (a6, .inl (cI, hz_M g, .inl (nf sn)))] H → va_D A [(x0, .inr (0, [.ref tr, .ref f, .int (nI ck), .long cn])), (tr, .inr (1, [.int (nI nT), .ref y1, .ref y2, .ref y3, .ref y4, .ref y5])), (y1, .inl (cI, hz_R gt, .inl (nf fi))), (y2, .inl (cI, hz_R gt, .inl (nf la))), (y3, .inl (cI, hz_R gt, .inl (nf kc))), (y4, .inl (cI, hz_R gt, .inl (nf vc))), (y5, .inl (cI, hz_R gt, .inl (nf bo))), (f, .inr (2, [.int (nI (aN a)), .ref a1, .ref a2, .ref a3, .ref a4, .ref a5, .ref a6])), (a1, .inl (cI, hz_L g, .inl (nf ow))), (a2, .inl (cL, hz_L g, .inr (.inl ky))), (a3, .inl (cB, hz_L g, .inl (nf kd))), (a4, .inl (cL, hz_L g, .inr (.inl nu))), (a5, .inl (cI, hz_L g, .inl (nf fo))), (a6, .inl (cI, hz_M g, .inl (nf sn)))] → va_S A s.heap H locs → ∀ (ls : Array Slot), lv_has ls 5 [(0, .ref x0), (1, .int (nI t)), (2, .long k), (4, .int (nI b))] → W p l e { frames := 3, cells := 0, slots := 0, locals := 75 } s m [.ref x0, .int (nI t), .long k].toArray below meth c H locs 0 0 Z (F0 m 25 ls []) := by
      intro fuel
      induction fuel with
      | zero => intro b hB hfuel; exact absurd hfuel (Nat.not_lt_zero _)
      | succ fuel ih =>
        intro b hB hfuel H locs hP hD hS ls hl
        have hb9 := wB_le hAI hB
        refine lv_iload hx hb d_F_raiseBorder_25 (lv_at hl 3 rfl) ?_
        refine lv_ldc (v := 40000) hx hb hown (hw _ m_212) d_F_raiseBorder_27 ?_
        refine fz_eqi (y := nI 40000) (by decide) ?_
        refine lv_icmp_ge (tgt := 63) hx hb d_F_raiseBorder_29 (by decide) (fun c29 => ?_) (fun c29 => ?_)
        · have c29 : 40000 ≤ b := by exact (nI_leI (by omega) (by omega)).mp c29
          refine lv_aload_n hx hb d_F_raiseBorder_63 rfl (lv_at hl 0 rfl) ?_
          refine va_get (D := (dC, dI)) (ci := 0) (v := .ref tr) (C := R_F) (T := T_F) (N := 4) hx hb hw in_F hown hK hP 0 rfl rfl 0 (by decide) (hw _ m_83) (fun _ h9 => h9) rfl d_F_raiseBorder_64 ?_
          refine va_get (D := (dC, dI)) (ci := 1) (v := .ref y5) (C := R_T) (T := T_T) (N := 6) hx hb hw in_T hown hK hP 1 rfl rfl 5 (by decide) (hw _ m_33) (fun _ h9 => h9) rfl d_F_raiseBorder_67 ?_
          refine lv_iload_n hx hb d_F_raiseBorder_70 rfl (lv_at hl 1 rfl) ?_
          refine lv_iload hx hb d_F_raiseBorder_71 (lv_at hl 3 rfl) ?_
          refine fz_iast hx hb hK hP hD hS 6 0 rfl rfl (j := t) (by omega) (by omega) d_F_raiseBorder_73 (fun H locs hP hD hS => ?_)
          have hP : va_P (dC, dI) classes [(x0, .inr (0, [.ref tr, .ref f, .int (nI ck), .long cn])), (tr, .inr (1, [.int (nI nT), .ref y1, .ref y2, .ref y3, .ref y4, .ref y5])), (y1, .inl (cI, hz_R gt, .inl (nf fi))), (y2, .inl (cI, hz_R gt, .inl (nf la))), (y3, .inl (cI, hz_R gt, .inl (nf kc))), (y4, .inl (cI, hz_R gt, .inl (nf vc))), (y5, .inl (cI, hz_R gt, .inl (nf (va_up bo t b)))), (f, .inr (2, [.int (nI (aN a)), .ref a1, .ref a2, .ref a3, .ref a4, .ref a5, .ref a6])), (a1, .inl (cI, hz_L g, .inl (nf ow))), (a2, .inl (cL, hz_L g, .inr (.inl ky))), (a3, .inl (cB, hz_L g, .inl (nf kd))), (a4, .inl (cL, hz_L g, .inr (.inl nu))), (a5, .inl (cI, hz_L g, .inl (nf fo))), (a6, .inl (cI, hz_M g, .inl (nf sn)))] H := hP
          have hD : va_D A [(x0, .inr (0, [.ref tr, .ref f, .int (nI ck), .long cn])), (tr, .inr (1, [.int (nI nT), .ref y1, .ref y2, .ref y3, .ref y4, .ref y5])), (y1, .inl (cI, hz_R gt, .inl (nf fi))), (y2, .inl (cI, hz_R gt, .inl (nf la))), (y3, .inl (cI, hz_R gt, .inl (nf kc))), (y4, .inl (cI, hz_R gt, .inl (nf vc))), (y5, .inl (cI, hz_R gt, .inl (nf (va_up bo t b)))), (f, .inr (2, [.int (nI (aN a)), .ref a1, .ref a2, .ref a3, .ref a4, .ref a5, .ref a6])), (a1, .inl (cI, hz_L g, .inl (nf ow))), (a2, .inl (cL, hz_L g, .inr (.inl ky))), (a3, .inl (cB, hz_L g, .inl (nf kd))), (a4, .inl (cL, hz_L g, .inr (.inl nu))), (a5, .inl (cI, hz_L g, .inl (nf fo))), (a6, .inl (cI, hz_M g, .inl (nf sn)))] := hD
          have hpost : (k ≠ lN (bo t + 1) → (va_up bo t b) = bo) ∧ (k = lN (bo t + 1) → ∃ bq, isB a t bq ∧ (va_up bo t b) = va_up bo t bq) := ⟨fun h => absurd c18 h, fun _ => ⟨b, (by have e4 : b = 40000 := (by omega); rw [e4] at hB ⊢; exact isB.full hAI hB), rfl⟩⟩
          exact hret (va_up bo t b) _ _ 74 ls hpost hP hD hS d_F_raiseBorder_74
        · have c29 : ¬ 40000 ≤ b := fun h => c29 (by exact (nI_leI (by omega) (by omega)).mpr h)
          refine lv_aload_n hx hb d_F_raiseBorder_32 rfl (lv_at hl 0 rfl) ?_
          refine va_get (D := (dC, dI)) (ci := 0) (v := .ref f) (C := R_F) (T := T_F) (N := 4) hx hb hw in_F hown hK hP 0 rfl rfl 1 (by decide) (hw _ m_84) (fun _ h9 => h9) rfl d_F_raiseBorder_33 ?_
          refine va_get (D := (dC, dI)) (ci := 2) (v := .ref a3) (C := R_S) (T := T_S) (N := 7) hx hb hw in_S hown hK hP 7 rfl rfl 3 (by decide) (hw _ m_60) (fun _ h9 => h9) rfl d_F_raiseBorder_36 ?_
          refine lv_aload_n hx hb d_F_raiseBorder_39 rfl (lv_at hl 0 rfl) ?_
          refine va_get (D := (dC, dI)) (ci := 0) (v := .ref f) (C := R_F) (T := T_F) (N := 4) hx hb hw in_F hown hK hP 0 rfl rfl 1 (by decide) (hw _ m_84) (fun _ h9 => h9) rfl d_F_raiseBorder_40 ?_
          refine lv_iload_n hx hb d_F_raiseBorder_43 rfl (lv_at hl 1 rfl) ?_
          refine lv_iconst (v := nI 3) hx hb d_F_raiseBorder_44 (by decide) ?_
          refine lv_iload hx hb d_F_raiseBorder_45 (lv_at hl 3 rfl) ?_
          refine lv_i2l (v := lN b) hx hb d_F_raiseBorder_47 (nI_l (by omega)) ?_
          refine lv_lconst (v := lN 1) hx hb d_F_raiseBorder_48 rfl ?_
          refine lv_ladd hx hb d_F_raiseBorder_49 ?_
          refine fz_eql (y := lN (b + 1)) (lN_add b 1) ?_
          refine QryI.callV (ci := 2) (q0 := 0) (c_find l dC dI cI cL cB f a1 a2 a3 a4 a5 a6 (aN a) (hz_L g) (hz_M g) (7 + 2 * g) (aN a) t 3 (lN (b + 1)) ow sn ky (by omega) (by omega) rfl (by omega) (by omega) (by omega) (by omega) hO hU hT) ⟨hx, hb, hml, hown, hw⟩ (fz_cwV 3 hw m_147 m_144 m_145 m_146 m_3 rfl rfl (by decide +kernel) ⟨Nat.le_of_ble_eq_true rfl, Nat.le_of_ble_eq_true rfl⟩) hK hP [7, 8, 9, 13] rfl rfl rfl rfl rfl hl.1 rfl (Nat.le_of_ble_eq_true rfl) d_F_raiseBorder_50 ⟨(Nat.le_of_ble_eq_true rfl), (Nat.le_of_ble_eq_true rfl)⟩ (fun r50 h50 => ?_)
          rw [hCS.F] at h50
          subst h50
          refine fz_bald hx hb hK hP 10 2 rfl rfl (j := aF a (t * 8 + 3) (lN (b + 1))) (Nat.lt_of_le_of_lt (aF_le _ _ _) hnL) (by omega) d_F_raiseBorder_53 ?_
          have hkf := hk8 (aF a (t * 8 + 3) (lN (b + 1)))
          refine lv_if_eq (tgt := 63) hx hb d_F_raiseBorder_54 (by decide) (fun c54 => ?_) (fun c54 => ?_)
          · have c54 : kd (aF a (t * 8 + 3) (lN (b + 1))) = 0 := (nI_eq (by omega) (by omega)).mp (c54.trans nI_0.symm)
            refine lv_aload_n hx hb d_F_raiseBorder_63 rfl (lv_at hl 0 rfl) ?_
            refine va_get (D := (dC, dI)) (ci := 0) (v := .ref tr) (C := R_F) (T := T_F) (N := 4) hx hb hw in_F hown hK hP 0 rfl rfl 0 (by decide) (hw _ m_83) (fun _ h9 => h9) rfl d_F_raiseBorder_64 ?_
            refine va_get (D := (dC, dI)) (ci := 1) (v := .ref y5) (C := R_T) (T := T_T) (N := 6) hx hb hw in_T hown hK hP 1 rfl rfl 5 (by decide) (hw _ m_33) (fun _ h9 => h9) rfl d_F_raiseBorder_67 ?_
            refine lv_iload_n hx hb d_F_raiseBorder_70 rfl (lv_at hl 1 rfl) ?_
            refine lv_iload hx hb d_F_raiseBorder_71 (lv_at hl 3 rfl) ?_
            refine fz_iast hx hb hK hP hD hS 6 0 rfl rfl (j := t) (by omega) (by omega) d_F_raiseBorder_73 (fun H locs hP hD hS => ?_)
            have hP : va_P (dC, dI) classes [(x0, .inr (0, [.ref tr, .ref f, .int (nI ck), .long cn])), (tr, .inr (1, [.int (nI nT), .ref y1, .ref y2, .ref y3, .ref y4, .ref y5])), (y1, .inl (cI, hz_R gt, .inl (nf fi))), (y2, .inl (cI, hz_R gt, .inl (nf la))), (y3, .inl (cI, hz_R gt, .inl (nf kc))), (y4, .inl (cI, hz_R gt, .inl (nf vc))), (y5, .inl (cI, hz_R gt, .inl (nf (va_up bo t b)))), (f, .inr (2, [.int (nI (aN a)), .ref a1, .ref a2, .ref a3, .ref a4, .ref a5, .ref a6])), (a1, .inl (cI, hz_L g, .inl (nf ow))), (a2, .inl (cL, hz_L g, .inr (.inl ky))), (a3, .inl (cB, hz_L g, .inl (nf kd))), (a4, .inl (cL, hz_L g, .inr (.inl nu))), (a5, .inl (cI, hz_L g, .inl (nf fo))), (a6, .inl (cI, hz_M g, .inl (nf sn)))] H := hP
            have hD : va_D A [(x0, .inr (0, [.ref tr, .ref f, .int (nI ck), .long cn])), (tr, .inr (1, [.int (nI nT), .ref y1, .ref y2, .ref y3, .ref y4, .ref y5])), (y1, .inl (cI, hz_R gt, .inl (nf fi))), (y2, .inl (cI, hz_R gt, .inl (nf la))), (y3, .inl (cI, hz_R gt, .inl (nf kc))), (y4, .inl (cI, hz_R gt, .inl (nf vc))), (y5, .inl (cI, hz_R gt, .inl (nf (va_up bo t b)))), (f, .inr (2, [.int (nI (aN a)), .ref a1, .ref a2, .ref a3, .ref a4, .ref a5, .ref a6])), (a1, .inl (cI, hz_L g, .inl (nf ow))), (a2, .inl (cL, hz_L g, .inr (.inl ky))), (a3, .inl (cB, hz_L g, .inl (nf kd))), (a4, .inl (cL, hz_L g, .inr (.inl nu))), (a5, .inl (cI, hz_L g, .inl (nf fo))), (a6, .inl (cI, hz_M g, .inl (nf sn)))] := hD
            have hpost : (k ≠ lN (bo t + 1) → (va_up bo t b) = bo) ∧ (k = lN (bo t + 1) → ∃ bq, isB a t bq ∧ (va_up bo t b) = va_up bo t bq) := ⟨fun h => absurd c18 h, fun _ => ⟨b, ⟨hB, by have := hCS.D (t * 8 + 3) (lN (b + 1)); rw [c54] at this; exact this.symm⟩, rfl⟩⟩
            exact hret (va_up bo t b) _ _ 74 ls hpost hP hD hS d_F_raiseBorder_74
          · have c54 : ¬ kd (aF a (t * 8 + 3) (lN (b + 1))) = 0 := fun h => c54 (((nI_eq (by omega) (by omega)).mpr h).trans nI_0)
            refine lv_iinc (v := nI (b + 1)) (lv' := [(4, .int (nI (b + 1))), (0, .ref x0), (1, .int (nI t)), (2, .long k)]) hx hb d_F_raiseBorder_57 hl (k := 3) rfl (fz_inc b) (by decide) rfl (fun ls hl => ?_)
            refine lv_goto (tgt := 25) hx hb d_F_raiseBorder_60 (by decide) ?_
            exact ih (b + 1) (fun j h1 h2 => by
              rcases Nat.lt_or_ge j (b + 1) with q | q
              · exact hB j h1 (by omega)
              · rw [show j = b + 1 by omega]; have := hCS.D (t * 8 + 3) (lN (b + 1)); exact fun z => c54 (this.trans z)) (by omega) _ _ hP hD hS ls (lv_sub hl [1, 2, 3, 0] rfl)
    exact loop_25 (40001 - ((bo t) + 1) + 1) ((bo t) + 1) (fun j h1 h2 => by
      rcases Nat.lt_or_ge j (bo t + 1) with q | q
      · exact hb1 j h1 (by omega)
      · rw [show j = bo t + 1 by omega]; exact hb2 c18) (Nat.lt_succ_self _) _ _ hP hD hS ls (lv_sub hl [1, 2, 3, 0] rfl)
  · have c18 : ¬ k = lN ((bo t) + 1) := fun h => c18 ((lg_cmp_eq _ _).mpr h)
    have hpost : (k ≠ lN (bo t + 1) → bo = bo) ∧ (k = lN (bo t + 1) → ∃ bq, isB a t bq ∧ bo = va_up bo t bq) := ⟨fun _ => rfl, fun h => absurd h c18⟩
    exact hret (bo) _ _ 21 ls hpost hP hD hS d_F_raiseBorder_21
set_option maxHeartbeats 4000000 in
set_option maxRecDepth 100000 in
/-- change -/
theorem c_change (l : Launch) (dC : Nat → ClassId) (dI : Nat → Nat → Nat) (cI cL cB : ClassId) (x0 : Nat) (tr : Nat) (f : Nat) (y1 : Nat) (y2 : Nat) (y3 : Nat) (y4 : Nat) (y5 : Nat) (a1 : Nat) (a2 : Nat) (a3 : Nat) (a4 : Nat) (a5 : Nat) (a6 : Nat) (ck : Nat) (nT : Nat) (g : Nat) (gt : Nat) (cn : Int64) (a : AS) (fi : Nat → Nat) (la : Nat → Nat) (kc : Nat → Nat) (vc : Nat → Nat) (bo : Nat → Nat) (ow : Nat → Nat) (ky : Nat → Int64) (kd : Nat → Nat) (nu : Nat → Int64) (fo : Nat → Nat) (sn : Nat → Nat) (t : Nat) (i : Nat) (kind : Nat) (num : Int64) (hCI : CI nT a g gt ow ky kd nu fo sn fi la kc vc bo) (hi1 : 1 ≤ i) (hi2 : i ≤ aN a) (hti : aO a i / 8 = t) (hk7 : kind ≤ 7) : StdV l y_F_change (wd y_F_change b_F_change 8 none) 4 99 0 0 (dC, dI) classes (tyK cI cL cB) [.ref x0, .int (nI t), .int (nI i), .int (nI kind), .long num] [(x0, .inr (0, [.ref tr, .ref f, .int (nI ck), .long cn])), (tr, .inr (1, [.int (nI nT), .ref y1, .ref y2, .ref y3, .ref y4, .ref y5])), (y1, .inl (cI, hz_R gt, .inl (nf fi))), (y2, .inl (cI, hz_R gt, .inl (nf la))), (y3, .inl (cI, hz_R gt, .inl (nf kc))), (y4, .inl (cI, hz_R gt, .inl (nf vc))), (y5, .inl (cI, hz_R gt, .inl (nf bo))), (f, .inr (2, [.int (nI (aN a)), .ref a1, .ref a2, .ref a3, .ref a4, .ref a5, .ref a6])), (a1, .inl (cI, hz_L g, .inl (nf ow))), (a2, .inl (cL, hz_L g, .inr (.inl ky))), (a3, .inl (cB, hz_L g, .inl (nf kd))), (a4, .inl (cL, hz_L g, .inr (.inl nu))), (a5, .inl (cI, hz_L g, .inl (nf fo))), (a6, .inl (cI, hz_M g, .inl (nf sn)))] (fun (u : (Nat → Nat) × (Nat → Nat) × (Nat → Nat) × (Nat → Int64)) => CI nT (setA a i kind (if kind = 0 then 0 else num)) g gt ow ky u.2.2.1 u.2.2.2 fo sn fi la kc u.1 u.2.1) (fun (u : (Nat → Nat) × (Nat → Nat) × (Nat → Nat) × (Nat → Int64)) => [(x0, .inr (0, [.ref tr, .ref f, .int (nI ck), .long cn])), (tr, .inr (1, [.int (nI nT), .ref y1, .ref y2, .ref y3, .ref y4, .ref y5])), (y1, .inl (cI, hz_R gt, .inl (nf fi))), (y2, .inl (cI, hz_R gt, .inl (nf la))), (y3, .inl (cI, hz_R gt, .inl (nf kc))), (y4, .inl (cI, hz_R gt, .inl (nf u.1))), (y5, .inl (cI, hz_R gt, .inl (nf u.2.1))), (f, .inr (2, [.int (nI (aN a)), .ref a1, .ref a2, .ref a3, .ref a4, .ref a5, .ref a6])), (a1, .inl (cI, hz_L g, .inl (nf ow))), (a2, .inl (cL, hz_L g, .inr (.inl ky))), (a3, .inl (cB, hz_L g, .inl (nf u.2.2.1))), (a4, .inl (cL, hz_L g, .inr (.inl u.2.2.2))), (a5, .inl (cI, hz_L g, .inl (nf fo))), (a6, .inl (cI, hz_M g, .inl (nf sn)))]) := by
  obtain ⟨hCS, hCT, hgt, hRT⟩ := id hCI
  have hAI := hCS.1
  have hnT := hCS.2.1
  have hg := hCS.2.2.1
  have hnL := hCS.2.2.2.1
  have hAg := hCS.2.2.2.2.1
  have hk8 := hCS.2.2.2.2.2.1
  have hT := hCS.2.2.2.2.2.2
  have hO := hCS.O
  have hU := hCS.U
  have hg1 := hz_gen g hg
  have hg2 := hz_Rgen gt hgt
  have hn4 := hAI.1
  have hDe := (hAg i hi2).2.2.1
  have ht0 := hAI.2.1 i hi1 hi2
  have ht1 : 1 ≤ t := by omega
  have ht2 : t ≤ nT := by omega
  have hCS2 : CS nT (setA a i kind (if kind = 0 then 0 else num)) g ow ky (va_up kd i kind) (vp_updL nu i (if kind = 0 then 0 else num)) sn := hCS.set hi1 hk7 (fun e => by rw [if_pos e])
  have hki := hk8 i
  have hvcn : vc t ≤ aN a := by rw [(hCT.2 t ht1 ht2).2.2.2.1]; exact cnt_le _ _
  have hbon := (hCT.b ht1 ht2).le hAI
  refine StdV.mk (cc := b_F_change) (maxL := 8) (by decide) rfl (Nat.le_of_ble_eq_true rfl) ?_
  intro p e s m below meth c A Z ls hx hb hml hown hts hin hP hK hD hA hS hret hl
  have hown : s.vm.findClass R_F = some m.cls := hown
  have hw : ∀ x ∈ WALL, x.before _ s = true := fun x h => hts x (List.mem_cons_of_mem _ h)
  have hl : lv_has ls 8 [(0, .ref x0), (1, .int (nI t)), (2, .int (nI i)), (3, .int (nI kind)), (4, .long num)] := hl
  refine lv_aload_n hx hb d_F_change_0 rfl (lv_at hl 0 rfl) ?_
  refine va_get (D := (dC, dI)) (ci := 0) (v := .ref f) (C := R_F) (T := T_F) (N := 4) hx hb hw in_F hown hK hP 0 rfl rfl 1 (by decide) (hw _ m_84) (fun _ h9 => h9) rfl d_F_change_1 ?_
  refine va_get (D := (dC, dI)) (ci := 2) (v := .ref a3) (C := R_S) (T := T_S) (N := 7) hx hb hw in_S hown hK hP 7 rfl rfl 3 (by decide) (hw _ m_60) (fun _ h9 => h9) rfl d_F_change_4 ?_
  refine lv_iload_n hx hb d_F_change_7 rfl (lv_at hl 2 rfl) ?_
  refine fz_bald hx hb hK hP 10 2 rfl rfl (j := i) (by omega) (by omega) d_F_change_8 ?_
  refine lv_if_eq (tgt := 16) hx hb d_F_change_9 (by decide) (fun c9 => ?_) (fun c9 => ?_)
  · have c9 : kd i = 0 := (nI_eq (by omega) (by omega)).mp (c9.trans nI_0.symm)
    have hDi : aD a i = 0 := by rw [← hDe]; exact c9
    refine lv_iconst (v := nI 0) hx hb d_F_change_16 (by decide) ?_
    refine lv_istore (lv' := [(6, .int (nI 0)), (0, .ref x0), (1, .int (nI t)), (2, .int (nI i)), (3, .int (nI kind)), (4, .long num)]) hx hb d_F_change_17 hl (by decide) rfl (fun ls hl => ?_)
    refine lv_iload_n hx hb d_F_change_19 rfl (lv_at hl 4 rfl) ?_
    refine lv_if_eq (tgt := 27) hx hb d_F_change_20 (by decide) (fun c20 => ?_) (fun c20 => ?_)
    · have c20 : kind = 0 := (nI_eq (by omega) (by omega)).mp (c20.trans nI_0.symm)
      refine lv_iconst (v := nI 0) hx hb d_F_change_27 (by decide) ?_
      refine lv_istore (lv' := [(7, .int (nI 0)), (6, .int (nI 0)), (0, .ref x0), (1, .int (nI t)), (2, .int (nI i)), (3, .int (nI kind)), (4, .long num)]) hx hb d_F_change_28 hl (by decide) rfl (fun ls hl => ?_)
      refine lv_aload_n hx hb d_F_change_30 rfl (lv_at hl 2 rfl) ?_
      refine va_get (D := (dC, dI)) (ci := 0) (v := .ref f) (C := R_F) (T := T_F) (N := 4) hx hb hw in_F hown hK hP 0 rfl rfl 1 (by decide) (hw _ m_84) (fun _ h9 => h9) rfl d_F_change_31 ?_
      refine lv_iload_n hx hb d_F_change_34 rfl (lv_at hl 4 rfl) ?_
      refine lv_iload_n hx hb d_F_change_35 rfl (lv_at hl 5 rfl) ?_
      refine lv_lload hx hb d_F_change_36 (lv_at hl 6 rfl) ?_
      refine StdV.callV (ci := 2) (q0 := 0) (wr := [(x0, .inr (0, [.ref tr, .ref f, .int (nI ck), .long cn])), (tr, .inr (1, [.int (nI nT), .ref y1, .ref y2, .ref y3, .ref y4, .ref y5])), (y1, .inl (cI, hz_R gt, .inl (nf fi))), (y2, .inl (cI, hz_R gt, .inl (nf la))), (y3, .inl (cI, hz_R gt, .inl (nf kc))), (y4, .inl (cI, hz_R gt, .inl (nf vc))), (y5, .inl (cI, hz_R gt, .inl (nf bo))), (a1, .inl (cI, hz_L g, .inl (nf ow))), (a2, .inl (cL, hz_L g, .inr (.inl ky))), (a5, .inl (cI, hz_L g, .inl (nf fo))), (a6, .inl (cI, hz_M g, .inl (nf sn)))]) (c_setValue l dC dI cI cL cB f a1 a2 a3 a4 a5 a6 (aN a) (hz_L g) i kind num kd nu (by omega) (by omega) (by omega)) ⟨hx, hb, hml, hown, hw⟩ (fz_cwV 3 hw m_203 m_200 m_201 m_202 m_3 rfl rfl (by decide +kernel) ⟨Nat.le_of_ble_eq_true rfl, Nat.le_of_ble_eq_true rfl⟩) hK hP hD hS hA [7, 10, 11] [0, 1, 2, 3, 4, 5, 6, 8, 9, 12, 13] rfl rfl (by decide) (by decide) (by decide) rfl rfl rfl rfl hl.1 rfl (Nat.le_of_ble_eq_true rfl) d_F_change_38 ⟨(Nat.le_of_ble_eq_true rfl), (Nat.le_of_ble_eq_true rfl)⟩ (fun u38 H locs h38 hP hD hS => ?_)
      try dsimp only at h38
      have hP : va_P (dC, dI) classes [(x0, .inr (0, [.ref tr, .ref f, .int (nI ck), .long cn])), (tr, .inr (1, [.int (nI nT), .ref y1, .ref y2, .ref y3, .ref y4, .ref y5])), (y1, .inl (cI, hz_R gt, .inl (nf fi))), (y2, .inl (cI, hz_R gt, .inl (nf la))), (y3, .inl (cI, hz_R gt, .inl (nf kc))), (y4, .inl (cI, hz_R gt, .inl (nf vc))), (y5, .inl (cI, hz_R gt, .inl (nf bo))), (a1, .inl (cI, hz_L g, .inl (nf ow))), (a2, .inl (cL, hz_L g, .inr (.inl ky))), (a5, .inl (cI, hz_L g, .inl (nf fo))), (a6, .inl (cI, hz_M g, .inl (nf sn))), (f, .inr (2, [.int (nI (aN a)), .ref a1, .ref a2, .ref a3, .ref a4, .ref a5, .ref a6])), (a3, .inl (cB, (hz_L g), .inl (nf (va_up kd i kind)))), (a4, .inl (cL, (hz_L g), .inr (.inl (vp_updL nu i (if kind = 0 then 0 else num)))))] H := hP
      have hD : va_D A [(x0, .inr (0, [.ref tr, .ref f, .int (nI ck), .long cn])), (tr, .inr (1, [.int (nI nT), .ref y1, .ref y2, .ref y3, .ref y4, .ref y5])), (y1, .inl (cI, hz_R gt, .inl (nf fi))), (y2, .inl (cI, hz_R gt, .inl (nf la))), (y3, .inl (cI, hz_R gt, .inl (nf kc))), (y4, .inl (cI, hz_R gt, .inl (nf vc))), (y5, .inl (cI, hz_R gt, .inl (nf bo))), (a1, .inl (cI, hz_L g, .inl (nf ow))), (a2, .inl (cL, hz_L g, .inr (.inl ky))), (a5, .inl (cI, hz_L g, .inl (nf fo))), (a6, .inl (cI, hz_M g, .inl (nf sn))), (f, .inr (2, [.int (nI (aN a)), .ref a1, .ref a2, .ref a3, .ref a4, .ref a5, .ref a6])), (a3, .inl (cB, (hz_L g), .inl (nf (va_up kd i kind)))), (a4, .inl (cL, (hz_L g), .inr (.inl (vp_updL nu i (if kind = 0 then 0 else num)))))] := hD
      refine lv_iload hx hb d_F_change_41 (lv_at hl 1 rfl) ?_
      refine lv_iload hx hb d_F_change_43 (lv_at hl 0 rfl) ?_
      refine lv_icmp_ne (tgt := 49) hx hb d_F_change_45 (by decide) (fun c45 => ?_) (fun c45 => ?_)
      · have c45 : ¬ 0 = 0 := fun h => c45 (by exact (nI_eq (by omega) (by omega)).mpr h)
        exact absurd rfl c45
      · have c45 : 0 = 0 := by exact (nI_eq (by omega) (by omega)).mp c45
        have hpost : CI nT (setA a i kind (if kind = 0 then 0 else num)) g gt ow ky (va_up kd i kind) (vp_updL nu i (if kind = 0 then 0 else num)) fo sn fi la kc vc bo := ⟨hCS2, hCT.set (CT.v0 hCT hi1 hi2 ⟨fun _ => hDi, fun _ => c20⟩) (fun t h1 h2 => (hCT.b h1 h2).same ⟨fun _ => hDi, fun _ => c20⟩), hgt, hRT⟩
        exact hret (vc, bo, va_up kd i kind, vp_updL nu i (if kind = 0 then 0 else num)) _ _ 48 ls hpost (fz_subP hP [0, 1, 2, 3, 4, 5, 6, 11, 7, 8, 12, 13, 9, 10] rfl) (hD.sub [0, 1, 2, 3, 4, 5, 6, 11, 7, 8, 12, 13, 9, 10] (by decide) rfl) hS d_F_change_48
    · have c20 : ¬ kind = 0 := fun h => c20 (((nI_eq (by omega) (by omega)).mpr h).trans nI_0)
      refine lv_iconst (v := nI 1) hx hb d_F_change_23 (by decide) ?_
      refine lv_goto (tgt := 28) hx hb d_F_change_24 (by decide) ?_
      refine lv_istore (lv' := [(7, .int (nI 1)), (6, .int (nI 0)), (0, .ref x0), (1, .int (nI t)), (2, .int (nI i)), (3, .int (nI kind)), (4, .long num)]) hx hb d_F_change_28 hl (by decide) rfl (fun ls hl => ?_)
      refine lv_aload_n hx hb d_F_change_30 rfl (lv_at hl 2 rfl) ?_
      refine va_get (D := (dC, dI)) (ci := 0) (v := .ref f) (C := R_F) (T := T_F) (N := 4) hx hb hw in_F hown hK hP 0 rfl rfl 1 (by decide) (hw _ m_84) (fun _ h9 => h9) rfl d_F_change_31 ?_
      refine lv_iload_n hx hb d_F_change_34 rfl (lv_at hl 4 rfl) ?_
      refine lv_iload_n hx hb d_F_change_35 rfl (lv_at hl 5 rfl) ?_
      refine lv_lload hx hb d_F_change_36 (lv_at hl 6 rfl) ?_
      refine StdV.callV (ci := 2) (q0 := 0) (wr := [(x0, .inr (0, [.ref tr, .ref f, .int (nI ck), .long cn])), (tr, .inr (1, [.int (nI nT), .ref y1, .ref y2, .ref y3, .ref y4, .ref y5])), (y1, .inl (cI, hz_R gt, .inl (nf fi))), (y2, .inl (cI, hz_R gt, .inl (nf la))), (y3, .inl (cI, hz_R gt, .inl (nf kc))), (y4, .inl (cI, hz_R gt, .inl (nf vc))), (y5, .inl (cI, hz_R gt, .inl (nf bo))), (a1, .inl (cI, hz_L g, .inl (nf ow))), (a2, .inl (cL, hz_L g, .inr (.inl ky))), (a5, .inl (cI, hz_L g, .inl (nf fo))), (a6, .inl (cI, hz_M g, .inl (nf sn)))]) (c_setValue l dC dI cI cL cB f a1 a2 a3 a4 a5 a6 (aN a) (hz_L g) i kind num kd nu (by omega) (by omega) (by omega)) ⟨hx, hb, hml, hown, hw⟩ (fz_cwV 3 hw m_203 m_200 m_201 m_202 m_3 rfl rfl (by decide +kernel) ⟨Nat.le_of_ble_eq_true rfl, Nat.le_of_ble_eq_true rfl⟩) hK hP hD hS hA [7, 10, 11] [0, 1, 2, 3, 4, 5, 6, 8, 9, 12, 13] rfl rfl (by decide) (by decide) (by decide) rfl rfl rfl rfl hl.1 rfl (Nat.le_of_ble_eq_true rfl) d_F_change_38 ⟨(Nat.le_of_ble_eq_true rfl), (Nat.le_of_ble_eq_true rfl)⟩ (fun u38 H locs h38 hP hD hS => ?_)
      try dsimp only at h38
      have hP : va_P (dC, dI) classes [(x0, .inr (0, [.ref tr, .ref f, .int (nI ck), .long cn])), (tr, .inr (1, [.int (nI nT), .ref y1, .ref y2, .ref y3, .ref y4, .ref y5])), (y1, .inl (cI, hz_R gt, .inl (nf fi))), (y2, .inl (cI, hz_R gt, .inl (nf la))), (y3, .inl (cI, hz_R gt, .inl (nf kc))), (y4, .inl (cI, hz_R gt, .inl (nf vc))), (y5, .inl (cI, hz_R gt, .inl (nf bo))), (a1, .inl (cI, hz_L g, .inl (nf ow))), (a2, .inl (cL, hz_L g, .inr (.inl ky))), (a5, .inl (cI, hz_L g, .inl (nf fo))), (a6, .inl (cI, hz_M g, .inl (nf sn))), (f, .inr (2, [.int (nI (aN a)), .ref a1, .ref a2, .ref a3, .ref a4, .ref a5, .ref a6])), (a3, .inl (cB, (hz_L g), .inl (nf (va_up kd i kind)))), (a4, .inl (cL, (hz_L g), .inr (.inl (vp_updL nu i (if kind = 0 then 0 else num)))))] H := hP
      have hD : va_D A [(x0, .inr (0, [.ref tr, .ref f, .int (nI ck), .long cn])), (tr, .inr (1, [.int (nI nT), .ref y1, .ref y2, .ref y3, .ref y4, .ref y5])), (y1, .inl (cI, hz_R gt, .inl (nf fi))), (y2, .inl (cI, hz_R gt, .inl (nf la))), (y3, .inl (cI, hz_R gt, .inl (nf kc))), (y4, .inl (cI, hz_R gt, .inl (nf vc))), (y5, .inl (cI, hz_R gt, .inl (nf bo))), (a1, .inl (cI, hz_L g, .inl (nf ow))), (a2, .inl (cL, hz_L g, .inr (.inl ky))), (a5, .inl (cI, hz_L g, .inl (nf fo))), (a6, .inl (cI, hz_M g, .inl (nf sn))), (f, .inr (2, [.int (nI (aN a)), .ref a1, .ref a2, .ref a3, .ref a4, .ref a5, .ref a6])), (a3, .inl (cB, (hz_L g), .inl (nf (va_up kd i kind)))), (a4, .inl (cL, (hz_L g), .inr (.inl (vp_updL nu i (if kind = 0 then 0 else num)))))] := hD
      refine lv_iload hx hb d_F_change_41 (lv_at hl 1 rfl) ?_
      refine lv_iload hx hb d_F_change_43 (lv_at hl 0 rfl) ?_
      refine lv_icmp_ne (tgt := 49) hx hb d_F_change_45 (by decide) (fun c45 => ?_) (fun c45 => ?_)
      · have c45 : ¬ 0 = 1 := fun h => c45 (by exact (nI_eq (by omega) (by omega)).mpr h)
        refine lv_aload_n hx hb d_F_change_49 rfl (lv_at hl 2 rfl) ?_
        refine va_get (D := (dC, dI)) (ci := 0) (v := .ref tr) (C := R_F) (T := T_F) (N := 4) hx hb hw in_F hown hK hP 0 rfl rfl 0 (by decide) (hw _ m_83) (fun _ h9 => h9) rfl d_F_change_50 ?_
        refine va_get (D := (dC, dI)) (ci := 1) (v := .ref y4) (C := R_T) (T := T_T) (N := 6) hx hb hw in_T hown hK hP 1 rfl rfl 4 (by decide) (hw _ m_31) (fun _ h9 => h9) rfl d_F_change_53 ?_
        refine lv_iload_n hx hb d_F_change_56 rfl (lv_at hl 3 rfl) ?_
        refine lv_dup2_11 hx hb d_F_change_57 rfl rfl ?_
        refine fz_iald hx hb hK hP 5 0 rfl rfl (j := t) (by omega) (by omega) d_F_change_58 ?_
        refine lv_iload hx hb d_F_change_59 (lv_at hl 0 rfl) ?_
        refine lv_if_eq (tgt := 68) hx hb d_F_change_61 (by decide) (fun c61 => ?_) (fun c61 => ?_)
        · have c61 : 1 = 0 := (nI_eq (by omega) (by omega)).mp (c61.trans nI_0.symm)
          exact absurd c61 (by omega)
        · have c61 : ¬ 1 = 0 := fun h => c61 (((nI_eq (by omega) (by omega)).mpr h).trans nI_0)
          refine lv_iconst (v := nI 1) hx hb d_F_change_64 (by decide) ?_
          refine lv_goto (tgt := 69) hx hb d_F_change_65 (by decide) ?_
          refine lv_iadd hx hb d_F_change_69 ?_
          refine fz_eqi (y := nI ((vc t) + 1)) (nI_add (vc t) 1) ?_
          refine fz_iast hx hb hK hP hD hS 5 0 rfl rfl (j := t) (by omega) (by omega) d_F_change_70 (fun H locs hP hD hS => ?_)
          have hP : va_P (dC, dI) classes [(x0, .inr (0, [.ref tr, .ref f, .int (nI ck), .long cn])), (tr, .inr (1, [.int (nI nT), .ref y1, .ref y2, .ref y3, .ref y4, .ref y5])), (y1, .inl (cI, hz_R gt, .inl (nf fi))), (y2, .inl (cI, hz_R gt, .inl (nf la))), (y3, .inl (cI, hz_R gt, .inl (nf kc))), (y4, .inl (cI, hz_R gt, .inl (nf (va_up vc t ((vc t) + 1))))), (y5, .inl (cI, hz_R gt, .inl (nf bo))), (a1, .inl (cI, hz_L g, .inl (nf ow))), (a2, .inl (cL, hz_L g, .inr (.inl ky))), (a5, .inl (cI, hz_L g, .inl (nf fo))), (a6, .inl (cI, hz_M g, .inl (nf sn))), (f, .inr (2, [.int (nI (aN a)), .ref a1, .ref a2, .ref a3, .ref a4, .ref a5, .ref a6])), (a3, .inl (cB, (hz_L g), .inl (nf (va_up kd i kind)))), (a4, .inl (cL, (hz_L g), .inr (.inl (vp_updL nu i (if kind = 0 then 0 else num)))))] H := hP
          have hD : va_D A [(x0, .inr (0, [.ref tr, .ref f, .int (nI ck), .long cn])), (tr, .inr (1, [.int (nI nT), .ref y1, .ref y2, .ref y3, .ref y4, .ref y5])), (y1, .inl (cI, hz_R gt, .inl (nf fi))), (y2, .inl (cI, hz_R gt, .inl (nf la))), (y3, .inl (cI, hz_R gt, .inl (nf kc))), (y4, .inl (cI, hz_R gt, .inl (nf (va_up vc t ((vc t) + 1))))), (y5, .inl (cI, hz_R gt, .inl (nf bo))), (a1, .inl (cI, hz_L g, .inl (nf ow))), (a2, .inl (cL, hz_L g, .inr (.inl ky))), (a5, .inl (cI, hz_L g, .inl (nf fo))), (a6, .inl (cI, hz_M g, .inl (nf sn))), (f, .inr (2, [.int (nI (aN a)), .ref a1, .ref a2, .ref a3, .ref a4, .ref a5, .ref a6])), (a3, .inl (cB, (hz_L g), .inl (nf (va_up kd i kind)))), (a4, .inl (cL, (hz_L g), .inr (.inl (vp_updL nu i (if kind = 0 then 0 else num)))))] := hD
          refine lv_aload_n hx hb d_F_change_71 rfl (lv_at hl 2 rfl) ?_
          refine va_get (D := (dC, dI)) (ci := 0) (v := .ref f) (C := R_F) (T := T_F) (N := 4) hx hb hw in_F hown hK hP 0 rfl rfl 1 (by decide) (hw _ m_84) (fun _ h9 => h9) rfl d_F_change_72 ?_
          refine lv_iload_n hx hb d_F_change_75 rfl (lv_at hl 4 rfl) ?_
          refine QryI.callV (ci := 2) (q0 := 0) (c_keyKind l dC dI cI cL cB f a1 a2 a3 a4 a5 a6 (aN a) (hz_L g) i ow (by omega) (by omega) (hO i hi2)) ⟨hx, hb, hml, hown, hw⟩ (fz_cwV 1 hw m_207 m_204 m_205 m_206 m_3 rfl rfl (by decide +kernel) ⟨Nat.le_of_ble_eq_true rfl, Nat.le_of_ble_eq_true rfl⟩) hK hP [11, 7] rfl rfl rfl rfl rfl hl.1 rfl (Nat.le_of_ble_eq_true rfl) d_F_change_76 ⟨(Nat.le_of_ble_eq_true rfl), (Nat.le_of_ble_eq_true rfl)⟩ (fun r76 h76 => ?_)
          rw [(hAg i hi2).1] at h76
          subst h76
          refine lv_iconst (v := nI 3) hx hb d_F_change_79 (by decide) ?_
          refine lv_icmp_eq (tgt := 84) hx hb d_F_change_80 (by decide) (fun c80 => ?_) (fun c80 => ?_)
          · have c80 : aO a i % 8 = 3 := by exact (nI_eq (by omega) (by omega)).mp c80
            have ho3 : aO a i = t * 8 + 3 := by omega
            refine lv_iload hx hb d_F_change_84 (lv_at hl 0 rfl) ?_
            refine lv_if_eq (tgt := 106) hx hb d_F_change_86 (by decide) (fun c86 => ?_) (fun c86 => ?_)
            · have c86 : 1 = 0 := (nI_eq (by omega) (by omega)).mp (c86.trans nI_0.symm)
              exact absurd c86 (by omega)
            · have c86 : ¬ 1 = 0 := fun h => c86 (((nI_eq (by omega) (by omega)).mpr h).trans nI_0)
              refine lv_aload_n hx hb d_F_change_89 rfl (lv_at hl 2 rfl) ?_
              refine lv_iload_n hx hb d_F_change_90 rfl (lv_at hl 3 rfl) ?_
              refine lv_aload_n hx hb d_F_change_91 rfl (lv_at hl 2 rfl) ?_
              refine va_get (D := (dC, dI)) (ci := 0) (v := .ref f) (C := R_F) (T := T_F) (N := 4) hx hb hw in_F hown hK hP 0 rfl rfl 1 (by decide) (hw _ m_84) (fun _ h9 => h9) rfl d_F_change_92 ?_
              refine va_get (D := (dC, dI)) (ci := 2) (v := .ref a2) (C := R_S) (T := T_S) (N := 7) hx hb hw in_S hown hK hP 11 rfl rfl 2 (by decide) (hw _ m_58) (fun _ h9 => h9) rfl d_F_change_95 ?_
              refine lv_iload_n hx hb d_F_change_98 rfl (lv_at hl 4 rfl) ?_
              refine fz_lald hx hb hK hP 8 1 rfl rfl (j := i) (by omega) (by omega) d_F_change_99 ?_
              refine fz_eql (y := aK a i) ((hAg i hi2).2.1) ?_
              refine StdV.callV (ci := 0) (q0 := 0) (wr := []) (c_raiseBorder l dC dI cI cL cB x0 tr f y1 y2 y3 y4 y5 a1 a2 a3 a4 a5 a6 ck nT g gt cn (setA a i kind (if kind = 0 then 0 else num)) fi la kc (va_up vc t ((vc t) + 1)) bo ow ky (va_up kd i kind) (vp_updL nu i (if kind = 0 then 0 else num)) fo sn t (aK a i) hCS2 hgt hRT (by omega) ((hCT.b ht1 ht2).up1 c20) (isB.up2 hAI hi1 hi2 ho3 c20)) ⟨hx, hb, hml, hown, hw⟩ (fz_cwV 2 hw m_211 m_208 m_210 ms_6 m_1 rfl rfl (by decide +kernel) ⟨Nat.le_of_ble_eq_true rfl, Nat.le_of_ble_eq_true rfl⟩) hK hP hD hS hA [0, 1, 2, 3, 4, 5, 6, 11, 7, 8, 12, 13, 9, 10] [] rfl rfl (by decide) (by decide) (by decide) rfl rfl rfl rfl hl.1 rfl (Nat.le_of_ble_eq_true rfl) d_F_change_100 ⟨(Nat.le_of_ble_eq_true rfl), (Nat.le_of_ble_eq_true rfl)⟩ (fun u100 H locs h100 hP hD hS => ?_)
              obtain ⟨bo2100, rfl⟩ : ∃ z, z = u100 := ⟨_, rfl⟩
              try dsimp only at h100
              have hP : va_P (dC, dI) classes [(x0, .inr (0, [.ref tr, .ref f, .int (nI ck), .long cn])), (tr, .inr (1, [.int (nI nT), .ref y1, .ref y2, .ref y3, .ref y4, .ref y5])), (y1, .inl (cI, hz_R gt, .inl (nf fi))), (y2, .inl (cI, hz_R gt, .inl (nf la))), (y3, .inl (cI, hz_R gt, .inl (nf kc))), (y4, .inl (cI, hz_R gt, .inl (nf (va_up vc t ((vc t) + 1))))), (y5, .inl (cI, hz_R gt, .inl (nf bo2100))), (f, .inr (2, [.int (nI (aN (setA a i kind (if kind = 0 then 0 else num)))), .ref a1, .ref a2, .ref a3, .ref a4, .ref a5, .ref a6])), (a1, .inl (cI, hz_L g, .inl (nf ow))), (a2, .inl (cL, hz_L g, .inr (.inl ky))), (a3, .inl (cB, hz_L g, .inl (nf (va_up kd i kind)))), (a4, .inl (cL, hz_L g, .inr (.inl (vp_updL nu i (if kind = 0 then 0 else num))))), (a5, .inl (cI, hz_L g, .inl (nf fo))), (a6, .inl (cI, hz_M g, .inl (nf sn)))] H := hP
              have hD : va_D A [(x0, .inr (0, [.ref tr, .ref f, .int (nI ck), .long cn])), (tr, .inr (1, [.int (nI nT), .ref y1, .ref y2, .ref y3, .ref y4, .ref y5])), (y1, .inl (cI, hz_R gt, .inl (nf fi))), (y2, .inl (cI, hz_R gt, .inl (nf la))), (y3, .inl (cI, hz_R gt, .inl (nf kc))), (y4, .inl (cI, hz_R gt, .inl (nf (va_up vc t ((vc t) + 1))))), (y5, .inl (cI, hz_R gt, .inl (nf bo2100))), (f, .inr (2, [.int (nI (aN (setA a i kind (if kind = 0 then 0 else num)))), .ref a1, .ref a2, .ref a3, .ref a4, .ref a5, .ref a6])), (a1, .inl (cI, hz_L g, .inl (nf ow))), (a2, .inl (cL, hz_L g, .inr (.inl ky))), (a3, .inl (cB, hz_L g, .inl (nf (va_up kd i kind)))), (a4, .inl (cL, hz_L g, .inr (.inl (vp_updL nu i (if kind = 0 then 0 else num))))), (a5, .inl (cI, hz_L g, .inl (nf fo))), (a6, .inl (cI, hz_M g, .inl (nf sn)))] := hD
              refine lv_goto (tgt := 120) hx hb d_F_change_103 (by decide) ?_
              have hpost : CI nT (setA a i kind (if kind = 0 then 0 else num)) g gt ow ky (va_up kd i kind) (vp_updL nu i (if kind = 0 then 0 else num)) fo sn fi la kc (va_up vc t (vc t + 1)) bo2100 := ⟨hCS2, hCT.set (by rw [← hti]; exact CT.v1 hCT hi1 hi2 hDi c20) (fun t' h1 h2 => by
                      by_cases e : t' = t
                      · rw [e]
                        by_cases q : aK a i = lN (bo t + 1)
                        · obtain ⟨b, hb8, e8⟩ := h100.2 q
                          rw [e8, va_up_self]; exact hb8
                        · rw [h100.1 q]; exact (hCT.b ht1 ht2).up3 hi1 c20 q
                      · have eb : bo2100 t' = bo t' := by
                          by_cases q : aK a i = lN (bo t + 1)
                          · obtain ⟨b, hb8, e8⟩ := h100.2 q
                            rw [e8, va_up_ne _ _ e]
                          · rw [h100.1 q]
                        rw [eb]; exact (hCT.b h1 h2).off hi1 (fun c => e (by omega))), hgt, hRT⟩
              exact hret (va_up vc t (vc t + 1), bo2100, va_up kd i kind, vp_updL nu i (if kind = 0 then 0 else num)) _ _ 120 ls hpost hP hD hS d_F_change_120
          · have c80 : ¬ aO a i % 8 = 3 := fun h => c80 (by exact (nI_eq (by omega) (by omega)).mpr h)
            have hpost : CI nT (setA a i kind (if kind = 0 then 0 else num)) g gt ow ky (va_up kd i kind) (vp_updL nu i (if kind = 0 then 0 else num)) fo sn fi la kc (va_up vc t (vc t + 1)) bo := ⟨hCS2, hCT.set (by rw [← hti]; exact CT.v1 hCT hi1 hi2 hDi c20) (fun t h1 h2 => (hCT.b h1 h2).off hi1 (fun c => c80 (by omega))), hgt, hRT⟩
            exact hret (va_up vc t (vc t + 1), bo, va_up kd i kind, vp_updL nu i (if kind = 0 then 0 else num)) _ _ 83 ls hpost (fz_subP hP [0, 1, 2, 3, 4, 5, 6, 11, 7, 8, 12, 13, 9, 10] rfl) (hD.sub [0, 1, 2, 3, 4, 5, 6, 11, 7, 8, 12, 13, 9, 10] (by decide) rfl) hS d_F_change_83
      · have c45 : 0 = 1 := by exact (nI_eq (by omega) (by omega)).mp c45
        exact absurd c45 (by omega)
  · have c9 : ¬ kd i = 0 := fun h => c9 (((nI_eq (by omega) (by omega)).mpr h).trans nI_0)
    have hDi : aD a i ≠ 0 := by rw [← hDe]; exact c9
    refine lv_iconst (v := nI 1) hx hb d_F_change_12 (by decide) ?_
    refine lv_goto (tgt := 17) hx hb d_F_change_13 (by decide) ?_
    refine lv_istore (lv' := [(6, .int (nI 1)), (0, .ref x0), (1, .int (nI t)), (2, .int (nI i)), (3, .int (nI kind)), (4, .long num)]) hx hb d_F_change_17 hl (by decide) rfl (fun ls hl => ?_)
    refine lv_iload_n hx hb d_F_change_19 rfl (lv_at hl 4 rfl) ?_
    refine lv_if_eq (tgt := 27) hx hb d_F_change_20 (by decide) (fun c20 => ?_) (fun c20 => ?_)
    · have c20 : kind = 0 := (nI_eq (by omega) (by omega)).mp (c20.trans nI_0.symm)
      refine lv_iconst (v := nI 0) hx hb d_F_change_27 (by decide) ?_
      refine lv_istore (lv' := [(7, .int (nI 0)), (6, .int (nI 1)), (0, .ref x0), (1, .int (nI t)), (2, .int (nI i)), (3, .int (nI kind)), (4, .long num)]) hx hb d_F_change_28 hl (by decide) rfl (fun ls hl => ?_)
      refine lv_aload_n hx hb d_F_change_30 rfl (lv_at hl 2 rfl) ?_
      refine va_get (D := (dC, dI)) (ci := 0) (v := .ref f) (C := R_F) (T := T_F) (N := 4) hx hb hw in_F hown hK hP 0 rfl rfl 1 (by decide) (hw _ m_84) (fun _ h9 => h9) rfl d_F_change_31 ?_
      refine lv_iload_n hx hb d_F_change_34 rfl (lv_at hl 4 rfl) ?_
      refine lv_iload_n hx hb d_F_change_35 rfl (lv_at hl 5 rfl) ?_
      refine lv_lload hx hb d_F_change_36 (lv_at hl 6 rfl) ?_
      refine StdV.callV (ci := 2) (q0 := 0) (wr := [(x0, .inr (0, [.ref tr, .ref f, .int (nI ck), .long cn])), (tr, .inr (1, [.int (nI nT), .ref y1, .ref y2, .ref y3, .ref y4, .ref y5])), (y1, .inl (cI, hz_R gt, .inl (nf fi))), (y2, .inl (cI, hz_R gt, .inl (nf la))), (y3, .inl (cI, hz_R gt, .inl (nf kc))), (y4, .inl (cI, hz_R gt, .inl (nf vc))), (y5, .inl (cI, hz_R gt, .inl (nf bo))), (a1, .inl (cI, hz_L g, .inl (nf ow))), (a2, .inl (cL, hz_L g, .inr (.inl ky))), (a5, .inl (cI, hz_L g, .inl (nf fo))), (a6, .inl (cI, hz_M g, .inl (nf sn)))]) (c_setValue l dC dI cI cL cB f a1 a2 a3 a4 a5 a6 (aN a) (hz_L g) i kind num kd nu (by omega) (by omega) (by omega)) ⟨hx, hb, hml, hown, hw⟩ (fz_cwV 3 hw m_203 m_200 m_201 m_202 m_3 rfl rfl (by decide +kernel) ⟨Nat.le_of_ble_eq_true rfl, Nat.le_of_ble_eq_true rfl⟩) hK hP hD hS hA [7, 10, 11] [0, 1, 2, 3, 4, 5, 6, 8, 9, 12, 13] rfl rfl (by decide) (by decide) (by decide) rfl rfl rfl rfl hl.1 rfl (Nat.le_of_ble_eq_true rfl) d_F_change_38 ⟨(Nat.le_of_ble_eq_true rfl), (Nat.le_of_ble_eq_true rfl)⟩ (fun u38 H locs h38 hP hD hS => ?_)
      try dsimp only at h38
      have hP : va_P (dC, dI) classes [(x0, .inr (0, [.ref tr, .ref f, .int (nI ck), .long cn])), (tr, .inr (1, [.int (nI nT), .ref y1, .ref y2, .ref y3, .ref y4, .ref y5])), (y1, .inl (cI, hz_R gt, .inl (nf fi))), (y2, .inl (cI, hz_R gt, .inl (nf la))), (y3, .inl (cI, hz_R gt, .inl (nf kc))), (y4, .inl (cI, hz_R gt, .inl (nf vc))), (y5, .inl (cI, hz_R gt, .inl (nf bo))), (a1, .inl (cI, hz_L g, .inl (nf ow))), (a2, .inl (cL, hz_L g, .inr (.inl ky))), (a5, .inl (cI, hz_L g, .inl (nf fo))), (a6, .inl (cI, hz_M g, .inl (nf sn))), (f, .inr (2, [.int (nI (aN a)), .ref a1, .ref a2, .ref a3, .ref a4, .ref a5, .ref a6])), (a3, .inl (cB, (hz_L g), .inl (nf (va_up kd i kind)))), (a4, .inl (cL, (hz_L g), .inr (.inl (vp_updL nu i (if kind = 0 then 0 else num)))))] H := hP
      have hD : va_D A [(x0, .inr (0, [.ref tr, .ref f, .int (nI ck), .long cn])), (tr, .inr (1, [.int (nI nT), .ref y1, .ref y2, .ref y3, .ref y4, .ref y5])), (y1, .inl (cI, hz_R gt, .inl (nf fi))), (y2, .inl (cI, hz_R gt, .inl (nf la))), (y3, .inl (cI, hz_R gt, .inl (nf kc))), (y4, .inl (cI, hz_R gt, .inl (nf vc))), (y5, .inl (cI, hz_R gt, .inl (nf bo))), (a1, .inl (cI, hz_L g, .inl (nf ow))), (a2, .inl (cL, hz_L g, .inr (.inl ky))), (a5, .inl (cI, hz_L g, .inl (nf fo))), (a6, .inl (cI, hz_M g, .inl (nf sn))), (f, .inr (2, [.int (nI (aN a)), .ref a1, .ref a2, .ref a3, .ref a4, .ref a5, .ref a6])), (a3, .inl (cB, (hz_L g), .inl (nf (va_up kd i kind)))), (a4, .inl (cL, (hz_L g), .inr (.inl (vp_updL nu i (if kind = 0 then 0 else num)))))] := hD
      refine lv_iload hx hb d_F_change_41 (lv_at hl 1 rfl) ?_
      refine lv_iload hx hb d_F_change_43 (lv_at hl 0 rfl) ?_
      refine lv_icmp_ne (tgt := 49) hx hb d_F_change_45 (by decide) (fun c45 => ?_) (fun c45 => ?_)
      · have c45 : ¬ 1 = 0 := fun h => c45 (by exact (nI_eq (by omega) (by omega)).mpr h)
        refine lv_aload_n hx hb d_F_change_49 rfl (lv_at hl 2 rfl) ?_
        refine va_get (D := (dC, dI)) (ci := 0) (v := .ref tr) (C := R_F) (T := T_F) (N := 4) hx hb hw in_F hown hK hP 0 rfl rfl 0 (by decide) (hw _ m_83) (fun _ h9 => h9) rfl d_F_change_50 ?_
        refine va_get (D := (dC, dI)) (ci := 1) (v := .ref y4) (C := R_T) (T := T_T) (N := 6) hx hb hw in_T hown hK hP 1 rfl rfl 4 (by decide) (hw _ m_31) (fun _ h9 => h9) rfl d_F_change_53 ?_
        refine lv_iload_n hx hb d_F_change_56 rfl (lv_at hl 3 rfl) ?_
        refine lv_dup2_11 hx hb d_F_change_57 rfl rfl ?_
        refine fz_iald hx hb hK hP 5 0 rfl rfl (j := t) (by omega) (by omega) d_F_change_58 ?_
        refine lv_iload hx hb d_F_change_59 (lv_at hl 0 rfl) ?_
        refine lv_if_eq (tgt := 68) hx hb d_F_change_61 (by decide) (fun c61 => ?_) (fun c61 => ?_)
        · have c61 : 0 = 0 := (nI_eq (by omega) (by omega)).mp (c61.trans nI_0.symm)
          refine lv_iconst (v := -1) hx hb d_F_change_68 (by decide) ?_
          refine lv_iadd hx hb d_F_change_69 ?_
          refine fz_eqi (y := nI (vc t - 1)) (sb_m1 (by rw [(hCT.2 t ht1 ht2).2.2.2.1]; exact cV_pos hi1 hi2 hti hDi)) ?_
          refine fz_iast hx hb hK hP hD hS 5 0 rfl rfl (j := t) (by omega) (by omega) d_F_change_70 (fun H locs hP hD hS => ?_)
          have hP : va_P (dC, dI) classes [(x0, .inr (0, [.ref tr, .ref f, .int (nI ck), .long cn])), (tr, .inr (1, [.int (nI nT), .ref y1, .ref y2, .ref y3, .ref y4, .ref y5])), (y1, .inl (cI, hz_R gt, .inl (nf fi))), (y2, .inl (cI, hz_R gt, .inl (nf la))), (y3, .inl (cI, hz_R gt, .inl (nf kc))), (y4, .inl (cI, hz_R gt, .inl (nf (va_up vc t (vc t - 1))))), (y5, .inl (cI, hz_R gt, .inl (nf bo))), (a1, .inl (cI, hz_L g, .inl (nf ow))), (a2, .inl (cL, hz_L g, .inr (.inl ky))), (a5, .inl (cI, hz_L g, .inl (nf fo))), (a6, .inl (cI, hz_M g, .inl (nf sn))), (f, .inr (2, [.int (nI (aN a)), .ref a1, .ref a2, .ref a3, .ref a4, .ref a5, .ref a6])), (a3, .inl (cB, (hz_L g), .inl (nf (va_up kd i kind)))), (a4, .inl (cL, (hz_L g), .inr (.inl (vp_updL nu i (if kind = 0 then 0 else num)))))] H := hP
          have hD : va_D A [(x0, .inr (0, [.ref tr, .ref f, .int (nI ck), .long cn])), (tr, .inr (1, [.int (nI nT), .ref y1, .ref y2, .ref y3, .ref y4, .ref y5])), (y1, .inl (cI, hz_R gt, .inl (nf fi))), (y2, .inl (cI, hz_R gt, .inl (nf la))), (y3, .inl (cI, hz_R gt, .inl (nf kc))), (y4, .inl (cI, hz_R gt, .inl (nf (va_up vc t (vc t - 1))))), (y5, .inl (cI, hz_R gt, .inl (nf bo))), (a1, .inl (cI, hz_L g, .inl (nf ow))), (a2, .inl (cL, hz_L g, .inr (.inl ky))), (a5, .inl (cI, hz_L g, .inl (nf fo))), (a6, .inl (cI, hz_M g, .inl (nf sn))), (f, .inr (2, [.int (nI (aN a)), .ref a1, .ref a2, .ref a3, .ref a4, .ref a5, .ref a6])), (a3, .inl (cB, (hz_L g), .inl (nf (va_up kd i kind)))), (a4, .inl (cL, (hz_L g), .inr (.inl (vp_updL nu i (if kind = 0 then 0 else num)))))] := hD
          refine lv_aload_n hx hb d_F_change_71 rfl (lv_at hl 2 rfl) ?_
          refine va_get (D := (dC, dI)) (ci := 0) (v := .ref f) (C := R_F) (T := T_F) (N := 4) hx hb hw in_F hown hK hP 0 rfl rfl 1 (by decide) (hw _ m_84) (fun _ h9 => h9) rfl d_F_change_72 ?_
          refine lv_iload_n hx hb d_F_change_75 rfl (lv_at hl 4 rfl) ?_
          refine QryI.callV (ci := 2) (q0 := 0) (c_keyKind l dC dI cI cL cB f a1 a2 a3 a4 a5 a6 (aN a) (hz_L g) i ow (by omega) (by omega) (hO i hi2)) ⟨hx, hb, hml, hown, hw⟩ (fz_cwV 1 hw m_207 m_204 m_205 m_206 m_3 rfl rfl (by decide +kernel) ⟨Nat.le_of_ble_eq_true rfl, Nat.le_of_ble_eq_true rfl⟩) hK hP [11, 7] rfl rfl rfl rfl rfl hl.1 rfl (Nat.le_of_ble_eq_true rfl) d_F_change_76 ⟨(Nat.le_of_ble_eq_true rfl), (Nat.le_of_ble_eq_true rfl)⟩ (fun r76 h76 => ?_)
          rw [(hAg i hi2).1] at h76
          subst h76
          refine lv_iconst (v := nI 3) hx hb d_F_change_79 (by decide) ?_
          refine lv_icmp_eq (tgt := 84) hx hb d_F_change_80 (by decide) (fun c80 => ?_) (fun c80 => ?_)
          · have c80 : aO a i % 8 = 3 := by exact (nI_eq (by omega) (by omega)).mp c80
            have ho3 : aO a i = t * 8 + 3 := by omega
            refine lv_iload hx hb d_F_change_84 (lv_at hl 0 rfl) ?_
            refine lv_if_eq (tgt := 106) hx hb d_F_change_86 (by decide) (fun c86 => ?_) (fun c86 => ?_)
            · have c86 : 0 = 0 := (nI_eq (by omega) (by omega)).mp (c86.trans nI_0.symm)
              refine lv_aload_n hx hb d_F_change_106 rfl (lv_at hl 2 rfl) ?_
              refine lv_iload_n hx hb d_F_change_107 rfl (lv_at hl 3 rfl) ?_
              refine lv_aload_n hx hb d_F_change_108 rfl (lv_at hl 2 rfl) ?_
              refine va_get (D := (dC, dI)) (ci := 0) (v := .ref f) (C := R_F) (T := T_F) (N := 4) hx hb hw in_F hown hK hP 0 rfl rfl 1 (by decide) (hw _ m_84) (fun _ h9 => h9) rfl d_F_change_109 ?_
              refine va_get (D := (dC, dI)) (ci := 2) (v := .ref a2) (C := R_S) (T := T_S) (N := 7) hx hb hw in_S hown hK hP 11 rfl rfl 2 (by decide) (hw _ m_58) (fun _ h9 => h9) rfl d_F_change_112 ?_
              refine lv_iload_n hx hb d_F_change_115 rfl (lv_at hl 4 rfl) ?_
              refine fz_lald hx hb hK hP 8 1 rfl rfl (j := i) (by omega) (by omega) d_F_change_116 ?_
              refine fz_eql (y := aK a i) ((hAg i hi2).2.1) ?_
              refine StdV.callV (ci := 0) (q0 := 0) (wr := [(y1, .inl (cI, hz_R gt, .inl (nf fi))), (y2, .inl (cI, hz_R gt, .inl (nf la))), (y3, .inl (cI, hz_R gt, .inl (nf kc))), (y4, .inl (cI, hz_R gt, .inl (nf (va_up vc t (vc t - 1))))), (a1, .inl (cI, hz_L g, .inl (nf ow))), (a2, .inl (cL, hz_L g, .inr (.inl ky))), (a5, .inl (cI, hz_L g, .inl (nf fo))), (a6, .inl (cI, hz_M g, .inl (nf sn))), (f, .inr (2, [.int (nI (aN a)), .ref a1, .ref a2, .ref a3, .ref a4, .ref a5, .ref a6])), (a3, .inl (cB, (hz_L g), .inl (nf (va_up kd i kind)))), (a4, .inl (cL, (hz_L g), .inr (.inl (vp_updL nu i (if kind = 0 then 0 else num)))))]) (c_lowerBorder l dC dI cI cL cB x0 tr f y1 y2 y3 y4 y5 ck nT (hz_R gt) t cn (aK a i) bo (by omega) (by omega) (by omega)) ⟨hx, hb, hml, hown, hw⟩ (fz_cwV 2 hw m_216 m_213 m_215 ms_7 m_1 rfl rfl (by decide +kernel) ⟨Nat.le_of_ble_eq_true rfl, Nat.le_of_ble_eq_true rfl⟩) hK hP hD hS hA [0, 1, 6] [2, 3, 4, 5, 7, 8, 9, 10, 11, 12, 13] rfl rfl (by decide) (by decide) (by decide) rfl rfl rfl rfl hl.1 rfl (Nat.le_of_ble_eq_true rfl) d_F_change_117 ⟨(Nat.le_of_ble_eq_true rfl), (Nat.le_of_ble_eq_true rfl)⟩ (fun u117 H locs h117 hP hD hS => ?_)
              obtain ⟨bo2117, rfl⟩ : ∃ z, z = u117 := ⟨_, rfl⟩
              try dsimp only at h117
              have hP : va_P (dC, dI) classes [(y1, .inl (cI, hz_R gt, .inl (nf fi))), (y2, .inl (cI, hz_R gt, .inl (nf la))), (y3, .inl (cI, hz_R gt, .inl (nf kc))), (y4, .inl (cI, hz_R gt, .inl (nf (va_up vc t (vc t - 1))))), (a1, .inl (cI, hz_L g, .inl (nf ow))), (a2, .inl (cL, hz_L g, .inr (.inl ky))), (a5, .inl (cI, hz_L g, .inl (nf fo))), (a6, .inl (cI, hz_M g, .inl (nf sn))), (f, .inr (2, [.int (nI (aN a)), .ref a1, .ref a2, .ref a3, .ref a4, .ref a5, .ref a6])), (a3, .inl (cB, (hz_L g), .inl (nf (va_up kd i kind)))), (a4, .inl (cL, (hz_L g), .inr (.inl (vp_updL nu i (if kind = 0 then 0 else num))))), (x0, .inr (0, [.ref tr, .ref f, .int (nI ck), .long cn])), (tr, .inr (1, [.int (nI nT), .ref y1, .ref y2, .ref y3, .ref y4, .ref y5])), (y5, .inl (cI, (hz_R gt), .inl (nf bo2117)))] H := hP
              have hD : va_D A [(y1, .inl (cI, hz_R gt, .inl (nf fi))), (y2, .inl (cI, hz_R gt, .inl (nf la))), (y3, .inl (cI, hz_R gt, .inl (nf kc))), (y4, .inl (cI, hz_R gt, .inl (nf (va_up vc t (vc t - 1))))), (a1, .inl (cI, hz_L g, .inl (nf ow))), (a2, .inl (cL, hz_L g, .inr (.inl ky))), (a5, .inl (cI, hz_L g, .inl (nf fo))), (a6, .inl (cI, hz_M g, .inl (nf sn))), (f, .inr (2, [.int (nI (aN a)), .ref a1, .ref a2, .ref a3, .ref a4, .ref a5, .ref a6])), (a3, .inl (cB, (hz_L g), .inl (nf (va_up kd i kind)))), (a4, .inl (cL, (hz_L g), .inr (.inl (vp_updL nu i (if kind = 0 then 0 else num))))), (x0, .inr (0, [.ref tr, .ref f, .int (nI ck), .long cn])), (tr, .inr (1, [.int (nI nT), .ref y1, .ref y2, .ref y3, .ref y4, .ref y5])), (y5, .inl (cI, (hz_R gt), .inl (nf bo2117)))] := hD
              have hpost : CI nT (setA a i kind (if kind = 0 then 0 else num)) g gt ow ky (va_up kd i kind) (vp_updL nu i (if kind = 0 then 0 else num)) fo sn fi la kc (va_up vc t (vc t - 1)) bo2117 := ⟨hCS2, hCT.set (by rw [c20, ← hti]; exact CT.v2 hCT hi1 hi2 hDi) (fun t' h1 h2 => by
                      rw [c20]
                      by_cases e : t' = t
                      · rw [e]
                        by_cases q : ∃ j, 1 ≤ j ∧ j ≤ bo t ∧ aK a i = lN j
                        · obtain ⟨j, j1, j2, j3⟩ := q
                          rw [h117.1 j j1 j2 j3, va_up_self]; exact (hCT.b ht1 ht2).dn1 hAI hi1 hi2 ho3 j1 j2 j3
                        · have q2 : ∀ j, 1 ≤ j → j ≤ bo t → aK a i ≠ lN j := fun j j1 j2 j3 => q ⟨j, j1, j2, j3⟩
                          rw [h117.2 q2]; exact (hCT.b ht1 ht2).dn2 hi1 q2
                      · have eb : bo2117 t' = bo t' := by
                          by_cases q : ∃ j, 1 ≤ j ∧ j ≤ bo t ∧ aK a i = lN j
                          · obtain ⟨j, j1, j2, j3⟩ := q
                            rw [h117.1 j j1 j2 j3, va_up_ne _ _ e]
                          · rw [h117.2 (fun j j1 j2 j3 => q ⟨j, j1, j2, j3⟩)]
                        rw [eb]; exact (hCT.b h1 h2).off hi1 (fun c => e (by omega))), hgt, hRT⟩
              exact hret (va_up vc t (vc t - 1), bo2117, va_up kd i kind, vp_updL nu i (if kind = 0 then 0 else num)) _ _ 120 ls hpost (fz_subP hP [11, 12, 0, 1, 2, 3, 13, 8, 4, 5, 9, 10, 6, 7] rfl) (hD.sub [11, 12, 0, 1, 2, 3, 13, 8, 4, 5, 9, 10, 6, 7] (by decide) rfl) hS d_F_change_120
            · have c86 : ¬ 0 = 0 := fun h => c86 (((nI_eq (by omega) (by omega)).mpr h).trans nI_0)
              exact absurd rfl c86
          · have c80 : ¬ aO a i % 8 = 3 := fun h => c80 (by exact (nI_eq (by omega) (by omega)).mpr h)
            have hpost : CI nT (setA a i kind (if kind = 0 then 0 else num)) g gt ow ky (va_up kd i kind) (vp_updL nu i (if kind = 0 then 0 else num)) fo sn fi la kc (va_up vc t (vc t - 1)) bo := ⟨hCS2, hCT.set (by rw [c20, ← hti]; exact CT.v2 hCT hi1 hi2 hDi) (fun t h1 h2 => (hCT.b h1 h2).off hi1 (fun c => c80 (by omega))), hgt, hRT⟩
            exact hret (va_up vc t (vc t - 1), bo, va_up kd i kind, vp_updL nu i (if kind = 0 then 0 else num)) _ _ 83 ls hpost (fz_subP hP [0, 1, 2, 3, 4, 5, 6, 11, 7, 8, 12, 13, 9, 10] rfl) (hD.sub [0, 1, 2, 3, 4, 5, 6, 11, 7, 8, 12, 13, 9, 10] (by decide) rfl) hS d_F_change_83
        · have c61 : ¬ 0 = 0 := fun h => c61 (((nI_eq (by omega) (by omega)).mpr h).trans nI_0)
          exact absurd rfl c61
      · have c45 : 1 = 0 := by exact (nI_eq (by omega) (by omega)).mp c45
        exact absurd c45 (by omega)
    · have c20 : ¬ kind = 0 := fun h => c20 (((nI_eq (by omega) (by omega)).mpr h).trans nI_0)
      refine lv_iconst (v := nI 1) hx hb d_F_change_23 (by decide) ?_
      refine lv_goto (tgt := 28) hx hb d_F_change_24 (by decide) ?_
      refine lv_istore (lv' := [(7, .int (nI 1)), (6, .int (nI 1)), (0, .ref x0), (1, .int (nI t)), (2, .int (nI i)), (3, .int (nI kind)), (4, .long num)]) hx hb d_F_change_28 hl (by decide) rfl (fun ls hl => ?_)
      refine lv_aload_n hx hb d_F_change_30 rfl (lv_at hl 2 rfl) ?_
      refine va_get (D := (dC, dI)) (ci := 0) (v := .ref f) (C := R_F) (T := T_F) (N := 4) hx hb hw in_F hown hK hP 0 rfl rfl 1 (by decide) (hw _ m_84) (fun _ h9 => h9) rfl d_F_change_31 ?_
      refine lv_iload_n hx hb d_F_change_34 rfl (lv_at hl 4 rfl) ?_
      refine lv_iload_n hx hb d_F_change_35 rfl (lv_at hl 5 rfl) ?_
      refine lv_lload hx hb d_F_change_36 (lv_at hl 6 rfl) ?_
      refine StdV.callV (ci := 2) (q0 := 0) (wr := [(x0, .inr (0, [.ref tr, .ref f, .int (nI ck), .long cn])), (tr, .inr (1, [.int (nI nT), .ref y1, .ref y2, .ref y3, .ref y4, .ref y5])), (y1, .inl (cI, hz_R gt, .inl (nf fi))), (y2, .inl (cI, hz_R gt, .inl (nf la))), (y3, .inl (cI, hz_R gt, .inl (nf kc))), (y4, .inl (cI, hz_R gt, .inl (nf vc))), (y5, .inl (cI, hz_R gt, .inl (nf bo))), (a1, .inl (cI, hz_L g, .inl (nf ow))), (a2, .inl (cL, hz_L g, .inr (.inl ky))), (a5, .inl (cI, hz_L g, .inl (nf fo))), (a6, .inl (cI, hz_M g, .inl (nf sn)))]) (c_setValue l dC dI cI cL cB f a1 a2 a3 a4 a5 a6 (aN a) (hz_L g) i kind num kd nu (by omega) (by omega) (by omega)) ⟨hx, hb, hml, hown, hw⟩ (fz_cwV 3 hw m_203 m_200 m_201 m_202 m_3 rfl rfl (by decide +kernel) ⟨Nat.le_of_ble_eq_true rfl, Nat.le_of_ble_eq_true rfl⟩) hK hP hD hS hA [7, 10, 11] [0, 1, 2, 3, 4, 5, 6, 8, 9, 12, 13] rfl rfl (by decide) (by decide) (by decide) rfl rfl rfl rfl hl.1 rfl (Nat.le_of_ble_eq_true rfl) d_F_change_38 ⟨(Nat.le_of_ble_eq_true rfl), (Nat.le_of_ble_eq_true rfl)⟩ (fun u38 H locs h38 hP hD hS => ?_)
      try dsimp only at h38
      have hP : va_P (dC, dI) classes [(x0, .inr (0, [.ref tr, .ref f, .int (nI ck), .long cn])), (tr, .inr (1, [.int (nI nT), .ref y1, .ref y2, .ref y3, .ref y4, .ref y5])), (y1, .inl (cI, hz_R gt, .inl (nf fi))), (y2, .inl (cI, hz_R gt, .inl (nf la))), (y3, .inl (cI, hz_R gt, .inl (nf kc))), (y4, .inl (cI, hz_R gt, .inl (nf vc))), (y5, .inl (cI, hz_R gt, .inl (nf bo))), (a1, .inl (cI, hz_L g, .inl (nf ow))), (a2, .inl (cL, hz_L g, .inr (.inl ky))), (a5, .inl (cI, hz_L g, .inl (nf fo))), (a6, .inl (cI, hz_M g, .inl (nf sn))), (f, .inr (2, [.int (nI (aN a)), .ref a1, .ref a2, .ref a3, .ref a4, .ref a5, .ref a6])), (a3, .inl (cB, (hz_L g), .inl (nf (va_up kd i kind)))), (a4, .inl (cL, (hz_L g), .inr (.inl (vp_updL nu i (if kind = 0 then 0 else num)))))] H := hP
      have hD : va_D A [(x0, .inr (0, [.ref tr, .ref f, .int (nI ck), .long cn])), (tr, .inr (1, [.int (nI nT), .ref y1, .ref y2, .ref y3, .ref y4, .ref y5])), (y1, .inl (cI, hz_R gt, .inl (nf fi))), (y2, .inl (cI, hz_R gt, .inl (nf la))), (y3, .inl (cI, hz_R gt, .inl (nf kc))), (y4, .inl (cI, hz_R gt, .inl (nf vc))), (y5, .inl (cI, hz_R gt, .inl (nf bo))), (a1, .inl (cI, hz_L g, .inl (nf ow))), (a2, .inl (cL, hz_L g, .inr (.inl ky))), (a5, .inl (cI, hz_L g, .inl (nf fo))), (a6, .inl (cI, hz_M g, .inl (nf sn))), (f, .inr (2, [.int (nI (aN a)), .ref a1, .ref a2, .ref a3, .ref a4, .ref a5, .ref a6])), (a3, .inl (cB, (hz_L g), .inl (nf (va_up kd i kind)))), (a4, .inl (cL, (hz_L g), .inr (.inl (vp_updL nu i (if kind = 0 then 0 else num)))))] := hD
      refine lv_iload hx hb d_F_change_41 (lv_at hl 1 rfl) ?_
      refine lv_iload hx hb d_F_change_43 (lv_at hl 0 rfl) ?_
      refine lv_icmp_ne (tgt := 49) hx hb d_F_change_45 (by decide) (fun c45 => ?_) (fun c45 => ?_)
      · have c45 : ¬ 1 = 1 := fun h => c45 (by exact (nI_eq (by omega) (by omega)).mpr h)
        exact absurd rfl c45
      · have c45 : 1 = 1 := by exact (nI_eq (by omega) (by omega)).mp c45
        have hpost : CI nT (setA a i kind (if kind = 0 then 0 else num)) g gt ow ky (va_up kd i kind) (vp_updL nu i (if kind = 0 then 0 else num)) fo sn fi la kc vc bo := ⟨hCS2, hCT.set (CT.v0 hCT hi1 hi2 ⟨fun h => absurd h c20, fun h => absurd h hDi⟩) (fun t h1 h2 => (hCT.b h1 h2).same ⟨fun h => absurd h c20, fun h => absurd h hDi⟩), hgt, hRT⟩
        exact hret (vc, bo, va_up kd i kind, vp_updL nu i (if kind = 0 then 0 else num)) _ _ 48 ls hpost (fz_subP hP [0, 1, 2, 3, 4, 5, 6, 11, 7, 8, 12, 13, 9, 10] rfl) (hD.sub [0, 1, 2, 3, 4, 5, 6, 11, 7, 8, 12, 13, 9, 10] (by decide) rfl) hS d_F_change_48
end
section
set_option maxHeartbeats 4000000 in
set_option maxRecDepth 100000 in
/-- give -/
theorem c_give (l : Launch) (dC : Nat → ClassId) (dI : Nat → Nat → Nat) (cI cL cB : ClassId) (x0 : Nat) (tr : Nat) (f : Nat) (y1 : Nat) (y2 : Nat) (y3 : Nat) (y4 : Nat) (y5 : Nat) (a1 : Nat) (a2 : Nat) (a3 : Nat) (a4 : Nat) (a5 : Nat) (a6 : Nat) (ck : Nat) (nT : Nat) (g : Nat) (gt : Nat) (cn : Int64) (a : AS) (fi : Nat → Nat) (la : Nat → Nat) (kc : Nat → Nat) (vc : Nat → Nat) (bo : Nat → Nat) (ow : Nat → Nat) (ky : Nat → Int64) (kd : Nat → Nat) (nu : Nat → Int64) (fo : Nat → Nat) (sn : Nat → Nat) (t : Nat) (kk : Nat) (kind : Nat) (k : Int64) (num : Int64) (hCI : CI nT a g gt ow ky kd nu fo sn fi la kc vc bo) (ht1 : 1 ≤ t) (ht2 : t ≤ nT) (hk1 : 1 ≤ kk) (hk2 : kk < 8) (hk7 : kind ≤ 7) (hr4 : aN a + comeA a (t * 8 + kk) k kind ≤ 40000) : StdI l y_F_give (wd y_F_give b_F_give 10 (some .int)) 5 126 (6 * (gF g (aN (giveA a (t * 8 + kk) k kind num)) - g)) (Gs (gF g (aN (giveA a (t * 8 + kk) k kind num))) - Gs g) (dC, dI) classes (tyK cI cL cB) [.ref x0, .int (nI t), .int (nI kk), .long k, .int (nI kind), .long num] [(x0, .inr (0, [.ref tr, .ref f, .int (nI ck), .long cn])), (tr, .inr (1, [.int (nI nT), .ref y1, .ref y2, .ref y3, .ref y4, .ref y5])), (y1, .inl (cI, hz_R gt, .inl (nf fi))), (y2, .inl (cI, hz_R gt, .inl (nf la))), (y3, .inl (cI, hz_R gt, .inl (nf kc))), (y4, .inl (cI, hz_R gt, .inl (nf vc))), (y5, .inl (cI, hz_R gt, .inl (nf bo))), (f, .inr (2, [.int (nI (aN a)), .ref a1, .ref a2, .ref a3, .ref a4, .ref a5, .ref a6])), (a1, .inl (cI, hz_L g, .inl (nf ow))), (a2, .inl (cL, hz_L g, .inr (.inl ky))), (a3, .inl (cB, hz_L g, .inl (nf kd))), (a4, .inl (cL, hz_L g, .inr (.inl nu))), (a5, .inl (cI, hz_L g, .inl (nf fo))), (a6, .inl (cI, hz_M g, .inl (nf sn)))] (fun (r : Int32) (u : Nat × Nat × Nat × Nat × Nat × Nat × (Nat → Nat) × (Nat → Nat) × (Nat → Nat) × (Nat → Nat) × (Nat → Nat) × (Nat → Nat) × (Nat → Int64) × (Nat → Nat) × (Nat → Int64) × (Nat → Nat) × (Nat → Nat)) => r = nI (comeA a (t * 8 + kk) k kind) ∧ CI nT (giveA a (t * 8 + kk) k kind num) (gF g (aN (giveA a (t * 8 + kk) k kind num))) gt u.2.2.2.2.2.2.2.2.2.2.2.1 u.2.2.2.2.2.2.2.2.2.2.2.2.1 u.2.2.2.2.2.2.2.2.2.2.2.2.2.1 u.2.2.2.2.2.2.2.2.2.2.2.2.2.2.1 u.2.2.2.2.2.2.2.2.2.2.2.2.2.2.2.1 u.2.2.2.2.2.2.2.2.2.2.2.2.2.2.2.2 u.2.2.2.2.2.2.1 u.2.2.2.2.2.2.2.1 u.2.2.2.2.2.2.2.2.1 u.2.2.2.2.2.2.2.2.2.1 u.2.2.2.2.2.2.2.2.2.2.1) (fun (u : Nat × Nat × Nat × Nat × Nat × Nat × (Nat → Nat) × (Nat → Nat) × (Nat → Nat) × (Nat → Nat) × (Nat → Nat) × (Nat → Nat) × (Nat → Int64) × (Nat → Nat) × (Nat → Int64) × (Nat → Nat) × (Nat → Nat)) => [(x0, .inr (0, [.ref tr, .ref f, .int (nI ck), .long cn])), (tr, .inr (1, [.int (nI nT), .ref y1, .ref y2, .ref y3, .ref y4, .ref y5])), (y1, .inl (cI, hz_R gt, .inl (nf u.2.2.2.2.2.2.1))), (y2, .inl (cI, hz_R gt, .inl (nf u.2.2.2.2.2.2.2.1))), (y3, .inl (cI, hz_R gt, .inl (nf u.2.2.2.2.2.2.2.2.1))), (y4, .inl (cI, hz_R gt, .inl (nf u.2.2.2.2.2.2.2.2.2.1))), (y5, .inl (cI, hz_R gt, .inl (nf u.2.2.2.2.2.2.2.2.2.2.1))), (f, .inr (2, [.int (nI (aN (giveA a (t * 8 + kk) k kind num))), .ref u.1, .ref u.2.1, .ref u.2.2.1, .ref u.2.2.2.1, .ref u.2.2.2.2.1, .ref u.2.2.2.2.2.1])), (u.1, .inl (cI, hz_L (gF g (aN (giveA a (t * 8 + kk) k kind num))), .inl (nf u.2.2.2.2.2.2.2.2.2.2.2.1))), (u.2.1, .inl (cL, hz_L (gF g (aN (giveA a (t * 8 + kk) k kind num))), .inr (.inl u.2.2.2.2.2.2.2.2.2.2.2.2.1))), (u.2.2.1, .inl (cB, hz_L (gF g (aN (giveA a (t * 8 + kk) k kind num))), .inl (nf u.2.2.2.2.2.2.2.2.2.2.2.2.2.1))), (u.2.2.2.1, .inl (cL, hz_L (gF g (aN (giveA a (t * 8 + kk) k kind num))), .inr (.inl u.2.2.2.2.2.2.2.2.2.2.2.2.2.2.1))), (u.2.2.2.2.1, .inl (cI, hz_L (gF g (aN (giveA a (t * 8 + kk) k kind num))), .inl (nf u.2.2.2.2.2.2.2.2.2.2.2.2.2.2.2.1))), (u.2.2.2.2.2.1, .inl (cI, hz_M (gF g (aN (giveA a (t * 8 + kk) k kind num))), .inl (nf u.2.2.2.2.2.2.2.2.2.2.2.2.2.2.2.2)))]) := by
  obtain ⟨hCS, hCT, hgt, hRT⟩ := id hCI
  have hAI := hCS.1
  have hnT := hCS.2.1
  have hg := hCS.2.2.1
  have hnL := hCS.2.2.2.1
  have hAg := hCS.2.2.2.2.1
  have hk8 := hCS.2.2.2.2.2.1
  have hT := hCS.2.2.2.2.2.2
  have hO := hCS.O
  have hU := hCS.U
  have hg1 := hz_gen g hg
  have hg2 := hz_Rgen gt hgt
  have hn4 := hAI.1
  refine StdI.mk (cc := b_F_give) (maxL := 10) (by decide) rfl (Nat.le_of_ble_eq_true rfl) ?_
  intro p e s m below meth c A Z ls hx hb hml hown hts hin hP hK hD hA hS hret hl
  have hown : s.vm.findClass R_F = some m.cls := hown
  have hw : ∀ x ∈ WALL, x.before _ s = true := fun x h => hts x (List.mem_cons_of_mem _ h)
  have hl : lv_has ls 10 [(0, .ref x0), (1, .int (nI t)), (2, .int (nI kk)), (3, .long k), (5, .int (nI kind)), (6, .long num)] := hl
  refine lv_aload_n hx hb d_F_give_0 rfl (lv_at hl 0 rfl) ?_
  refine va_get (D := (dC, dI)) (ci := 0) (v := .ref f) (C := R_F) (T := T_F) (N := 4) hx hb hw in_F hown hK hP 0 rfl rfl 1 (by decide) (hw _ m_84) (fun _ h9 => h9) rfl d_F_give_1 ?_
  refine lv_iload_n hx hb d_F_give_4 rfl (lv_at hl 1 rfl) ?_
  refine lv_iload_n hx hb d_F_give_5 rfl (lv_at hl 2 rfl) ?_
  refine lv_lload_n hx hb d_F_give_6 rfl (lv_at hl 3 rfl) ?_
  refine QryI.callV (ci := 2) (q0 := 0) (c_find l dC dI cI cL cB f a1 a2 a3 a4 a5 a6 (aN a) (hz_L g) (hz_M g) (7 + 2 * g) (aN a) t kk k ow sn ky (by omega) (by omega) rfl (by omega) (by omega) (by omega) (by omega) hO hU hT) ⟨hx, hb, hml, hown, hw⟩ (fz_cwV 3 hw m_147 m_144 m_145 m_146 m_3 rfl rfl (by decide +kernel) ⟨Nat.le_of_ble_eq_true rfl, Nat.le_of_ble_eq_true rfl⟩) hK hP [7, 8, 9, 13] rfl rfl rfl rfl rfl hl.1 rfl (Nat.le_of_ble_eq_true rfl) d_F_give_7 ⟨(by (try dsimp only); omega), (by (try dsimp only); omega)⟩ (fun r7 h7 => ?_)
  rw [hCS.F] at h7
  subst h7
  refine lv_istore (lv' := [(8, .int (nI (aF a (t * 8 + kk) k))), (0, .ref x0), (1, .int (nI t)), (2, .int (nI kk)), (3, .long k), (5, .int (nI kind)), (6, .long num)]) hx hb d_F_give_10 hl (by decide) rfl (fun ls hl => ?_)
  refine lv_iconst (v := nI 0) hx hb d_F_give_12 (by decide) ?_
  refine lv_istore (lv' := [(9, .int (nI 0)), (8, .int (nI (aF a (t * 8 + kk) k))), (0, .ref x0), (1, .int (nI t)), (2, .int (nI kk)), (3, .long k), (5, .int (nI kind)), (6, .long num)]) hx hb d_F_give_13 hl (by decide) rfl (fun ls hl => ?_)
  refine lv_iload hx hb d_F_give_15 (lv_at hl 1 rfl) ?_
  have hfl := aF_le a (t * 8 + kk) k
  refine lv_if_ne (tgt := 49) hx hb d_F_give_17 (by decide) (fun c17 => ?_) (fun c17 => ?_)
  · have c17 : ¬ aF a (t * 8 + kk) k = 0 := fun h => c17 (((nI_eq (by omega) (by omega)).mpr h).trans nI_0)
    have hfn := aF_le a (t * 8 + kk) k
    refine lv_aload_n hx hb d_F_give_49 rfl (lv_at hl 2 rfl) ?_
    refine lv_iload_n hx hb d_F_give_50 rfl (lv_at hl 3 rfl) ?_
    refine lv_iload hx hb d_F_give_51 (lv_at hl 1 rfl) ?_
    refine lv_iload hx hb d_F_give_53 (lv_at hl 6 rfl) ?_
    refine lv_lload hx hb d_F_give_55 (lv_at hl 7 rfl) ?_
    refine StdV.callV (ci := 0) (q0 := 0) (wr := []) (c_change l dC dI cI cL cB x0 tr f y1 y2 y3 y4 y5 a1 a2 a3 a4 a5 a6 ck nT g gt cn a fi la kc vc bo ow ky kd nu fo sn t (aF a (t * 8 + kk) k) kind num hCI (Nat.pos_of_ne_zero c17) (aF_le _ _ _) (by rw [(aF_hit c17).1]; omega) (by omega)) ⟨hx, hb, hml, hown, hw⟩ (fz_cwV 4 hw m_199 m_196 m_198 ms_5 m_1 rfl rfl (by decide +kernel) ⟨Nat.le_of_ble_eq_true rfl, Nat.le_of_ble_eq_true rfl⟩) hK hP hD hS hA [0, 1, 2, 3, 4, 5, 6, 7, 8, 9, 10, 11, 12, 13] [] rfl rfl (by decide) (by decide) (by decide) rfl rfl rfl rfl hl.1 rfl (Nat.le_of_ble_eq_true rfl) d_F_give_57 ⟨(by (try dsimp only); omega), (by (try dsimp only); omega)⟩ (fun u57 H locs h57 hP hD hS => ?_)
    obtain ⟨vc257, bo257, kd257, nu257⟩ := u57
    try dsimp only at h57
    have hP : va_P (dC, dI) classes [(x0, .inr (0, [.ref tr, .ref f, .int (nI ck), .long cn])), (tr, .inr (1, [.int (nI nT), .ref y1, .ref y2, .ref y3, .ref y4, .ref y5])), (y1, .inl (cI, hz_R gt, .inl (nf fi))), (y2, .inl (cI, hz_R gt, .inl (nf la))), (y3, .inl (cI, hz_R gt, .inl (nf kc))), (y4, .inl (cI, hz_R gt, .inl (nf vc257))), (y5, .inl (cI, hz_R gt, .inl (nf bo257))), (f, .inr (2, [.int (nI (aN a)), .ref a1, .ref a2, .ref a3, .ref a4, .ref a5, .ref a6])), (a1, .inl (cI, hz_L g, .inl (nf ow))), (a2, .inl (cL, hz_L g, .inr (.inl ky))), (a3, .inl (cB, hz_L g, .inl (nf kd257))), (a4, .inl (cL, hz_L g, .inr (.inl nu257))), (a5, .inl (cI, hz_L g, .inl (nf fo))), (a6, .inl (cI, hz_M g, .inl (nf sn)))] H := hP
    have hD : va_D A [(x0, .inr (0, [.ref tr, .ref f, .int (nI ck), .long cn])), (tr, .inr (1, [.int (nI nT), .ref y1, .ref y2, .ref y3, .ref y4, .ref y5])), (y1, .inl (cI, hz_R gt, .inl (nf fi))), (y2, .inl (cI, hz_R gt, .inl (nf la))), (y3, .inl (cI, hz_R gt, .inl (nf kc))), (y4, .inl (cI, hz_R gt, .inl (nf vc257))), (y5, .inl (cI, hz_R gt, .inl (nf bo257))), (f, .inr (2, [.int (nI (aN a)), .ref a1, .ref a2, .ref a3, .ref a4, .ref a5, .ref a6])), (a1, .inl (cI, hz_L g, .inl (nf ow))), (a2, .inl (cL, hz_L g, .inr (.inl ky))), (a3, .inl (cB, hz_L g, .inl (nf kd257))), (a4, .inl (cL, hz_L g, .inr (.inl nu257))), (a5, .inl (cI, hz_L g, .inl (nf fo))), (a6, .inl (cI, hz_M g, .inl (nf sn)))] := hD
    refine lv_iload hx hb d_F_give_60 (lv_at hl 0 rfl) ?_
    have eC : comeA a (t * 8 + kk) k kind = 0 := comeA_0 c17
    have eG : giveA a (t * 8 + kk) k kind num = setA a (aF a (t * 8 + kk) k) kind (if kind = 0 then 0 else num) := giveA_0 c17
    have eN : aN (giveA a (t * 8 + kk) k kind num) = aN a := by rw [giveA_N, eC, Nat.add_zero]
    have eg : gF g (aN (giveA a (t * 8 + kk) k kind num)) = g := by rw [eN]; exact gF_same hg hn4 hnL
    have hP : va_P (dC, dI) classes [(x0, .inr (0, [.ref tr, .ref f, .int (nI ck), .long cn])), (tr, .inr (1, [.int (nI nT), .ref y1, .ref y2, .ref y3, .ref y4, .ref y5])), (y1, .inl (cI, hz_R gt, .inl (nf fi))), (y2, .inl (cI, hz_R gt, .inl (nf la))), (y3, .inl (cI, hz_R gt, .inl (nf kc))), (y4, .inl (cI, hz_R gt, .inl (nf vc257))), (y5, .inl (cI, hz_R gt, .inl (nf bo257))), (f, .inr (2, [.int (nI (aN (giveA a (t * 8 + kk) k kind num))), .ref a1, .ref a2, .ref a3, .ref a4, .ref a5, .ref a6])), (a1, .inl (cI, hz_L (gF g (aN (giveA a (t * 8 + kk) k kind num))), .inl (nf ow))), (a2, .inl (cL, hz_L (gF g (aN (giveA a (t * 8 + kk) k kind num))), .inr (.inl ky))), (a3, .inl (cB, hz_L (gF g (aN (giveA a (t * 8 + kk) k kind num))), .inl (nf kd257))), (a4, .inl (cL, hz_L (gF g (aN (giveA a (t * 8 + kk) k kind num))), .inr (.inl nu257))), (a5, .inl (cI, hz_L (gF g (aN (giveA a (t * 8 + kk) k kind num))), .inl (nf fo))), (a6, .inl (cI, hz_M (gF g (aN (giveA a (t * 8 + kk) k kind num))), .inl (nf sn)))] H := by rw [eg, eN]; exact hP
    have hD : va_D A [(x0, .inr (0, [.ref tr, .ref f, .int (nI ck), .long cn])), (tr, .inr (1, [.int (nI nT), .ref y1, .ref y2, .ref y3, .ref y4, .ref y5])), (y1, .inl (cI, hz_R gt, .inl (nf fi))), (y2, .inl (cI, hz_R gt, .inl (nf la))), (y3, .inl (cI, hz_R gt, .inl (nf kc))), (y4, .inl (cI, hz_R gt, .inl (nf vc257))), (y5, .inl (cI, hz_R gt, .inl (nf bo257))), (f, .inr (2, [.int (nI (aN (giveA a (t * 8 + kk) k kind num))), .ref a1, .ref a2, .ref a3, .ref a4, .ref a5, .ref a6])), (a1, .inl (cI, hz_L (gF g (aN (giveA a (t * 8 + kk) k kind num))), .inl (nf ow))), (a2, .inl (cL, hz_L (gF g (aN (giveA a (t * 8 + kk) k kind num))), .inr (.inl ky))), (a3, .inl (cB, hz_L (gF g (aN (giveA a (t * 8 + kk) k kind num))), .inl (nf kd257))), (a4, .inl (cL, hz_L (gF g (aN (giveA a (t * 8 + kk) k kind num))), .inr (.inl nu257))), (a5, .inl (cI, hz_L (gF g (aN (giveA a (t * 8 + kk) k kind num))), .inl (nf fo))), (a6, .inl (cI, hz_M (gF g (aN (giveA a (t * 8 + kk) k kind num))), .inl (nf sn)))] := by rw [eg, eN]; exact hD
    refine W.widen (k := 6 * (gF g (aN (giveA a (t * 8 + kk) k kind num)) - g)) (n := Gs (gF g (aN (giveA a (t * 8 + kk) k kind num))) - Gs g) (by omega) (by omega) ?_
    have hpost : (nI 0) = nI (comeA a (t * 8 + kk) k kind) ∧ CI nT (giveA a (t * 8 + kk) k kind num) (gF g (aN (giveA a (t * 8 + kk) k kind num))) gt ow ky kd257 nu257 fo sn fi la kc vc257 bo257 := ⟨by rw [eC], by rw [eg, eG]; exact h57⟩
    exact hret (nI 0) (a1, a2, a3, a4, a5, a6, fi, la, kc, vc257, bo257, ow, ky, kd257, nu257, fo, sn) _ _ 62 ls hpost hP hD hS d_F_give_62
  · have c17 : aF a (t * 8 + kk) k = 0 := (nI_eq (by omega) (by omega)).mp (c17.trans nI_0.symm)
    refine lv_iload hx hb d_F_give_20 (lv_at hl 6 rfl) ?_
    refine lv_if_ne (tgt := 27) hx hb d_F_give_22 (by decide) (fun c22 => ?_) (fun c22 => ?_)
    · have c22 : ¬ kind = 0 := fun h => c22 (((nI_eq (by omega) (by omega)).mpr h).trans nI_0)
      have hn9 : aN a < 40000 := by rw [comeA_1 c17 c22] at hr4; omega
      have hG9 := gF_spec (g := g) (n := aN a + 1) hg (by omega)
      have hG8 := hz_gen _ hG9.2.1
      have eN9 : aN (giveA a (t * 8 + kk) k kind num) = aN a + 1 := by rw [giveA_N, comeA_1 c17 c22]
      have hla9 : la t < hz_L (gF g (aN a + 1)) := by
        have := (hCT.2 t ht1 ht2).2.1
        rcases this with ⟨q, _⟩ | ⟨_, q, _⟩ <;> omega
      refine lv_aload_n hx hb d_F_give_27 rfl (lv_at hl 2 rfl) ?_
      refine va_get (D := (dC, dI)) (ci := 0) (v := .ref f) (C := R_F) (T := T_F) (N := 4) hx hb hw in_F hown hK hP 0 rfl rfl 1 (by decide) (hw _ m_84) (fun _ h9 => h9) rfl d_F_give_28 ?_
      refine lv_iload_n hx hb d_F_give_31 rfl (lv_at hl 3 rfl) ?_
      refine lv_iload_n hx hb d_F_give_32 rfl (lv_at hl 4 rfl) ?_
      refine lv_lload_n hx hb d_F_give_33 rfl (lv_at hl 5 rfl) ?_
      refine StdI.callV (ci := 2) (q0 := 0) (wr := [(x0, .inr (0, [.ref tr, .ref f, .int (nI ck), .long cn])), (tr, .inr (1, [.int (nI nT), .ref y1, .ref y2, .ref y3, .ref y4, .ref y5])), (y1, .inl (cI, hz_R gt, .inl (nf fi))), (y2, .inl (cI, hz_R gt, .inl (nf la))), (y3, .inl (cI, hz_R gt, .inl (nf kc))), (y4, .inl (cI, hz_R gt, .inl (nf vc))), (y5, .inl (cI, hz_R gt, .inl (nf bo)))]) (c_Sadd l dC dI cI cL cB f a1 a2 a3 a4 a5 a6 (aN a) g (gF g (aN a + 1)) t kk k ow ky kd nu fo sn (by omega) (by omega) (by omega) (gF_step hg hn9 hnL) (by omega) (by omega) hU hO hk8 hT (by rw [hCS.F]; exact c17)) ⟨hx, hb, hml, hown, hw⟩ (fz_cwV 3 hw m_168 m_165 m_166 m_167 m_3 rfl rfl (by decide +kernel) ⟨Nat.le_of_ble_eq_true rfl, Nat.le_of_ble_eq_true rfl⟩) hK hP hD hS hA [7, 8, 9, 10, 11, 12, 13] [0, 1, 2, 3, 4, 5, 6] rfl rfl (by decide) (by decide) (by decide) rfl rfl rfl rfl hl.1 rfl (Nat.le_of_ble_eq_true rfl) d_F_give_34 ⟨(by dsimp only; rw [eN9]; omega), (by dsimp only; rw [eN9]; omega)⟩ (fun r34 u34 H locs h34 hP hD hS => ?_)
      obtain ⟨b134, b234, b334, b434, b534, b634, ow234, ky234, kd234, nu234, fo234, sn234⟩ := u34
      try dsimp only at h34
      have hP : va_P (dC, dI) classes [(x0, .inr (0, [.ref tr, .ref f, .int (nI ck), .long cn])), (tr, .inr (1, [.int (nI nT), .ref y1, .ref y2, .ref y3, .ref y4, .ref y5])), (y1, .inl (cI, hz_R gt, .inl (nf fi))), (y2, .inl (cI, hz_R gt, .inl (nf la))), (y3, .inl (cI, hz_R gt, .inl (nf kc))), (y4, .inl (cI, hz_R gt, .inl (nf vc))), (y5, .inl (cI, hz_R gt, .inl (nf bo))), (f, .inr (2, [.int (nI ((aN a) + 1)), .ref b134, .ref b234, .ref b334, .ref b434, .ref b534, .ref b634])), (b134, .inl (cI, hz_L (gF g (aN a + 1)), .inl (nf ow234))), (b234, .inl (cL, hz_L (gF g (aN a + 1)), .inr (.inl ky234))), (b334, .inl (cB, hz_L (gF g (aN a + 1)), .inl (nf kd234))), (b434, .inl (cL, hz_L (gF g (aN a + 1)), .inr (.inl nu234))), (b534, .inl (cI, hz_L (gF g (aN a + 1)), .inl (nf fo234))), (b634, .inl (cI, hz_M (gF g (aN a + 1)), .inl (nf sn234)))] H := hP
      have hD : va_D A [(x0, .inr (0, [.ref tr, .ref f, .int (nI ck), .long cn])), (tr, .inr (1, [.int (nI nT), .ref y1, .ref y2, .ref y3, .ref y4, .ref y5])), (y1, .inl (cI, hz_R gt, .inl (nf fi))), (y2, .inl (cI, hz_R gt, .inl (nf la))), (y3, .inl (cI, hz_R gt, .inl (nf kc))), (y4, .inl (cI, hz_R gt, .inl (nf vc))), (y5, .inl (cI, hz_R gt, .inl (nf bo))), (f, .inr (2, [.int (nI ((aN a) + 1)), .ref b134, .ref b234, .ref b334, .ref b434, .ref b534, .ref b634])), (b134, .inl (cI, hz_L (gF g (aN a + 1)), .inl (nf ow234))), (b234, .inl (cL, hz_L (gF g (aN a + 1)), .inr (.inl ky234))), (b334, .inl (cB, hz_L (gF g (aN a + 1)), .inl (nf kd234))), (b434, .inl (cL, hz_L (gF g (aN a + 1)), .inr (.inl nu234))), (b534, .inl (cI, hz_L (gF g (aN a + 1)), .inl (nf fo234))), (b634, .inl (cI, hz_M (gF g (aN a + 1)), .inl (nf sn234)))] := hD
      refine W.widen (k := 6 * ((gF g (aN a + 1)) - g)) (n := Gs (gF g (aN a + 1)) - Gs g) (by omega) (by omega) ?_
      obtain ⟨e34, hA9, p1, p2, p3, p4, p5, p6, p7⟩ := h34
      subst e34
      refine lv_istore (lv' := [(8, .int (nI (aN a + 1))), (9, .int (nI 0)), (0, .ref x0), (1, .int (nI t)), (2, .int (nI kk)), (3, .long k), (5, .int (nI kind)), (6, .long num)]) hx hb d_F_give_37 hl (by decide) rfl (fun ls hl => ?_)
      refine lv_aload_n hx hb d_F_give_39 rfl (lv_at hl 2 rfl) ?_
      refine lv_iload_n hx hb d_F_give_40 rfl (lv_at hl 3 rfl) ?_
      refine lv_iload hx hb d_F_give_41 (lv_at hl 0 rfl) ?_
      refine StdV.callV (ci := 0) (q0 := 0) (wr := [(y4, .inl (cI, hz_R gt, .inl (nf vc))), (y5, .inl (cI, hz_R gt, .inl (nf bo))), (b134, .inl (cI, hz_L (gF g (aN a + 1)), .inl (nf ow234))), (b234, .inl (cL, hz_L (gF g (aN a + 1)), .inr (.inl ky234))), (b334, .inl (cB, hz_L (gF g (aN a + 1)), .inl (nf kd234))), (b434, .inl (cL, hz_L (gF g (aN a + 1)), .inr (.inl nu234))), (b634, .inl (cI, hz_M (gF g (aN a + 1)), .inl (nf sn234)))]) (c_append l dC dI cI cL cB x0 tr f y1 y2 y3 y4 y5 b134 b234 b334 b434 b534 b634 ck nT (hz_R gt) (hz_L (gF g (aN a + 1))) ((aN a) + 1) t (aN a + 1) cn fi la kc fo234 (by omega) (by omega) (by omega) hla9) ⟨hx, hb, hml, hown, hw⟩ (fz_cwV 2 hw m_195 m_192 m_194 ms_4 m_1 rfl rfl (by decide +kernel) ⟨Nat.le_of_ble_eq_true rfl, Nat.le_of_ble_eq_true rfl⟩) hK hP hD hS hA [0, 1, 7, 2, 3, 4, 12] [5, 6, 8, 9, 10, 11, 13] rfl rfl (by decide) (by decide) (by decide) rfl rfl rfl rfl hl.1 rfl (Nat.le_of_ble_eq_true rfl) d_F_give_43 ⟨(by dsimp only; rw [eN9]; omega), (by dsimp only; rw [eN9]; omega)⟩ (fun u43 H locs h43 hP hD hS => ?_)
      obtain ⟨fi243, fo243⟩ := u43
      try dsimp only at h43
      have hP : va_P (dC, dI) classes [(y4, .inl (cI, hz_R gt, .inl (nf vc))), (y5, .inl (cI, hz_R gt, .inl (nf bo))), (b134, .inl (cI, hz_L (gF g (aN a + 1)), .inl (nf ow234))), (b234, .inl (cL, hz_L (gF g (aN a + 1)), .inr (.inl ky234))), (b334, .inl (cB, hz_L (gF g (aN a + 1)), .inl (nf kd234))), (b434, .inl (cL, hz_L (gF g (aN a + 1)), .inr (.inl nu234))), (b634, .inl (cI, hz_M (gF g (aN a + 1)), .inl (nf sn234))), (x0, .inr (0, [.ref tr, .ref f, .int (nI ck), .long cn])), (tr, .inr (1, [.int (nI nT), .ref y1, .ref y2, .ref y3, .ref y4, .ref y5])), (f, .inr (2, [.int (nI ((aN a) + 1)), .ref b134, .ref b234, .ref b334, .ref b434, .ref b534, .ref b634])), (y1, .inl (cI, (hz_R gt), .inl (nf fi243))), (y2, .inl (cI, (hz_R gt), .inl (nf (va_up la t (aN a + 1))))), (y3, .inl (cI, (hz_R gt), .inl (nf (va_up kc t (kc t + 1))))), (b534, .inl (cI, (hz_L (gF g (aN a + 1))), .inl (nf fo243)))] H := hP
      have hD : va_D A [(y4, .inl (cI, hz_R gt, .inl (nf vc))), (y5, .inl (cI, hz_R gt, .inl (nf bo))), (b134, .inl (cI, hz_L (gF g (aN a + 1)), .inl (nf ow234))), (b234, .inl (cL, hz_L (gF g (aN a + 1)), .inr (.inl ky234))), (b334, .inl (cB, hz_L (gF g (aN a + 1)), .inl (nf kd234))), (b434, .inl (cL, hz_L (gF g (aN a + 1)), .inr (.inl nu234))), (b634, .inl (cI, hz_M (gF g (aN a + 1)), .inl (nf sn234))), (x0, .inr (0, [.ref tr, .ref f, .int (nI ck), .long cn])), (tr, .inr (1, [.int (nI nT), .ref y1, .ref y2, .ref y3, .ref y4, .ref y5])), (f, .inr (2, [.int (nI ((aN a) + 1)), .ref b134, .ref b234, .ref b334, .ref b434, .ref b534, .ref b634])), (y1, .inl (cI, (hz_R gt), .inl (nf fi243))), (y2, .inl (cI, (hz_R gt), .inl (nf (va_up la t (aN a + 1))))), (y3, .inl (cI, (hz_R gt), .inl (nf (va_up kc t (kc t + 1))))), (b534, .inl (cI, (hz_L (gF g (aN a + 1))), .inl (nf fo243)))] := hD
      have hCI1 : CI nT (addA a (t * 8 + kk) k 0 0) (gF g (aN a + 1)) gt ow234 ky234 kd234 nu234 fo243 sn234 fi243 (va_up la t (aN a + 1)) (va_up kc t (kc t + 1)) vc bo := ⟨hCS.add ht1 ht2 hk1 hk2 hn9 c17 hG9.2.1 hG9.2.2.1 hA9 p1 p2 p3 p4 p6 p7, CT.app hCT hAI c17 hk2 ht1 ht2 (fun i hi => (hA9 i hi).2.2.2.2) p5 h43.2 h43.1 rfl rfl, hgt, hRT⟩
      refine lv_iconst (v := nI 1) hx hb d_F_give_46 (by decide) ?_
      refine lv_istore (lv' := [(9, .int (nI 1)), (8, .int (nI (aN a + 1))), (0, .ref x0), (1, .int (nI t)), (2, .int (nI kk)), (3, .long k), (5, .int (nI kind)), (6, .long num)]) hx hb d_F_give_47 hl (by decide) rfl (fun ls hl => ?_)
      refine lv_aload_n hx hb d_F_give_49 rfl (lv_at hl 2 rfl) ?_
      refine lv_iload_n hx hb d_F_give_50 rfl (lv_at hl 3 rfl) ?_
      refine lv_iload hx hb d_F_give_51 (lv_at hl 1 rfl) ?_
      refine lv_iload hx hb d_F_give_53 (lv_at hl 6 rfl) ?_
      refine lv_lload hx hb d_F_give_55 (lv_at hl 7 rfl) ?_
      refine StdV.callV (ci := 0) (q0 := 0) (wr := []) (c_change l dC dI cI cL cB x0 tr f y1 y2 y3 y4 y5 b134 b234 b334 b434 b534 b634 ck nT (gF g (aN a + 1)) gt cn (addA a (t * 8 + kk) k 0 0) fi243 (va_up la t (aN a + 1)) (va_up kc t (kc t + 1)) vc bo ow234 ky234 kd234 nu234 fo243 sn234 t (aN a + 1) kind num hCI1 (by omega) (Nat.le_refl _) (by show va_up (aO a) (aN a + 1) (t * 8 + kk) (aN a + 1) / 8 = t; rw [va_up_self]; omega) (by omega)) ⟨hx, hb, hml, hown, hw⟩ (fz_cwV 4 hw m_199 m_196 m_198 ms_5 m_1 rfl rfl (by decide +kernel) ⟨Nat.le_of_ble_eq_true rfl, Nat.le_of_ble_eq_true rfl⟩) hK hP hD hS hA [7, 8, 10, 11, 12, 0, 1, 9, 2, 3, 4, 5, 13, 6] [] rfl rfl (by decide) (by decide) (by decide) rfl rfl rfl rfl hl.1 rfl (Nat.le_of_ble_eq_true rfl) d_F_give_57 ⟨(by dsimp only; rw [eN9]; omega), (by dsimp only; rw [eN9]; omega)⟩ (fun u57 H locs h57 hP hD hS => ?_)
      obtain ⟨vc257, bo257, kd257, nu257⟩ := u57
      try dsimp only at h57
      have hP : va_P (dC, dI) classes [(x0, .inr (0, [.ref tr, .ref f, .int (nI ck), .long cn])), (tr, .inr (1, [.int (nI nT), .ref y1, .ref y2, .ref y3, .ref y4, .ref y5])), (y1, .inl (cI, hz_R gt, .inl (nf fi243))), (y2, .inl (cI, hz_R gt, .inl (nf (va_up la t (aN a + 1))))), (y3, .inl (cI, hz_R gt, .inl (nf (va_up kc t (kc t + 1))))), (y4, .inl (cI, hz_R gt, .inl (nf vc257))), (y5, .inl (cI, hz_R gt, .inl (nf bo257))), (f, .inr (2, [.int (nI (aN (addA a (t * 8 + kk) k 0 0))), .ref b134, .ref b234, .ref b334, .ref b434, .ref b534, .ref b634])), (b134, .inl (cI, hz_L (gF g (aN a + 1)), .inl (nf ow234))), (b234, .inl (cL, hz_L (gF g (aN a + 1)), .inr (.inl ky234))), (b334, .inl (cB, hz_L (gF g (aN a + 1)), .inl (nf kd257))), (b434, .inl (cL, hz_L (gF g (aN a + 1)), .inr (.inl nu257))), (b534, .inl (cI, hz_L (gF g (aN a + 1)), .inl (nf fo243))), (b634, .inl (cI, hz_M (gF g (aN a + 1)), .inl (nf sn234)))] H := hP
      have hD : va_D A [(x0, .inr (0, [.ref tr, .ref f, .int (nI ck), .long cn])), (tr, .inr (1, [.int (nI nT), .ref y1, .ref y2, .ref y3, .ref y4, .ref y5])), (y1, .inl (cI, hz_R gt, .inl (nf fi243))), (y2, .inl (cI, hz_R gt, .inl (nf (va_up la t (aN a + 1))))), (y3, .inl (cI, hz_R gt, .inl (nf (va_up kc t (kc t + 1))))), (y4, .inl (cI, hz_R gt, .inl (nf vc257))), (y5, .inl (cI, hz_R gt, .inl (nf bo257))), (f, .inr (2, [.int (nI (aN (addA a (t * 8 + kk) k 0 0))), .ref b134, .ref b234, .ref b334, .ref b434, .ref b534, .ref b634])), (b134, .inl (cI, hz_L (gF g (aN a + 1)), .inl (nf ow234))), (b234, .inl (cL, hz_L (gF g (aN a + 1)), .inr (.inl ky234))), (b334, .inl (cB, hz_L (gF g (aN a + 1)), .inl (nf kd257))), (b434, .inl (cL, hz_L (gF g (aN a + 1)), .inr (.inl nu257))), (b534, .inl (cI, hz_L (gF g (aN a + 1)), .inl (nf fo243))), (b634, .inl (cI, hz_M (gF g (aN a + 1)), .inl (nf sn234)))] := hD
      refine lv_iload hx hb d_F_give_60 (lv_at hl 0 rfl) ?_
      have eC : comeA a (t * 8 + kk) k kind = 1 := comeA_1 c17 c22
      have eG : giveA a (t * 8 + kk) k kind num = setA (addA a (t * 8 + kk) k 0 0) (aN a + 1) kind (if kind = 0 then 0 else num) := by rw [giveA_1 c17 c22, set_add, if_neg c22]
      have eN : aN (giveA a (t * 8 + kk) k kind num) = aN a + 1 := by rw [giveA_N, eC]
      have hP : va_P (dC, dI) classes [(x0, .inr (0, [.ref tr, .ref f, .int (nI ck), .long cn])), (tr, .inr (1, [.int (nI nT), .ref y1, .ref y2, .ref y3, .ref y4, .ref y5])), (y1, .inl (cI, hz_R gt, .inl (nf fi243))), (y2, .inl (cI, hz_R gt, .inl (nf (va_up la t (aN a + 1))))), (y3, .inl (cI, hz_R gt, .inl (nf (va_up kc t (kc t + 1))))), (y4, .inl (cI, hz_R gt, .inl (nf vc257))), (y5, .inl (cI, hz_R gt, .inl (nf bo257))), (f, .inr (2, [.int (nI (aN (giveA a (t * 8 + kk) k kind num))), .ref b134, .ref b234, .ref b334, .ref b434, .ref b534, .ref b634])), (b134, .inl (cI, hz_L (gF g (aN (giveA a (t * 8 + kk) k kind num))), .inl (nf ow234))), (b234, .inl (cL, hz_L (gF g (aN (giveA a (t * 8 + kk) k kind num))), .inr (.inl ky234))), (b334, .inl (cB, hz_L (gF g (aN (giveA a (t * 8 + kk) k kind num))), .inl (nf kd257))), (b434, .inl (cL, hz_L (gF g (aN (giveA a (t * 8 + kk) k kind num))), .inr (.inl nu257))), (b534, .inl (cI, hz_L (gF g (aN (giveA a (t * 8 + kk) k kind num))), .inl (nf fo243))), (b634, .inl (cI, hz_M (gF g (aN (giveA a (t * 8 + kk) k kind num))), .inl (nf sn234)))] H := by rw [eN]; exact hP
      have hD : va_D A [(x0, .inr (0, [.ref tr, .ref f, .int (nI ck), .long cn])), (tr, .inr (1, [.int (nI nT), .ref y1, .ref y2, .ref y3, .ref y4, .ref y5])), (y1, .inl (cI, hz_R gt, .inl (nf fi243))), (y2, .inl (cI, hz_R gt, .inl (nf (va_up la t (aN a + 1))))), (y3, .inl (cI, hz_R gt, .inl (nf (va_up kc t (kc t + 1))))), (y4, .inl (cI, hz_R gt, .inl (nf vc257))), (y5, .inl (cI, hz_R gt, .inl (nf bo257))), (f, .inr (2, [.int (nI (aN (giveA a (t * 8 + kk) k kind num))), .ref b134, .ref b234, .ref b334, .ref b434, .ref b534, .ref b634])), (b134, .inl (cI, hz_L (gF g (aN (giveA a (t * 8 + kk) k kind num))), .inl (nf ow234))), (b234, .inl (cL, hz_L (gF g (aN (giveA a (t * 8 + kk) k kind num))), .inr (.inl ky234))), (b334, .inl (cB, hz_L (gF g (aN (giveA a (t * 8 + kk) k kind num))), .inl (nf kd257))), (b434, .inl (cL, hz_L (gF g (aN (giveA a (t * 8 + kk) k kind num))), .inr (.inl nu257))), (b534, .inl (cI, hz_L (gF g (aN (giveA a (t * 8 + kk) k kind num))), .inl (nf fo243))), (b634, .inl (cI, hz_M (gF g (aN (giveA a (t * 8 + kk) k kind num))), .inl (nf sn234)))] := by rw [eN]; exact hD
      refine W.widen (k := 6 * (gF g (aN (giveA a (t * 8 + kk) k kind num)) - g)) (n := Gs (gF g (aN (giveA a (t * 8 + kk) k kind num))) - Gs g) (by rw [eN]; omega) (by rw [eN]; omega) ?_
      have hpost : (nI 1) = nI (comeA a (t * 8 + kk) k kind) ∧ CI nT (giveA a (t * 8 + kk) k kind num) (gF g (aN (giveA a (t * 8 + kk) k kind num))) gt ow234 ky234 kd257 nu257 fo243 sn234 fi243 (va_up la t (aN a + 1)) (va_up kc t (kc t + 1)) vc257 bo257 := ⟨by rw [eC], by rw [eN, eG]; exact h57⟩
      exact hret (nI 1) (b134, b234, b334, b434, b534, b634, fi243, va_up la t (aN a + 1), va_up kc t (kc t + 1), vc257, bo257, ow234, ky234, kd257, nu257, fo243, sn234) _ _ 62 ls hpost hP hD hS d_F_give_62
    · have c22 : kind = 0 := (nI_eq (by omega) (by omega)).mp (c22.trans nI_0.symm)
      refine lv_iconst (v := nI 0) hx hb d_F_give_25 (by decide) ?_
      have eC : comeA a (t * 8 + kk) k kind = 0 := by rw [c22]; exact comeA_n c17
      have eG : giveA a (t * 8 + kk) k kind num = a := by rw [c22]; exact giveA_n c17
      have eN : aN (giveA a (t * 8 + kk) k kind num) = aN a := by rw [giveA_N, eC, Nat.add_zero]
      have eg : gF g (aN (giveA a (t * 8 + kk) k kind num)) = g := by rw [eN]; exact gF_same hg hn4 hnL
      have hP : va_P (dC, dI) classes [(x0, .inr (0, [.ref tr, .ref f, .int (nI ck), .long cn])), (tr, .inr (1, [.int (nI nT), .ref y1, .ref y2, .ref y3, .ref y4, .ref y5])), (y1, .inl (cI, hz_R gt, .inl (nf fi))), (y2, .inl (cI, hz_R gt, .inl (nf la))), (y3, .inl (cI, hz_R gt, .inl (nf kc))), (y4, .inl (cI, hz_R gt, .inl (nf vc))), (y5, .inl (cI, hz_R gt, .inl (nf bo))), (f, .inr (2, [.int (nI (aN (giveA a (t * 8 + kk) k kind num))), .ref a1, .ref a2, .ref a3, .ref a4, .ref a5, .ref a6])), (a1, .inl (cI, hz_L (gF g (aN (giveA a (t * 8 + kk) k kind num))), .inl (nf ow))), (a2, .inl (cL, hz_L (gF g (aN (giveA a (t * 8 + kk) k kind num))), .inr (.inl ky))), (a3, .inl (cB, hz_L (gF g (aN (giveA a (t * 8 + kk) k kind num))), .inl (nf kd))), (a4, .inl (cL, hz_L (gF g (aN (giveA a (t * 8 + kk) k kind num))), .inr (.inl nu))), (a5, .inl (cI, hz_L (gF g (aN (giveA a (t * 8 + kk) k kind num))), .inl (nf fo))), (a6, .inl (cI, hz_M (gF g (aN (giveA a (t * 8 + kk) k kind num))), .inl (nf sn)))] s.heap := by rw [eg, eN]; exact hP
      have hD : va_D A [(x0, .inr (0, [.ref tr, .ref f, .int (nI ck), .long cn])), (tr, .inr (1, [.int (nI nT), .ref y1, .ref y2, .ref y3, .ref y4, .ref y5])), (y1, .inl (cI, hz_R gt, .inl (nf fi))), (y2, .inl (cI, hz_R gt, .inl (nf la))), (y3, .inl (cI, hz_R gt, .inl (nf kc))), (y4, .inl (cI, hz_R gt, .inl (nf vc))), (y5, .inl (cI, hz_R gt, .inl (nf bo))), (f, .inr (2, [.int (nI (aN (giveA a (t * 8 + kk) k kind num))), .ref a1, .ref a2, .ref a3, .ref a4, .ref a5, .ref a6])), (a1, .inl (cI, hz_L (gF g (aN (giveA a (t * 8 + kk) k kind num))), .inl (nf ow))), (a2, .inl (cL, hz_L (gF g (aN (giveA a (t * 8 + kk) k kind num))), .inr (.inl ky))), (a3, .inl (cB, hz_L (gF g (aN (giveA a (t * 8 + kk) k kind num))), .inl (nf kd))), (a4, .inl (cL, hz_L (gF g (aN (giveA a (t * 8 + kk) k kind num))), .inr (.inl nu))), (a5, .inl (cI, hz_L (gF g (aN (giveA a (t * 8 + kk) k kind num))), .inl (nf fo))), (a6, .inl (cI, hz_M (gF g (aN (giveA a (t * 8 + kk) k kind num))), .inl (nf sn)))] := by rw [eg, eN]; exact hD
      refine W.widen (k := 6 * (gF g (aN (giveA a (t * 8 + kk) k kind num)) - g)) (n := Gs (gF g (aN (giveA a (t * 8 + kk) k kind num))) - Gs g) (by omega) (by omega) ?_
      have hpost : (nI 0) = nI (comeA a (t * 8 + kk) k kind) ∧ CI nT (giveA a (t * 8 + kk) k kind num) (gF g (aN (giveA a (t * 8 + kk) k kind num))) gt ow ky kd nu fo sn fi la kc vc bo := ⟨by rw [eC], by rw [eg, eG]; exact hCI⟩
      exact hret (nI 0) (a1, a2, a3, a4, a5, a6, fi, la, kc, vc, bo, ow, ky, kd, nu, fo, sn) _ _ 26 ls hpost hP hD hS d_F_give_26
end
section
/-! what the calls answer and do, by the document, over what all tables hold -/
noncomputable def ifc {α : Type} (p : Prop) (x y : α) : α := @ite α p (Classical.propDecidable p) x y
theorem ifc_pos {α : Type} {p : Prop} {x y : α} (h : p) : ifc p x y = x := by unfold ifc; exact if_pos h
theorem ifc_neg {α : Type} {p : Prop} {x y : α} (h : ¬ p) : ifc p x y = y := by unfold ifc; exact if_neg h
noncomputable def pick (p : Nat → Prop) : Nat := @dite Nat (∃ j, p j) (Classical.propDecidable _) (fun h => h.choose) (fun _ => 0)
theorem pick_eq {p : Nat → Prop} {j : Nat} (h : p j) (hu : ∀ i, p i → i = j) : pick p = j := by
  have e : ∃ j, p j := ⟨j, h⟩
  unfold pick
  rw [dif_pos e]
  exact hu _ e.choose_spec
def tN (x : Int32) : Nat := x.toNatClampNeg
theorem tN_nI {t : Nat} (h : t < 2 ^ 31) : tN (nI t) = t := nI_clamp h
noncomputable def bd (a : AS) (t : Nat) : Nat := pick (isB a t)
theorem bd_eq {a : AS} {t b : Nat} (h : isB a t b) : bd a t = b := pick_eq h (fun i hi => hi.uniq h)
def isNV (a : AS) (t i j : Nat) : Prop := (j = 0 ∧ ∀ m, i < m → m ≤ aN a → ¬ (aO a m / 8 = t ∧ aD a m ≠ 0)) ∨ (i < j ∧ j ≤ aN a ∧ aO a j / 8 = t ∧ aD a j ≠ 0 ∧ ∀ m, i < m → m < j → ¬ (aO a m / 8 = t ∧ aD a m ≠ 0))
theorem isNV.uniq {a : AS} {t i j j' : Nat} (h : isNV a t i j) (h' : isNV a t i j') : j = j' := by
  rcases h with ⟨h1, h2⟩ | ⟨h1, h2, h3, h4, h5⟩
  · rcases h' with ⟨k1, k2⟩ | ⟨k1, k2, k3, k4, k5⟩
    · omega
    · exact absurd ⟨k3, k4⟩ (h2 j' k1 k2)
  · rcases h' with ⟨k1, k2⟩ | ⟨k1, k2, k3, k4, k5⟩
    · exact absurd ⟨h3, h4⟩ (k2 j h1 h2)
    · rcases Nat.lt_trichotomy j j' with q | q | q
      · exact absurd ⟨h3, h4⟩ (k5 j h1 q)
      · exact q
      · exact absurd ⟨k3, k4⟩ (h5 j' k1 q)
noncomputable def nv (a : AS) (t i : Nat) : Nat := pick (isNV a t i)
theorem nv_eq {a : AS} {t i j : Nat} (h : isNV a t i j) : nv a t i = j := pick_eq h (fun _ hi => hi.uniq h)
def fMake (nT : Nat) : Int32 × Nat := if nT = 30000 then (-3, nT) else (nI (nT + 1), nT + 1)
def fPutG (a : AS) (o : Nat) (k : Int64) (kd : Nat) (nu : Int64) : Int32 × AS := if kd ≠ 0 ∧ aN a = 40000 ∧ aF a o k = 0 then (-3, a) else (nI (comeA a o k kd), giveA a o k kd nu)
noncomputable def fPut (nT : Nat) (a : AS) (x kk : Int32) (k : Int64) (kd : Int32) (nu : Int64) : Int32 × AS := ifc (okT nT x ∧ okT 7 kk ∧ okV kd) (fPutG a (tN x * 8 + tN kk) k (tN kd) nu) (-1, a)
noncomputable def fKindAt (nT : Nat) (a : AS) (x kk : Int32) (k : Int64) : Int32 := ifc (okT nT x ∧ okT 7 kk) (nI (vD a (tN x * 8 + tN kk) k)) (-1)
noncomputable def fNumberAt (nT : Nat) (a : AS) (x kk : Int32) (k : Int64) : Int64 := ifc (okT nT x ∧ okT 7 kk) (vU a (tN x * 8 + tN kk) k) 0
noncomputable def fBorder (nT : Nat) (a : AS) (x : Int32) : Int32 := ifc (okT nT x) (nI (bd a (tN x))) (-1)
noncomputable def fKeys (nT : Nat) (a : AS) (x : Int32) : Int32 := ifc (okT nT x) (nI (cK a (tN x))) (-1)
noncomputable def fFields (nT : Nat) (a : AS) (x : Int32) : Int32 := ifc (okT nT x) (nI (cV a (tN x))) (-1)
noncomputable def fNextJ (a : AS) (j : Nat) : Int32 × Nat × Int64 := if j = 0 then (nI 0, 0, 0) else (nI 1, aO a j % 8, aK a j)
noncomputable def fNextG (a : AS) (cur : Nat × Int64) (t kk : Nat) (k : Int64) : Int32 × Nat × Int64 := if kk ≠ 0 ∧ aF a (t * 8 + kk) k = 0 then (-2, cur) else fNextJ a (nv a t (if kk = 0 then 0 else aF a (t * 8 + kk) k))
noncomputable def fNext (nT : Nat) (a : AS) (cur : Nat × Int64) (x kk : Int32) (k : Int64) : Int32 × Nat × Int64 := ifc (okT nT x ∧ okV kk) (fNextG a cur (tN x) (tN kk) k) (-1, cur)
/-! rows of whole numbers -/
def okRun (nT : Nat) (x : Int32) (frm : Int64) (n st : Int32) : Prop := okT nT x ∧ (∃ j, j ≤ 20000 ∧ n = nI j) ∧ (∃ j, 1 ≤ j ∧ j ≤ 1000 ∧ st = nI j) ∧ ¬ frm < -1000000 ∧ ¬ lN 1000000 < frm
theorem okN_of {M : Nat} {x : Int32} (hM : M < 2 ^ 31) (h1 : ¬ x < 0) (h2 : ¬ nI M < x) : ∃ j, j ≤ M ∧ x = nI j := by
  rw [Int32.lt_iff_toInt_lt, nI_toInt hM] at h2
  rw [Int32.lt_iff_toInt_lt] at h1
  have e0 : (0 : Int32).toInt = 0 := rfl
  refine ⟨x.toInt.toNat, by omega, ?_⟩
  apply Int32.toInt_inj.mp
  rw [nI_toInt (by omega)]; omega
theorem okN_lt {M : Nat} {x : Int32} (hM : M < 2 ^ 31) (h : x < 0) : ¬ ∃ j, j ≤ M ∧ x = nI j := by
  rintro ⟨j, h1, rfl⟩
  exact nI_pos (by omega) h
theorem okN_gt {M : Nat} {x : Int32} (hM : M < 2 ^ 31) (h : nI M < x) : ¬ ∃ j, j ≤ M ∧ x = nI j := by
  rintro ⟨j, h1, rfl⟩
  have := (nI_ltI (by omega) (by omega)).mp h
  omega
/-- the key of place j of a row -/
def rK (frm : Int64) (st j : Nat) : Int64 := frm + lN (st * j)
theorem rK_0 (frm : Int64) (st : Nat) : rK frm st 0 = frm := by
  unfold rK
  rw [Nat.mul_zero]
  show frm + 0 = frm
  exact Int64.add_zero frm
theorem rK_1 (frm : Int64) (st j : Nat) : rK frm st j + lN st = rK frm st (j + 1) := by
  unfold rK
  rw [Int64.add_assoc, lN_add, Nat.mul_succ]
def missA (a : AS) (t : Nat) (frm : Int64) (st : Nat) : Nat → Nat
  | 0 => 0
  | j + 1 => missA a t frm st j + (if aF a (t * 8 + 3) (rK frm st j) = 0 then 1 else 0)
theorem missA_le (a : AS) (t : Nat) (frm : Int64) (st : Nat) : ∀ n, missA a t frm st n ≤ n
  | 0 => Nat.le_refl 0
  | n + 1 => by
    have := missA_le a t frm st n
    unfold missA
    split <;> omega
def runA (a : AS) (t : Nat) (frm : Int64) (st : Nat) : Nat → AS
  | 0 => a
  | j + 1 => giveA (runA a t frm st j) (t * 8 + 3) (rK frm st j) 3 (lN (j + 1))
theorem rK_inj {frm : Int64} {st i j : Nat} (h1 : 1 ≤ st) (h2 : st ≤ 1000) (hi : i ≤ 20000) (hj : j ≤ 20000) (h : rK frm st i = rK frm st j) : i = j := by
  unfold rK at h
  have e : lN (st * i) = lN (st * j) := by
    have := congrArg (fun z => -frm + z) h
    simpa [← Int64.add_assoc, Int64.add_left_neg] using this
  have b1 : st * i ≤ 1000 * 20000 := Nat.mul_le_mul h2 hi
  have b2 : st * j ≤ 1000 * 20000 := Nat.mul_le_mul h2 hj
  exact Nat.eq_of_mul_eq_mul_left h1 (lN_ne (by omega) (by omega) e)
/-- a key is there behind a give if it was, or is the one -/
theorem aF_give0 {a : AS} {o : Nat} {k : Int64} {kd : Nat} {nu : Int64} {o' : Nat} {k' : Int64} (hne : ¬ (o = o' ∧ k = k')) : aF (giveA a o k kd nu) o' k' = aF a o' k' := by
  unfold giveA
  split
  · split
    · rfl
    · rw [aF_add, if_neg hne]
  · rfl
theorem runA_F {a : AS} {t : Nat} {frm : Int64} {st : Nat} (h1 : 1 ≤ st) (h2 : st ≤ 1000) {m : Nat} (hm : m ≤ 20000) : ∀ j, j ≤ m → aF (runA a t frm st j) (t * 8 + 3) (rK frm st m) = aF a (t * 8 + 3) (rK frm st m)
  | 0, _ => rfl
  | j + 1, h => by
    show aF (giveA (runA a t frm st j) (t * 8 + 3) (rK frm st j) 3 (lN (j + 1))) _ _ = _
    rw [aF_give0 (fun e => by have := rK_inj h1 h2 (by omega) hm e.2; omega)]
    exact runA_F h1 h2 hm j (by omega)
theorem runA_N {a : AS} {t : Nat} {frm : Int64} {st : Nat} (h1 : 1 ≤ st) (h2 : st ≤ 1000) : ∀ j, j ≤ 20000 → aN (runA a t frm st j) = aN a + missA a t frm st j
  | 0, _ => rfl
  | j + 1, h => by
    show aN (giveA (runA a t frm st j) (t * 8 + 3) (rK frm st j) 3 (lN (j + 1))) = aN a + (missA a t frm st j + (if aF a (t * 8 + 3) (rK frm st j) = 0 then 1 else 0))
    rw [giveA_N, runA_N h1 h2 j (by omega)]
    unfold comeA
    rw [runA_F h1 h2 (by omega) j (Nat.le_refl j)]
    by_cases q : aF a (t * 8 + 3) (rK frm st j) = 0
    · rw [if_pos q, if_neg (by omega), if_pos q]; omega
    · rw [if_neg q, if_neg q]; omega
theorem missA_mono (a : AS) (t : Nat) (frm : Int64) (st : Nat) {j : Nat} : ∀ {n : Nat}, j ≤ n → missA a t frm st j ≤ missA a t frm st n
  | 0, h => by rw [Nat.le_zero.mp h]; exact Nat.le_refl _
  | n + 1, h => by
    by_cases e : j = n + 1
    · rw [e]; exact Nat.le_refl _
    · have := missA_mono a t frm st (j := j) (n := n) (by omega)
      show _ ≤ missA a t frm st n + _
      omega
def fFillG (a : AS) (t : Nat) (frm : Int64) (n st : Nat) : Int32 × AS := if 40000 < aN a + missA a t frm st n then (-3, a) else (nI (missA a t frm st n), runA a t frm st n)
noncomputable def fFill (nT : Nat) (a : AS) (x : Int32) (frm : Int64) (n st : Int32) : Int32 × AS := ifc (okRun nT x frm n st) (fFillG a (tN x) frm (tN n) (tN st)) (-1, a)
/-! going along a chain: q the last place behind which we are, fld the next of the table's keys -/
section Chain
variable {a : AS} {t q0 q fld : Nat}
def noV (a : AS) (t q0 q : Nat) : Prop := ∀ m, q0 < m → m ≤ q → ¬ (aO a m / 8 = t ∧ aD a m ≠ 0)
theorem noV.refl : noV a t q0 q0 := fun m h1 h2 => by omega
theorem noV.next (h : noV a t q0 q) (hf : ch_N (aO a) t (aN a) q fld) (hn : fld ≠ 0) (h0 : aD a fld = 0) : noV a t q0 fld := fun m m1 m2 m3 => by
  rcases Nat.lt_trichotomy m fld with z | z | z
  · rcases Nat.lt_or_ge q m with y | y
    · rcases hf with ⟨w, _⟩ | ⟨_, _, _, w⟩
      · exact hn w
      · exact w m y z m3.1
    · exact h m m1 y m3
  · rw [z] at m3; exact m3.2 h0
  · omega
theorem noV.end0 (h : noV a t q0 q) (hf : ch_N (aO a) t (aN a) q fld) (hz : fld = 0) : nv a t q0 = 0 := by
  refine nv_eq (Or.inl ⟨rfl, fun m m1 m2 m3 => ?_⟩)
  rcases Nat.lt_or_ge q m with z | z
  · rcases hf with ⟨_, w⟩ | ⟨w, _⟩
    · exact w m z m2 m3.1
    · omega
  · exact h m m1 z m3
theorem noV.endj (h : noV a t q0 q) (hqq : q0 ≤ q) (hf : ch_N (aO a) t (aN a) q fld) (hn : fld ≠ 0) (h0 : aD a fld ≠ 0) : nv a t q0 = fld := by
  rcases hf with ⟨w, _⟩ | ⟨w1, w2, w3, w4⟩
  · exact absurd w hn
  · refine nv_eq (Or.inr ⟨by omega, w2, w3, h0, fun m m1 m2 m3 => ?_⟩)
    rcases Nat.lt_or_ge q m with z | z
    · exact w4 m z m2 m3.1
    · exact h m m1 z m3
theorem ch_N.facts (hf : ch_N (aO a) t (aN a) q fld) (hn : fld ≠ 0) : q < fld ∧ fld ≤ aN a ∧ aO a fld / 8 = t := by
  rcases hf with ⟨w, _⟩ | ⟨w1, w2, w3, _⟩
  · exact absurd w hn
  · exact ⟨w1, w2, w3⟩
theorem ch_N.le (hf : ch_N (aO a) t (aN a) q fld) : fld ≤ aN a := by
  rcases hf with ⟨w, _⟩ | ⟨_, w, _⟩ <;> omega
/-- how many of the table's keys are at places up to q -/
def cQ (a : AS) (t q : Nat) : Nat := cnt (fun y => aO a y / 8 == t) q
theorem cQ_next (hf : ch_N (aO a) t (aN a) q fld) (hn : fld ≠ 0) : cQ a t q + 1 ≤ cQ a t fld ∧ cQ a t fld ≤ cK a t := by
  obtain ⟨h1, h2, h3⟩ := hf.facts hn
  have k1 := cnt_lt (p := fun y => aO a y / 8 == t) (i := fld) (n := fld) (by omega) (Nat.le_refl _) (by show (aO a fld / 8 == t) = true; rw [h3]; exact beq_self_eq_true t)
  have k2 := cnt_mono (fun y => aO a y / 8 == t) (i := q) (n := fld - 1) (by omega)
  have k3 := cnt_mono (fun y => aO a y / 8 == t) h2
  unfold cQ cK; omega
theorem cQ_le (h : q ≤ aN a) : cQ a t q ≤ aN a := Nat.le_trans (cnt_mono _ h) (cnt_le _ _)
end Chain
theorem nv_le (a : AS) (t i : Nat) : nv a t i ≤ aN a := by
  unfold nv pick
  by_cases e : ∃ j, isNV a t i j
  · rw [dif_pos e]
    rcases e.choose_spec with ⟨z, _⟩ | ⟨_, z, _⟩
    · rw [z]; exact Nat.zero_le _
    · exact z
  · rw [dif_neg e]; exact Nat.zero_le _
end
section
set_option maxHeartbeats 4000000 in
set_option maxRecDepth 100000 in
/-- isRun -/
theorem c_isRun (l : Launch) (dC : Nat → ClassId) (dI : Nat → Nat → Nat) (cI cL cB : ClassId) (x0 : Nat) (tr : Nat) (f : Nat) (y1 : Nat) (y2 : Nat) (y3 : Nat) (y4 : Nat) (y5 : Nat) (a1 : Nat) (a2 : Nat) (a3 : Nat) (a4 : Nat) (a5 : Nat) (a6 : Nat) (ck : Nat) (nT : Nat) (g : Nat) (gt : Nat) (cn : Int64) (a : AS) (fi : Nat → Nat) (la : Nat → Nat) (kc : Nat → Nat) (vc : Nat → Nat) (bo : Nat → Nat) (ow : Nat → Nat) (ky : Nat → Int64) (kd : Nat → Nat) (nu : Nat → Int64) (fo : Nat → Nat) (sn : Nat → Nat) (x : Int32) (frm : Int64) (n : Int32) (sp : Int32) (hCI : CI nT a g gt ow ky kd nu fo sn fi la kc vc bo) : QryI l y_F_isRun (wd y_F_isRun b_F_isRun 6 (some .boolean)) 1 21 (dC, dI) classes (tyK cI cL cB) [.ref x0, .int x, .long frm, .int n, .int sp] [(x0, .inr (0, [.ref tr, .ref f, .int (nI ck), .long cn])), (tr, .inr (1, [.int (nI nT), .ref y1, .ref y2, .ref y3, .ref y4, .ref y5])), (y1, .inl (cI, hz_R gt, .inl (nf fi))), (y2, .inl (cI, hz_R gt, .inl (nf la))), (y3, .inl (cI, hz_R gt, .inl (nf kc))), (y4, .inl (cI, hz_R gt, .inl (nf vc))), (y5, .inl (cI, hz_R gt, .inl (nf bo))), (f, .inr (2, [.int (nI (aN a)), .ref a1, .ref a2, .ref a3, .ref a4, .ref a5, .ref a6])), (a1, .inl (cI, hz_L g, .inl (nf ow))), (a2, .inl (cL, hz_L g, .inr (.inl ky))), (a3, .inl (cB, hz_L g, .inl (nf kd))), (a4, .inl (cL, hz_L g, .inr (.inl nu))), (a5, .inl (cI, hz_L g, .inl (nf fo))), (a6, .inl (cI, hz_M g, .inl (nf sn)))] (fun r : Int32 => ∃ b, b ≤ 1 ∧ r = nI b ∧ (b = 1 ↔ okRun nT x frm n sp)) := by
  obtain ⟨hCS, hCT, hgt, hRT⟩ := id hCI
  have hAI := hCS.1
  have hnT := hCS.2.1
  have hg := hCS.2.2.1
  have hnL := hCS.2.2.2.1
  have hAg := hCS.2.2.2.2.1
  have hk8 := hCS.2.2.2.2.2.1
  have hT := hCS.2.2.2.2.2.2
  have hO := hCS.O
  have hU := hCS.U
  have hg1 := hz_gen g hg
  have hg2 := hz_Rgen gt hgt
  have hn4 := hAI.1
  refine QryZ.mk (cc := b_F_isRun) (maxL := 6) (by decide) rfl (Nat.le_of_ble_eq_true rfl) ?_
  intro p e s m below meth c Z ls hx hb hml hown hts hP hK hret hl
  have hP : va_P (dC, dI) classes [(x0, .inr (0, [.ref tr, .ref f, .int (nI ck), .long cn])), (tr, .inr (1, [.int (nI nT), .ref y1, .ref y2, .ref y3, .ref y4, .ref y5])), (y1, .inl (cI, hz_R gt, .inl (nf fi))), (y2, .inl (cI, hz_R gt, .inl (nf la))), (y3, .inl (cI, hz_R gt, .inl (nf kc))), (y4, .inl (cI, hz_R gt, .inl (nf vc))), (y5, .inl (cI, hz_R gt, .inl (nf bo))), (f, .inr (2, [.int (nI (aN a)), .ref a1, .ref a2, .ref a3, .ref a4, .ref a5, .ref a6])), (a1, .inl (cI, hz_L g, .inl (nf ow))), (a2, .inl (cL, hz_L g, .inr (.inl ky))), (a3, .inl (cB, hz_L g, .inl (nf kd))), (a4, .inl (cL, hz_L g, .inr (.inl nu))), (a5, .inl (cI, hz_L g, .inl (nf fo))), (a6, .inl (cI, hz_M g, .inl (nf sn)))] s.heap := hP
  have hown : s.vm.findClass R_F = some m.cls := hown
  have hw : ∀ x ∈ WALL, x.before _ s = true := fun x h => hts x (List.mem_cons_of_mem _ h)
  have hl : lv_has ls 6 [(0, .ref x0), (1, .int x), (2, .long frm), (4, .int n), (5, .int sp)] := hl
  refine lv_aload_n hx hb d_F_isRun_0 rfl (lv_at hl 0 rfl) ?_
  refine va_get (D := (dC, dI)) (ci := 0) (v := .ref tr) (C := R_F) (T := T_F) (N := 4) hx hb hw in_F hown hK hP 0 rfl rfl 0 (by decide) (hw _ m_83) (fun _ h9 => h9) rfl d_F_isRun_1 ?_
  refine lv_iload_n hx hb d_F_isRun_4 rfl (lv_at hl 1 rfl) ?_
  refine QryI.callV (ci := 1) (q0 := 0) (c_has l dC dI cI cL cB tr y1 y2 y3 y4 y5 nT x (by omega)) ⟨hx, hb, hml, hown, hw⟩ (fz_cwV 1 hw m_132 m_129 m_130 m_131 m_2 rfl rfl (by decide +kernel) ⟨Nat.le_of_ble_eq_true rfl, Nat.le_of_ble_eq_true rfl⟩) hK hP [1] rfl rfl rfl rfl rfl hl.1 rfl (Nat.le_of_ble_eq_true rfl) d_F_isRun_5 ⟨(Nat.le_of_ble_eq_true rfl), (Nat.le_of_ble_eq_true rfl)⟩ (fun r5 h5 => ?_)
  obtain ⟨b5, hb5, e5, hok5⟩ := h5
  subst e5
  refine lv_if_eq (tgt := 58) hx hb d_F_isRun_8 (by decide) (fun c8 => ?_) (fun c8 => ?_)
  · have c8 : b5 = 0 := (nI_eq (by omega) (by omega)).mp (c8.trans nI_0.symm)
    refine lv_iconst (v := nI 0) hx hb d_F_isRun_58 (by decide) ?_
    exact hret (nI 0) 59 ls (Or.inl rfl) ⟨0, by omega, rfl, fun h => absurd h (by omega), fun h => absurd h (fun q => absurd (hok5.mpr q.1) (by omega))⟩ d_F_isRun_59
  · have c8 : ¬ b5 = 0 := fun h => c8 (((nI_eq (by omega) (by omega)).mpr h).trans nI_0)
    refine lv_iload hx hb d_F_isRun_11 (lv_at hl 3 rfl) ?_
    refine lv_if_lt (tgt := 58) hx hb d_F_isRun_13 (by decide) (fun c13 => ?_) (fun c13 => ?_)
    · refine lv_iconst (v := nI 0) hx hb d_F_isRun_58 (by decide) ?_
      exact hret (nI 0) 59 ls (Or.inl rfl) ⟨0, by omega, rfl, fun h => absurd h (by omega), fun h => absurd h (fun q => okN_lt (by omega) c13 q.2.1)⟩ d_F_isRun_59
    · refine lv_iload hx hb d_F_isRun_16 (lv_at hl 3 rfl) ?_
      refine lv_sipush (v := nI 20000) hx hb d_F_isRun_18 (by decide) ?_
      refine lv_icmp_gt (tgt := 58) hx hb d_F_isRun_21 (by decide) (fun c21 => ?_) (fun c21 => ?_)
      · refine lv_iconst (v := nI 0) hx hb d_F_isRun_58 (by decide) ?_
        exact hret (nI 0) 59 ls (Or.inl rfl) ⟨0, by omega, rfl, fun h => absurd h (by omega), fun h => absurd h (fun q => okN_gt (by omega) c21 q.2.1)⟩ d_F_isRun_59
      · refine lv_iload hx hb d_F_isRun_24 (lv_at hl 4 rfl) ?_
        refine lv_iconst (v := nI 1) hx hb d_F_isRun_26 (by decide) ?_
        refine lv_icmp_lt (tgt := 58) hx hb d_F_isRun_27 (by decide) (fun c27 => ?_) (fun c27 => ?_)
        · refine lv_iconst (v := nI 0) hx hb d_F_isRun_58 (by decide) ?_
          exact hret (nI 0) 59 ls (Or.inl rfl) ⟨0, by omega, rfl, fun h => absurd h (by omega), fun h => absurd h (fun q => okT_lt (by omega) c27 q.2.2.1)⟩ d_F_isRun_59
        · refine lv_iload hx hb d_F_isRun_30 (lv_at hl 4 rfl) ?_
          refine lv_sipush (v := nI 1000) hx hb d_F_isRun_32 (by decide) ?_
          refine lv_icmp_gt (tgt := 58) hx hb d_F_isRun_35 (by decide) (fun c35 => ?_) (fun c35 => ?_)
          · refine lv_iconst (v := nI 0) hx hb d_F_isRun_58 (by decide) ?_
            exact hret (nI 0) 59 ls (Or.inl rfl) ⟨0, by omega, rfl, fun h => absurd h (by omega), fun h => absurd h (fun q => okT_gt (by omega) c35 q.2.2.1)⟩ d_F_isRun_59
          · refine lv_lload_n hx hb d_F_isRun_38 rfl (lv_at hl 2 rfl) ?_
            refine lv_ldc2 (v := -1000000) hx hb hown (hw _ m_265) d_F_isRun_39 ?_
            refine W.lcmp hx hb d_F_isRun_42 ?_
            refine lv_if_lt (tgt := 58) hx hb d_F_isRun_43 (by decide) (fun c43 => ?_) (fun c43 => ?_)
            · have c43 : frm < (-1000000) := (lg_cmp_lt _ _).mp c43
              refine lv_iconst (v := nI 0) hx hb d_F_isRun_58 (by decide) ?_
              exact hret (nI 0) 59 ls (Or.inl rfl) ⟨0, by omega, rfl, fun h => absurd h (by omega), fun h => absurd h (fun q => q.2.2.2.1 c43)⟩ d_F_isRun_59
            · have c43 : ¬ frm < (-1000000) := fun h => c43 ((lg_cmp_lt _ _).mpr h)
              refine lv_lload_n hx hb d_F_isRun_46 rfl (lv_at hl 2 rfl) ?_
              refine lv_ldc2 (v := 1000000) hx hb hown (hw _ m_266) d_F_isRun_47 ?_
              refine fz_eql (y := lN 1000000) (by decide) ?_
              refine W.lcmp hx hb d_F_isRun_50 ?_
              refine lv_if_gt (tgt := 58) hx hb d_F_isRun_51 (by decide) (fun c51 => ?_) (fun c51 => ?_)
              · have c51 : lN 1000000 < frm := (lg_cmp_gt _ _).mp c51
                refine lv_iconst (v := nI 0) hx hb d_F_isRun_58 (by decide) ?_
                exact hret (nI 0) 59 ls (Or.inl rfl) ⟨0, by omega, rfl, fun h => absurd h (by omega), fun h => absurd h (fun q => q.2.2.2.2 c51)⟩ d_F_isRun_59
              · have c51 : ¬ lN 1000000 < frm := fun h => c51 ((lg_cmp_gt _ _).mpr h)
                refine lv_iconst (v := nI 1) hx hb d_F_isRun_54 (by decide) ?_
                refine lv_goto (tgt := 59) hx hb d_F_isRun_55 (by decide) ?_
                exact hret (nI 1) 59 ls (Or.inr rfl) ⟨1, by omega, rfl, fun _ => ⟨hok5.mp (by omega), okN_of (by omega) c13 c21, okT_of (by omega) c27 c35, c43, c51⟩, fun _ => rfl⟩ d_F_isRun_59
set_option maxHeartbeats 4000000 in
set_option maxRecDepth 100000 in
/-- isPlace -/
theorem c_isPlace (l : Launch) (dC : Nat → ClassId) (dI : Nat → Nat → Nat) (cI cL cB : ClassId) (x0 : Nat) (tr : Nat) (f : Nat) (y1 : Nat) (y2 : Nat) (y3 : Nat) (y4 : Nat) (y5 : Nat) (a1 : Nat) (a2 : Nat) (a3 : Nat) (a4 : Nat) (a5 : Nat) (a6 : Nat) (ck : Nat) (nT : Nat) (g : Nat) (gt : Nat) (cn : Int64) (a : AS) (fi : Nat → Nat) (la : Nat → Nat) (kc : Nat → Nat) (vc : Nat → Nat) (bo : Nat → Nat) (ow : Nat → Nat) (ky : Nat → Int64) (kd : Nat → Nat) (nu : Nat → Int64) (fo : Nat → Nat) (sn : Nat → Nat) (x : Int32) (i : Int32) (hCI : CI nT a g gt ow ky kd nu fo sn fi la kc vc bo) : QryI l y_F_isPlace (wd y_F_isPlace b_F_isPlace 3 (some .boolean)) 1 21 (dC, dI) classes (tyK cI cL cB) [.ref x0, .int x, .int i] [(x0, .inr (0, [.ref tr, .ref f, .int (nI ck), .long cn])), (tr, .inr (1, [.int (nI nT), .ref y1, .ref y2, .ref y3, .ref y4, .ref y5])), (y1, .inl (cI, hz_R gt, .inl (nf fi))), (y2, .inl (cI, hz_R gt, .inl (nf la))), (y3, .inl (cI, hz_R gt, .inl (nf kc))), (y4, .inl (cI, hz_R gt, .inl (nf vc))), (y5, .inl (cI, hz_R gt, .inl (nf bo))), (f, .inr (2, [.int (nI (aN a)), .ref a1, .ref a2, .ref a3, .ref a4, .ref a5, .ref a6])), (a1, .inl (cI, hz_L g, .inl (nf ow))), (a2, .inl (cL, hz_L g, .inr (.inl ky))), (a3, .inl (cB, hz_L g, .inl (nf kd))), (a4, .inl (cL, hz_L g, .inr (.inl nu))), (a5, .inl (cI, hz_L g, .inl (nf fo))), (a6, .inl (cI, hz_M g, .inl (nf sn)))] (fun r : Int32 => ∃ b, b ≤ 1 ∧ r = nI b ∧ (b = 1 ↔ (okT nT x ∧ okT (bd a (tN x) + 1) i))) := by
  obtain ⟨hCS, hCT, hgt, hRT⟩ := id hCI
  have hAI := hCS.1
  have hnT := hCS.2.1
  have hg := hCS.2.2.1
  have hnL := hCS.2.2.2.1
  have hAg := hCS.2.2.2.2.1
  have hk8 := hCS.2.2.2.2.2.1
  have hT := hCS.2.2.2.2.2.2
  have hO := hCS.O
  have hU := hCS.U
  have hg1 := hz_gen g hg
  have hg2 := hz_Rgen gt hgt
  have hn4 := hAI.1
  refine QryZ.mk (cc := b_F_isPlace) (maxL := 3) (by decide) rfl (Nat.le_of_ble_eq_true rfl) ?_
  intro p e s m below meth c Z ls hx hb hml hown hts hP hK hret hl
  have hP : va_P (dC, dI) classes [(x0, .inr (0, [.ref tr, .ref f, .int (nI ck), .long cn])), (tr, .inr (1, [.int (nI nT), .ref y1, .ref y2, .ref y3, .ref y4, .ref y5])), (y1, .inl (cI, hz_R gt, .inl (nf fi))), (y2, .inl (cI, hz_R gt, .inl (nf la))), (y3, .inl (cI, hz_R gt, .inl (nf kc))), (y4, .inl (cI, hz_R gt, .inl (nf vc))), (y5, .inl (cI, hz_R gt, .inl (nf bo))), (f, .inr (2, [.int (nI (aN a)), .ref a1, .ref a2, .ref a3, .ref a4, .ref a5, .ref a6])), (a1, .inl (cI, hz_L g, .inl (nf ow))), (a2, .inl (cL, hz_L g, .inr (.inl ky))), (a3, .inl (cB, hz_L g, .inl (nf kd))), (a4, .inl (cL, hz_L g, .inr (.inl nu))), (a5, .inl (cI, hz_L g, .inl (nf fo))), (a6, .inl (cI, hz_M g, .inl (nf sn)))] s.heap := hP
  have hown : s.vm.findClass R_F = some m.cls := hown
  have hw : ∀ x ∈ WALL, x.before _ s = true := fun x h => hts x (List.mem_cons_of_mem _ h)
  have hl : lv_has ls 3 [(0, .ref x0), (1, .int x), (2, .int i)] := hl
  refine lv_aload_n hx hb d_F_isPlace_0 rfl (lv_at hl 0 rfl) ?_
  refine va_get (D := (dC, dI)) (ci := 0) (v := .ref tr) (C := R_F) (T := T_F) (N := 4) hx hb hw in_F hown hK hP 0 rfl rfl 0 (by decide) (hw _ m_83) (fun _ h9 => h9) rfl d_F_isPlace_1 ?_
  refine lv_iload_n hx hb d_F_isPlace_4 rfl (lv_at hl 1 rfl) ?_
  refine QryI.callV (ci := 1) (q0 := 0) (c_has l dC dI cI cL cB tr y1 y2 y3 y4 y5 nT x (by omega)) ⟨hx, hb, hml, hown, hw⟩ (fz_cwV 1 hw m_132 m_129 m_130 m_131 m_2 rfl rfl (by decide +kernel) ⟨Nat.le_of_ble_eq_true rfl, Nat.le_of_ble_eq_true rfl⟩) hK hP [1] rfl rfl rfl rfl rfl hl.1 rfl (Nat.le_of_ble_eq_true rfl) d_F_isPlace_5 ⟨(Nat.le_of_ble_eq_true rfl), (Nat.le_of_ble_eq_true rfl)⟩ (fun r5 h5 => ?_)
  obtain ⟨b5, hb5, e5, hok5⟩ := h5
  subst e5
  refine lv_if_eq (tgt := 35) hx hb d_F_isPlace_8 (by decide) (fun c8 => ?_) (fun c8 => ?_)
  · have c8 : b5 = 0 := (nI_eq (by omega) (by omega)).mp (c8.trans nI_0.symm)
    refine lv_iconst (v := nI 0) hx hb d_F_isPlace_35 (by decide) ?_
    exact hret (nI 0) 36 ls (Or.inl rfl) ⟨0, by omega, rfl, fun h => absurd h (by omega), fun h => absurd h (fun q => absurd (hok5.mpr q.1) (by omega))⟩ d_F_isPlace_36
  · have c8 : ¬ b5 = 0 := fun h => c8 (((nI_eq (by omega) (by omega)).mpr h).trans nI_0)
    obtain ⟨t, ht1, ht2, ext⟩ := hok5.mp (by omega)
    rw [ext] at hl
    have eb9 : bd a (tN x) = bo t := by rw [ext, tN_nI (by omega)]; exact bd_eq (hCT.b ht1 ht2)
    have hbn := (hCT.b ht1 ht2).le hAI
    refine lv_iload_n hx hb d_F_isPlace_11 rfl (lv_at hl 2 rfl) ?_
    refine lv_iconst (v := nI 1) hx hb d_F_isPlace_12 (by decide) ?_
    refine lv_icmp_lt (tgt := 35) hx hb d_F_isPlace_13 (by decide) (fun c13 => ?_) (fun c13 => ?_)
    · refine lv_iconst (v := nI 0) hx hb d_F_isPlace_35 (by decide) ?_
      exact hret (nI 0) 36 ls (Or.inl rfl) ⟨0, by omega, rfl, fun h => absurd h (by omega), fun h => absurd h (fun q => okT_lt (by rw [eb9]; omega) c13 q.2)⟩ d_F_isPlace_36
    · refine lv_iload_n hx hb d_F_isPlace_16 rfl (lv_at hl 2 rfl) ?_
      refine lv_aload_n hx hb d_F_isPlace_17 rfl (lv_at hl 0 rfl) ?_
      refine va_get (D := (dC, dI)) (ci := 0) (v := .ref tr) (C := R_F) (T := T_F) (N := 4) hx hb hw in_F hown hK hP 0 rfl rfl 0 (by decide) (hw _ m_83) (fun _ h9 => h9) rfl d_F_isPlace_18 ?_
      refine va_get (D := (dC, dI)) (ci := 1) (v := .ref y5) (C := R_T) (T := T_T) (N := 6) hx hb hw in_T hown hK hP 1 rfl rfl 5 (by decide) (hw _ m_33) (fun _ h9 => h9) rfl d_F_isPlace_21 ?_
      refine lv_iload_n hx hb d_F_isPlace_24 rfl (lv_at hl 1 rfl) ?_
      refine fz_iald hx hb hK hP 6 0 rfl rfl (j := t) (by omega) (by omega) d_F_isPlace_25 ?_
      refine lv_iconst (v := nI 1) hx hb d_F_isPlace_26 (by decide) ?_
      refine lv_iadd hx hb d_F_isPlace_27 ?_
      refine fz_eqi (y := nI ((bo t) + 1)) (nI_add (bo t) 1) ?_
      refine lv_icmp_gt (tgt := 35) hx hb d_F_isPlace_28 (by decide) (fun c28 => ?_) (fun c28 => ?_)
      · refine lv_iconst (v := nI 0) hx hb d_F_isPlace_35 (by decide) ?_
        exact hret (nI 0) 36 ls (Or.inl rfl) ⟨0, by omega, rfl, fun h => absurd h (by omega), fun h => absurd h (fun q => okT_gt (by rw [eb9]; omega) (by rw [eb9]; exact c28) q.2)⟩ d_F_isPlace_36
      · refine lv_iconst (v := nI 1) hx hb d_F_isPlace_31 (by decide) ?_
        refine lv_goto (tgt := 36) hx hb d_F_isPlace_32 (by decide) ?_
        exact hret (nI 1) 36 ls (Or.inr rfl) ⟨1, by omega, rfl, fun _ => ⟨hok5.mp (by omega), by rw [eb9]; exact okT_of (by omega) c13 c28⟩, fun _ => rfl⟩ d_F_isPlace_36
set_option maxHeartbeats 4000000 in
set_option maxRecDepth 100000 in
/-- kindAt -/
theorem c_kindAt (l : Launch) (dC : Nat → ClassId) (dI : Nat → Nat → Nat) (cI cL cB : ClassId) (x0 : Nat) (tr : Nat) (f : Nat) (y1 : Nat) (y2 : Nat) (y3 : Nat) (y4 : Nat) (y5 : Nat) (a1 : Nat) (a2 : Nat) (a3 : Nat) (a4 : Nat) (a5 : Nat) (a6 : Nat) (ck : Nat) (nT : Nat) (g : Nat) (gt : Nat) (cn : Int64) (a : AS) (fi : Nat → Nat) (la : Nat → Nat) (kc : Nat → Nat) (vc : Nat → Nat) (bo : Nat → Nat) (ow : Nat → Nat) (ky : Nat → Int64) (kd : Nat → Nat) (nu : Nat → Int64) (fo : Nat → Nat) (sn : Nat → Nat) (x : Int32) (kk : Int32) (k : Int64) (hCI : CI nT a g gt ow ky kd nu fo sn fi la kc vc bo) : QryI l y_F_kindAt (wd y_F_kindAt b_F_kindAt 5 (some .int)) 3 75 (dC, dI) classes (tyK cI cL cB) [.ref x0, .int x, .int kk, .long k] [(x0, .inr (0, [.ref tr, .ref f, .int (nI ck), .long cn])), (tr, .inr (1, [.int (nI nT), .ref y1, .ref y2, .ref y3, .ref y4, .ref y5])), (y1, .inl (cI, hz_R gt, .inl (nf fi))), (y2, .inl (cI, hz_R gt, .inl (nf la))), (y3, .inl (cI, hz_R gt, .inl (nf kc))), (y4, .inl (cI, hz_R gt, .inl (nf vc))), (y5, .inl (cI, hz_R gt, .inl (nf bo))), (f, .inr (2, [.int (nI (aN a)), .ref a1, .ref a2, .ref a3, .ref a4, .ref a5, .ref a6])), (a1, .inl (cI, hz_L g, .inl (nf ow))), (a2, .inl (cL, hz_L g, .inr (.inl ky))), (a3, .inl (cB, hz_L g, .inl (nf kd))), (a4, .inl (cL, hz_L g, .inr (.inl nu))), (a5, .inl (cI, hz_L g, .inl (nf fo))), (a6, .inl (cI, hz_M g, .inl (nf sn)))] (fun r : Int32 => r = fKindAt nT a x kk k) := by
  obtain ⟨hCS, hCT, hgt, hRT⟩ := id hCI
  have hAI := hCS.1
  have hnT := hCS.2.1
  have hg := hCS.2.2.1
  have hnL := hCS.2.2.2.1
  have hAg := hCS.2.2.2.2.1
  have hk8 := hCS.2.2.2.2.2.1
  have hT := hCS.2.2.2.2.2.2
  have hO := hCS.O
  have hU := hCS.U
  have hg1 := hz_gen g hg
  have hg2 := hz_Rgen gt hgt
  have hn4 := hAI.1
  refine QryI.mk (cc := b_F_kindAt) (maxL := 5) (by decide) rfl (Nat.le_of_ble_eq_true rfl) ?_
  intro p e s m below meth c Z ls hx hb hml hown hts hP hK hret hl
  have hP : va_P (dC, dI) classes [(x0, .inr (0, [.ref tr, .ref f, .int (nI ck), .long cn])), (tr, .inr (1, [.int (nI nT), .ref y1, .ref y2, .ref y3, .ref y4, .ref y5])), (y1, .inl (cI, hz_R gt, .inl (nf fi))), (y2, .inl (cI, hz_R gt, .inl (nf la))), (y3, .inl (cI, hz_R gt, .inl (nf kc))), (y4, .inl (cI, hz_R gt, .inl (nf vc))), (y5, .inl (cI, hz_R gt, .inl (nf bo))), (f, .inr (2, [.int (nI (aN a)), .ref a1, .ref a2, .ref a3, .ref a4, .ref a5, .ref a6])), (a1, .inl (cI, hz_L g, .inl (nf ow))), (a2, .inl (cL, hz_L g, .inr (.inl ky))), (a3, .inl (cB, hz_L g, .inl (nf kd))), (a4, .inl (cL, hz_L g, .inr (.inl nu))), (a5, .inl (cI, hz_L g, .inl (nf fo))), (a6, .inl (cI, hz_M g, .inl (nf sn)))] s.heap := hP
  have hown : s.vm.findClass R_F = some m.cls := hown
  have hw : ∀ x ∈ WALL, x.before _ s = true := fun x h => hts x (List.mem_cons_of_mem _ h)
  have hl : lv_has ls 5 [(0, .ref x0), (1, .int x), (2, .int kk), (3, .long k)] := hl
  refine lv_aload_n hx hb d_F_kindAt_0 rfl (lv_at hl 0 rfl) ?_
  refine va_get (D := (dC, dI)) (ci := 0) (v := .ref tr) (C := R_F) (T := T_F) (N := 4) hx hb hw in_F hown hK hP 0 rfl rfl 0 (by decide) (hw _ m_83) (fun _ h9 => h9) rfl d_F_kindAt_1 ?_
  refine lv_iload_n hx hb d_F_kindAt_4 rfl (lv_at hl 1 rfl) ?_
  refine QryI.callV (ci := 1) (q0 := 0) (c_has l dC dI cI cL cB tr y1 y2 y3 y4 y5 nT x (by omega)) ⟨hx, hb, hml, hown, hw⟩ (fz_cwV 1 hw m_132 m_129 m_130 m_131 m_2 rfl rfl (by decide +kernel) ⟨Nat.le_of_ble_eq_true rfl, Nat.le_of_ble_eq_true rfl⟩) hK hP [1] rfl rfl rfl rfl rfl hl.1 rfl (Nat.le_of_ble_eq_true rfl) d_F_kindAt_5 ⟨(Nat.le_of_ble_eq_true rfl), (Nat.le_of_ble_eq_true rfl)⟩ (fun r5 h5 => ?_)
  obtain ⟨b5, hb5, e5, hok5⟩ := h5
  subst e5
  refine lv_if_eq (tgt := 18) hx hb d_F_kindAt_8 (by decide) (fun c8 => ?_) (fun c8 => ?_)
  · have c8 : b5 = 0 := (nI_eq (by omega) (by omega)).mp (c8.trans nI_0.symm)
    refine lv_iconst (v := -1) hx hb d_F_kindAt_18 (by decide) ?_
    exact hret (-1) 19 ls (by unfold fKindAt; rw [ifc_neg (fun h => absurd (hok5.mpr h.1) (by omega))]) d_F_kindAt_19
  · have c8 : ¬ b5 = 0 := fun h => c8 (((nI_eq (by omega) (by omega)).mpr h).trans nI_0)
    refine lv_iload_n hx hb d_F_kindAt_11 rfl (lv_at hl 2 rfl) ?_
    refine QryI.callS (c_isKeyKind l dC dI cI cL cB kk ) ⟨hx, hb, hml, hown, hw⟩ (fz_cwS 1 hw m_135 m_133 m_134 m_1 rfl rfl (by decide +kernel) ⟨Nat.le_of_ble_eq_true rfl, Nat.le_of_ble_eq_true rfl⟩) hK hP [] rfl rfl hl.1 rfl (Nat.le_of_ble_eq_true rfl) d_F_kindAt_12 ⟨(Nat.le_of_ble_eq_true rfl), (Nat.le_of_ble_eq_true rfl)⟩ (fun r12 h12 => ?_)
    obtain ⟨b12, hb12, e12, hok12⟩ := h12
    subst e12
    refine lv_if_ne (tgt := 20) hx hb d_F_kindAt_15 (by decide) (fun c15 => ?_) (fun c15 => ?_)
    · have c15 : ¬ b12 = 0 := fun h => c15 (((nI_eq (by omega) (by omega)).mpr h).trans nI_0)
      obtain ⟨t, ht1, ht2, ext⟩ := hok5.mp (by omega)
      rw [ext] at hl
      obtain ⟨j, hj1, hj2, exj⟩ := hok12.mp (by omega)
      rw [exj] at hl
      refine lv_aload_n hx hb d_F_kindAt_20 rfl (lv_at hl 0 rfl) ?_
      refine va_get (D := (dC, dI)) (ci := 0) (v := .ref f) (C := R_F) (T := T_F) (N := 4) hx hb hw in_F hown hK hP 0 rfl rfl 1 (by decide) (hw _ m_84) (fun _ h9 => h9) rfl d_F_kindAt_21 ?_
      refine va_get (D := (dC, dI)) (ci := 2) (v := .ref a3) (C := R_S) (T := T_S) (N := 7) hx hb hw in_S hown hK hP 7 rfl rfl 3 (by decide) (hw _ m_60) (fun _ h9 => h9) rfl d_F_kindAt_24 ?_
      refine lv_aload_n hx hb d_F_kindAt_27 rfl (lv_at hl 0 rfl) ?_
      refine va_get (D := (dC, dI)) (ci := 0) (v := .ref f) (C := R_F) (T := T_F) (N := 4) hx hb hw in_F hown hK hP 0 rfl rfl 1 (by decide) (hw _ m_84) (fun _ h9 => h9) rfl d_F_kindAt_28 ?_
      refine lv_iload_n hx hb d_F_kindAt_31 rfl (lv_at hl 1 rfl) ?_
      refine lv_iload_n hx hb d_F_kindAt_32 rfl (lv_at hl 2 rfl) ?_
      refine lv_lload_n hx hb d_F_kindAt_33 rfl (lv_at hl 3 rfl) ?_
      refine QryI.callV (ci := 2) (q0 := 0) (c_find l dC dI cI cL cB f a1 a2 a3 a4 a5 a6 (aN a) (hz_L g) (hz_M g) (7 + 2 * g) (aN a) t j k ow sn ky (by omega) (by omega) rfl (by omega) (by omega) (by omega) (by omega) hO hU hT) ⟨hx, hb, hml, hown, hw⟩ (fz_cwV 3 hw m_147 m_144 m_145 m_146 m_3 rfl rfl (by decide +kernel) ⟨Nat.le_of_ble_eq_true rfl, Nat.le_of_ble_eq_true rfl⟩) hK hP [7, 8, 9, 13] rfl rfl rfl rfl rfl hl.1 rfl (Nat.le_of_ble_eq_true rfl) d_F_kindAt_34 ⟨(Nat.le_of_ble_eq_true rfl), (Nat.le_of_ble_eq_true rfl)⟩ (fun r34 h34 => ?_)
      rw [hCS.F] at h34
      subst h34
      refine fz_bald hx hb hK hP 10 2 rfl rfl (j := aF a (t * 8 + j) k) (Nat.lt_of_le_of_lt (aF_le _ _ _) hnL) (by omega) d_F_kindAt_37 ?_
      exact hret (nI (kd (aF a (t * 8 + j) k))) 38 ls (by unfold fKindAt; rw [ifc_pos ⟨hok5.mp (by omega), hok12.mp (by omega)⟩, ext, exj, tN_nI (by omega), tN_nI (by omega)]; rw [hCS.D]) d_F_kindAt_38
    · have c15 : b12 = 0 := (nI_eq (by omega) (by omega)).mp (c15.trans nI_0.symm)
      refine lv_iconst (v := -1) hx hb d_F_kindAt_18 (by decide) ?_
      exact hret (-1) 19 ls (by unfold fKindAt; rw [ifc_neg (fun h => absurd (hok12.mpr h.2) (by omega))]) d_F_kindAt_19
set_option maxHeartbeats 4000000 in
set_option maxRecDepth 100000 in
/-- numberAt -/
theorem c_numberAt (l : Launch) (dC : Nat → ClassId) (dI : Nat → Nat → Nat) (cI cL cB : ClassId) (x0 : Nat) (tr : Nat) (f : Nat) (y1 : Nat) (y2 : Nat) (y3 : Nat) (y4 : Nat) (y5 : Nat) (a1 : Nat) (a2 : Nat) (a3 : Nat) (a4 : Nat) (a5 : Nat) (a6 : Nat) (ck : Nat) (nT : Nat) (g : Nat) (gt : Nat) (cn : Int64) (a : AS) (fi : Nat → Nat) (la : Nat → Nat) (kc : Nat → Nat) (vc : Nat → Nat) (bo : Nat → Nat) (ow : Nat → Nat) (ky : Nat → Int64) (kd : Nat → Nat) (nu : Nat → Int64) (fo : Nat → Nat) (sn : Nat → Nat) (x : Int32) (kk : Int32) (k : Int64) (hCI : CI nT a g gt ow ky kd nu fo sn fi la kc vc bo) : QryL l y_F_numberAt (wd y_F_numberAt b_F_numberAt 5 (some .long)) 3 75 (dC, dI) classes (tyK cI cL cB) [.ref x0, .int x, .int kk, .long k] [(x0, .inr (0, [.ref tr, .ref f, .int (nI ck), .long cn])), (tr, .inr (1, [.int (nI nT), .ref y1, .ref y2, .ref y3, .ref y4, .ref y5])), (y1, .inl (cI, hz_R gt, .inl (nf fi))), (y2, .inl (cI, hz_R gt, .inl (nf la))), (y3, .inl (cI, hz_R gt, .inl (nf kc))), (y4, .inl (cI, hz_R gt, .inl (nf vc))), (y5, .inl (cI, hz_R gt, .inl (nf bo))), (f, .inr (2, [.int (nI (aN a)), .ref a1, .ref a2, .ref a3, .ref a4, .ref a5, .ref a6])), (a1, .inl (cI, hz_L g, .inl (nf ow))), (a2, .inl (cL, hz_L g, .inr (.inl ky))), (a3, .inl (cB, hz_L g, .inl (nf kd))), (a4, .inl (cL, hz_L g, .inr (.inl nu))), (a5, .inl (cI, hz_L g, .inl (nf fo))), (a6, .inl (cI, hz_M g, .inl (nf sn)))] (fun r : Int64 => r = fNumberAt nT a x kk k) := by
  obtain ⟨hCS, hCT, hgt, hRT⟩ := id hCI
  have hAI := hCS.1
  have hnT := hCS.2.1
  have hg := hCS.2.2.1
  have hnL := hCS.2.2.2.1
  have hAg := hCS.2.2.2.2.1
  have hk8 := hCS.2.2.2.2.2.1
  have hT := hCS.2.2.2.2.2.2
  have hO := hCS.O
  have hU := hCS.U
  have hg1 := hz_gen g hg
  have hg2 := hz_Rgen gt hgt
  have hn4 := hAI.1
  refine QryL.mk (cc := b_F_numberAt) (maxL := 5) (by decide) rfl (Nat.le_of_ble_eq_true rfl) ?_
  intro p e s m below meth c Z ls hx hb hml hown hts hP hK hret hl
  have hP : va_P (dC, dI) classes [(x0, .inr (0, [.ref tr, .ref f, .int (nI ck), .long cn])), (tr, .inr (1, [.int (nI nT), .ref y1, .ref y2, .ref y3, .ref y4, .ref y5])), (y1, .inl (cI, hz_R gt, .inl (nf fi))), (y2, .inl (cI, hz_R gt, .inl (nf la))), (y3, .inl (cI, hz_R gt, .inl (nf kc))), (y4, .inl (cI, hz_R gt, .inl (nf vc))), (y5, .inl (cI, hz_R gt, .inl (nf bo))), (f, .inr (2, [.int (nI (aN a)), .ref a1, .ref a2, .ref a3, .ref a4, .ref a5, .ref a6])), (a1, .inl (cI, hz_L g, .inl (nf ow))), (a2, .inl (cL, hz_L g, .inr (.inl ky))), (a3, .inl (cB, hz_L g, .inl (nf kd))), (a4, .inl (cL, hz_L g, .inr (.inl nu))), (a5, .inl (cI, hz_L g, .inl (nf fo))), (a6, .inl (cI, hz_M g, .inl (nf sn)))] s.heap := hP
  have hown : s.vm.findClass R_F = some m.cls := hown
  have hw : ∀ x ∈ WALL, x.before _ s = true := fun x h => hts x (List.mem_cons_of_mem _ h)
  have hl : lv_has ls 5 [(0, .ref x0), (1, .int x), (2, .int kk), (3, .long k)] := hl
  refine lv_aload_n hx hb d_F_numberAt_0 rfl (lv_at hl 0 rfl) ?_
  refine va_get (D := (dC, dI)) (ci := 0) (v := .ref tr) (C := R_F) (T := T_F) (N := 4) hx hb hw in_F hown hK hP 0 rfl rfl 0 (by decide) (hw _ m_83) (fun _ h9 => h9) rfl d_F_numberAt_1 ?_
  refine lv_iload_n hx hb d_F_numberAt_4 rfl (lv_at hl 1 rfl) ?_
  refine QryI.callV (ci := 1) (q0 := 0) (c_has l dC dI cI cL cB tr y1 y2 y3 y4 y5 nT x (by omega)) ⟨hx, hb, hml, hown, hw⟩ (fz_cwV 1 hw m_132 m_129 m_130 m_131 m_2 rfl rfl (by decide +kernel) ⟨Nat.le_of_ble_eq_true rfl, Nat.le_of_ble_eq_true rfl⟩) hK hP [1] rfl rfl rfl rfl rfl hl.1 rfl (Nat.le_of_ble_eq_true rfl) d_F_numberAt_5 ⟨(Nat.le_of_ble_eq_true rfl), (Nat.le_of_ble_eq_true rfl)⟩ (fun r5 h5 => ?_)
  obtain ⟨b5, hb5, e5, hok5⟩ := h5
  subst e5
  refine lv_if_eq (tgt := 18) hx hb d_F_numberAt_8 (by decide) (fun c8 => ?_) (fun c8 => ?_)
  · have c8 : b5 = 0 := (nI_eq (by omega) (by omega)).mp (c8.trans nI_0.symm)
    refine lv_lconst (v := lN 0) hx hb d_F_numberAt_18 rfl ?_
    exact hret (lN 0) 19 ls (by unfold fNumberAt; rw [ifc_neg (fun h => absurd (hok5.mpr h.1) (by omega))]; rfl) d_F_numberAt_19
  · have c8 : ¬ b5 = 0 := fun h => c8 (((nI_eq (by omega) (by omega)).mpr h).trans nI_0)
    refine lv_iload_n hx hb d_F_numberAt_11 rfl (lv_at hl 2 rfl) ?_
    refine QryI.callS (c_isKeyKind l dC dI cI cL cB kk ) ⟨hx, hb, hml, hown, hw⟩ (fz_cwS 1 hw m_135 m_133 m_134 m_1 rfl rfl (by decide +kernel) ⟨Nat.le_of_ble_eq_true rfl, Nat.le_of_ble_eq_true rfl⟩) hK hP [] rfl rfl hl.1 rfl (Nat.le_of_ble_eq_true rfl) d_F_numberAt_12 ⟨(Nat.le_of_ble_eq_true rfl), (Nat.le_of_ble_eq_true rfl)⟩ (fun r12 h12 => ?_)
    obtain ⟨b12, hb12, e12, hok12⟩ := h12
    subst e12
    refine lv_if_ne (tgt := 20) hx hb d_F_numberAt_15 (by decide) (fun c15 => ?_) (fun c15 => ?_)
    · have c15 : ¬ b12 = 0 := fun h => c15 (((nI_eq (by omega) (by omega)).mpr h).trans nI_0)
      obtain ⟨t, ht1, ht2, ext⟩ := hok5.mp (by omega)
      rw [ext] at hl
      obtain ⟨j, hj1, hj2, exj⟩ := hok12.mp (by omega)
      rw [exj] at hl
      refine lv_aload_n hx hb d_F_numberAt_20 rfl (lv_at hl 0 rfl) ?_
      refine va_get (D := (dC, dI)) (ci := 0) (v := .ref f) (C := R_F) (T := T_F) (N := 4) hx hb hw in_F hown hK hP 0 rfl rfl 1 (by decide) (hw _ m_84) (fun _ h9 => h9) rfl d_F_numberAt_21 ?_
      refine va_get (D := (dC, dI)) (ci := 2) (v := .ref a4) (C := R_S) (T := T_S) (N := 7) hx hb hw in_S hown hK hP 7 rfl rfl 4 (by decide) (hw _ m_62) (fun _ h9 => h9) rfl d_F_numberAt_24 ?_
      refine lv_aload_n hx hb d_F_numberAt_27 rfl (lv_at hl 0 rfl) ?_
      refine va_get (D := (dC, dI)) (ci := 0) (v := .ref f) (C := R_F) (T := T_F) (N := 4) hx hb hw in_F hown hK hP 0 rfl rfl 1 (by decide) (hw _ m_84) (fun _ h9 => h9) rfl d_F_numberAt_28 ?_
      refine lv_iload_n hx hb d_F_numberAt_31 rfl (lv_at hl 1 rfl) ?_
      refine lv_iload_n hx hb d_F_numberAt_32 rfl (lv_at hl 2 rfl) ?_
      refine lv_lload_n hx hb d_F_numberAt_33 rfl (lv_at hl 3 rfl) ?_
      refine QryI.callV (ci := 2) (q0 := 0) (c_find l dC dI cI cL cB f a1 a2 a3 a4 a5 a6 (aN a) (hz_L g) (hz_M g) (7 + 2 * g) (aN a) t j k ow sn ky (by omega) (by omega) rfl (by omega) (by omega) (by omega) (by omega) hO hU hT) ⟨hx, hb, hml, hown, hw⟩ (fz_cwV 3 hw m_147 m_144 m_145 m_146 m_3 rfl rfl (by decide +kernel) ⟨Nat.le_of_ble_eq_true rfl, Nat.le_of_ble_eq_true rfl⟩) hK hP [7, 8, 9, 13] rfl rfl rfl rfl rfl hl.1 rfl (Nat.le_of_ble_eq_true rfl) d_F_numberAt_34 ⟨(Nat.le_of_ble_eq_true rfl), (Nat.le_of_ble_eq_true rfl)⟩ (fun r34 h34 => ?_)
      rw [hCS.F] at h34
      subst h34
      refine fz_lald hx hb hK hP 11 1 rfl rfl (j := aF a (t * 8 + j) k) (Nat.lt_of_le_of_lt (aF_le _ _ _) hnL) (by omega) d_F_numberAt_37 ?_
      exact hret (nu (aF a (t * 8 + j) k)) 38 ls (by unfold fNumberAt; rw [ifc_pos ⟨hok5.mp (by omega), hok12.mp (by omega)⟩, ext, exj, tN_nI (by omega), tN_nI (by omega)]; rw [hCS.V]) d_F_numberAt_38
    · have c15 : b12 = 0 := (nI_eq (by omega) (by omega)).mp (c15.trans nI_0.symm)
      refine lv_lconst (v := lN 0) hx hb d_F_numberAt_18 rfl ?_
      exact hret (lN 0) 19 ls (by unfold fNumberAt; rw [ifc_neg (fun h => absurd (hok12.mpr h.2) (by omega))]; rfl) d_F_numberAt_19
set_option maxHeartbeats 4000000 in
set_option maxRecDepth 100000 in
/-- border -/
theorem c_border (l : Launch) (dC : Nat → ClassId) (dI : Nat → Nat → Nat) (cI cL cB : ClassId) (x0 : Nat) (tr : Nat) (f : Nat) (y1 : Nat) (y2 : Nat) (y3 : Nat) (y4 : Nat) (y5 : Nat) (a1 : Nat) (a2 : Nat) (a3 : Nat) (a4 : Nat) (a5 : Nat) (a6 : Nat) (ck : Nat) (nT : Nat) (g : Nat) (gt : Nat) (cn : Int64) (a : AS) (fi : Nat → Nat) (la : Nat → Nat) (kc : Nat → Nat) (vc : Nat → Nat) (bo : Nat → Nat) (ow : Nat → Nat) (ky : Nat → Int64) (kd : Nat → Nat) (nu : Nat → Int64) (fo : Nat → Nat) (sn : Nat → Nat) (x : Int32) (hCI : CI nT a g gt ow ky kd nu fo sn fi la kc vc bo) : QryI l y_F_border (wd y_F_border b_F_border 2 (some .int)) 1 21 (dC, dI) classes (tyK cI cL cB) [.ref x0, .int x] [(x0, .inr (0, [.ref tr, .ref f, .int (nI ck), .long cn])), (tr, .inr (1, [.int (nI nT), .ref y1, .ref y2, .ref y3, .ref y4, .ref y5])), (y1, .inl (cI, hz_R gt, .inl (nf fi))), (y2, .inl (cI, hz_R gt, .inl (nf la))), (y3, .inl (cI, hz_R gt, .inl (nf kc))), (y4, .inl (cI, hz_R gt, .inl (nf vc))), (y5, .inl (cI, hz_R gt, .inl (nf bo))), (f, .inr (2, [.int (nI (aN a)), .ref a1, .ref a2, .ref a3, .ref a4, .ref a5, .ref a6])), (a1, .inl (cI, hz_L g, .inl (nf ow))), (a2, .inl (cL, hz_L g, .inr (.inl ky))), (a3, .inl (cB, hz_L g, .inl (nf kd))), (a4, .inl (cL, hz_L g, .inr (.inl nu))), (a5, .inl (cI, hz_L g, .inl (nf fo))), (a6, .inl (cI, hz_M g, .inl (nf sn)))] (fun r : Int32 => r = fBorder nT a x) := by
  obtain ⟨hCS, hCT, hgt, hRT⟩ := id hCI
  have hAI := hCS.1
  have hnT := hCS.2.1
  have hg := hCS.2.2.1
  have hnL := hCS.2.2.2.1
  have hAg := hCS.2.2.2.2.1
  have hk8 := hCS.2.2.2.2.2.1
  have hT := hCS.2.2.2.2.2.2
  have hO := hCS.O
  have hU := hCS.U
  have hg1 := hz_gen g hg
  have hg2 := hz_Rgen gt hgt
  have hn4 := hAI.1
  refine QryI.mk (cc := b_F_border) (maxL := 2) (by decide) rfl (Nat.le_of_ble_eq_true rfl) ?_
  intro p e s m below meth c Z ls hx hb hml hown hts hP hK hret hl
  have hP : va_P (dC, dI) classes [(x0, .inr (0, [.ref tr, .ref f, .int (nI ck), .long cn])), (tr, .inr (1, [.int (nI nT), .ref y1, .ref y2, .ref y3, .ref y4, .ref y5])), (y1, .inl (cI, hz_R gt, .inl (nf fi))), (y2, .inl (cI, hz_R gt, .inl (nf la))), (y3, .inl (cI, hz_R gt, .inl (nf kc))), (y4, .inl (cI, hz_R gt, .inl (nf vc))), (y5, .inl (cI, hz_R gt, .inl (nf bo))), (f, .inr (2, [.int (nI (aN a)), .ref a1, .ref a2, .ref a3, .ref a4, .ref a5, .ref a6])), (a1, .inl (cI, hz_L g, .inl (nf ow))), (a2, .inl (cL, hz_L g, .inr (.inl ky))), (a3, .inl (cB, hz_L g, .inl (nf kd))), (a4, .inl (cL, hz_L g, .inr (.inl nu))), (a5, .inl (cI, hz_L g, .inl (nf fo))), (a6, .inl (cI, hz_M g, .inl (nf sn)))] s.heap := hP
  have hown : s.vm.findClass R_F = some m.cls := hown
  have hw : ∀ x ∈ WALL, x.before _ s = true := fun x h => hts x (List.mem_cons_of_mem _ h)
  have hl : lv_has ls 2 [(0, .ref x0), (1, .int x)] := hl
  refine lv_aload_n hx hb d_F_border_0 rfl (lv_at hl 0 rfl) ?_
  refine va_get (D := (dC, dI)) (ci := 0) (v := .ref tr) (C := R_F) (T := T_F) (N := 4) hx hb hw in_F hown hK hP 0 rfl rfl 0 (by decide) (hw _ m_83) (fun _ h9 => h9) rfl d_F_border_1 ?_
  refine lv_iload_n hx hb d_F_border_4 rfl (lv_at hl 1 rfl) ?_
  refine QryI.callV (ci := 1) (q0 := 0) (c_has l dC dI cI cL cB tr y1 y2 y3 y4 y5 nT x (by omega)) ⟨hx, hb, hml, hown, hw⟩ (fz_cwV 1 hw m_132 m_129 m_130 m_131 m_2 rfl rfl (by decide +kernel) ⟨Nat.le_of_ble_eq_true rfl, Nat.le_of_ble_eq_true rfl⟩) hK hP [1] rfl rfl rfl rfl rfl hl.1 rfl (Nat.le_of_ble_eq_true rfl) d_F_border_5 ⟨(Nat.le_of_ble_eq_true rfl), (Nat.le_of_ble_eq_true rfl)⟩ (fun r5 h5 => ?_)
  obtain ⟨b5, hb5, e5, hok5⟩ := h5
  subst e5
  refine lv_if_eq (tgt := 23) hx hb d_F_border_8 (by decide) (fun c8 => ?_) (fun c8 => ?_)
  · have c8 : b5 = 0 := (nI_eq (by omega) (by omega)).mp (c8.trans nI_0.symm)
    refine lv_iconst (v := -1) hx hb d_F_border_23 (by decide) ?_
    exact hret (-1) 24 ls (by unfold fBorder; rw [ifc_neg (fun h => absurd (hok5.mpr h) (by omega))]) d_F_border_24
  · have c8 : ¬ b5 = 0 := fun h => c8 (((nI_eq (by omega) (by omega)).mpr h).trans nI_0)
    obtain ⟨t, ht1, ht2, ext⟩ := hok5.mp (by omega)
    rw [ext] at hl
    refine lv_aload_n hx hb d_F_border_11 rfl (lv_at hl 0 rfl) ?_
    refine va_get (D := (dC, dI)) (ci := 0) (v := .ref tr) (C := R_F) (T := T_F) (N := 4) hx hb hw in_F hown hK hP 0 rfl rfl 0 (by decide) (hw _ m_83) (fun _ h9 => h9) rfl d_F_border_12 ?_
    refine va_get (D := (dC, dI)) (ci := 1) (v := .ref y5) (C := R_T) (T := T_T) (N := 6) hx hb hw in_T hown hK hP 1 rfl rfl 5 (by decide) (hw _ m_33) (fun _ h9 => h9) rfl d_F_border_15 ?_
    refine lv_iload_n hx hb d_F_border_18 rfl (lv_at hl 1 rfl) ?_
    refine fz_iald hx hb hK hP 6 0 rfl rfl (j := t) (by omega) (by omega) d_F_border_19 ?_
    refine lv_goto (tgt := 24) hx hb d_F_border_20 (by decide) ?_
    exact hret (nI (bo t)) 24 ls (by unfold fBorder; rw [ifc_pos (hok5.mp (by omega)), ext, tN_nI (by omega), bd_eq (hCT.b ht1 ht2)]) d_F_border_24
set_option maxHeartbeats 4000000 in
set_option maxRecDepth 100000 in
/-- keys -/
theorem c_keys (l : Launch) (dC : Nat → ClassId) (dI : Nat → Nat → Nat) (cI cL cB : ClassId) (x0 : Nat) (tr : Nat) (f : Nat) (y1 : Nat) (y2 : Nat) (y3 : Nat) (y4 : Nat) (y5 : Nat) (a1 : Nat) (a2 : Nat) (a3 : Nat) (a4 : Nat) (a5 : Nat) (a6 : Nat) (ck : Nat) (nT : Nat) (g : Nat) (gt : Nat) (cn : Int64) (a : AS) (fi : Nat → Nat) (la : Nat → Nat) (kc : Nat → Nat) (vc : Nat → Nat) (bo : Nat → Nat) (ow : Nat → Nat) (ky : Nat → Int64) (kd : Nat → Nat) (nu : Nat → Int64) (fo : Nat → Nat) (sn : Nat → Nat) (x : Int32) (hCI : CI nT a g gt ow ky kd nu fo sn fi la kc vc bo) : QryI l y_F_keys (wd y_F_keys b_F_keys 2 (some .int)) 1 21 (dC, dI) classes (tyK cI cL cB) [.ref x0, .int x] [(x0, .inr (0, [.ref tr, .ref f, .int (nI ck), .long cn])), (tr, .inr (1, [.int (nI nT), .ref y1, .ref y2, .ref y3, .ref y4, .ref y5])), (y1, .inl (cI, hz_R gt, .inl (nf fi))), (y2, .inl (cI, hz_R gt, .inl (nf la))), (y3, .inl (cI, hz_R gt, .inl (nf kc))), (y4, .inl (cI, hz_R gt, .inl (nf vc))), (y5, .inl (cI, hz_R gt, .inl (nf bo))), (f, .inr (2, [.int (nI (aN a)), .ref a1, .ref a2, .ref a3, .ref a4, .ref a5, .ref a6])), (a1, .inl (cI, hz_L g, .inl (nf ow))), (a2, .inl (cL, hz_L g, .inr (.inl ky))), (a3, .inl (cB, hz_L g, .inl (nf kd))), (a4, .inl (cL, hz_L g, .inr (.inl nu))), (a5, .inl (cI, hz_L g, .inl (nf fo))), (a6, .inl (cI, hz_M g, .inl (nf sn)))] (fun r : Int32 => r = fKeys nT a x) := by
  obtain ⟨hCS, hCT, hgt, hRT⟩ := id hCI
  have hAI := hCS.1
  have hnT := hCS.2.1
  have hg := hCS.2.2.1
  have hnL := hCS.2.2.2.1
  have hAg := hCS.2.2.2.2.1
  have hk8 := hCS.2.2.2.2.2.1
  have hT := hCS.2.2.2.2.2.2
  have hO := hCS.O
  have hU := hCS.U
  have hg1 := hz_gen g hg
  have hg2 := hz_Rgen gt hgt
  have hn4 := hAI.1
  refine QryI.mk (cc := b_F_keys) (maxL := 2) (by decide) rfl (Nat.le_of_ble_eq_true rfl) ?_
  intro p e s m below meth c Z ls hx hb hml hown hts hP hK hret hl
  have hP : va_P (dC, dI) classes [(x0, .inr (0, [.ref tr, .ref f, .int (nI ck), .long cn])), (tr, .inr (1, [.int (nI nT), .ref y1, .ref y2, .ref y3, .ref y4, .ref y5])), (y1, .inl (cI, hz_R gt, .inl (nf fi))), (y2, .inl (cI, hz_R gt, .inl (nf la))), (y3, .inl (cI, hz_R gt, .inl (nf kc))), (y4, .inl (cI, hz_R gt, .inl (nf vc))), (y5, .inl (cI, hz_R gt, .inl (nf bo))), (f, .inr (2, [.int (nI (aN a)), .ref a1, .ref a2, .ref a3, .ref a4, .ref a5, .ref a6])), (a1, .inl (cI, hz_L g, .inl (nf ow))), (a2, .inl (cL, hz_L g, .inr (.inl ky))), (a3, .inl (cB, hz_L g, .inl (nf kd))), (a4, .inl (cL, hz_L g, .inr (.inl nu))), (a5, .inl (cI, hz_L g, .inl (nf fo))), (a6, .inl (cI, hz_M g, .inl (nf sn)))] s.heap := hP
  have hown : s.vm.findClass R_F = some m.cls := hown
  have hw : ∀ x ∈ WALL, x.before _ s = true := fun x h => hts x (List.mem_cons_of_mem _ h)
  have hl : lv_has ls 2 [(0, .ref x0), (1, .int x)] := hl
  refine lv_aload_n hx hb d_F_keys_0 rfl (lv_at hl 0 rfl) ?_
  refine va_get (D := (dC, dI)) (ci := 0) (v := .ref tr) (C := R_F) (T := T_F) (N := 4) hx hb hw in_F hown hK hP 0 rfl rfl 0 (by decide) (hw _ m_83) (fun _ h9 => h9) rfl d_F_keys_1 ?_
  refine lv_iload_n hx hb d_F_keys_4 rfl (lv_at hl 1 rfl) ?_
  refine QryI.callV (ci := 1) (q0 := 0) (c_has l dC dI cI cL cB tr y1 y2 y3 y4 y5 nT x (by omega)) ⟨hx, hb, hml, hown, hw⟩ (fz_cwV 1 hw m_132 m_129 m_130 m_131 m_2 rfl rfl (by decide +kernel) ⟨Nat.le_of_ble_eq_true rfl, Nat.le_of_ble_eq_true rfl⟩) hK hP [1] rfl rfl rfl rfl rfl hl.1 rfl (Nat.le_of_ble_eq_true rfl) d_F_keys_5 ⟨(Nat.le_of_ble_eq_true rfl), (Nat.le_of_ble_eq_true rfl)⟩ (fun r5 h5 => ?_)
  obtain ⟨b5, hb5, e5, hok5⟩ := h5
  subst e5
  refine lv_if_eq (tgt := 23) hx hb d_F_keys_8 (by decide) (fun c8 => ?_) (fun c8 => ?_)
  · have c8 : b5 = 0 := (nI_eq (by omega) (by omega)).mp (c8.trans nI_0.symm)
    refine lv_iconst (v := -1) hx hb d_F_keys_23 (by decide) ?_
    exact hret (-1) 24 ls (by unfold fKeys; rw [ifc_neg (fun h => absurd (hok5.mpr h) (by omega))]) d_F_keys_24
  · have c8 : ¬ b5 = 0 := fun h => c8 (((nI_eq (by omega) (by omega)).mpr h).trans nI_0)
    obtain ⟨t, ht1, ht2, ext⟩ := hok5.mp (by omega)
    rw [ext] at hl
    refine lv_aload_n hx hb d_F_keys_11 rfl (lv_at hl 0 rfl) ?_
    refine va_get (D := (dC, dI)) (ci := 0) (v := .ref tr) (C := R_F) (T := T_F) (N := 4) hx hb hw in_F hown hK hP 0 rfl rfl 0 (by decide) (hw _ m_83) (fun _ h9 => h9) rfl d_F_keys_12 ?_
    refine va_get (D := (dC, dI)) (ci := 1) (v := .ref y3) (C := R_T) (T := T_T) (N := 6) hx hb hw in_T hown hK hP 1 rfl rfl 3 (by decide) (hw _ m_29) (fun _ h9 => h9) rfl d_F_keys_15 ?_
    refine lv_iload_n hx hb d_F_keys_18 rfl (lv_at hl 1 rfl) ?_
    refine fz_iald hx hb hK hP 4 0 rfl rfl (j := t) (by omega) (by omega) d_F_keys_19 ?_
    refine lv_goto (tgt := 24) hx hb d_F_keys_20 (by decide) ?_
    exact hret (nI (kc t)) 24 ls (by unfold fKeys; rw [ifc_pos (hok5.mp (by omega)), ext, tN_nI (by omega), (hCT.2 t ht1 ht2).2.2.1.symm]) d_F_keys_24
set_option maxHeartbeats 4000000 in
set_option maxRecDepth 100000 in
/-- fields -/
theorem c_fields (l : Launch) (dC : Nat → ClassId) (dI : Nat → Nat → Nat) (cI cL cB : ClassId) (x0 : Nat) (tr : Nat) (f : Nat) (y1 : Nat) (y2 : Nat) (y3 : Nat) (y4 : Nat) (y5 : Nat) (a1 : Nat) (a2 : Nat) (a3 : Nat) (a4 : Nat) (a5 : Nat) (a6 : Nat) (ck : Nat) (nT : Nat) (g : Nat) (gt : Nat) (cn : Int64) (a : AS) (fi : Nat → Nat) (la : Nat → Nat) (kc : Nat → Nat) (vc : Nat → Nat) (bo : Nat → Nat) (ow : Nat → Nat) (ky : Nat → Int64) (kd : Nat → Nat) (nu : Nat → Int64) (fo : Nat → Nat) (sn : Nat → Nat) (x : Int32) (hCI : CI nT a g gt ow ky kd nu fo sn fi la kc vc bo) : QryI l y_F_fields (wd y_F_fields b_F_fields 2 (some .int)) 1 21 (dC, dI) classes (tyK cI cL cB) [.ref x0, .int x] [(x0, .inr (0, [.ref tr, .ref f, .int (nI ck), .long cn])), (tr, .inr (1, [.int (nI nT), .ref y1, .ref y2, .ref y3, .ref y4, .ref y5])), (y1, .inl (cI, hz_R gt, .inl (nf fi))), (y2, .inl (cI, hz_R gt, .inl (nf la))), (y3, .inl (cI, hz_R gt, .inl (nf kc))), (y4, .inl (cI, hz_R gt, .inl (nf vc))), (y5, .inl (cI, hz_R gt, .inl (nf bo))), (f, .inr (2, [.int (nI (aN a)), .ref a1, .ref a2, .ref a3, .ref a4, .ref a5, .ref a6])), (a1, .inl (cI, hz_L g, .inl (nf ow))), (a2, .inl (cL, hz_L g, .inr (.inl ky))), (a3, .inl (cB, hz_L g, .inl (nf kd))), (a4, .inl (cL, hz_L g, .inr (.inl nu))), (a5, .inl (cI, hz_L g, .inl (nf fo))), (a6, .inl (cI, hz_M g, .inl (nf sn)))] (fun r : Int32 => r = fFields nT a x) := by
  obtain ⟨hCS, hCT, hgt, hRT⟩ := id hCI
  have hAI := hCS.1
  have hnT := hCS.2.1
  have hg := hCS.2.2.1
  have hnL := hCS.2.2.2.1
  have hAg := hCS.2.2.2.2.1
  have hk8 := hCS.2.2.2.2.2.1
  have hT := hCS.2.2.2.2.2.2
  have hO := hCS.O
  have hU := hCS.U
  have hg1 := hz_gen g hg
  have hg2 := hz_Rgen gt hgt
  have hn4 := hAI.1
  refine QryI.mk (cc := b_F_fields) (maxL := 2) (by decide) rfl (Nat.le_of_ble_eq_true rfl) ?_
  intro p e s m below meth c Z ls hx hb hml hown hts hP hK hret hl
  have hP : va_P (dC, dI) classes [(x0, .inr (0, [.ref tr, .ref f, .int (nI ck), .long cn])), (tr, .inr (1, [.int (nI nT), .ref y1, .ref y2, .ref y3, .ref y4, .ref y5])), (y1, .inl (cI, hz_R gt, .inl (nf fi))), (y2, .inl (cI, hz_R gt, .inl (nf la))), (y3, .inl (cI, hz_R gt, .inl (nf kc))), (y4, .inl (cI, hz_R gt, .inl (nf vc))), (y5, .inl (cI, hz_R gt, .inl (nf bo))), (f, .inr (2, [.int (nI (aN a)), .ref a1, .ref a2, .ref a3, .ref a4, .ref a5, .ref a6])), (a1, .inl (cI, hz_L g, .inl (nf ow))), (a2, .inl (cL, hz_L g, .inr (.inl ky))), (a3, .inl (cB, hz_L g, .inl (nf kd))), (a4, .inl (cL, hz_L g, .inr (.inl nu))), (a5, .inl (cI, hz_L g, .inl (nf fo))), (a6, .inl (cI, hz_M g, .inl (nf sn)))] s.heap := hP
  have hown : s.vm.findClass R_F = some m.cls := hown
  have hw : ∀ x ∈ WALL, x.before _ s = true := fun x h => hts x (List.mem_cons_of_mem _ h)
  have hl : lv_has ls 2 [(0, .ref x0), (1, .int x)] := hl
  refine lv_aload_n hx hb d_F_fields_0 rfl (lv_at hl 0 rfl) ?_
  refine va_get (D := (dC, dI)) (ci := 0) (v := .ref tr) (C := R_F) (T := T_F) (N := 4) hx hb hw in_F hown hK hP 0 rfl rfl 0 (by decide) (hw _ m_83) (fun _ h9 => h9) rfl d_F_fields_1 ?_
  refine lv_iload_n hx hb d_F_fields_4 rfl (lv_at hl 1 rfl) ?_
  refine QryI.callV (ci := 1) (q0 := 0) (c_has l dC dI cI cL cB tr y1 y2 y3 y4 y5 nT x (by omega)) ⟨hx, hb, hml, hown, hw⟩ (fz_cwV 1 hw m_132 m_129 m_130 m_131 m_2 rfl rfl (by decide +kernel) ⟨Nat.le_of_ble_eq_true rfl, Nat.le_of_ble_eq_true rfl⟩) hK hP [1] rfl rfl rfl rfl rfl hl.1 rfl (Nat.le_of_ble_eq_true rfl) d_F_fields_5 ⟨(Nat.le_of_ble_eq_true rfl), (Nat.le_of_ble_eq_true rfl)⟩ (fun r5 h5 => ?_)
  obtain ⟨b5, hb5, e5, hok5⟩ := h5
  subst e5
  refine lv_if_eq (tgt := 23) hx hb d_F_fields_8 (by decide) (fun c8 => ?_) (fun c8 => ?_)
  · have c8 : b5 = 0 := (nI_eq (by omega) (by omega)).mp (c8.trans nI_0.symm)
    refine lv_iconst (v := -1) hx hb d_F_fields_23 (by decide) ?_
    exact hret (-1) 24 ls (by unfold fFields; rw [ifc_neg (fun h => absurd (hok5.mpr h) (by omega))]) d_F_fields_24
  · have c8 : ¬ b5 = 0 := fun h => c8 (((nI_eq (by omega) (by omega)).mpr h).trans nI_0)
    obtain ⟨t, ht1, ht2, ext⟩ := hok5.mp (by omega)
    rw [ext] at hl
    refine lv_aload_n hx hb d_F_fields_11 rfl (lv_at hl 0 rfl) ?_
    refine va_get (D := (dC, dI)) (ci := 0) (v := .ref tr) (C := R_F) (T := T_F) (N := 4) hx hb hw in_F hown hK hP 0 rfl rfl 0 (by decide) (hw _ m_83) (fun _ h9 => h9) rfl d_F_fields_12 ?_
    refine va_get (D := (dC, dI)) (ci := 1) (v := .ref y4) (C := R_T) (T := T_T) (N := 6) hx hb hw in_T hown hK hP 1 rfl rfl 4 (by decide) (hw _ m_31) (fun _ h9 => h9) rfl d_F_fields_15 ?_
    refine lv_iload_n hx hb d_F_fields_18 rfl (lv_at hl 1 rfl) ?_
    refine fz_iald hx hb hK hP 5 0 rfl rfl (j := t) (by omega) (by omega) d_F_fields_19 ?_
    refine lv_goto (tgt := 24) hx hb d_F_fields_20 (by decide) ?_
    exact hret (nI (vc t)) 24 ls (by unfold fFields; rw [ifc_pos (hok5.mp (by omega)), ext, tN_nI (by omega), (hCT.2 t ht1 ht2).2.2.2.1.symm]) d_F_fields_24
set_option maxHeartbeats 4000000 in
set_option maxRecDepth 100000 in
/-- cursorKind -/
theorem c_cursorKind (l : Launch) (dC : Nat → ClassId) (dI : Nat → Nat → Nat) (cI cL cB : ClassId) (x0 : Nat) (tr : Nat) (f : Nat) (y1 : Nat) (y2 : Nat) (y3 : Nat) (y4 : Nat) (y5 : Nat) (a1 : Nat) (a2 : Nat) (a3 : Nat) (a4 : Nat) (a5 : Nat) (a6 : Nat) (ck : Nat) (nT : Nat) (g : Nat) (gt : Nat) (cn : Int64) (a : AS) (fi : Nat → Nat) (la : Nat → Nat) (kc : Nat → Nat) (vc : Nat → Nat) (bo : Nat → Nat) (ow : Nat → Nat) (ky : Nat → Int64) (kd : Nat → Nat) (nu : Nat → Int64) (fo : Nat → Nat) (sn : Nat → Nat)  : QryI l y_F_cursorKind (wd y_F_cursorKind b_F_cursorKind 1 (some .int)) 0 0 (dC, dI) classes (tyK cI cL cB) [.ref x0] [(x0, .inr (0, [.ref tr, .ref f, .int (nI ck), .long cn])), (tr, .inr (1, [.int (nI nT), .ref y1, .ref y2, .ref y3, .ref y4, .ref y5])), (y1, .inl (cI, hz_R gt, .inl (nf fi))), (y2, .inl (cI, hz_R gt, .inl (nf la))), (y3, .inl (cI, hz_R gt, .inl (nf kc))), (y4, .inl (cI, hz_R gt, .inl (nf vc))), (y5, .inl (cI, hz_R gt, .inl (nf bo))), (f, .inr (2, [.int (nI (aN a)), .ref a1, .ref a2, .ref a3, .ref a4, .ref a5, .ref a6])), (a1, .inl (cI, hz_L g, .inl (nf ow))), (a2, .inl (cL, hz_L g, .inr (.inl ky))), (a3, .inl (cB, hz_L g, .inl (nf kd))), (a4, .inl (cL, hz_L g, .inr (.inl nu))), (a5, .inl (cI, hz_L g, .inl (nf fo))), (a6, .inl (cI, hz_M g, .inl (nf sn)))] (fun r : Int32 => r = nI ck) := by
  refine QryI.mk (cc := b_F_cursorKind) (maxL := 1) (by decide) rfl (Nat.le_of_ble_eq_true rfl) ?_
  intro p e s m below meth c Z ls hx hb hml hown hts hP hK hret hl
  have hP : va_P (dC, dI) classes [(x0, .inr (0, [.ref tr, .ref f, .int (nI ck), .long cn])), (tr, .inr (1, [.int (nI nT), .ref y1, .ref y2, .ref y3, .ref y4, .ref y5])), (y1, .inl (cI, hz_R gt, .inl (nf fi))), (y2, .inl (cI, hz_R gt, .inl (nf la))), (y3, .inl (cI, hz_R gt, .inl (nf kc))), (y4, .inl (cI, hz_R gt, .inl (nf vc))), (y5, .inl (cI, hz_R gt, .inl (nf bo))), (f, .inr (2, [.int (nI (aN a)), .ref a1, .ref a2, .ref a3, .ref a4, .ref a5, .ref a6])), (a1, .inl (cI, hz_L g, .inl (nf ow))), (a2, .inl (cL, hz_L g, .inr (.inl ky))), (a3, .inl (cB, hz_L g, .inl (nf kd))), (a4, .inl (cL, hz_L g, .inr (.inl nu))), (a5, .inl (cI, hz_L g, .inl (nf fo))), (a6, .inl (cI, hz_M g, .inl (nf sn)))] s.heap := hP
  have hown : s.vm.findClass R_F = some m.cls := hown
  have hw : ∀ x ∈ WALL, x.before _ s = true := fun x h => hts x (List.mem_cons_of_mem _ h)
  have hl : lv_has ls 1 [(0, .ref x0)] := hl
  refine lv_aload_n hx hb d_F_cursorKind_0 rfl (lv_at hl 0 rfl) ?_
  refine va_get (D := (dC, dI)) (ci := 0) (v := .int (nI ck)) (C := R_F) (T := T_F) (N := 4) hx hb hw in_F hown hK hP 0 rfl rfl 2 (by decide) (hw _ m_85) (fun _ h9 => h9) rfl d_F_cursorKind_1 ?_
  exact hret (nI ck) 4 ls rfl d_F_cursorKind_4
set_option maxHeartbeats 4000000 in
set_option maxRecDepth 100000 in
/-- cursorNumber -/
theorem c_cursorNumber (l : Launch) (dC : Nat → ClassId) (dI : Nat → Nat → Nat) (cI cL cB : ClassId) (x0 : Nat) (tr : Nat) (f : Nat) (y1 : Nat) (y2 : Nat) (y3 : Nat) (y4 : Nat) (y5 : Nat) (a1 : Nat) (a2 : Nat) (a3 : Nat) (a4 : Nat) (a5 : Nat) (a6 : Nat) (ck : Nat) (nT : Nat) (g : Nat) (gt : Nat) (cn : Int64) (a : AS) (fi : Nat → Nat) (la : Nat → Nat) (kc : Nat → Nat) (vc : Nat → Nat) (bo : Nat → Nat) (ow : Nat → Nat) (ky : Nat → Int64) (kd : Nat → Nat) (nu : Nat → Int64) (fo : Nat → Nat) (sn : Nat → Nat)  : QryL l y_F_cursorNumber (wd y_F_cursorNumber b_F_cursorNumber 1 (some .long)) 0 0 (dC, dI) classes (tyK cI cL cB) [.ref x0] [(x0, .inr (0, [.ref tr, .ref f, .int (nI ck), .long cn])), (tr, .inr (1, [.int (nI nT), .ref y1, .ref y2, .ref y3, .ref y4, .ref y5])), (y1, .inl (cI, hz_R gt, .inl (nf fi))), (y2, .inl (cI, hz_R gt, .inl (nf la))), (y3, .inl (cI, hz_R gt, .inl (nf kc))), (y4, .inl (cI, hz_R gt, .inl (nf vc))), (y5, .inl (cI, hz_R gt, .inl (nf bo))), (f, .inr (2, [.int (nI (aN a)), .ref a1, .ref a2, .ref a3, .ref a4, .ref a5, .ref a6])), (a1, .inl (cI, hz_L g, .inl (nf ow))), (a2, .inl (cL, hz_L g, .inr (.inl ky))), (a3, .inl (cB, hz_L g, .inl (nf kd))), (a4, .inl (cL, hz_L g, .inr (.inl nu))), (a5, .inl (cI, hz_L g, .inl (nf fo))), (a6, .inl (cI, hz_M g, .inl (nf sn)))] (fun r : Int64 => r = cn) := by
  refine QryL.mk (cc := b_F_cursorNumber) (maxL := 1) (by decide) rfl (Nat.le_of_ble_eq_true rfl) ?_
  intro p e s m below meth c Z ls hx hb hml hown hts hP hK hret hl
  have hP : va_P (dC, dI) classes [(x0, .inr (0, [.ref tr, .ref f, .int (nI ck), .long cn])), (tr, .inr (1, [.int (nI nT), .ref y1, .ref y2, .ref y3, .ref y4, .ref y5])), (y1, .inl (cI, hz_R gt, .inl (nf fi))), (y2, .inl (cI, hz_R gt, .inl (nf la))), (y3, .inl (cI, hz_R gt, .inl (nf kc))), (y4, .inl (cI, hz_R gt, .inl (nf vc))), (y5, .inl (cI, hz_R gt, .inl (nf bo))), (f, .inr (2, [.int (nI (aN a)), .ref a1, .ref a2, .ref a3, .ref a4, .ref a5, .ref a6])), (a1, .inl (cI, hz_L g, .inl (nf ow))), (a2, .inl (cL, hz_L g, .inr (.inl ky))), (a3, .inl (cB, hz_L g, .inl (nf kd))), (a4, .inl (cL, hz_L g, .inr (.inl nu))), (a5, .inl (cI, hz_L g, .inl (nf fo))), (a6, .inl (cI, hz_M g, .inl (nf sn)))] s.heap := hP
  have hown : s.vm.findClass R_F = some m.cls := hown
  have hw : ∀ x ∈ WALL, x.before _ s = true := fun x h => hts x (List.mem_cons_of_mem _ h)
  have hl : lv_has ls 1 [(0, .ref x0)] := hl
  refine lv_aload_n hx hb d_F_cursorNumber_0 rfl (lv_at hl 0 rfl) ?_
  refine va_get (D := (dC, dI)) (ci := 0) (v := .long cn) (C := R_F) (T := T_F) (N := 4) hx hb hw in_F hown hK hP 0 rfl rfl 3 (by decide) (hw _ m_86) (fun _ h9 => h9) rfl d_F_cursorNumber_1 ?_
  exact hret cn 4 ls rfl d_F_cursorNumber_4
set_option maxHeartbeats 4000000 in
set_option maxRecDepth 100000 in
/-- all -/
theorem c_all (l : Launch) (dC : Nat → ClassId) (dI : Nat → Nat → Nat) (cI cL cB : ClassId) (x0 : Nat) (tr : Nat) (f : Nat) (y1 : Nat) (y2 : Nat) (y3 : Nat) (y4 : Nat) (y5 : Nat) (a1 : Nat) (a2 : Nat) (a3 : Nat) (a4 : Nat) (a5 : Nat) (a6 : Nat) (ck : Nat) (nT : Nat) (g : Nat) (gt : Nat) (cn : Int64) (a : AS) (fi : Nat → Nat) (la : Nat → Nat) (kc : Nat → Nat) (vc : Nat → Nat) (bo : Nat → Nat) (ow : Nat → Nat) (ky : Nat → Int64) (kd : Nat → Nat) (nu : Nat → Int64) (fo : Nat → Nat) (sn : Nat → Nat)  : QryI l y_F_all (wd y_F_all b_F_all 1 (some .int)) 0 0 (dC, dI) classes (tyK cI cL cB) [.ref x0] [(x0, .inr (0, [.ref tr, .ref f, .int (nI ck), .long cn])), (tr, .inr (1, [.int (nI nT), .ref y1, .ref y2, .ref y3, .ref y4, .ref y5])), (y1, .inl (cI, hz_R gt, .inl (nf fi))), (y2, .inl (cI, hz_R gt, .inl (nf la))), (y3, .inl (cI, hz_R gt, .inl (nf kc))), (y4, .inl (cI, hz_R gt, .inl (nf vc))), (y5, .inl (cI, hz_R gt, .inl (nf bo))), (f, .inr (2, [.int (nI (aN a)), .ref a1, .ref a2, .ref a3, .ref a4, .ref a5, .ref a6])), (a1, .inl (cI, hz_L g, .inl (nf ow))), (a2, .inl (cL, hz_L g, .inr (.inl ky))), (a3, .inl (cB, hz_L g, .inl (nf kd))), (a4, .inl (cL, hz_L g, .inr (.inl nu))), (a5, .inl (cI, hz_L g, .inl (nf fo))), (a6, .inl (cI, hz_M g, .inl (nf sn)))] (fun r : Int32 => r = nI (aN a)) := by
  refine QryI.mk (cc := b_F_all) (maxL := 1) (by decide) rfl (Nat.le_of_ble_eq_true rfl) ?_
  intro p e s m below meth c Z ls hx hb hml hown hts hP hK hret hl
  have hP : va_P (dC, dI) classes [(x0, .inr (0, [.ref tr, .ref f, .int (nI ck), .long cn])), (tr, .inr (1, [.int (nI nT), .ref y1, .ref y2, .ref y3, .ref y4, .ref y5])), (y1, .inl (cI, hz_R gt, .inl (nf fi))), (y2, .inl (cI, hz_R gt, .inl (nf la))), (y3, .inl (cI, hz_R gt, .inl (nf kc))), (y4, .inl (cI, hz_R gt, .inl (nf vc))), (y5, .inl (cI, hz_R gt, .inl (nf bo))), (f, .inr (2, [.int (nI (aN a)), .ref a1, .ref a2, .ref a3, .ref a4, .ref a5, .ref a6])), (a1, .inl (cI, hz_L g, .inl (nf ow))), (a2, .inl (cL, hz_L g, .inr (.inl ky))), (a3, .inl (cB, hz_L g, .inl (nf kd))), (a4, .inl (cL, hz_L g, .inr (.inl nu))), (a5, .inl (cI, hz_L g, .inl (nf fo))), (a6, .inl (cI, hz_M g, .inl (nf sn)))] s.heap := hP
  have hown : s.vm.findClass R_F = some m.cls := hown
  have hw : ∀ x ∈ WALL, x.before _ s = true := fun x h => hts x (List.mem_cons_of_mem _ h)
  have hl : lv_has ls 1 [(0, .ref x0)] := hl
  refine lv_aload_n hx hb d_F_all_0 rfl (lv_at hl 0 rfl) ?_
  refine va_get (D := (dC, dI)) (ci := 0) (v := .ref f) (C := R_F) (T := T_F) (N := 4) hx hb hw in_F hown hK hP 0 rfl rfl 1 (by decide) (hw _ m_84) (fun _ h9 => h9) rfl d_F_all_1 ?_
  refine va_get (D := (dC, dI)) (ci := 2) (v := .int (nI (aN a))) (C := R_S) (T := T_S) (N := 7) hx hb hw in_S hown hK hP 7 rfl rfl 0 (by decide) (hw _ m_55) (fun _ h9 => h9) rfl d_F_all_4 ?_
  exact hret (nI (aN a)) 7 ls rfl d_F_all_7
set_option maxHeartbeats 4000000 in
set_option maxRecDepth 100000 in
/-- setCursor -/
theorem c_setCursor (l : Launch) (dC : Nat → ClassId) (dI : Nat → Nat → Nat) (cI cL cB : ClassId) (x0 : Nat) (tr : Nat) (f : Nat) (y1 : Nat) (y2 : Nat) (y3 : Nat) (y4 : Nat) (y5 : Nat) (a1 : Nat) (a2 : Nat) (a3 : Nat) (a4 : Nat) (a5 : Nat) (a6 : Nat) (ck : Nat) (nT : Nat) (g : Nat) (gt : Nat) (cn : Int64) (a : AS) (fi : Nat → Nat) (la : Nat → Nat) (kc : Nat → Nat) (vc : Nat → Nat) (bo : Nat → Nat) (ow : Nat → Nat) (ky : Nat → Int64) (kd : Nat → Nat) (nu : Nat → Int64) (fo : Nat → Nat) (sn : Nat → Nat) (i : Nat) (hCI : CI nT a g gt ow ky kd nu fo sn fi la kc vc bo) (hi : i ≤ aN a) : StdI l y_F_setCursor (wd y_F_setCursor b_F_setCursor 2 (some .int)) 1 21 0 0 (dC, dI) classes (tyK cI cL cB) [.ref x0, .int (nI i)] [(x0, .inr (0, [.ref tr, .ref f, .int (nI ck), .long cn])), (tr, .inr (1, [.int (nI nT), .ref y1, .ref y2, .ref y3, .ref y4, .ref y5])), (y1, .inl (cI, hz_R gt, .inl (nf fi))), (y2, .inl (cI, hz_R gt, .inl (nf la))), (y3, .inl (cI, hz_R gt, .inl (nf kc))), (y4, .inl (cI, hz_R gt, .inl (nf vc))), (y5, .inl (cI, hz_R gt, .inl (nf bo))), (f, .inr (2, [.int (nI (aN a)), .ref a1, .ref a2, .ref a3, .ref a4, .ref a5, .ref a6])), (a1, .inl (cI, hz_L g, .inl (nf ow))), (a2, .inl (cL, hz_L g, .inr (.inl ky))), (a3, .inl (cB, hz_L g, .inl (nf kd))), (a4, .inl (cL, hz_L g, .inr (.inl nu))), (a5, .inl (cI, hz_L g, .inl (nf fo))), (a6, .inl (cI, hz_M g, .inl (nf sn)))] (fun (r : Int32) (u : Nat × Int64) => (r, u.1, u.2) = fNextJ a i) (fun (u : Nat × Int64) => [(x0, .inr (0, [.ref tr, .ref f, .int (nI u.1), .long u.2])), (tr, .inr (1, [.int (nI nT), .ref y1, .ref y2, .ref y3, .ref y4, .ref y5])), (y1, .inl (cI, hz_R gt, .inl (nf fi))), (y2, .inl (cI, hz_R gt, .inl (nf la))), (y3, .inl (cI, hz_R gt, .inl (nf kc))), (y4, .inl (cI, hz_R gt, .inl (nf vc))), (y5, .inl (cI, hz_R gt, .inl (nf bo))), (f, .inr (2, [.int (nI (aN a)), .ref a1, .ref a2, .ref a3, .ref a4, .ref a5, .ref a6])), (a1, .inl (cI, hz_L g, .inl (nf ow))), (a2, .inl (cL, hz_L g, .inr (.inl ky))), (a3, .inl (cB, hz_L g, .inl (nf kd))), (a4, .inl (cL, hz_L g, .inr (.inl nu))), (a5, .inl (cI, hz_L g, .inl (nf fo))), (a6, .inl (cI, hz_M g, .inl (nf sn)))]) := by
  obtain ⟨hCS, hCT, hgt, hRT⟩ := id hCI
  have hAI := hCS.1
  have hnT := hCS.2.1
  have hg := hCS.2.2.1
  have hnL := hCS.2.2.2.1
  have hAg := hCS.2.2.2.2.1
  have hk8 := hCS.2.2.2.2.2.1
  have hT := hCS.2.2.2.2.2.2
  have hO := hCS.O
  have hU := hCS.U
  have hg1 := hz_gen g hg
  have hg2 := hz_Rgen gt hgt
  have hn4 := hAI.1
  refine StdI.mk (cc := b_F_setCursor) (maxL := 2) (by decide) rfl (Nat.le_of_ble_eq_true rfl) ?_
  intro p e s m below meth c A Z ls hx hb hml hown hts hin hP hK hD hA hS hret hl
  have hown : s.vm.findClass R_F = some m.cls := hown
  have hw : ∀ x ∈ WALL, x.before _ s = true := fun x h => hts x (List.mem_cons_of_mem _ h)
  have hl : lv_has ls 2 [(0, .ref x0), (1, .int (nI i))] := hl
  refine lv_iload_n hx hb d_F_setCursor_0 rfl (lv_at hl 1 rfl) ?_
  refine lv_if_ne (tgt := 16) hx hb d_F_setCursor_1 (by decide) (fun c1 => ?_) (fun c1 => ?_)
  · have c1 : ¬ i = 0 := fun h => c1 (((nI_eq (by omega) (by omega)).mpr h).trans nI_0)
    refine lv_aload_n hx hb d_F_setCursor_16 rfl (lv_at hl 0 rfl) ?_
    refine lv_aload_n hx hb d_F_setCursor_17 rfl (lv_at hl 0 rfl) ?_
    refine va_get (D := (dC, dI)) (ci := 0) (v := .ref f) (C := R_F) (T := T_F) (N := 4) hx hb hw in_F hown hK hP 0 rfl rfl 1 (by decide) (hw _ m_84) (fun _ h9 => h9) rfl d_F_setCursor_18 ?_
    refine lv_iload_n hx hb d_F_setCursor_21 rfl (lv_at hl 1 rfl) ?_
    refine QryI.callV (ci := 2) (q0 := 0) (c_keyKind l dC dI cI cL cB f a1 a2 a3 a4 a5 a6 (aN a) (hz_L g) i ow (by omega) (by omega) (hO i hi)) ⟨hx, hb, hml, hown, hw⟩ (fz_cwV 1 hw m_207 m_204 m_205 m_206 m_3 rfl rfl (by decide +kernel) ⟨Nat.le_of_ble_eq_true rfl, Nat.le_of_ble_eq_true rfl⟩) hK hP [7, 8] rfl rfl rfl rfl rfl hl.1 rfl (Nat.le_of_ble_eq_true rfl) d_F_setCursor_22 ⟨(Nat.le_of_ble_eq_true rfl), (Nat.le_of_ble_eq_true rfl)⟩ (fun r22 h22 => ?_)
    rw [(hAg i hi).1] at h22
    subst h22
    refine va_put (D := (dC, dI)) (ci := 0) (v := .int (nI (aO a i % 8))) (ty := .int) (C := R_F) (T := T_F) (N := 4) hx hb hw in_F ty_F tyok_F nn_F hown hK hP hD hS 0 rfl rfl 2 (by decide) (hw _ m_85) (fun _ h9 => h9) rfl (by decide +kernel) rfl rfl (Nat.le_of_ble_eq_true rfl) d_F_setCursor_25 (fun H locs hP hD hS => ?_)
    have hP : va_P (dC, dI) classes [(x0, .inr (0, [.ref tr, .ref f, .int (nI (aO a i % 8)), .long cn])), (tr, .inr (1, [.int (nI nT), .ref y1, .ref y2, .ref y3, .ref y4, .ref y5])), (y1, .inl (cI, hz_R gt, .inl (nf fi))), (y2, .inl (cI, hz_R gt, .inl (nf la))), (y3, .inl (cI, hz_R gt, .inl (nf kc))), (y4, .inl (cI, hz_R gt, .inl (nf vc))), (y5, .inl (cI, hz_R gt, .inl (nf bo))), (f, .inr (2, [.int (nI (aN a)), .ref a1, .ref a2, .ref a3, .ref a4, .ref a5, .ref a6])), (a1, .inl (cI, hz_L g, .inl (nf ow))), (a2, .inl (cL, hz_L g, .inr (.inl ky))), (a3, .inl (cB, hz_L g, .inl (nf kd))), (a4, .inl (cL, hz_L g, .inr (.inl nu))), (a5, .inl (cI, hz_L g, .inl (nf fo))), (a6, .inl (cI, hz_M g, .inl (nf sn)))] H := hP
    have hD : va_D A [(x0, .inr (0, [.ref tr, .ref f, .int (nI (aO a i % 8)), .long cn])), (tr, .inr (1, [.int (nI nT), .ref y1, .ref y2, .ref y3, .ref y4, .ref y5])), (y1, .inl (cI, hz_R gt, .inl (nf fi))), (y2, .inl (cI, hz_R gt, .inl (nf la))), (y3, .inl (cI, hz_R gt, .inl (nf kc))), (y4, .inl (cI, hz_R gt, .inl (nf vc))), (y5, .inl (cI, hz_R gt, .inl (nf bo))), (f, .inr (2, [.int (nI (aN a)), .ref a1, .ref a2, .ref a3, .ref a4, .ref a5, .ref a6])), (a1, .inl (cI, hz_L g, .inl (nf ow))), (a2, .inl (cL, hz_L g, .inr (.inl ky))), (a3, .inl (cB, hz_L g, .inl (nf kd))), (a4, .inl (cL, hz_L g, .inr (.inl nu))), (a5, .inl (cI, hz_L g, .inl (nf fo))), (a6, .inl (cI, hz_M g, .inl (nf sn)))] := hD
    refine lv_aload_n hx hb d_F_setCursor_28 rfl (lv_at hl 0 rfl) ?_
    refine lv_aload_n hx hb d_F_setCursor_29 rfl (lv_at hl 0 rfl) ?_
    refine va_get (D := (dC, dI)) (ci := 0) (v := .ref f) (C := R_F) (T := T_F) (N := 4) hx hb hw in_F hown hK hP 0 rfl rfl 1 (by decide) (hw _ m_84) (fun _ h9 => h9) rfl d_F_setCursor_30 ?_
    refine va_get (D := (dC, dI)) (ci := 2) (v := .ref a2) (C := R_S) (T := T_S) (N := 7) hx hb hw in_S hown hK hP 7 rfl rfl 2 (by decide) (hw _ m_58) (fun _ h9 => h9) rfl d_F_setCursor_33 ?_
    refine lv_iload_n hx hb d_F_setCursor_36 rfl (lv_at hl 1 rfl) ?_
    refine fz_lald hx hb hK hP 9 1 rfl rfl (j := i) (by omega) (by omega) d_F_setCursor_37 ?_
    refine fz_eql (y := aK a i) ((hAg i hi).2.1) ?_
    refine va_put (D := (dC, dI)) (ci := 0) (v := .long (aK a i)) (ty := .long) (C := R_F) (T := T_F) (N := 4) hx hb hw in_F ty_F tyok_F nn_F hown hK hP hD hS 0 rfl rfl 3 (by decide) (hw _ m_86) (fun _ h9 => h9) rfl (by decide +kernel) rfl rfl (Nat.le_of_ble_eq_true rfl) d_F_setCursor_38 (fun H locs hP hD hS => ?_)
    have hP : va_P (dC, dI) classes [(x0, .inr (0, [.ref tr, .ref f, .int (nI (aO a i % 8)), .long (aK a i)])), (tr, .inr (1, [.int (nI nT), .ref y1, .ref y2, .ref y3, .ref y4, .ref y5])), (y1, .inl (cI, hz_R gt, .inl (nf fi))), (y2, .inl (cI, hz_R gt, .inl (nf la))), (y3, .inl (cI, hz_R gt, .inl (nf kc))), (y4, .inl (cI, hz_R gt, .inl (nf vc))), (y5, .inl (cI, hz_R gt, .inl (nf bo))), (f, .inr (2, [.int (nI (aN a)), .ref a1, .ref a2, .ref a3, .ref a4, .ref a5, .ref a6])), (a1, .inl (cI, hz_L g, .inl (nf ow))), (a2, .inl (cL, hz_L g, .inr (.inl ky))), (a3, .inl (cB, hz_L g, .inl (nf kd))), (a4, .inl (cL, hz_L g, .inr (.inl nu))), (a5, .inl (cI, hz_L g, .inl (nf fo))), (a6, .inl (cI, hz_M g, .inl (nf sn)))] H := hP
    have hD : va_D A [(x0, .inr (0, [.ref tr, .ref f, .int (nI (aO a i % 8)), .long (aK a i)])), (tr, .inr (1, [.int (nI nT), .ref y1, .ref y2, .ref y3, .ref y4, .ref y5])), (y1, .inl (cI, hz_R gt, .inl (nf fi))), (y2, .inl (cI, hz_R gt, .inl (nf la))), (y3, .inl (cI, hz_R gt, .inl (nf kc))), (y4, .inl (cI, hz_R gt, .inl (nf vc))), (y5, .inl (cI, hz_R gt, .inl (nf bo))), (f, .inr (2, [.int (nI (aN a)), .ref a1, .ref a2, .ref a3, .ref a4, .ref a5, .ref a6])), (a1, .inl (cI, hz_L g, .inl (nf ow))), (a2, .inl (cL, hz_L g, .inr (.inl ky))), (a3, .inl (cB, hz_L g, .inl (nf kd))), (a4, .inl (cL, hz_L g, .inr (.inl nu))), (a5, .inl (cI, hz_L g, .inl (nf fo))), (a6, .inl (cI, hz_M g, .inl (nf sn)))] := hD
    refine lv_iconst (v := nI 1) hx hb d_F_setCursor_41 (by decide) ?_
    have hpost : ((nI 1), (aO a i % 8), (aK a i)) = fNextJ a i := (by unfold fNextJ; rw [if_neg c1])
    exact hret (nI 1) (aO a i % 8, aK a i) _ _ 42 ls hpost hP hD hS d_F_setCursor_42
  · have c1 : i = 0 := (nI_eq (by omega) (by omega)).mp (c1.trans nI_0.symm)
    refine lv_aload_n hx hb d_F_setCursor_4 rfl (lv_at hl 0 rfl) ?_
    refine lv_iconst (v := nI 0) hx hb d_F_setCursor_5 (by decide) ?_
    refine va_put (D := (dC, dI)) (ci := 0) (v := .int (nI 0)) (ty := .int) (C := R_F) (T := T_F) (N := 4) hx hb hw in_F ty_F tyok_F nn_F hown hK hP hD hS 0 rfl rfl 2 (by decide) (hw _ m_85) (fun _ h9 => h9) rfl (by decide +kernel) rfl rfl (Nat.le_of_ble_eq_true rfl) d_F_setCursor_6 (fun H locs hP hD hS => ?_)
    have hP : va_P (dC, dI) classes [(x0, .inr (0, [.ref tr, .ref f, .int (nI 0), .long cn])), (tr, .inr (1, [.int (nI nT), .ref y1, .ref y2, .ref y3, .ref y4, .ref y5])), (y1, .inl (cI, hz_R gt, .inl (nf fi))), (y2, .inl (cI, hz_R gt, .inl (nf la))), (y3, .inl (cI, hz_R gt, .inl (nf kc))), (y4, .inl (cI, hz_R gt, .inl (nf vc))), (y5, .inl (cI, hz_R gt, .inl (nf bo))), (f, .inr (2, [.int (nI (aN a)), .ref a1, .ref a2, .ref a3, .ref a4, .ref a5, .ref a6])), (a1, .inl (cI, hz_L g, .inl (nf ow))), (a2, .inl (cL, hz_L g, .inr (.inl ky))), (a3, .inl (cB, hz_L g, .inl (nf kd))), (a4, .inl (cL, hz_L g, .inr (.inl nu))), (a5, .inl (cI, hz_L g, .inl (nf fo))), (a6, .inl (cI, hz_M g, .inl (nf sn)))] H := hP
    have hD : va_D A [(x0, .inr (0, [.ref tr, .ref f, .int (nI 0), .long cn])), (tr, .inr (1, [.int (nI nT), .ref y1, .ref y2, .ref y3, .ref y4, .ref y5])), (y1, .inl (cI, hz_R gt, .inl (nf fi))), (y2, .inl (cI, hz_R gt, .inl (nf la))), (y3, .inl (cI, hz_R gt, .inl (nf kc))), (y4, .inl (cI, hz_R gt, .inl (nf vc))), (y5, .inl (cI, hz_R gt, .inl (nf bo))), (f, .inr (2, [.int (nI (aN a)), .ref a1, .ref a2, .ref a3, .ref a4, .ref a5, .ref a6])), (a1, .inl (cI, hz_L g, .inl (nf ow))), (a2, .inl (cL, hz_L g, .inr (.inl ky))), (a3, .inl (cB, hz_L g, .inl (nf kd))), (a4, .inl (cL, hz_L g, .inr (.inl nu))), (a5, .inl (cI, hz_L g, .inl (nf fo))), (a6, .inl (cI, hz_M g, .inl (nf sn)))] := hD
    refine lv_aload_n hx hb d_F_setCursor_9 rfl (lv_at hl 0 rfl) ?_
    refine lv_lconst (v := lN 0) hx hb d_F_setCursor_10 rfl ?_
    refine va_put (D := (dC, dI)) (ci := 0) (v := .long (lN 0)) (ty := .long) (C := R_F) (T := T_F) (N := 4) hx hb hw in_F ty_F tyok_F nn_F hown hK hP hD hS 0 rfl rfl 3 (by decide) (hw _ m_86) (fun _ h9 => h9) rfl (by decide +kernel) rfl rfl (Nat.le_of_ble_eq_true rfl) d_F_setCursor_11 (fun H locs hP hD hS => ?_)
    have hP : va_P (dC, dI) classes [(x0, .inr (0, [.ref tr, .ref f, .int (nI 0), .long (lN 0)])), (tr, .inr (1, [.int (nI nT), .ref y1, .ref y2, .ref y3, .ref y4, .ref y5])), (y1, .inl (cI, hz_R gt, .inl (nf fi))), (y2, .inl (cI, hz_R gt, .inl (nf la))), (y3, .inl (cI, hz_R gt, .inl (nf kc))), (y4, .inl (cI, hz_R gt, .inl (nf vc))), (y5, .inl (cI, hz_R gt, .inl (nf bo))), (f, .inr (2, [.int (nI (aN a)), .ref a1, .ref a2, .ref a3, .ref a4, .ref a5, .ref a6])), (a1, .inl (cI, hz_L g, .inl (nf ow))), (a2, .inl (cL, hz_L g, .inr (.inl ky))), (a3, .inl (cB, hz_L g, .inl (nf kd))), (a4, .inl (cL, hz_L g, .inr (.inl nu))), (a5, .inl (cI, hz_L g, .inl (nf fo))), (a6, .inl (cI, hz_M g, .inl (nf sn)))] H := hP
    have hD : va_D A [(x0, .inr (0, [.ref tr, .ref f, .int (nI 0), .long (lN 0)])), (tr, .inr (1, [.int (nI nT), .ref y1, .ref y2, .ref y3, .ref y4, .ref y5])), (y1, .inl (cI, hz_R gt, .inl (nf fi))), (y2, .inl (cI, hz_R gt, .inl (nf la))), (y3, .inl (cI, hz_R gt, .inl (nf kc))), (y4, .inl (cI, hz_R gt, .inl (nf vc))), (y5, .inl (cI, hz_R gt, .inl (nf bo))), (f, .inr (2, [.int (nI (aN a)), .ref a1, .ref a2, .ref a3, .ref a4, .ref a5, .ref a6])), (a1, .inl (cI, hz_L g, .inl (nf ow))), (a2, .inl (cL, hz_L g, .inr (.inl ky))), (a3, .inl (cB, hz_L g, .inl (nf kd))), (a4, .inl (cL, hz_L g, .inr (.inl nu))), (a5, .inl (cI, hz_L g, .inl (nf fo))), (a6, .inl (cI, hz_M g, .inl (nf sn)))] := hD
    refine lv_iconst (v := nI 0) hx hb d_F_setCursor_14 (by decide) ?_
    have hpost : ((nI 0), 0, (lN 0)) = fNextJ a i := (by unfold fNextJ; rw [if_pos c1]; rfl)
    exact hret (nI 0) (0, lN 0) _ _ 15 ls hpost hP hD hS d_F_setCursor_15
set_option maxHeartbeats 4000000 in
set_option maxRecDepth 100000 in
/-- firstWithValue -/
theorem c_firstWithValue (l : Launch) (dC : Nat → ClassId) (dI : Nat → Nat → Nat) (cI cL cB : ClassId) (x0 : Nat) (tr : Nat) (f : Nat) (y1 : Nat) (y2 : Nat) (y3 : Nat) (y4 : Nat) (y5 : Nat) (a1 : Nat) (a2 : Nat) (a3 : Nat) (a4 : Nat) (a5 : Nat) (a6 : Nat) (ck : Nat) (nT : Nat) (g : Nat) (gt : Nat) (cn : Int64) (a : AS) (fi : Nat → Nat) (la : Nat → Nat) (kc : Nat → Nat) (vc : Nat → Nat) (bo : Nat → Nat) (ow : Nat → Nat) (ky : Nat → Int64) (kd : Nat → Nat) (nu : Nat → Int64) (fo : Nat → Nat) (sn : Nat → Nat) (t : Nat) (q0 : Nat) (i : Nat) (hCI : CI nT a g gt ow ky kd nu fo sn fi la kc vc bo) (ht1 : 1 ≤ t) (ht2 : t ≤ nT) (hq0 : q0 ≤ aN a) (hch : ch_N (aO a) t (aN a) q0 i) : QryI l y_F_firstWithValue (wd y_F_firstWithValue b_F_firstWithValue 6 (some .int)) 0 0 (dC, dI) classes (tyK cI cL cB) [.ref x0, .int (nI t), .int (nI i)] [(x0, .inr (0, [.ref tr, .ref f, .int (nI ck), .long cn])), (tr, .inr (1, [.int (nI nT), .ref y1, .ref y2, .ref y3, .ref y4, .ref y5])), (y1, .inl (cI, hz_R gt, .inl (nf fi))), (y2, .inl (cI, hz_R gt, .inl (nf la))), (y3, .inl (cI, hz_R gt, .inl (nf kc))), (y4, .inl (cI, hz_R gt, .inl (nf vc))), (y5, .inl (cI, hz_R gt, .inl (nf bo))), (f, .inr (2, [.int (nI (aN a)), .ref a1, .ref a2, .ref a3, .ref a4, .ref a5, .ref a6])), (a1, .inl (cI, hz_L g, .inl (nf ow))), (a2, .inl (cL, hz_L g, .inr (.inl ky))), (a3, .inl (cB, hz_L g, .inl (nf kd))), (a4, .inl (cL, hz_L g, .inr (.inl nu))), (a5, .inl (cI, hz_L g, .inl (nf fo))), (a6, .inl (cI, hz_M g, .inl (nf sn)))] (fun r : Int32 => r = nI (nv a t q0)) := by
  obtain ⟨hCS, hCT, hgt, hRT⟩ := id hCI
  have hAI := hCS.1
  have hnT := hCS.2.1
  have hg := hCS.2.2.1
  have hnL := hCS.2.2.2.1
  have hAg := hCS.2.2.2.2.1
  have hk8 := hCS.2.2.2.2.2.1
  have hT := hCS.2.2.2.2.2.2
  have hO := hCS.O
  have hU := hCS.U
  have hg1 := hz_gen g hg
  have hg2 := hz_Rgen gt hgt
  have hn4 := hAI.1
  refine QryI.mk (cc := b_F_firstWithValue) (maxL := 6) (by decide) rfl (Nat.le_of_ble_eq_true rfl) ?_
  intro p e s m below meth c Z ls hx hb hml hown hts hP hK hret hl
  have hP : va_P (dC, dI) classes [(x0, .inr (0, [.ref tr, .ref f, .int (nI ck), .long cn])), (tr, .inr (1, [.int (nI nT), .ref y1, .ref y2, .ref y3, .ref y4, .ref y5])), (y1, .inl (cI, hz_R gt, .inl (nf fi))), (y2, .inl (cI, hz_R gt, .inl (nf la))), (y3, .inl (cI, hz_R gt, .inl (nf kc))), (y4, .inl (cI, hz_R gt, .inl (nf vc))), (y5, .inl (cI, hz_R gt, .inl (nf bo))), (f, .inr (2, [.int (nI (aN a)), .ref a1, .ref a2, .ref a3, .ref a4, .ref a5, .ref a6])), (a1, .inl (cI, hz_L g, .inl (nf ow))), (a2, .inl (cL, hz_L g, .inr (.inl ky))), (a3, .inl (cB, hz_L g, .inl (nf kd))), (a4, .inl (cL, hz_L g, .inr (.inl nu))), (a5, .inl (cI, hz_L g, .inl (nf fo))), (a6, .inl (cI, hz_M g, .inl (nf sn)))] s.heap := hP
  have hown : s.vm.findClass R_F = some m.cls := hown
  have hw : ∀ x ∈ WALL, x.before _ s = true := fun x h => hts x (List.mem_cons_of_mem _ h)
  have hl : lv_has ls 6 [(0, .ref x0), (1, .int (nI t)), (2, .int (nI i))] := hl
  refine lv_iload_n hx hb d_F_firstWithValue_0 rfl (lv_at hl 2 rfl) ?_
  refine lv_istore_n (lv' := [(3, .int (nI i)), (0, .ref x0), (1, .int (nI t)), (2, .int (nI i))]) hx hb d_F_firstWithValue_1 rfl hl (by decide) rfl (fun ls hl => ?_)
  refine lv_aload_n hx hb d_F_firstWithValue_2 rfl (lv_at hl 1 rfl) ?_
  refine va_get (D := (dC, dI)) (ci := 0) (v := .ref tr) (C := R_F) (T := T_F) (N := 4) hx hb hw in_F hown hK hP 0 rfl rfl 0 (by decide) (hw _ m_83) (fun _ h9 => h9) rfl d_F_firstWithValue_3 ?_
  refine va_get (D := (dC, dI)) (ci := 1) (v := .ref y3) (C := R_T) (T := T_T) (N := 6) hx hb hw in_T hown hK hP 1 rfl rfl 3 (by decide) (hw _ m_29) (fun _ h9 => h9) rfl d_F_firstWithValue_6 ?_
  refine lv_iload_n hx hb d_F_firstWithValue_9 rfl (lv_at hl 2 rfl) ?_
  refine fz_iald hx hb hK hP 4 0 rfl rfl (j := t) (by omega) (by omega) d_F_firstWithValue_10 ?_
  refine lv_istore (lv' := [(4, .int (nI (kc t))), (3, .int (nI i)), (0, .ref x0), (1, .int (nI t)), (2, .int (nI i))]) hx hb d_F_firstWithValue_11 hl (by decide) rfl (fun ls hl => ?_)
  refine lv_iconst (v := nI 0) hx hb d_F_firstWithValue_13 (by decide) ?_
  refine lv_istore (lv' := [(5, .int (nI 0)), (4, .int (nI (kc t))), (3, .int (nI i)), (0, .ref x0), (1, .int (nI t)), (2, .int (nI i))]) hx hb d_F_firstWithValue_14 hl (by decide) rfl (fun ls hl => ?_)
  have loop_16 : ∀ (fuel : Nat) (fld : Nat) (sen : Nat) (q : Nat), ch_N (aO a) t (aN a) q fld → q ≤ aN a → q0 ≤ q → noV a t q0 q → sen ≤ cQ a t q → aN a - q < fuel → ∀ (ls : Array Slot), lv_has ls 6 [(0, .ref x0), (1, .int (nI t)), (3, .int (nI fld)), (4, .int (nI (kc t))), (5, .int (nI sen))] → W p l e { frames := 0, cells := 0, slots := 0, locals := 0 } s m [.ref x0, .int (nI t), .int (nI i)].toArray below meth c s.heap [] 0 0 Z (F0 m 16 ls []) := by
    intro fuel
    induction fuel with
    | zero => intro fld sen q hfl hqn hqq hq hse hfuel; exact absurd hfuel (Nat.not_lt_zero _)
    | succ fuel ih =>
      intro fld sen q hfl hqn hqq hq hse hfuel ls hl
      have hfn := hfl.le
      have hkc := (hCT.2 t ht1 ht2).2.2.1
      have hkn : kc t ≤ aN a := by rw [hkc]; exact cnt_le _ _
      have hcq := cQ_le (t := t) hqn
      refine lv_iload hx hb d_F_firstWithValue_16 (lv_at hl 4 rfl) ?_
      refine lv_iload hx hb d_F_firstWithValue_18 (lv_at hl 3 rfl) ?_
      refine lv_icmp_ge (tgt := 57) hx hb d_F_firstWithValue_20 (by decide) (fun c20 => ?_) (fun c20 => ?_)
      · have c20 : kc t ≤ sen := by exact (nI_leI (by omega) (by omega)).mp c20
        refine lv_iconst (v := nI 0) hx hb d_F_firstWithValue_57 (by decide) ?_
        have hf0 : fld = 0 := by
          by_cases z : fld = 0
          · exact z
          · have := cQ_next hfl z; omega
        exact hret (nI 0) 58 ls (by rw [hq.end0 hfl hf0]) d_F_firstWithValue_58
      · have c20 : ¬ kc t ≤ sen := fun h => c20 (by exact (nI_leI (by omega) (by omega)).mpr h)
        refine lv_iload_n hx hb d_F_firstWithValue_23 rfl (lv_at hl 2 rfl) ?_
        refine lv_if_eq (tgt := 57) hx hb d_F_firstWithValue_24 (by decide) (fun c24 => ?_) (fun c24 => ?_)
        · have c24 : fld = 0 := (nI_eq (by omega) (by omega)).mp (c24.trans nI_0.symm)
          refine lv_iconst (v := nI 0) hx hb d_F_firstWithValue_57 (by decide) ?_
          exact hret (nI 0) 58 ls (by rw [hq.end0 hfl c24]) d_F_firstWithValue_58
        · have c24 : ¬ fld = 0 := fun h => c24 (((nI_eq (by omega) (by omega)).mpr h).trans nI_0)
          have hff := hfl.facts c24
          have hcn := cQ_next hfl c24
          refine lv_aload_n hx hb d_F_firstWithValue_27 rfl (lv_at hl 0 rfl) ?_
          refine va_get (D := (dC, dI)) (ci := 0) (v := .ref f) (C := R_F) (T := T_F) (N := 4) hx hb hw in_F hown hK hP 0 rfl rfl 1 (by decide) (hw _ m_84) (fun _ h9 => h9) rfl d_F_firstWithValue_28 ?_
          refine va_get (D := (dC, dI)) (ci := 2) (v := .ref a3) (C := R_S) (T := T_S) (N := 7) hx hb hw in_S hown hK hP 7 rfl rfl 3 (by decide) (hw _ m_60) (fun _ h9 => h9) rfl d_F_firstWithValue_31 ?_
          refine lv_iload_n hx hb d_F_firstWithValue_34 rfl (lv_at hl 2 rfl) ?_
          refine fz_bald hx hb hK hP 10 2 rfl rfl (j := fld) (by omega) (by omega) d_F_firstWithValue_35 ?_
          have hkf := hk8 fld
          refine lv_if_eq (tgt := 41) hx hb d_F_firstWithValue_36 (by decide) (fun c36 => ?_) (fun c36 => ?_)
          · have c36 : kd fld = 0 := (nI_eq (by omega) (by omega)).mp (c36.trans nI_0.symm)
            refine lv_aload_n hx hb d_F_firstWithValue_41 rfl (lv_at hl 0 rfl) ?_
            refine va_get (D := (dC, dI)) (ci := 0) (v := .ref f) (C := R_F) (T := T_F) (N := 4) hx hb hw in_F hown hK hP 0 rfl rfl 1 (by decide) (hw _ m_84) (fun _ h9 => h9) rfl d_F_firstWithValue_42 ?_
            refine va_get (D := (dC, dI)) (ci := 2) (v := .ref a5) (C := R_S) (T := T_S) (N := 7) hx hb hw in_S hown hK hP 7 rfl rfl 5 (by decide) (hw _ m_64) (fun _ h9 => h9) rfl d_F_firstWithValue_45 ?_
            refine lv_iload_n hx hb d_F_firstWithValue_48 rfl (lv_at hl 2 rfl) ?_
            refine fz_iald hx hb hK hP 12 0 rfl rfl (j := fld) (by omega) (by omega) d_F_firstWithValue_49 ?_
            refine lv_istore_n (lv' := [(3, .int (nI (fo fld))), (0, .ref x0), (1, .int (nI t)), (4, .int (nI (kc t))), (5, .int (nI sen))]) hx hb d_F_firstWithValue_50 rfl hl (by decide) rfl (fun ls hl => ?_)
            refine lv_iinc (v := nI (sen + 1)) (lv' := [(5, .int (nI (sen + 1))), (3, .int (nI (fo fld))), (0, .ref x0), (1, .int (nI t)), (4, .int (nI (kc t)))]) hx hb d_F_firstWithValue_51 hl (k := 4) rfl (fz_inc sen) (by decide) rfl (fun ls hl => ?_)
            refine lv_goto (tgt := 16) hx hb d_F_firstWithValue_54 (by decide) ?_
            exact ih (fo fld) (sen + 1) fld (by have := hCT.1 fld (Nat.pos_of_ne_zero c24) hfn; rw [hff.2.2] at this; exact this) hfn (by omega) (hq.next hfl c24 (by rw [← (hAg fld hfn).2.2.1]; exact c36)) (by omega) (by omega) ls (lv_sub hl [2, 3, 1, 4, 0] rfl)
          · have c36 : ¬ kd fld = 0 := fun h => c36 (((nI_eq (by omega) (by omega)).mpr h).trans nI_0)
            refine lv_iload_n hx hb d_F_firstWithValue_39 rfl (lv_at hl 2 rfl) ?_
            exact hret (nI fld) 40 ls (by rw [hq.endj hqq hfl c24 (by rw [← (hAg fld hfn).2.2.1]; exact c36)]) d_F_firstWithValue_40
  exact loop_16 (aN a - q0 + 1) i 0 q0 hch hq0 (Nat.le_refl _) noV.refl (Nat.zero_le _) (Nat.lt_succ_self _) ls (lv_sub hl [3, 4, 2, 1, 0] rfl)
end
section
def emA (a : AS) : AS := (0, aO a, aK a, fun _ => 0, fun _ => 0)
theorem AI.em {nT : Nat} {a : AS} (h : AI nT a) (nT' : Nat) : AI nT' (emA a) := ⟨Nat.zero_le _, fun i h1 (h2 : i ≤ 0) => by omega, fun _ => Nat.zero_le _, rfl, rfl, fun _ _ _ => rfl, fun i j h1 (h2 : i ≤ 0) => by omega, h.2.2.2.2.2.2.2⟩
def clrA (a : AS) (t : Nat) (frm : Int64) (st : Nat) : Nat → AS
  | 0 => a
  | j + 1 => giveA (clrA a t frm st j) (t * 8 + 3) (rK frm st j) 0 0
def wereA (a : AS) (t : Nat) (frm : Int64) (st : Nat) : Nat → Nat
  | 0 => 0
  | j + 1 => wereA a t frm st j + (if vD a (t * 8 + 3) (rK frm st j) = 0 then 0 else 1)
theorem comeA_k0 (a : AS) (o : Nat) (k : Int64) : comeA a o k 0 = 0 := by unfold comeA; rw [if_pos rfl]; split <;> rfl
theorem clrA_N {a : AS} {t : Nat} {frm : Int64} {st : Nat} : ∀ j, aN (clrA a t frm st j) = aN a
  | 0 => rfl
  | j + 1 => by
    show aN (giveA (clrA a t frm st j) (t * 8 + 3) (rK frm st j) 0 0) = _
    rw [giveA_N, comeA_k0, clrA_N j]; rfl
theorem clrA_AI {nT : Nat} {a : AS} {t : Nat} {frm : Int64} {st : Nat} (h : AI nT a) (hn : nT ≤ 30000) (h1 : 1 ≤ t) (h2 : t ≤ nT) : ∀ j, AI nT (clrA a t frm st j)
  | 0 => h
  | j + 1 => AI.give (clrA_AI h hn h1 h2 j) hn h1 h2 (by omega) (by omega) (by omega) (by rw [comeA_k0, clrA_N]; exact h.1)
theorem clrA_D {nT : Nat} {a : AS} {t : Nat} {frm : Int64} {st : Nat} (h : AI nT a) (hn : nT ≤ 30000) (t1 : 1 ≤ t) (t2 : t ≤ nT) (h1 : 1 ≤ st) (h2 : st ≤ 1000) {m : Nat} (hm : m ≤ 20000) : ∀ j, j ≤ m → vD (clrA a t frm st j) (t * 8 + 3) (rK frm st m) = vD a (t * 8 + 3) (rK frm st m)
  | 0, _ => rfl
  | j + 1, hj => by
    show vD (giveA (clrA a t frm st j) (t * 8 + 3) (rK frm st j) 0 0) _ _ = _
    rw [vD_give (clrA_AI h hn t1 t2 j), if_neg (fun e => by have := rK_inj h1 h2 (by omega) hm e.2; omega)]
    exact clrA_D h hn t1 t2 h1 h2 hm j (by omega)
theorem cV_give0 {nT : Nat} {a : AS} (h : AI nT a) (t : Nat) (k : Int64) : cV (giveA a (t * 8 + 3) k 0 0) t + (if vD a (t * 8 + 3) k = 0 then 0 else 1) = cV a t := by
  by_cases q : aF a (t * 8 + 3) k = 0
  · rw [giveA_n q]
    unfold vD
    rw [q, h.2.2.2.1, if_pos rfl]; rfl
  · rw [giveA_0 q]
    generalize (if (0 : Nat) = 0 then (0 : Int64) else 0) = v
    have e := cV_set (a := a) (i := aF a (t * 8 + 3) k) (by omega) (aF_le _ _ _) 0 v t
    have o := (aF_hit q).1
    rw [o, if_neg (fun c : (t * 8 + 3) / 8 = t ∧ (0 : Nat) ≠ 0 => c.2 rfl)] at e
    unfold vD
    by_cases z : aD a (aF a (t * 8 + 3) k) = 0
    · rw [if_neg (fun c => c.2 z)] at e; rw [if_pos z]; exact e
    · rw [if_pos ⟨by omega, z⟩] at e; rw [if_neg z]; exact e
theorem clrA_V {nT : Nat} {a : AS} {t : Nat} {frm : Int64} {st : Nat} (h : AI nT a) (hn : nT ≤ 30000) (t1 : 1 ≤ t) (t2 : t ≤ nT) (h1 : 1 ≤ st) (h2 : st ≤ 1000) : ∀ j, j ≤ 20000 → cV (clrA a t frm st j) t + wereA a t frm st j = cV a t
  | 0, _ => rfl
  | j + 1, hj => by
    have e := cV_give0 (clrA_AI (frm := frm) (st := st) h hn t1 t2 j) t (rK frm st j)
    rw [clrA_D h hn t1 t2 h1 h2 (m := j) (by omega) j (Nat.le_refl j)] at e
    have i := clrA_V (frm := frm) h hn t1 t2 h1 h2 j (by omega)
    show cV (giveA (clrA a t frm st j) (t * 8 + 3) (rK frm st j) 0 0) t + (wereA a t frm st j + _) = _
    omega
noncomputable def fClear (nT : Nat) (a : AS) (x : Int32) (frm : Int64) (n st : Int32) : Int32 × AS := ifc (okRun nT x frm n st) (nI (wereA a (tN x) frm (tN st) (tN n)), clrA a (tN x) frm (tN st) (tN n)) (-1, a)
theorem runA_AI {nT : Nat} {a : AS} {t : Nat} {frm : Int64} {st : Nat} (h : AI nT a) (hn : nT ≤ 30000) (t1 : 1 ≤ t) (t2 : t ≤ nT) (h1 : 1 ≤ st) (h2 : st ≤ 1000) : ∀ j, j ≤ 20000 → aN a + missA a t frm st j ≤ 40000 → AI nT (runA a t frm st j)
  | 0, _, _ => h
  | j + 1, hj, hr => by
    have m1 := missA_mono a t frm st (j := j) (n := j + 1) (by omega)
    refine AI.give (runA_AI h hn t1 t2 h1 h2 j (by omega) (by omega)) hn t1 t2 (by omega) (by omega) (by omega) ?_
    rw [← giveA_N (nu := lN (j + 1))]
    have := runA_N (a := a) (t := t) (frm := frm) h1 h2 (j + 1) hj
    rw [show giveA (runA a t frm st j) (t * 8 + 3) (rK frm st j) 3 (lN (j + 1)) = runA a t frm st (j + 1) from rfl, this]; exact hr
end
section
set_option maxHeartbeats 4000000 in
set_option maxRecDepth 100000 in
/-- put -/
theorem c_put (l : Launch) (dC : Nat → ClassId) (dI : Nat → Nat → Nat) (cI cL cB : ClassId) (x0 : Nat) (tr : Nat) (f : Nat) (y1 : Nat) (y2 : Nat) (y3 : Nat) (y4 : Nat) (y5 : Nat) (a1 : Nat) (a2 : Nat) (a3 : Nat) (a4 : Nat) (a5 : Nat) (a6 : Nat) (ck : Nat) (nT : Nat) (g : Nat) (gt : Nat) (cn : Int64) (a : AS) (fi : Nat → Nat) (la : Nat → Nat) (kc : Nat → Nat) (vc : Nat → Nat) (bo : Nat → Nat) (ow : Nat → Nat) (ky : Nat → Int64) (kd : Nat → Nat) (nu : Nat → Int64) (fo : Nat → Nat) (sn : Nat → Nat) (x : Int32) (kk : Int32) (k : Int64) (vk : Int32) (vn : Int64) (hCI : CI nT a g gt ow ky kd nu fo sn fi la kc vc bo) : StdI l y_F_put (wd y_F_put b_F_put 8 (some .int)) 6 155 (6 * (gF g (aN ((fPut nT a x kk k vk vn).2)) - g)) (Gs (gF g (aN ((fPut nT a x kk k vk vn).2))) - Gs g) (dC, dI) classes (tyK cI cL cB) [.ref x0, .int x, .int kk, .long k, .int vk, .long vn] [(x0, .inr (0, [.ref tr, .ref f, .int (nI ck), .long cn])), (tr, .inr (1, [.int (nI nT), .ref y1, .ref y2, .ref y3, .ref y4, .ref y5])), (y1, .inl (cI, hz_R gt, .inl (nf fi))), (y2, .inl (cI, hz_R gt, .inl (nf la))), (y3, .inl (cI, hz_R gt, .inl (nf kc))), (y4, .inl (cI, hz_R gt, .inl (nf vc))), (y5, .inl (cI, hz_R gt, .inl (nf bo))), (f, .inr (2, [.int (nI (aN a)), .ref a1, .ref a2, .ref a3, .ref a4, .ref a5, .ref a6])), (a1, .inl (cI, hz_L g, .inl (nf ow))), (a2, .inl (cL, hz_L g, .inr (.inl ky))), (a3, .inl (cB, hz_L g, .inl (nf kd))), (a4, .inl (cL, hz_L g, .inr (.inl nu))), (a5, .inl (cI, hz_L g, .inl (nf fo))), (a6, .inl (cI, hz_M g, .inl (nf sn)))] (fun (r : Int32) (u : Nat × Nat × Nat × Nat × Nat × Nat × (Nat → Nat) × (Nat → Nat) × (Nat → Nat) × (Nat → Nat) × (Nat → Nat) × (Nat → Nat) × (Nat → Int64) × (Nat → Nat) × (Nat → Int64) × (Nat → Nat) × (Nat → Nat)) => r = (fPut nT a x kk k vk vn).1 ∧ CI nT ((fPut nT a x kk k vk vn).2) (gF g (aN ((fPut nT a x kk k vk vn).2))) gt u.2.2.2.2.2.2.2.2.2.2.2.1 u.2.2.2.2.2.2.2.2.2.2.2.2.1 u.2.2.2.2.2.2.2.2.2.2.2.2.2.1 u.2.2.2.2.2.2.2.2.2.2.2.2.2.2.1 u.2.2.2.2.2.2.2.2.2.2.2.2.2.2.2.1 u.2.2.2.2.2.2.2.2.2.2.2.2.2.2.2.2 u.2.2.2.2.2.2.1 u.2.2.2.2.2.2.2.1 u.2.2.2.2.2.2.2.2.1 u.2.2.2.2.2.2.2.2.2.1 u.2.2.2.2.2.2.2.2.2.2.1) (fun (u : Nat × Nat × Nat × Nat × Nat × Nat × (Nat → Nat) × (Nat → Nat) × (Nat → Nat) × (Nat → Nat) × (Nat → Nat) × (Nat → Nat) × (Nat → Int64) × (Nat → Nat) × (Nat → Int64) × (Nat → Nat) × (Nat → Nat)) => [(x0, .inr (0, [.ref tr, .ref f, .int (nI ck), .long cn])), (tr, .inr (1, [.int (nI nT), .ref y1, .ref y2, .ref y3, .ref y4, .ref y5])), (y1, .inl (cI, hz_R gt, .inl (nf u.2.2.2.2.2.2.1))), (y2, .inl (cI, hz_R gt, .inl (nf u.2.2.2.2.2.2.2.1))), (y3, .inl (cI, hz_R gt, .inl (nf u.2.2.2.2.2.2.2.2.1))), (y4, .inl (cI, hz_R gt, .inl (nf u.2.2.2.2.2.2.2.2.2.1))), (y5, .inl (cI, hz_R gt, .inl (nf u.2.2.2.2.2.2.2.2.2.2.1))), (f, .inr (2, [.int (nI (aN ((fPut nT a x kk k vk vn).2))), .ref u.1, .ref u.2.1, .ref u.2.2.1, .ref u.2.2.2.1, .ref u.2.2.2.2.1, .ref u.2.2.2.2.2.1])), (u.1, .inl (cI, hz_L (gF g (aN ((fPut nT a x kk k vk vn).2))), .inl (nf u.2.2.2.2.2.2.2.2.2.2.2.1))), (u.2.1, .inl (cL, hz_L (gF g (aN ((fPut nT a x kk k vk vn).2))), .inr (.inl u.2.2.2.2.2.2.2.2.2.2.2.2.1))), (u.2.2.1, .inl (cB, hz_L (gF g (aN ((fPut nT a x kk k vk vn).2))), .inl (nf u.2.2.2.2.2.2.2.2.2.2.2.2.2.1))), (u.2.2.2.1, .inl (cL, hz_L (gF g (aN ((fPut nT a x kk k vk vn).2))), .inr (.inl u.2.2.2.2.2.2.2.2.2.2.2.2.2.2.1))), (u.2.2.2.2.1, .inl (cI, hz_L (gF g (aN ((fPut nT a x kk k vk vn).2))), .inl (nf u.2.2.2.2.2.2.2.2.2.2.2.2.2.2.2.1))), (u.2.2.2.2.2.1, .inl (cI, hz_M (gF g (aN ((fPut nT a x kk k vk vn).2))), .inl (nf u.2.2.2.2.2.2.2.2.2.2.2.2.2.2.2.2)))]) := by
  obtain ⟨hCS, hCT, hgt, hRT⟩ := id hCI
  have hAI := hCS.1
  have hnT := hCS.2.1
  have hg := hCS.2.2.1
  have hnL := hCS.2.2.2.1
  have hAg := hCS.2.2.2.2.1
  have hk8 := hCS.2.2.2.2.2.1
  have hT := hCS.2.2.2.2.2.2
  have hO := hCS.O
  have hU := hCS.U
  have hg1 := hz_gen g hg
  have hg2 := hz_Rgen gt hgt
  have hn4 := hAI.1
  refine StdI.mk (cc := b_F_put) (maxL := 8) (by decide) rfl (Nat.le_of_ble_eq_true rfl) ?_
  intro p e s m below meth c A Z ls hx hb hml hown hts hin hP hK hD hA hS hret hl
  have hown : s.vm.findClass R_F = some m.cls := hown
  have hw : ∀ x ∈ WALL, x.before _ s = true := fun x h => hts x (List.mem_cons_of_mem _ h)
  have hl : lv_has ls 8 [(0, .ref x0), (1, .int x), (2, .int kk), (3, .long k), (5, .int vk), (6, .long vn)] := hl
  refine lv_aload_n hx hb d_F_put_0 rfl (lv_at hl 0 rfl) ?_
  refine va_get (D := (dC, dI)) (ci := 0) (v := .ref tr) (C := R_F) (T := T_F) (N := 4) hx hb hw in_F hown hK hP 0 rfl rfl 0 (by decide) (hw _ m_83) (fun _ h9 => h9) rfl d_F_put_1 ?_
  refine lv_iload_n hx hb d_F_put_4 rfl (lv_at hl 1 rfl) ?_
  refine QryI.callV (ci := 1) (q0 := 0) (c_has l dC dI cI cL cB tr y1 y2 y3 y4 y5 nT x (by omega)) ⟨hx, hb, hml, hown, hw⟩ (fz_cwV 1 hw m_132 m_129 m_130 m_131 m_2 rfl rfl (by decide +kernel) ⟨Nat.le_of_ble_eq_true rfl, Nat.le_of_ble_eq_true rfl⟩) hK hP [1] rfl rfl rfl rfl rfl hl.1 rfl (Nat.le_of_ble_eq_true rfl) d_F_put_5 ⟨(by (try dsimp only); omega), (by (try dsimp only); omega)⟩ (fun r5 h5 => ?_)
  obtain ⟨b5, hb5, e5, hok5⟩ := h5
  subst e5
  refine lv_if_eq (tgt := 26) hx hb d_F_put_8 (by decide) (fun c8 => ?_) (fun c8 => ?_)
  · have c8 : b5 = 0 := (nI_eq (by omega) (by omega)).mp (c8.trans nI_0.symm)
    refine lv_iconst (v := -1) hx hb d_F_put_26 (by decide) ?_
    have eF : (fPut nT a x kk k vk vn) = (-1, a) := ifc_neg (fun h => absurd (hok5.mpr h.1) (by omega))
    have eg : gF g (aN ((fPut nT a x kk k vk vn).2)) = g := by rw [eF]; exact gF_same hg hn4 hnL
    have hP : va_P (dC, dI) classes [(x0, .inr (0, [.ref tr, .ref f, .int (nI ck), .long cn])), (tr, .inr (1, [.int (nI nT), .ref y1, .ref y2, .ref y3, .ref y4, .ref y5])), (y1, .inl (cI, hz_R gt, .inl (nf fi))), (y2, .inl (cI, hz_R gt, .inl (nf la))), (y3, .inl (cI, hz_R gt, .inl (nf kc))), (y4, .inl (cI, hz_R gt, .inl (nf vc))), (y5, .inl (cI, hz_R gt, .inl (nf bo))), (f, .inr (2, [.int (nI (aN (fPut nT a x kk k vk vn).2)), .ref a1, .ref a2, .ref a3, .ref a4, .ref a5, .ref a6])), (a1, .inl (cI, hz_L (gF g (aN ((fPut nT a x kk k vk vn).2))), .inl (nf ow))), (a2, .inl (cL, hz_L (gF g (aN ((fPut nT a x kk k vk vn).2))), .inr (.inl ky))), (a3, .inl (cB, hz_L (gF g (aN ((fPut nT a x kk k vk vn).2))), .inl (nf kd))), (a4, .inl (cL, hz_L (gF g (aN ((fPut nT a x kk k vk vn).2))), .inr (.inl nu))), (a5, .inl (cI, hz_L (gF g (aN ((fPut nT a x kk k vk vn).2))), .inl (nf fo))), (a6, .inl (cI, hz_M (gF g (aN ((fPut nT a x kk k vk vn).2))), .inl (nf sn)))] s.heap := by rw [eg, eF]; exact hP
    have hD : va_D A [(x0, .inr (0, [.ref tr, .ref f, .int (nI ck), .long cn])), (tr, .inr (1, [.int (nI nT), .ref y1, .ref y2, .ref y3, .ref y4, .ref y5])), (y1, .inl (cI, hz_R gt, .inl (nf fi))), (y2, .inl (cI, hz_R gt, .inl (nf la))), (y3, .inl (cI, hz_R gt, .inl (nf kc))), (y4, .inl (cI, hz_R gt, .inl (nf vc))), (y5, .inl (cI, hz_R gt, .inl (nf bo))), (f, .inr (2, [.int (nI (aN (fPut nT a x kk k vk vn).2)), .ref a1, .ref a2, .ref a3, .ref a4, .ref a5, .ref a6])), (a1, .inl (cI, hz_L (gF g (aN ((fPut nT a x kk k vk vn).2))), .inl (nf ow))), (a2, .inl (cL, hz_L (gF g (aN ((fPut nT a x kk k vk vn).2))), .inr (.inl ky))), (a3, .inl (cB, hz_L (gF g (aN ((fPut nT a x kk k vk vn).2))), .inl (nf kd))), (a4, .inl (cL, hz_L (gF g (aN ((fPut nT a x kk k vk vn).2))), .inr (.inl nu))), (a5, .inl (cI, hz_L (gF g (aN ((fPut nT a x kk k vk vn).2))), .inl (nf fo))), (a6, .inl (cI, hz_M (gF g (aN ((fPut nT a x kk k vk vn).2))), .inl (nf sn)))] := by rw [eg, eF]; exact hD
    refine W.widen (k := 6 * (gF g (aN ((fPut nT a x kk k vk vn).2)) - g)) (n := Gs (gF g (aN ((fPut nT a x kk k vk vn).2))) - Gs g) (by omega) (by omega) ?_
    have hpost : (-1) = (fPut nT a x kk k vk vn).1 ∧ CI nT ((fPut nT a x kk k vk vn).2) (gF g (aN ((fPut nT a x kk k vk vn).2))) gt ow ky kd nu fo sn fi la kc vc bo := ⟨by rw [eF], by rw [eg, eF]; exact hCI⟩
    exact hret (-1) (a1, a2, a3, a4, a5, a6, fi, la, kc, vc, bo, ow, ky, kd, nu, fo, sn) _ _ 27 ls hpost hP hD hS d_F_put_27
  · have c8 : ¬ b5 = 0 := fun h => c8 (((nI_eq (by omega) (by omega)).mpr h).trans nI_0)
    refine lv_iload_n hx hb d_F_put_11 rfl (lv_at hl 2 rfl) ?_
    refine QryI.callS (c_isKeyKind l dC dI cI cL cB kk ) ⟨hx, hb, hml, hown, hw⟩ (fz_cwS 1 hw m_135 m_133 m_134 m_1 rfl rfl (by decide +kernel) ⟨Nat.le_of_ble_eq_true rfl, Nat.le_of_ble_eq_true rfl⟩) hK hP [] rfl rfl hl.1 rfl (Nat.le_of_ble_eq_true rfl) d_F_put_12 ⟨(by (try dsimp only); omega), (by (try dsimp only); omega)⟩ (fun r12 h12 => ?_)
    obtain ⟨b12, hb12, e12, hok12⟩ := h12
    subst e12
    refine lv_if_eq (tgt := 26) hx hb d_F_put_15 (by decide) (fun c15 => ?_) (fun c15 => ?_)
    · have c15 : b12 = 0 := (nI_eq (by omega) (by omega)).mp (c15.trans nI_0.symm)
      refine lv_iconst (v := -1) hx hb d_F_put_26 (by decide) ?_
      have eF : (fPut nT a x kk k vk vn) = (-1, a) := ifc_neg (fun h => absurd (hok12.mpr h.2.1) (by omega))
      have eg : gF g (aN ((fPut nT a x kk k vk vn).2)) = g := by rw [eF]; exact gF_same hg hn4 hnL
      have hP : va_P (dC, dI) classes [(x0, .inr (0, [.ref tr, .ref f, .int (nI ck), .long cn])), (tr, .inr (1, [.int (nI nT), .ref y1, .ref y2, .ref y3, .ref y4, .ref y5])), (y1, .inl (cI, hz_R gt, .inl (nf fi))), (y2, .inl (cI, hz_R gt, .inl (nf la))), (y3, .inl (cI, hz_R gt, .inl (nf kc))), (y4, .inl (cI, hz_R gt, .inl (nf vc))), (y5, .inl (cI, hz_R gt, .inl (nf bo))), (f, .inr (2, [.int (nI (aN (fPut nT a x kk k vk vn).2)), .ref a1, .ref a2, .ref a3, .ref a4, .ref a5, .ref a6])), (a1, .inl (cI, hz_L (gF g (aN ((fPut nT a x kk k vk vn).2))), .inl (nf ow))), (a2, .inl (cL, hz_L (gF g (aN ((fPut nT a x kk k vk vn).2))), .inr (.inl ky))), (a3, .inl (cB, hz_L (gF g (aN ((fPut nT a x kk k vk vn).2))), .inl (nf kd))), (a4, .inl (cL, hz_L (gF g (aN ((fPut nT a x kk k vk vn).2))), .inr (.inl nu))), (a5, .inl (cI, hz_L (gF g (aN ((fPut nT a x kk k vk vn).2))), .inl (nf fo))), (a6, .inl (cI, hz_M (gF g (aN ((fPut nT a x kk k vk vn).2))), .inl (nf sn)))] s.heap := by rw [eg, eF]; exact hP
      have hD : va_D A [(x0, .inr (0, [.ref tr, .ref f, .int (nI ck), .long cn])), (tr, .inr (1, [.int (nI nT), .ref y1, .ref y2, .ref y3, .ref y4, .ref y5])), (y1, .inl (cI, hz_R gt, .inl (nf fi))), (y2, .inl (cI, hz_R gt, .inl (nf la))), (y3, .inl (cI, hz_R gt, .inl (nf kc))), (y4, .inl (cI, hz_R gt, .inl (nf vc))), (y5, .inl (cI, hz_R gt, .inl (nf bo))), (f, .inr (2, [.int (nI (aN (fPut nT a x kk k vk vn).2)), .ref a1, .ref a2, .ref a3, .ref a4, .ref a5, .ref a6])), (a1, .inl (cI, hz_L (gF g (aN ((fPut nT a x kk k vk vn).2))), .inl (nf ow))), (a2, .inl (cL, hz_L (gF g (aN ((fPut nT a x kk k vk vn).2))), .inr (.inl ky))), (a3, .inl (cB, hz_L (gF g (aN ((fPut nT a x kk k vk vn).2))), .inl (nf kd))), (a4, .inl (cL, hz_L (gF g (aN ((fPut nT a x kk k vk vn).2))), .inr (.inl nu))), (a5, .inl (cI, hz_L (gF g (aN ((fPut nT a x kk k vk vn).2))), .inl (nf fo))), (a6, .inl (cI, hz_M (gF g (aN ((fPut nT a x kk k vk vn).2))), .inl (nf sn)))] := by rw [eg, eF]; exact hD
      refine W.widen (k := 6 * (gF g (aN ((fPut nT a x kk k vk vn).2)) - g)) (n := Gs (gF g (aN ((fPut nT a x kk k vk vn).2))) - Gs g) (by omega) (by omega) ?_
      have hpost : (-1) = (fPut nT a x kk k vk vn).1 ∧ CI nT ((fPut nT a x kk k vk vn).2) (gF g (aN ((fPut nT a x kk k vk vn).2))) gt ow ky kd nu fo sn fi la kc vc bo := ⟨by rw [eF], by rw [eg, eF]; exact hCI⟩
      exact hret (-1) (a1, a2, a3, a4, a5, a6, fi, la, kc, vc, bo, ow, ky, kd, nu, fo, sn) _ _ 27 ls hpost hP hD hS d_F_put_27
    · have c15 : ¬ b12 = 0 := fun h => c15 (((nI_eq (by omega) (by omega)).mpr h).trans nI_0)
      refine lv_iload hx hb d_F_put_18 (lv_at hl 4 rfl) ?_
      refine QryI.callS (c_isKind l dC dI cI cL cB vk ) ⟨hx, hb, hml, hown, hw⟩ (fz_cwS 1 hw m_138 m_136 m_137 m_1 rfl rfl (by decide +kernel) ⟨Nat.le_of_ble_eq_true rfl, Nat.le_of_ble_eq_true rfl⟩) hK hP [] rfl rfl hl.1 rfl (Nat.le_of_ble_eq_true rfl) d_F_put_20 ⟨(by (try dsimp only); omega), (by (try dsimp only); omega)⟩ (fun r20 h20 => ?_)
      obtain ⟨b20, hb20, e20, hok20⟩ := h20
      subst e20
      refine lv_if_ne (tgt := 28) hx hb d_F_put_23 (by decide) (fun c23 => ?_) (fun c23 => ?_)
      · have c23 : ¬ b20 = 0 := fun h => c23 (((nI_eq (by omega) (by omega)).mpr h).trans nI_0)
        obtain ⟨t, ht1, ht2, ext⟩ := hok5.mp (by omega)
        rw [ext] at hl
        obtain ⟨j, hj1, hj2, exj⟩ := hok12.mp (by omega)
        rw [exj] at hl
        obtain ⟨d, hd2, exd⟩ := hok20.mp (by omega)
        rw [exd] at hl
        have eG : (fPut nT a x kk k vk vn) = fPutG a (t * 8 + j) k d vn := (by unfold fPut; rw [ifc_pos ⟨hok5.mp (by omega), hok12.mp (by omega), hok20.mp (by omega)⟩, ext, exj, exd, tN_nI (by omega), tN_nI (by omega), tN_nI (by omega)])
        refine lv_iload hx hb d_F_put_28 (lv_at hl 4 rfl) ?_
        refine lv_if_eq (tgt := 59) hx hb d_F_put_30 (by decide) (fun c30 => ?_) (fun c30 => ?_)
        · have c30 : d = 0 := (nI_eq (by omega) (by omega)).mp (c30.trans nI_0.symm)
          refine lv_aload_n hx hb d_F_put_59 rfl (lv_at hl 0 rfl) ?_
          refine lv_iload_n hx hb d_F_put_60 rfl (lv_at hl 1 rfl) ?_
          refine lv_iload_n hx hb d_F_put_61 rfl (lv_at hl 2 rfl) ?_
          refine lv_lload_n hx hb d_F_put_62 rfl (lv_at hl 3 rfl) ?_
          refine lv_iload hx hb d_F_put_63 (lv_at hl 4 rfl) ?_
          refine lv_lload hx hb d_F_put_65 (lv_at hl 5 rfl) ?_
          have eF : (fPut nT a x kk k vk vn) = (nI (comeA a (t * 8 + j) k d), giveA a (t * 8 + j) k d vn) := eG.trans (if_neg (fun h => h.1 c30))
          refine StdI.callV (ci := 0) (q0 := 0) (wr := []) (c_give l dC dI cI cL cB x0 tr f y1 y2 y3 y4 y5 a1 a2 a3 a4 a5 a6 ck nT g gt cn a fi la kc vc bo ow ky kd nu fo sn t j d k vn hCI (by omega) (by omega) (by omega) (by omega) (by omega) (by rw [c30, comeA_k0]; omega)) ⟨hx, hb, hml, hown, hw⟩ (fz_cwV 5 hw m_164 m_161 m_163 ms_2 m_1 rfl rfl (by decide +kernel) ⟨Nat.le_of_ble_eq_true rfl, Nat.le_of_ble_eq_true rfl⟩) hK hP hD hS hA [0, 1, 2, 3, 4, 5, 6, 7, 8, 9, 10, 11, 12, 13] [] rfl rfl (by decide) (by decide) (by decide) rfl rfl rfl rfl hl.1 rfl (Nat.le_of_ble_eq_true rfl) d_F_put_67 ⟨(by dsimp only; rw [eF]; dsimp only; omega), (by dsimp only; rw [eF]; dsimp only; omega)⟩ (fun r67 u67 H locs h67 hP hD hS => ?_)
          obtain ⟨b167, b267, b367, b467, b567, b667, fi267, la267, kc267, vc267, bo267, ow267, ky267, kd267, nu267, fo267, sn267⟩ := u67
          try dsimp only at h67
          have hP : va_P (dC, dI) classes [(x0, .inr (0, [.ref tr, .ref f, .int (nI ck), .long cn])), (tr, .inr (1, [.int (nI nT), .ref y1, .ref y2, .ref y3, .ref y4, .ref y5])), (y1, .inl (cI, hz_R gt, .inl (nf fi267))), (y2, .inl (cI, hz_R gt, .inl (nf la267))), (y3, .inl (cI, hz_R gt, .inl (nf kc267))), (y4, .inl (cI, hz_R gt, .inl (nf vc267))), (y5, .inl (cI, hz_R gt, .inl (nf bo267))), (f, .inr (2, [.int (nI (aN (giveA a (t * 8 + j) k d vn))), .ref b167, .ref b267, .ref b367, .ref b467, .ref b567, .ref b667])), (b167, .inl (cI, hz_L (gF g (aN (giveA a (t * 8 + j) k d vn))), .inl (nf ow267))), (b267, .inl (cL, hz_L (gF g (aN (giveA a (t * 8 + j) k d vn))), .inr (.inl ky267))), (b367, .inl (cB, hz_L (gF g (aN (giveA a (t * 8 + j) k d vn))), .inl (nf kd267))), (b467, .inl (cL, hz_L (gF g (aN (giveA a (t * 8 + j) k d vn))), .inr (.inl nu267))), (b567, .inl (cI, hz_L (gF g (aN (giveA a (t * 8 + j) k d vn))), .inl (nf fo267))), (b667, .inl (cI, hz_M (gF g (aN (giveA a (t * 8 + j) k d vn))), .inl (nf sn267)))] H := hP
          have hD : va_D A [(x0, .inr (0, [.ref tr, .ref f, .int (nI ck), .long cn])), (tr, .inr (1, [.int (nI nT), .ref y1, .ref y2, .ref y3, .ref y4, .ref y5])), (y1, .inl (cI, hz_R gt, .inl (nf fi267))), (y2, .inl (cI, hz_R gt, .inl (nf la267))), (y3, .inl (cI, hz_R gt, .inl (nf kc267))), (y4, .inl (cI, hz_R gt, .inl (nf vc267))), (y5, .inl (cI, hz_R gt, .inl (nf bo267))), (f, .inr (2, [.int (nI (aN (giveA a (t * 8 + j) k d vn))), .ref b167, .ref b267, .ref b367, .ref b467, .ref b567, .ref b667])), (b167, .inl (cI, hz_L (gF g (aN (giveA a (t * 8 + j) k d vn))), .inl (nf ow267))), (b267, .inl (cL, hz_L (gF g (aN (giveA a (t * 8 + j) k d vn))), .inr (.inl ky267))), (b367, .inl (cB, hz_L (gF g (aN (giveA a (t * 8 + j) k d vn))), .inl (nf kd267))), (b467, .inl (cL, hz_L (gF g (aN (giveA a (t * 8 + j) k d vn))), .inr (.inl nu267))), (b567, .inl (cI, hz_L (gF g (aN (giveA a (t * 8 + j) k d vn))), .inl (nf fo267))), (b667, .inl (cI, hz_M (gF g (aN (giveA a (t * 8 + j) k d vn))), .inl (nf sn267)))] := hD
          refine W.widen (k := 6 * (gF g (aN (giveA a (t * 8 + j) k d vn)) - g)) (n := Gs (gF g (aN (giveA a (t * 8 + j) k d vn))) - Gs g) (by omega) (by omega) ?_
          have eF : (fPut nT a x kk k vk vn) = (nI (comeA a (t * 8 + j) k d), giveA a (t * 8 + j) k d vn) := eG.trans (if_neg (fun h => h.1 c30))
          have hP : va_P (dC, dI) classes [(x0, .inr (0, [.ref tr, .ref f, .int (nI ck), .long cn])), (tr, .inr (1, [.int (nI nT), .ref y1, .ref y2, .ref y3, .ref y4, .ref y5])), (y1, .inl (cI, hz_R gt, .inl (nf fi267))), (y2, .inl (cI, hz_R gt, .inl (nf la267))), (y3, .inl (cI, hz_R gt, .inl (nf kc267))), (y4, .inl (cI, hz_R gt, .inl (nf vc267))), (y5, .inl (cI, hz_R gt, .inl (nf bo267))), (f, .inr (2, [.int (nI (aN (fPut nT a x kk k vk vn).2)), .ref b167, .ref b267, .ref b367, .ref b467, .ref b567, .ref b667])), (b167, .inl (cI, hz_L (gF g (aN ((fPut nT a x kk k vk vn).2))), .inl (nf ow267))), (b267, .inl (cL, hz_L (gF g (aN ((fPut nT a x kk k vk vn).2))), .inr (.inl ky267))), (b367, .inl (cB, hz_L (gF g (aN ((fPut nT a x kk k vk vn).2))), .inl (nf kd267))), (b467, .inl (cL, hz_L (gF g (aN ((fPut nT a x kk k vk vn).2))), .inr (.inl nu267))), (b567, .inl (cI, hz_L (gF g (aN ((fPut nT a x kk k vk vn).2))), .inl (nf fo267))), (b667, .inl (cI, hz_M (gF g (aN ((fPut nT a x kk k vk vn).2))), .inl (nf sn267)))] H := by rw [eF]; exact hP
          have hD : va_D A [(x0, .inr (0, [.ref tr, .ref f, .int (nI ck), .long cn])), (tr, .inr (1, [.int (nI nT), .ref y1, .ref y2, .ref y3, .ref y4, .ref y5])), (y1, .inl (cI, hz_R gt, .inl (nf fi267))), (y2, .inl (cI, hz_R gt, .inl (nf la267))), (y3, .inl (cI, hz_R gt, .inl (nf kc267))), (y4, .inl (cI, hz_R gt, .inl (nf vc267))), (y5, .inl (cI, hz_R gt, .inl (nf bo267))), (f, .inr (2, [.int (nI (aN (fPut nT a x kk k vk vn).2)), .ref b167, .ref b267, .ref b367, .ref b467, .ref b567, .ref b667])), (b167, .inl (cI, hz_L (gF g (aN ((fPut nT a x kk k vk vn).2))), .inl (nf ow267))), (b267, .inl (cL, hz_L (gF g (aN ((fPut nT a x kk k vk vn).2))), .inr (.inl ky267))), (b367, .inl (cB, hz_L (gF g (aN ((fPut nT a x kk k vk vn).2))), .inl (nf kd267))), (b467, .inl (cL, hz_L (gF g (aN ((fPut nT a x kk k vk vn).2))), .inr (.inl nu267))), (b567, .inl (cI, hz_L (gF g (aN ((fPut nT a x kk k vk vn).2))), .inl (nf fo267))), (b667, .inl (cI, hz_M (gF g (aN ((fPut nT a x kk k vk vn).2))), .inl (nf sn267)))] := by rw [eF]; exact hD
          refine W.widen (k := 6 * (gF g (aN ((fPut nT a x kk k vk vn).2)) - g)) (n := Gs (gF g (aN ((fPut nT a x kk k vk vn).2))) - Gs g) (by rw [eF]; dsimp only; omega) (by rw [eF]; dsimp only; omega) ?_
          have hpost : r67 = (fPut nT a x kk k vk vn).1 ∧ CI nT ((fPut nT a x kk k vk vn).2) (gF g (aN ((fPut nT a x kk k vk vn).2))) gt ow267 ky267 kd267 nu267 fo267 sn267 fi267 la267 kc267 vc267 bo267 := ⟨by rw [eF]; exact h67.1, by rw [eF]; exact h67.2⟩
          exact hret r67 (b167, b267, b367, b467, b567, b667, fi267, la267, kc267, vc267, bo267, ow267, ky267, kd267, nu267, fo267, sn267) _ _ 70 ls hpost hP hD hS d_F_put_70
        · have c30 : ¬ d = 0 := fun h => c30 (((nI_eq (by omega) (by omega)).mpr h).trans nI_0)
          refine lv_aload_n hx hb d_F_put_33 rfl (lv_at hl 0 rfl) ?_
          refine va_get (D := (dC, dI)) (ci := 0) (v := .ref f) (C := R_F) (T := T_F) (N := 4) hx hb hw in_F hown hK hP 0 rfl rfl 1 (by decide) (hw _ m_84) (fun _ h9 => h9) rfl d_F_put_34 ?_
          refine QryI.callV (ci := 2) (q0 := 0) (c_room l dC dI cI cL cB f a1 a2 a3 a4 a5 a6 (aN a) (by omega)) ⟨hx, hb, hml, hown, hw⟩ (fz_cwV 0 hw m_142 m_139 m_140 m_141 m_3 rfl rfl (by decide +kernel) ⟨Nat.le_of_ble_eq_true rfl, Nat.le_of_ble_eq_true rfl⟩) hK hP [7] rfl rfl rfl rfl rfl hl.1 rfl (Nat.le_of_ble_eq_true rfl) d_F_put_37 ⟨(by (try dsimp only); omega), (by (try dsimp only); omega)⟩ (fun r37 h37 => ?_)
          subst h37
          refine lv_if_ne (tgt := 59) hx hb d_F_put_40 (by decide) (fun c40 => ?_) (fun c40 => ?_)
          · have c40 : ¬ 40000 - aN a = 0 := fun h => c40 (((nI_eq (by omega) (by omega)).mpr h).trans nI_0)
            refine lv_aload_n hx hb d_F_put_59 rfl (lv_at hl 0 rfl) ?_
            refine lv_iload_n hx hb d_F_put_60 rfl (lv_at hl 1 rfl) ?_
            refine lv_iload_n hx hb d_F_put_61 rfl (lv_at hl 2 rfl) ?_
            refine lv_lload_n hx hb d_F_put_62 rfl (lv_at hl 3 rfl) ?_
            refine lv_iload hx hb d_F_put_63 (lv_at hl 4 rfl) ?_
            refine lv_lload hx hb d_F_put_65 (lv_at hl 5 rfl) ?_
            have eF : (fPut nT a x kk k vk vn) = (nI (comeA a (t * 8 + j) k d), giveA a (t * 8 + j) k d vn) := eG.trans (if_neg (fun h => c40 (by omega)))
            refine StdI.callV (ci := 0) (q0 := 0) (wr := []) (c_give l dC dI cI cL cB x0 tr f y1 y2 y3 y4 y5 a1 a2 a3 a4 a5 a6 ck nT g gt cn a fi la kc vc bo ow ky kd nu fo sn t j d k vn hCI (by omega) (by omega) (by omega) (by omega) (by omega) (by have := comeA_le a (t * 8 + j) k d; omega)) ⟨hx, hb, hml, hown, hw⟩ (fz_cwV 5 hw m_164 m_161 m_163 ms_2 m_1 rfl rfl (by decide +kernel) ⟨Nat.le_of_ble_eq_true rfl, Nat.le_of_ble_eq_true rfl⟩) hK hP hD hS hA [0, 1, 2, 3, 4, 5, 6, 7, 8, 9, 10, 11, 12, 13] [] rfl rfl (by decide) (by decide) (by decide) rfl rfl rfl rfl hl.1 rfl (Nat.le_of_ble_eq_true rfl) d_F_put_67 ⟨(by dsimp only; rw [eF]; dsimp only; omega), (by dsimp only; rw [eF]; dsimp only; omega)⟩ (fun r67 u67 H locs h67 hP hD hS => ?_)
            obtain ⟨b167, b267, b367, b467, b567, b667, fi267, la267, kc267, vc267, bo267, ow267, ky267, kd267, nu267, fo267, sn267⟩ := u67
            try dsimp only at h67
            have hP : va_P (dC, dI) classes [(x0, .inr (0, [.ref tr, .ref f, .int (nI ck), .long cn])), (tr, .inr (1, [.int (nI nT), .ref y1, .ref y2, .ref y3, .ref y4, .ref y5])), (y1, .inl (cI, hz_R gt, .inl (nf fi267))), (y2, .inl (cI, hz_R gt, .inl (nf la267))), (y3, .inl (cI, hz_R gt, .inl (nf kc267))), (y4, .inl (cI, hz_R gt, .inl (nf vc267))), (y5, .inl (cI, hz_R gt, .inl (nf bo267))), (f, .inr (2, [.int (nI (aN (giveA a (t * 8 + j) k d vn))), .ref b167, .ref b267, .ref b367, .ref b467, .ref b567, .ref b667])), (b167, .inl (cI, hz_L (gF g (aN (giveA a (t * 8 + j) k d vn))), .inl (nf ow267))), (b267, .inl (cL, hz_L (gF g (aN (giveA a (t * 8 + j) k d vn))), .inr (.inl ky267))), (b367, .inl (cB, hz_L (gF g (aN (giveA a (t * 8 + j) k d vn))), .inl (nf kd267))), (b467, .inl (cL, hz_L (gF g (aN (giveA a (t * 8 + j) k d vn))), .inr (.inl nu267))), (b567, .inl (cI, hz_L (gF g (aN (giveA a (t * 8 + j) k d vn))), .inl (nf fo267))), (b667, .inl (cI, hz_M (gF g (aN (giveA a (t * 8 + j) k d vn))), .inl (nf sn267)))] H := hP
            have hD : va_D A [(x0, .inr (0, [.ref tr, .ref f, .int (nI ck), .long cn])), (tr, .inr (1, [.int (nI nT), .ref y1, .ref y2, .ref y3, .ref y4, .ref y5])), (y1, .inl (cI, hz_R gt, .inl (nf fi267))), (y2, .inl (cI, hz_R gt, .inl (nf la267))), (y3, .inl (cI, hz_R gt, .inl (nf kc267))), (y4, .inl (cI, hz_R gt, .inl (nf vc267))), (y5, .inl (cI, hz_R gt, .inl (nf bo267))), (f, .inr (2, [.int (nI (aN (giveA a (t * 8 + j) k d vn))), .ref b167, .ref b267, .ref b367, .ref b467, .ref b567, .ref b667])), (b167, .inl (cI, hz_L (gF g (aN (giveA a (t * 8 + j) k d vn))), .inl (nf ow267))), (b267, .inl (cL, hz_L (gF g (aN (giveA a (t * 8 + j) k d vn))), .inr (.inl ky267))), (b367, .inl (cB, hz_L (gF g (aN (giveA a (t * 8 + j) k d vn))), .inl (nf kd267))), (b467, .inl (cL, hz_L (gF g (aN (giveA a (t * 8 + j) k d vn))), .inr (.inl nu267))), (b567, .inl (cI, hz_L (gF g (aN (giveA a (t * 8 + j) k d vn))), .inl (nf fo267))), (b667, .inl (cI, hz_M (gF g (aN (giveA a (t * 8 + j) k d vn))), .inl (nf sn267)))] := hD
            refine W.widen (k := 6 * (gF g (aN (giveA a (t * 8 + j) k d vn)) - g)) (n := Gs (gF g (aN (giveA a (t * 8 + j) k d vn))) - Gs g) (by omega) (by omega) ?_
            have eF : (fPut nT a x kk k vk vn) = (nI (comeA a (t * 8 + j) k d), giveA a (t * 8 + j) k d vn) := eG.trans (if_neg (fun h => c40 (by omega)))
            have hP : va_P (dC, dI) classes [(x0, .inr (0, [.ref tr, .ref f, .int (nI ck), .long cn])), (tr, .inr (1, [.int (nI nT), .ref y1, .ref y2, .ref y3, .ref y4, .ref y5])), (y1, .inl (cI, hz_R gt, .inl (nf fi267))), (y2, .inl (cI, hz_R gt, .inl (nf la267))), (y3, .inl (cI, hz_R gt, .inl (nf kc267))), (y4, .inl (cI, hz_R gt, .inl (nf vc267))), (y5, .inl (cI, hz_R gt, .inl (nf bo267))), (f, .inr (2, [.int (nI (aN (fPut nT a x kk k vk vn).2)), .ref b167, .ref b267, .ref b367, .ref b467, .ref b567, .ref b667])), (b167, .inl (cI, hz_L (gF g (aN ((fPut nT a x kk k vk vn).2))), .inl (nf ow267))), (b267, .inl (cL, hz_L (gF g (aN ((fPut nT a x kk k vk vn).2))), .inr (.inl ky267))), (b367, .inl (cB, hz_L (gF g (aN ((fPut nT a x kk k vk vn).2))), .inl (nf kd267))), (b467, .inl (cL, hz_L (gF g (aN ((fPut nT a x kk k vk vn).2))), .inr (.inl nu267))), (b567, .inl (cI, hz_L (gF g (aN ((fPut nT a x kk k vk vn).2))), .inl (nf fo267))), (b667, .inl (cI, hz_M (gF g (aN ((fPut nT a x kk k vk vn).2))), .inl (nf sn267)))] H := by rw [eF]; exact hP
            have hD : va_D A [(x0, .inr (0, [.ref tr, .ref f, .int (nI ck), .long cn])), (tr, .inr (1, [.int (nI nT), .ref y1, .ref y2, .ref y3, .ref y4, .ref y5])), (y1, .inl (cI, hz_R gt, .inl (nf fi267))), (y2, .inl (cI, hz_R gt, .inl (nf la267))), (y3, .inl (cI, hz_R gt, .inl (nf kc267))), (y4, .inl (cI, hz_R gt, .inl (nf vc267))), (y5, .inl (cI, hz_R gt, .inl (nf bo267))), (f, .inr (2, [.int (nI (aN (fPut nT a x kk k vk vn).2)), .ref b167, .ref b267, .ref b367, .ref b467, .ref b567, .ref b667])), (b167, .inl (cI, hz_L (gF g (aN ((fPut nT a x kk k vk vn).2))), .inl (nf ow267))), (b267, .inl (cL, hz_L (gF g (aN ((fPut nT a x kk k vk vn).2))), .inr (.inl ky267))), (b367, .inl (cB, hz_L (gF g (aN ((fPut nT a x kk k vk vn).2))), .inl (nf kd267))), (b467, .inl (cL, hz_L (gF g (aN ((fPut nT a x kk k vk vn).2))), .inr (.inl nu267))), (b567, .inl (cI, hz_L (gF g (aN ((fPut nT a x kk k vk vn).2))), .inl (nf fo267))), (b667, .inl (cI, hz_M (gF g (aN ((fPut nT a x kk k vk vn).2))), .inl (nf sn267)))] := by rw [eF]; exact hD
            refine W.widen (k := 6 * (gF g (aN ((fPut nT a x kk k vk vn).2)) - g)) (n := Gs (gF g (aN ((fPut nT a x kk k vk vn).2))) - Gs g) (by rw [eF]; dsimp only; omega) (by rw [eF]; dsimp only; omega) ?_
            have hpost : r67 = (fPut nT a x kk k vk vn).1 ∧ CI nT ((fPut nT a x kk k vk vn).2) (gF g (aN ((fPut nT a x kk k vk vn).2))) gt ow267 ky267 kd267 nu267 fo267 sn267 fi267 la267 kc267 vc267 bo267 := ⟨by rw [eF]; exact h67.1, by rw [eF]; exact h67.2⟩
            exact hret r67 (b167, b267, b367, b467, b567, b667, fi267, la267, kc267, vc267, bo267, ow267, ky267, kd267, nu267, fo267, sn267) _ _ 70 ls hpost hP hD hS d_F_put_70
          · have c40 : 40000 - aN a = 0 := (nI_eq (by omega) (by omega)).mp (c40.trans nI_0.symm)
            refine lv_aload_n hx hb d_F_put_43 rfl (lv_at hl 0 rfl) ?_
            refine va_get (D := (dC, dI)) (ci := 0) (v := .ref f) (C := R_F) (T := T_F) (N := 4) hx hb hw in_F hown hK hP 0 rfl rfl 1 (by decide) (hw _ m_84) (fun _ h9 => h9) rfl d_F_put_44 ?_
            refine lv_iload_n hx hb d_F_put_47 rfl (lv_at hl 1 rfl) ?_
            refine lv_iload_n hx hb d_F_put_48 rfl (lv_at hl 2 rfl) ?_
            refine lv_lload_n hx hb d_F_put_49 rfl (lv_at hl 3 rfl) ?_
            refine QryI.callV (ci := 2) (q0 := 0) (c_find l dC dI cI cL cB f a1 a2 a3 a4 a5 a6 (aN a) (hz_L g) (hz_M g) (7 + 2 * g) (aN a) t j k ow sn ky (by omega) (by omega) rfl (by omega) (by omega) (by omega) (by omega) hO hU hT) ⟨hx, hb, hml, hown, hw⟩ (fz_cwV 3 hw m_147 m_144 m_145 m_146 m_3 rfl rfl (by decide +kernel) ⟨Nat.le_of_ble_eq_true rfl, Nat.le_of_ble_eq_true rfl⟩) hK hP [7, 8, 9, 13] rfl rfl rfl rfl rfl hl.1 rfl (Nat.le_of_ble_eq_true rfl) d_F_put_50 ⟨(by (try dsimp only); omega), (by (try dsimp only); omega)⟩ (fun r50 h50 => ?_)
            rw [hCS.F] at h50
            subst h50
            have hfl := aF_le a (t * 8 + j) k
            refine lv_if_ne (tgt := 59) hx hb d_F_put_53 (by decide) (fun c53 => ?_) (fun c53 => ?_)
            · have c53 : ¬ aF a (t * 8 + j) k = 0 := fun h => c53 (((nI_eq (by omega) (by omega)).mpr h).trans nI_0)
              refine lv_aload_n hx hb d_F_put_59 rfl (lv_at hl 0 rfl) ?_
              refine lv_iload_n hx hb d_F_put_60 rfl (lv_at hl 1 rfl) ?_
              refine lv_iload_n hx hb d_F_put_61 rfl (lv_at hl 2 rfl) ?_
              refine lv_lload_n hx hb d_F_put_62 rfl (lv_at hl 3 rfl) ?_
              refine lv_iload hx hb d_F_put_63 (lv_at hl 4 rfl) ?_
              refine lv_lload hx hb d_F_put_65 (lv_at hl 5 rfl) ?_
              have eF : (fPut nT a x kk k vk vn) = (nI (comeA a (t * 8 + j) k d), giveA a (t * 8 + j) k d vn) := eG.trans (if_neg (fun h => c53 h.2.2))
              refine StdI.callV (ci := 0) (q0 := 0) (wr := []) (c_give l dC dI cI cL cB x0 tr f y1 y2 y3 y4 y5 a1 a2 a3 a4 a5 a6 ck nT g gt cn a fi la kc vc bo ow ky kd nu fo sn t j d k vn hCI (by omega) (by omega) (by omega) (by omega) (by omega) (by rw [comeA_0 c53]; omega)) ⟨hx, hb, hml, hown, hw⟩ (fz_cwV 5 hw m_164 m_161 m_163 ms_2 m_1 rfl rfl (by decide +kernel) ⟨Nat.le_of_ble_eq_true rfl, Nat.le_of_ble_eq_true rfl⟩) hK hP hD hS hA [0, 1, 2, 3, 4, 5, 6, 7, 8, 9, 10, 11, 12, 13] [] rfl rfl (by decide) (by decide) (by decide) rfl rfl rfl rfl hl.1 rfl (Nat.le_of_ble_eq_true rfl) d_F_put_67 ⟨(by dsimp only; rw [eF]; dsimp only; omega), (by dsimp only; rw [eF]; dsimp only; omega)⟩ (fun r67 u67 H locs h67 hP hD hS => ?_)
              obtain ⟨b167, b267, b367, b467, b567, b667, fi267, la267, kc267, vc267, bo267, ow267, ky267, kd267, nu267, fo267, sn267⟩ := u67
              try dsimp only at h67
              have hP : va_P (dC, dI) classes [(x0, .inr (0, [.ref tr, .ref f, .int (nI ck), .long cn])), (tr, .inr (1, [.int (nI nT), .ref y1, .ref y2, .ref y3, .ref y4, .ref y5])), (y1, .inl (cI, hz_R gt, .inl (nf fi267))), (y2, .inl (cI, hz_R gt, .inl (nf la267))), (y3, .inl (cI, hz_R gt, .inl (nf kc267))), (y4, .inl (cI, hz_R gt, .inl (nf vc267))), (y5, .inl (cI, hz_R gt, .inl (nf bo267))), (f, .inr (2, [.int (nI (aN (giveA a (t * 8 + j) k d vn))), .ref b167, .ref b267, .ref b367, .ref b467, .ref b567, .ref b667])), (b167, .inl (cI, hz_L (gF g (aN (giveA a (t * 8 + j) k d vn))), .inl (nf ow267))), (b267, .inl (cL, hz_L (gF g (aN (giveA a (t * 8 + j) k d vn))), .inr (.inl ky267))), (b367, .inl (cB, hz_L (gF g (aN (giveA a (t * 8 + j) k d vn))), .inl (nf kd267))), (b467, .inl (cL, hz_L (gF g (aN (giveA a (t * 8 + j) k d vn))), .inr (.inl nu267))), (b567, .inl (cI, hz_L (gF g (aN (giveA a (t * 8 + j) k d vn))), .inl (nf fo267))), (b667, .inl (cI, hz_M (gF g (aN (giveA a (t * 8 + j) k d vn))), .inl (nf sn267)))] H := hP
              have hD : va_D A [(x0, .inr (0, [.ref tr, .ref f, .int (nI ck), .long cn])), (tr, .inr (1, [.int (nI nT), .ref y1, .ref y2, .ref y3, .ref y4, .ref y5])), (y1, .inl (cI, hz_R gt, .inl (nf fi267))), (y2, .inl (cI, hz_R gt, .inl (nf la267))), (y3, .inl (cI, hz_R gt, .inl (nf kc267))), (y4, .inl (cI, hz_R gt, .inl (nf vc267))), (y5, .inl (cI, hz_R gt, .inl (nf bo267))), (f, .inr (2, [.int (nI (aN (giveA a (t * 8 + j) k d vn))), .ref b167, .ref b267, .ref b367, .ref b467, .ref b567, .ref b667])), (b167, .inl (cI, hz_L (gF g (aN (giveA a (t * 8 + j) k d vn))), .inl (nf ow267))), (b267, .inl (cL, hz_L (gF g (aN (giveA a (t * 8 + j) k d vn))), .inr (.inl ky267))), (b367, .inl (cB, hz_L (gF g (aN (giveA a (t * 8 + j) k d vn))), .inl (nf kd267))), (b467, .inl (cL, hz_L (gF g (aN (giveA a (t * 8 + j) k d vn))), .inr (.inl nu267))), (b567, .inl (cI, hz_L (gF g (aN (giveA a (t * 8 + j) k d vn))), .inl (nf fo267))), (b667, .inl (cI, hz_M (gF g (aN (giveA a (t * 8 + j) k d vn))), .inl (nf sn267)))] := hD
              refine W.widen (k := 6 * (gF g (aN (giveA a (t * 8 + j) k d vn)) - g)) (n := Gs (gF g (aN (giveA a (t * 8 + j) k d vn))) - Gs g) (by omega) (by omega) ?_
              have eF : (fPut nT a x kk k vk vn) = (nI (comeA a (t * 8 + j) k d), giveA a (t * 8 + j) k d vn) := eG.trans (if_neg (fun h => c53 h.2.2))
              have hP : va_P (dC, dI) classes [(x0, .inr (0, [.ref tr, .ref f, .int (nI ck), .long cn])), (tr, .inr (1, [.int (nI nT), .ref y1, .ref y2, .ref y3, .ref y4, .ref y5])), (y1, .inl (cI, hz_R gt, .inl (nf fi267))), (y2, .inl (cI, hz_R gt, .inl (nf la267))), (y3, .inl (cI, hz_R gt, .inl (nf kc267))), (y4, .inl (cI, hz_R gt, .inl (nf vc267))), (y5, .inl (cI, hz_R gt, .inl (nf bo267))), (f, .inr (2, [.int (nI (aN (fPut nT a x kk k vk vn).2)), .ref b167, .ref b267, .ref b367, .ref b467, .ref b567, .ref b667])), (b167, .inl (cI, hz_L (gF g (aN ((fPut nT a x kk k vk vn).2))), .inl (nf ow267))), (b267, .inl (cL, hz_L (gF g (aN ((fPut nT a x kk k vk vn).2))), .inr (.inl ky267))), (b367, .inl (cB, hz_L (gF g (aN ((fPut nT a x kk k vk vn).2))), .inl (nf kd267))), (b467, .inl (cL, hz_L (gF g (aN ((fPut nT a x kk k vk vn).2))), .inr (.inl nu267))), (b567, .inl (cI, hz_L (gF g (aN ((fPut nT a x kk k vk vn).2))), .inl (nf fo267))), (b667, .inl (cI, hz_M (gF g (aN ((fPut nT a x kk k vk vn).2))), .inl (nf sn267)))] H := by rw [eF]; exact hP
              have hD : va_D A [(x0, .inr (0, [.ref tr, .ref f, .int (nI ck), .long cn])), (tr, .inr (1, [.int (nI nT), .ref y1, .ref y2, .ref y3, .ref y4, .ref y5])), (y1, .inl (cI, hz_R gt, .inl (nf fi267))), (y2, .inl (cI, hz_R gt, .inl (nf la267))), (y3, .inl (cI, hz_R gt, .inl (nf kc267))), (y4, .inl (cI, hz_R gt, .inl (nf vc267))), (y5, .inl (cI, hz_R gt, .inl (nf bo267))), (f, .inr (2, [.int (nI (aN (fPut nT a x kk k vk vn).2)), .ref b167, .ref b267, .ref b367, .ref b467, .ref b567, .ref b667])), (b167, .inl (cI, hz_L (gF g (aN ((fPut nT a x kk k vk vn).2))), .inl (nf ow267))), (b267, .inl (cL, hz_L (gF g (aN ((fPut nT a x kk k vk vn).2))), .inr (.inl ky267))), (b367, .inl (cB, hz_L (gF g (aN ((fPut nT a x kk k vk vn).2))), .inl (nf kd267))), (b467, .inl (cL, hz_L (gF g (aN ((fPut nT a x kk k vk vn).2))), .inr (.inl nu267))), (b567, .inl (cI, hz_L (gF g (aN ((fPut nT a x kk k vk vn).2))), .inl (nf fo267))), (b667, .inl (cI, hz_M (gF g (aN ((fPut nT a x kk k vk vn).2))), .inl (nf sn267)))] := by rw [eF]; exact hD
              refine W.widen (k := 6 * (gF g (aN ((fPut nT a x kk k vk vn).2)) - g)) (n := Gs (gF g (aN ((fPut nT a x kk k vk vn).2))) - Gs g) (by rw [eF]; dsimp only; omega) (by rw [eF]; dsimp only; omega) ?_
              have hpost : r67 = (fPut nT a x kk k vk vn).1 ∧ CI nT ((fPut nT a x kk k vk vn).2) (gF g (aN ((fPut nT a x kk k vk vn).2))) gt ow267 ky267 kd267 nu267 fo267 sn267 fi267 la267 kc267 vc267 bo267 := ⟨by rw [eF]; exact h67.1, by rw [eF]; exact h67.2⟩
              exact hret r67 (b167, b267, b367, b467, b567, b667, fi267, la267, kc267, vc267, bo267, ow267, ky267, kd267, nu267, fo267, sn267) _ _ 70 ls hpost hP hD hS d_F_put_70
            · have c53 : aF a (t * 8 + j) k = 0 := (nI_eq (by omega) (by omega)).mp (c53.trans nI_0.symm)
              refine lv_bipush (v := -3) hx hb d_F_put_56 (by decide) ?_
              have eF : (fPut nT a x kk k vk vn) = (-3, a) := eG.trans (if_pos ⟨c30, by omega, c53⟩)
              have eg : gF g (aN ((fPut nT a x kk k vk vn).2)) = g := by rw [eF]; exact gF_same hg hn4 hnL
              have hP : va_P (dC, dI) classes [(x0, .inr (0, [.ref tr, .ref f, .int (nI ck), .long cn])), (tr, .inr (1, [.int (nI nT), .ref y1, .ref y2, .ref y3, .ref y4, .ref y5])), (y1, .inl (cI, hz_R gt, .inl (nf fi))), (y2, .inl (cI, hz_R gt, .inl (nf la))), (y3, .inl (cI, hz_R gt, .inl (nf kc))), (y4, .inl (cI, hz_R gt, .inl (nf vc))), (y5, .inl (cI, hz_R gt, .inl (nf bo))), (f, .inr (2, [.int (nI (aN (fPut nT a x kk k vk vn).2)), .ref a1, .ref a2, .ref a3, .ref a4, .ref a5, .ref a6])), (a1, .inl (cI, hz_L (gF g (aN ((fPut nT a x kk k vk vn).2))), .inl (nf ow))), (a2, .inl (cL, hz_L (gF g (aN ((fPut nT a x kk k vk vn).2))), .inr (.inl ky))), (a3, .inl (cB, hz_L (gF g (aN ((fPut nT a x kk k vk vn).2))), .inl (nf kd))), (a4, .inl (cL, hz_L (gF g (aN ((fPut nT a x kk k vk vn).2))), .inr (.inl nu))), (a5, .inl (cI, hz_L (gF g (aN ((fPut nT a x kk k vk vn).2))), .inl (nf fo))), (a6, .inl (cI, hz_M (gF g (aN ((fPut nT a x kk k vk vn).2))), .inl (nf sn)))] s.heap := by rw [eg, eF]; exact hP
              have hD : va_D A [(x0, .inr (0, [.ref tr, .ref f, .int (nI ck), .long cn])), (tr, .inr (1, [.int (nI nT), .ref y1, .ref y2, .ref y3, .ref y4, .ref y5])), (y1, .inl (cI, hz_R gt, .inl (nf fi))), (y2, .inl (cI, hz_R gt, .inl (nf la))), (y3, .inl (cI, hz_R gt, .inl (nf kc))), (y4, .inl (cI, hz_R gt, .inl (nf vc))), (y5, .inl (cI, hz_R gt, .inl (nf bo))), (f, .inr (2, [.int (nI (aN (fPut nT a x kk k vk vn).2)), .ref a1, .ref a2, .ref a3, .ref a4, .ref a5, .ref a6])), (a1, .inl (cI, hz_L (gF g (aN ((fPut nT a x kk k vk vn).2))), .inl (nf ow))), (a2, .inl (cL, hz_L (gF g (aN ((fPut nT a x kk k vk vn).2))), .inr (.inl ky))), (a3, .inl (cB, hz_L (gF g (aN ((fPut nT a x kk k vk vn).2))), .inl (nf kd))), (a4, .inl (cL, hz_L (gF g (aN ((fPut nT a x kk k vk vn).2))), .inr (.inl nu))), (a5, .inl (cI, hz_L (gF g (aN ((fPut nT a x kk k vk vn).2))), .inl (nf fo))), (a6, .inl (cI, hz_M (gF g (aN ((fPut nT a x kk k vk vn).2))), .inl (nf sn)))] := by rw [eg, eF]; exact hD
              refine W.widen (k := 6 * (gF g (aN ((fPut nT a x kk k vk vn).2)) - g)) (n := Gs (gF g (aN ((fPut nT a x kk k vk vn).2))) - Gs g) (by omega) (by omega) ?_
              have hpost : (-3) = (fPut nT a x kk k vk vn).1 ∧ CI nT ((fPut nT a x kk k vk vn).2) (gF g (aN ((fPut nT a x kk k vk vn).2))) gt ow ky kd nu fo sn fi la kc vc bo := ⟨by rw [eF], by rw [eg, eF]; exact hCI⟩
              exact hret (-3) (a1, a2, a3, a4, a5, a6, fi, la, kc, vc, bo, ow, ky, kd, nu, fo, sn) _ _ 58 ls hpost hP hD hS d_F_put_58
      · have c23 : b20 = 0 := (nI_eq (by omega) (by omega)).mp (c23.trans nI_0.symm)
        refine lv_iconst (v := -1) hx hb d_F_put_26 (by decide) ?_
        have eF : (fPut nT a x kk k vk vn) = (-1, a) := ifc_neg (fun h => absurd (hok20.mpr h.2.2) (by omega))
        have eg : gF g (aN ((fPut nT a x kk k vk vn).2)) = g := by rw [eF]; exact gF_same hg hn4 hnL
        have hP : va_P (dC, dI) classes [(x0, .inr (0, [.ref tr, .ref f, .int (nI ck), .long cn])), (tr, .inr (1, [.int (nI nT), .ref y1, .ref y2, .ref y3, .ref y4, .ref y5])), (y1, .inl (cI, hz_R gt, .inl (nf fi))), (y2, .inl (cI, hz_R gt, .inl (nf la))), (y3, .inl (cI, hz_R gt, .inl (nf kc))), (y4, .inl (cI, hz_R gt, .inl (nf vc))), (y5, .inl (cI, hz_R gt, .inl (nf bo))), (f, .inr (2, [.int (nI (aN (fPut nT a x kk k vk vn).2)), .ref a1, .ref a2, .ref a3, .ref a4, .ref a5, .ref a6])), (a1, .inl (cI, hz_L (gF g (aN ((fPut nT a x kk k vk vn).2))), .inl (nf ow))), (a2, .inl (cL, hz_L (gF g (aN ((fPut nT a x kk k vk vn).2))), .inr (.inl ky))), (a3, .inl (cB, hz_L (gF g (aN ((fPut nT a x kk k vk vn).2))), .inl (nf kd))), (a4, .inl (cL, hz_L (gF g (aN ((fPut nT a x kk k vk vn).2))), .inr (.inl nu))), (a5, .inl (cI, hz_L (gF g (aN ((fPut nT a x kk k vk vn).2))), .inl (nf fo))), (a6, .inl (cI, hz_M (gF g (aN ((fPut nT a x kk k vk vn).2))), .inl (nf sn)))] s.heap := by rw [eg, eF]; exact hP
        have hD : va_D A [(x0, .inr (0, [.ref tr, .ref f, .int (nI ck), .long cn])), (tr, .inr (1, [.int (nI nT), .ref y1, .ref y2, .ref y3, .ref y4, .ref y5])), (y1, .inl (cI, hz_R gt, .inl (nf fi))), (y2, .inl (cI, hz_R gt, .inl (nf la))), (y3, .inl (cI, hz_R gt, .inl (nf kc))), (y4, .inl (cI, hz_R gt, .inl (nf vc))), (y5, .inl (cI, hz_R gt, .inl (nf bo))), (f, .inr (2, [.int (nI (aN (fPut nT a x kk k vk vn).2)), .ref a1, .ref a2, .ref a3, .ref a4, .ref a5, .ref a6])), (a1, .inl (cI, hz_L (gF g (aN ((fPut nT a x kk k vk vn).2))), .inl (nf ow))), (a2, .inl (cL, hz_L (gF g (aN ((fPut nT a x kk k vk vn).2))), .inr (.inl ky))), (a3, .inl (cB, hz_L (gF g (aN ((fPut nT a x kk k vk vn).2))), .inl (nf kd))), (a4, .inl (cL, hz_L (gF g (aN ((fPut nT a x kk k vk vn).2))), .inr (.inl nu))), (a5, .inl (cI, hz_L (gF g (aN ((fPut nT a x kk k vk vn).2))), .inl (nf fo))), (a6, .inl (cI, hz_M (gF g (aN ((fPut nT a x kk k vk vn).2))), .inl (nf sn)))] := by rw [eg, eF]; exact hD
        refine W.widen (k := 6 * (gF g (aN ((fPut nT a x kk k vk vn).2)) - g)) (n := Gs (gF g (aN ((fPut nT a x kk k vk vn).2))) - Gs g) (by omega) (by omega) ?_
        have hpost : (-1) = (fPut nT a x kk k vk vn).1 ∧ CI nT ((fPut nT a x kk k vk vn).2) (gF g (aN ((fPut nT a x kk k vk vn).2))) gt ow ky kd nu fo sn fi la kc vc bo := ⟨by rw [eF], by rw [eg, eF]; exact hCI⟩
        exact hret (-1) (a1, a2, a3, a4, a5, a6, fi, la, kc, vc, bo, ow, ky, kd, nu, fo, sn) _ _ 27 ls hpost hP hD hS d_F_put_27
set_option maxHeartbeats 4000000 in
set_option maxRecDepth 100000 in
/-- next -/
theorem c_next (l : Launch) (dC : Nat → ClassId) (dI : Nat → Nat → Nat) (cI cL cB : ClassId) (x0 : Nat) (tr : Nat) (f : Nat) (y1 : Nat) (y2 : Nat) (y3 : Nat) (y4 : Nat) (y5 : Nat) (a1 : Nat) (a2 : Nat) (a3 : Nat) (a4 : Nat) (a5 : Nat) (a6 : Nat) (ck : Nat) (nT : Nat) (g : Nat) (gt : Nat) (cn : Int64) (a : AS) (fi : Nat → Nat) (la : Nat → Nat) (kc : Nat → Nat) (vc : Nat → Nat) (bo : Nat → Nat) (ow : Nat → Nat) (ky : Nat → Int64) (kd : Nat → Nat) (nu : Nat → Int64) (fo : Nat → Nat) (sn : Nat → Nat) (x : Int32) (kk : Int32) (k : Int64) (hCI : CI nT a g gt ow ky kd nu fo sn fi la kc vc bo) : StdI l y_F_next (wd y_F_next b_F_next 7 (some .int)) 3 75 0 0 (dC, dI) classes (tyK cI cL cB) [.ref x0, .int x, .int kk, .long k] [(x0, .inr (0, [.ref tr, .ref f, .int (nI ck), .long cn])), (tr, .inr (1, [.int (nI nT), .ref y1, .ref y2, .ref y3, .ref y4, .ref y5])), (y1, .inl (cI, hz_R gt, .inl (nf fi))), (y2, .inl (cI, hz_R gt, .inl (nf la))), (y3, .inl (cI, hz_R gt, .inl (nf kc))), (y4, .inl (cI, hz_R gt, .inl (nf vc))), (y5, .inl (cI, hz_R gt, .inl (nf bo))), (f, .inr (2, [.int (nI (aN a)), .ref a1, .ref a2, .ref a3, .ref a4, .ref a5, .ref a6])), (a1, .inl (cI, hz_L g, .inl (nf ow))), (a2, .inl (cL, hz_L g, .inr (.inl ky))), (a3, .inl (cB, hz_L g, .inl (nf kd))), (a4, .inl (cL, hz_L g, .inr (.inl nu))), (a5, .inl (cI, hz_L g, .inl (nf fo))), (a6, .inl (cI, hz_M g, .inl (nf sn)))] (fun (r : Int32) (u : Nat × Int64) => (r, u.1, u.2) = (fNext nT a (ck, cn) x kk k)) (fun (u : Nat × Int64) => [(x0, .inr (0, [.ref tr, .ref f, .int (nI u.1), .long u.2])), (tr, .inr (1, [.int (nI nT), .ref y1, .ref y2, .ref y3, .ref y4, .ref y5])), (y1, .inl (cI, hz_R gt, .inl (nf fi))), (y2, .inl (cI, hz_R gt, .inl (nf la))), (y3, .inl (cI, hz_R gt, .inl (nf kc))), (y4, .inl (cI, hz_R gt, .inl (nf vc))), (y5, .inl (cI, hz_R gt, .inl (nf bo))), (f, .inr (2, [.int (nI (aN a)), .ref a1, .ref a2, .ref a3, .ref a4, .ref a5, .ref a6])), (a1, .inl (cI, hz_L g, .inl (nf ow))), (a2, .inl (cL, hz_L g, .inr (.inl ky))), (a3, .inl (cB, hz_L g, .inl (nf kd))), (a4, .inl (cL, hz_L g, .inr (.inl nu))), (a5, .inl (cI, hz_L g, .inl (nf fo))), (a6, .inl (cI, hz_M g, .inl (nf sn)))]) := by
  obtain ⟨hCS, hCT, hgt, hRT⟩ := id hCI
  have hAI := hCS.1
  have hnT := hCS.2.1
  have hg := hCS.2.2.1
  have hnL := hCS.2.2.2.1
  have hAg := hCS.2.2.2.2.1
  have hk8 := hCS.2.2.2.2.2.1
  have hT := hCS.2.2.2.2.2.2
  have hO := hCS.O
  have hU := hCS.U
  have hg1 := hz_gen g hg
  have hg2 := hz_Rgen gt hgt
  have hn4 := hAI.1
  refine StdI.mk (cc := b_F_next) (maxL := 7) (by decide) rfl (Nat.le_of_ble_eq_true rfl) ?_
  intro p e s m below meth c A Z ls hx hb hml hown hts hin hP hK hD hA hS hret hl
  have hown : s.vm.findClass R_F = some m.cls := hown
  have hw : ∀ x ∈ WALL, x.before _ s = true := fun x h => hts x (List.mem_cons_of_mem _ h)
  have hl : lv_has ls 7 [(0, .ref x0), (1, .int x), (2, .int kk), (3, .long k)] := hl
  refine lv_aload_n hx hb d_F_next_0 rfl (lv_at hl 0 rfl) ?_
  refine va_get (D := (dC, dI)) (ci := 0) (v := .ref tr) (C := R_F) (T := T_F) (N := 4) hx hb hw in_F hown hK hP 0 rfl rfl 0 (by decide) (hw _ m_83) (fun _ h9 => h9) rfl d_F_next_1 ?_
  refine lv_iload_n hx hb d_F_next_4 rfl (lv_at hl 1 rfl) ?_
  refine QryI.callV (ci := 1) (q0 := 0) (c_has l dC dI cI cL cB tr y1 y2 y3 y4 y5 nT x (by omega)) ⟨hx, hb, hml, hown, hw⟩ (fz_cwV 1 hw m_132 m_129 m_130 m_131 m_2 rfl rfl (by decide +kernel) ⟨Nat.le_of_ble_eq_true rfl, Nat.le_of_ble_eq_true rfl⟩) hK hP [1] rfl rfl rfl rfl rfl hl.1 rfl (Nat.le_of_ble_eq_true rfl) d_F_next_5 ⟨(Nat.le_of_ble_eq_true rfl), (Nat.le_of_ble_eq_true rfl)⟩ (fun r5 h5 => ?_)
  obtain ⟨b5, hb5, e5, hok5⟩ := h5
  subst e5
  refine lv_if_eq (tgt := 18) hx hb d_F_next_8 (by decide) (fun c8 => ?_) (fun c8 => ?_)
  · have c8 : b5 = 0 := (nI_eq (by omega) (by omega)).mp (c8.trans nI_0.symm)
    refine lv_iconst (v := -1) hx hb d_F_next_18 (by decide) ?_
    have hpost : ((-1), ck, cn) = (fNext nT a (ck, cn) x kk k) := (ifc_neg (fun h => absurd (hok5.mpr h.1) (by omega))).symm
    exact hret (-1) (ck, cn) _ _ 19 ls hpost hP hD hS d_F_next_19
  · have c8 : ¬ b5 = 0 := fun h => c8 (((nI_eq (by omega) (by omega)).mpr h).trans nI_0)
    refine lv_iload_n hx hb d_F_next_11 rfl (lv_at hl 2 rfl) ?_
    refine QryI.callS (c_isKind l dC dI cI cL cB kk ) ⟨hx, hb, hml, hown, hw⟩ (fz_cwS 1 hw m_138 m_136 m_137 m_1 rfl rfl (by decide +kernel) ⟨Nat.le_of_ble_eq_true rfl, Nat.le_of_ble_eq_true rfl⟩) hK hP [] rfl rfl hl.1 rfl (Nat.le_of_ble_eq_true rfl) d_F_next_12 ⟨(Nat.le_of_ble_eq_true rfl), (Nat.le_of_ble_eq_true rfl)⟩ (fun r12 h12 => ?_)
    obtain ⟨b12, hb12, e12, hok12⟩ := h12
    subst e12
    refine lv_if_ne (tgt := 20) hx hb d_F_next_15 (by decide) (fun c15 => ?_) (fun c15 => ?_)
    · have c15 : ¬ b12 = 0 := fun h => c15 (((nI_eq (by omega) (by omega)).mpr h).trans nI_0)
      obtain ⟨t, ht1, ht2, ext⟩ := hok5.mp (by omega)
      rw [ext] at hl
      obtain ⟨d, hd2, exd⟩ := hok12.mp (by omega)
      rw [exd] at hl
      have eG : (fNext nT a (ck, cn) x kk k) = fNextG a (ck, cn) t d k := (by unfold fNext; rw [ifc_pos ⟨hok5.mp (by omega), hok12.mp (by omega)⟩, ext, exd, tN_nI (by omega), tN_nI (by omega)])
      refine lv_aload_n hx hb d_F_next_20 rfl (lv_at hl 0 rfl) ?_
      refine va_get (D := (dC, dI)) (ci := 0) (v := .ref tr) (C := R_F) (T := T_F) (N := 4) hx hb hw in_F hown hK hP 0 rfl rfl 0 (by decide) (hw _ m_83) (fun _ h9 => h9) rfl d_F_next_21 ?_
      refine va_get (D := (dC, dI)) (ci := 1) (v := .ref y1) (C := R_T) (T := T_T) (N := 6) hx hb hw in_T hown hK hP 1 rfl rfl 1 (by decide) (hw _ m_25) (fun _ h9 => h9) rfl d_F_next_24 ?_
      refine lv_iload_n hx hb d_F_next_27 rfl (lv_at hl 1 rfl) ?_
      refine fz_iald hx hb hK hP 2 0 rfl rfl (j := t) (by omega) (by omega) d_F_next_28 ?_
      refine lv_istore (lv' := [(5, .int (nI (fi t))), (0, .ref x0), (1, .int (nI t)), (2, .int (nI d)), (3, .long k)]) hx hb d_F_next_29 hl (by decide) rfl (fun ls hl => ?_)
      refine lv_iload_n hx hb d_F_next_31 rfl (lv_at hl 3 rfl) ?_
      refine lv_if_eq (tgt := 67) hx hb d_F_next_32 (by decide) (fun c32 => ?_) (fun c32 => ?_)
      · have c32 : d = 0 := (nI_eq (by omega) (by omega)).mp (c32.trans nI_0.symm)
        refine lv_aload_n hx hb d_F_next_67 rfl (lv_at hl 1 rfl) ?_
        refine lv_aload_n hx hb d_F_next_68 rfl (lv_at hl 1 rfl) ?_
        refine lv_iload_n hx hb d_F_next_69 rfl (lv_at hl 2 rfl) ?_
        refine lv_iload hx hb d_F_next_70 (lv_at hl 0 rfl) ?_
        refine QryI.callV (ci := 0) (q0 := 0) (c_firstWithValue l dC dI cI cL cB x0 tr f y1 y2 y3 y4 y5 a1 a2 a3 a4 a5 a6 ck nT g gt cn a fi la kc vc bo ow ky kd nu fo sn t 0 (fi t) hCI (by omega) (by omega) (Nat.zero_le _) (hCT.2 t ht1 ht2).1) ⟨hx, hb, hml, hown, hw⟩ (fz_cwV 2 hw m_244 m_241 m_243 ms_8 m_1 rfl rfl (by decide +kernel) ⟨Nat.le_of_ble_eq_true rfl, Nat.le_of_ble_eq_true rfl⟩) hK hP [0, 1, 2, 3, 4, 5, 6, 7, 8, 9, 10, 11, 12, 13] rfl rfl rfl rfl rfl hl.1 rfl (Nat.le_of_ble_eq_true rfl) d_F_next_72 ⟨(Nat.le_of_ble_eq_true rfl), (Nat.le_of_ble_eq_true rfl)⟩ (fun r72 h72 => ?_)
        subst h72
        refine StdI.callV (ci := 0) (q0 := 0) (wr := []) (c_setCursor l dC dI cI cL cB x0 tr f y1 y2 y3 y4 y5 a1 a2 a3 a4 a5 a6 ck nT g gt cn a fi la kc vc bo ow ky kd nu fo sn (nv a t 0) hCI (nv_le _ _ _)) ⟨hx, hb, hml, hown, hw⟩ (fz_cwV 1 hw m_248 m_245 m_247 ms_9 m_1 rfl rfl (by decide +kernel) ⟨Nat.le_of_ble_eq_true rfl, Nat.le_of_ble_eq_true rfl⟩) hK hP hD hS hA [0, 1, 2, 3, 4, 5, 6, 7, 8, 9, 10, 11, 12, 13] [] rfl rfl (by decide) (by decide) (by decide) rfl rfl rfl rfl hl.1 rfl (Nat.le_of_ble_eq_true rfl) d_F_next_75 ⟨(Nat.le_of_ble_eq_true rfl), (Nat.le_of_ble_eq_true rfl)⟩ (fun r75 u75 H locs h75 hP hD hS => ?_)
        obtain ⟨ck275, cn275⟩ := u75
        try dsimp only at h75
        have hP : va_P (dC, dI) classes [(x0, .inr (0, [.ref tr, .ref f, .int (nI ck275), .long cn275])), (tr, .inr (1, [.int (nI nT), .ref y1, .ref y2, .ref y3, .ref y4, .ref y5])), (y1, .inl (cI, hz_R gt, .inl (nf fi))), (y2, .inl (cI, hz_R gt, .inl (nf la))), (y3, .inl (cI, hz_R gt, .inl (nf kc))), (y4, .inl (cI, hz_R gt, .inl (nf vc))), (y5, .inl (cI, hz_R gt, .inl (nf bo))), (f, .inr (2, [.int (nI (aN a)), .ref a1, .ref a2, .ref a3, .ref a4, .ref a5, .ref a6])), (a1, .inl (cI, hz_L g, .inl (nf ow))), (a2, .inl (cL, hz_L g, .inr (.inl ky))), (a3, .inl (cB, hz_L g, .inl (nf kd))), (a4, .inl (cL, hz_L g, .inr (.inl nu))), (a5, .inl (cI, hz_L g, .inl (nf fo))), (a6, .inl (cI, hz_M g, .inl (nf sn)))] H := hP
        have hD : va_D A [(x0, .inr (0, [.ref tr, .ref f, .int (nI ck275), .long cn275])), (tr, .inr (1, [.int (nI nT), .ref y1, .ref y2, .ref y3, .ref y4, .ref y5])), (y1, .inl (cI, hz_R gt, .inl (nf fi))), (y2, .inl (cI, hz_R gt, .inl (nf la))), (y3, .inl (cI, hz_R gt, .inl (nf kc))), (y4, .inl (cI, hz_R gt, .inl (nf vc))), (y5, .inl (cI, hz_R gt, .inl (nf bo))), (f, .inr (2, [.int (nI (aN a)), .ref a1, .ref a2, .ref a3, .ref a4, .ref a5, .ref a6])), (a1, .inl (cI, hz_L g, .inl (nf ow))), (a2, .inl (cL, hz_L g, .inr (.inl ky))), (a3, .inl (cB, hz_L g, .inl (nf kd))), (a4, .inl (cL, hz_L g, .inr (.inl nu))), (a5, .inl (cI, hz_L g, .inl (nf fo))), (a6, .inl (cI, hz_M g, .inl (nf sn)))] := hD
        have hpost : (r75, ck275, cn275) = (fNext nT a (ck, cn) x kk k) := (by rw [eG, h75]; unfold fNextG; rw [if_neg (fun h => h.1 c32), if_pos c32])
        exact hret r75 (ck275, cn275) _ _ 78 ls hpost hP hD hS d_F_next_78
      · have c32 : ¬ d = 0 := fun h => c32 (((nI_eq (by omega) (by omega)).mpr h).trans nI_0)
        refine lv_aload_n hx hb d_F_next_35 rfl (lv_at hl 1 rfl) ?_
        refine va_get (D := (dC, dI)) (ci := 0) (v := .ref f) (C := R_F) (T := T_F) (N := 4) hx hb hw in_F hown hK hP 0 rfl rfl 1 (by decide) (hw _ m_84) (fun _ h9 => h9) rfl d_F_next_36 ?_
        refine lv_iload_n hx hb d_F_next_39 rfl (lv_at hl 2 rfl) ?_
        refine lv_iload_n hx hb d_F_next_40 rfl (lv_at hl 3 rfl) ?_
        refine lv_lload_n hx hb d_F_next_41 rfl (lv_at hl 4 rfl) ?_
        refine QryI.callV (ci := 2) (q0 := 0) (c_find l dC dI cI cL cB f a1 a2 a3 a4 a5 a6 (aN a) (hz_L g) (hz_M g) (7 + 2 * g) (aN a) t d k ow sn ky (by omega) (by omega) rfl (by omega) (by omega) (by omega) (by omega) hO hU hT) ⟨hx, hb, hml, hown, hw⟩ (fz_cwV 3 hw m_147 m_144 m_145 m_146 m_3 rfl rfl (by decide +kernel) ⟨Nat.le_of_ble_eq_true rfl, Nat.le_of_ble_eq_true rfl⟩) hK hP [7, 8, 9, 13] rfl rfl rfl rfl rfl hl.1 rfl (Nat.le_of_ble_eq_true rfl) d_F_next_42 ⟨(Nat.le_of_ble_eq_true rfl), (Nat.le_of_ble_eq_true rfl)⟩ (fun r42 h42 => ?_)
        rw [hCS.F] at h42
        subst h42
        refine lv_istore (lv' := [(6, .int (nI (aF a (t * 8 + d) k))), (5, .int (nI (fi t))), (0, .ref x0), (1, .int (nI t)), (2, .int (nI d)), (3, .long k)]) hx hb d_F_next_45 hl (by decide) rfl (fun ls hl => ?_)
        refine lv_iload hx hb d_F_next_47 (lv_at hl 0 rfl) ?_
        have hfl := aF_le a (t * 8 + d) k
        refine lv_if_ne (tgt := 55) hx hb d_F_next_49 (by decide) (fun c49 => ?_) (fun c49 => ?_)
        · have c49 : ¬ aF a (t * 8 + d) k = 0 := fun h => c49 (((nI_eq (by omega) (by omega)).mpr h).trans nI_0)
          refine lv_aload_n hx hb d_F_next_55 rfl (lv_at hl 2 rfl) ?_
          refine va_get (D := (dC, dI)) (ci := 0) (v := .ref f) (C := R_F) (T := T_F) (N := 4) hx hb hw in_F hown hK hP 0 rfl rfl 1 (by decide) (hw _ m_84) (fun _ h9 => h9) rfl d_F_next_56 ?_
          refine va_get (D := (dC, dI)) (ci := 2) (v := .ref a5) (C := R_S) (T := T_S) (N := 7) hx hb hw in_S hown hK hP 7 rfl rfl 5 (by decide) (hw _ m_64) (fun _ h9 => h9) rfl d_F_next_59 ?_
          refine lv_iload hx hb d_F_next_62 (lv_at hl 0 rfl) ?_
          refine fz_iald hx hb hK hP 12 0 rfl rfl (j := aF a (t * 8 + d) k) (by omega) (by omega) d_F_next_64 ?_
          refine lv_istore (lv' := [(5, .int (nI (fo (aF a (t * 8 + d) k)))), (6, .int (nI (aF a (t * 8 + d) k))), (0, .ref x0), (1, .int (nI t)), (2, .int (nI d)), (3, .long k)]) hx hb d_F_next_65 hl (by decide) rfl (fun ls hl => ?_)
          refine lv_aload_n hx hb d_F_next_67 rfl (lv_at hl 2 rfl) ?_
          refine lv_aload_n hx hb d_F_next_68 rfl (lv_at hl 2 rfl) ?_
          refine lv_iload_n hx hb d_F_next_69 rfl (lv_at hl 3 rfl) ?_
          refine lv_iload hx hb d_F_next_70 (lv_at hl 0 rfl) ?_
          refine QryI.callV (ci := 0) (q0 := 0) (c_firstWithValue l dC dI cI cL cB x0 tr f y1 y2 y3 y4 y5 a1 a2 a3 a4 a5 a6 ck nT g gt cn a fi la kc vc bo ow ky kd nu fo sn t (aF a (t * 8 + d) k) (fo (aF a (t * 8 + d) k)) hCI (by omega) (by omega) (aF_le _ _ _) (by have := hCT.1 _ (Nat.pos_of_ne_zero c49) hfl; rw [(aF_hit c49).1, show (t * 8 + d) / 8 = t by omega] at this; exact this)) ⟨hx, hb, hml, hown, hw⟩ (fz_cwV 2 hw m_244 m_241 m_243 ms_8 m_1 rfl rfl (by decide +kernel) ⟨Nat.le_of_ble_eq_true rfl, Nat.le_of_ble_eq_true rfl⟩) hK hP [0, 1, 2, 3, 4, 5, 6, 7, 8, 9, 10, 11, 12, 13] rfl rfl rfl rfl rfl hl.1 rfl (Nat.le_of_ble_eq_true rfl) d_F_next_72 ⟨(Nat.le_of_ble_eq_true rfl), (Nat.le_of_ble_eq_true rfl)⟩ (fun r72 h72 => ?_)
          subst h72
          refine StdI.callV (ci := 0) (q0 := 0) (wr := []) (c_setCursor l dC dI cI cL cB x0 tr f y1 y2 y3 y4 y5 a1 a2 a3 a4 a5 a6 ck nT g gt cn a fi la kc vc bo ow ky kd nu fo sn (nv a t (aF a (t * 8 + d) k)) hCI (nv_le _ _ _)) ⟨hx, hb, hml, hown, hw⟩ (fz_cwV 1 hw m_248 m_245 m_247 ms_9 m_1 rfl rfl (by decide +kernel) ⟨Nat.le_of_ble_eq_true rfl, Nat.le_of_ble_eq_true rfl⟩) hK hP hD hS hA [0, 1, 2, 3, 4, 5, 6, 7, 8, 9, 10, 11, 12, 13] [] rfl rfl (by decide) (by decide) (by decide) rfl rfl rfl rfl hl.1 rfl (Nat.le_of_ble_eq_true rfl) d_F_next_75 ⟨(Nat.le_of_ble_eq_true rfl), (Nat.le_of_ble_eq_true rfl)⟩ (fun r75 u75 H locs h75 hP hD hS => ?_)
          obtain ⟨ck275, cn275⟩ := u75
          try dsimp only at h75
          have hP : va_P (dC, dI) classes [(x0, .inr (0, [.ref tr, .ref f, .int (nI ck275), .long cn275])), (tr, .inr (1, [.int (nI nT), .ref y1, .ref y2, .ref y3, .ref y4, .ref y5])), (y1, .inl (cI, hz_R gt, .inl (nf fi))), (y2, .inl (cI, hz_R gt, .inl (nf la))), (y3, .inl (cI, hz_R gt, .inl (nf kc))), (y4, .inl (cI, hz_R gt, .inl (nf vc))), (y5, .inl (cI, hz_R gt, .inl (nf bo))), (f, .inr (2, [.int (nI (aN a)), .ref a1, .ref a2, .ref a3, .ref a4, .ref a5, .ref a6])), (a1, .inl (cI, hz_L g, .inl (nf ow))), (a2, .inl (cL, hz_L g, .inr (.inl ky))), (a3, .inl (cB, hz_L g, .inl (nf kd))), (a4, .inl (cL, hz_L g, .inr (.inl nu))), (a5, .inl (cI, hz_L g, .inl (nf fo))), (a6, .inl (cI, hz_M g, .inl (nf sn)))] H := hP
          have hD : va_D A [(x0, .inr (0, [.ref tr, .ref f, .int (nI ck275), .long cn275])), (tr, .inr (1, [.int (nI nT), .ref y1, .ref y2, .ref y3, .ref y4, .ref y5])), (y1, .inl (cI, hz_R gt, .inl (nf fi))), (y2, .inl (cI, hz_R gt, .inl (nf la))), (y3, .inl (cI, hz_R gt, .inl (nf kc))), (y4, .inl (cI, hz_R gt, .inl (nf vc))), (y5, .inl (cI, hz_R gt, .inl (nf bo))), (f, .inr (2, [.int (nI (aN a)), .ref a1, .ref a2, .ref a3, .ref a4, .ref a5, .ref a6])), (a1, .inl (cI, hz_L g, .inl (nf ow))), (a2, .inl (cL, hz_L g, .inr (.inl ky))), (a3, .inl (cB, hz_L g, .inl (nf kd))), (a4, .inl (cL, hz_L g, .inr (.inl nu))), (a5, .inl (cI, hz_L g, .inl (nf fo))), (a6, .inl (cI, hz_M g, .inl (nf sn)))] := hD
          have hpost : (r75, ck275, cn275) = (fNext nT a (ck, cn) x kk k) := (by rw [eG, h75]; unfold fNextG; rw [if_neg (fun h => c49 h.2), if_neg c32])
          exact hret r75 (ck275, cn275) _ _ 78 ls hpost hP hD hS d_F_next_78
        · have c49 : aF a (t * 8 + d) k = 0 := (nI_eq (by omega) (by omega)).mp (c49.trans nI_0.symm)
          refine lv_bipush (v := -2) hx hb d_F_next_52 (by decide) ?_
          have hpost : ((-2), ck, cn) = (fNext nT a (ck, cn) x kk k) := (by rw [eG]; unfold fNextG; rw [if_pos ⟨c32, c49⟩])
          exact hret (-2) (ck, cn) _ _ 54 ls hpost hP hD hS d_F_next_54
    · have c15 : b12 = 0 := (nI_eq (by omega) (by omega)).mp (c15.trans nI_0.symm)
      refine lv_iconst (v := -1) hx hb d_F_next_18 (by decide) ?_
      have hpost : ((-1), ck, cn) = (fNext nT a (ck, cn) x kk k) := (ifc_neg (fun h => absurd (hok12.mpr h.2) (by omega))).symm
      exact hret (-1) (ck, cn) _ _ 19 ls hpost hP hD hS d_F_next_19
set_option maxHeartbeats 4000000 in
set_option maxRecDepth 100000 in
/-- missing -/
theorem c_missing (l : Launch) (dC : Nat → ClassId) (dI : Nat → Nat → Nat) (cI cL cB : ClassId) (x0 : Nat) (tr : Nat) (f : Nat) (y1 : Nat) (y2 : Nat) (y3 : Nat) (y4 : Nat) (y5 : Nat) (a1 : Nat) (a2 : Nat) (a3 : Nat) (a4 : Nat) (a5 : Nat) (a6 : Nat) (ck : Nat) (nT : Nat) (g : Nat) (gt : Nat) (cn : Int64) (a : AS) (fi : Nat → Nat) (la : Nat → Nat) (kc : Nat → Nat) (vc : Nat → Nat) (bo : Nat → Nat) (ow : Nat → Nat) (ky : Nat → Int64) (kd : Nat → Nat) (nu : Nat → Int64) (fo : Nat → Nat) (sn : Nat → Nat) (t : Nat) (n : Nat) (sp : Nat) (frm : Int64) (hCI : CI nT a g gt ow ky kd nu fo sn fi la kc vc bo) (ht2 : t ≤ nT) (hn : n ≤ 20000) (hsp : sp ≤ 1000) : QryI l y_F_missing (wd y_F_missing b_F_missing 10 (some .int)) 4 98 (dC, dI) classes (tyK cI cL cB) [.ref x0, .int (nI t), .long frm, .int (nI n), .int (nI sp)] [(x0, .inr (0, [.ref tr, .ref f, .int (nI ck), .long cn])), (tr, .inr (1, [.int (nI nT), .ref y1, .ref y2, .ref y3, .ref y4, .ref y5])), (y1, .inl (cI, hz_R gt, .inl (nf fi))), (y2, .inl (cI, hz_R gt, .inl (nf la))), (y3, .inl (cI, hz_R gt, .inl (nf kc))), (y4, .inl (cI, hz_R gt, .inl (nf vc))), (y5, .inl (cI, hz_R gt, .inl (nf bo))), (f, .inr (2, [.int (nI (aN a)), .ref a1, .ref a2, .ref a3, .ref a4, .ref a5, .ref a6])), (a1, .inl (cI, hz_L g, .inl (nf ow))), (a2, .inl (cL, hz_L g, .inr (.inl ky))), (a3, .inl (cB, hz_L g, .inl (nf kd))), (a4, .inl (cL, hz_L g, .inr (.inl nu))), (a5, .inl (cI, hz_L g, .inl (nf fo))), (a6, .inl (cI, hz_M g, .inl (nf sn)))] (fun r : Int32 => r = nI (missA a t frm sp n)) := by
  obtain ⟨hCS, hCT, hgt, hRT⟩ := id hCI
  have hAI := hCS.1
  have hnT := hCS.2.1
  have hg := hCS.2.2.1
  have hnL := hCS.2.2.2.1
  have hAg := hCS.2.2.2.2.1
  have hk8 := hCS.2.2.2.2.2.1
  have hT := hCS.2.2.2.2.2.2
  have hO := hCS.O
  have hU := hCS.U
  have hg1 := hz_gen g hg
  have hg2 := hz_Rgen gt hgt
  have hn4 := hAI.1
  refine QryI.mk (cc := b_F_missing) (maxL := 10) (by decide) rfl (Nat.le_of_ble_eq_true rfl) ?_
  intro p e s m below meth c Z ls hx hb hml hown hts hP hK hret hl
  have hP : va_P (dC, dI) classes [(x0, .inr (0, [.ref tr, .ref f, .int (nI ck), .long cn])), (tr, .inr (1, [.int (nI nT), .ref y1, .ref y2, .ref y3, .ref y4, .ref y5])), (y1, .inl (cI, hz_R gt, .inl (nf fi))), (y2, .inl (cI, hz_R gt, .inl (nf la))), (y3, .inl (cI, hz_R gt, .inl (nf kc))), (y4, .inl (cI, hz_R gt, .inl (nf vc))), (y5, .inl (cI, hz_R gt, .inl (nf bo))), (f, .inr (2, [.int (nI (aN a)), .ref a1, .ref a2, .ref a3, .ref a4, .ref a5, .ref a6])), (a1, .inl (cI, hz_L g, .inl (nf ow))), (a2, .inl (cL, hz_L g, .inr (.inl ky))), (a3, .inl (cB, hz_L g, .inl (nf kd))), (a4, .inl (cL, hz_L g, .inr (.inl nu))), (a5, .inl (cI, hz_L g, .inl (nf fo))), (a6, .inl (cI, hz_M g, .inl (nf sn)))] s.heap := hP
  have hown : s.vm.findClass R_F = some m.cls := hown
  have hw : ∀ x ∈ WALL, x.before _ s = true := fun x h => hts x (List.mem_cons_of_mem _ h)
  have hl : lv_has ls 10 [(0, .ref x0), (1, .int (nI t)), (2, .long frm), (4, .int (nI n)), (5, .int (nI sp))] := hl
  refine lv_iconst (v := nI 0) hx hb d_F_missing_0 (by decide) ?_
  refine lv_istore (lv' := [(6, .int (nI 0)), (0, .ref x0), (1, .int (nI t)), (2, .long frm), (4, .int (nI n)), (5, .int (nI sp))]) hx hb d_F_missing_1 hl (by decide) rfl (fun ls hl => ?_)
  refine lv_lload_n hx hb d_F_missing_3 rfl (lv_at hl 3 rfl) ?_
  refine lv_lstore (lv' := [(7, .long frm), (6, .int (nI 0)), (0, .ref x0), (1, .int (nI t)), (2, .long frm), (4, .int (nI n)), (5, .int (nI sp))]) hx hb d_F_missing_4 hl (by decide) rfl (fun ls hl => ?_)
  refine lv_iconst (v := nI 0) hx hb d_F_missing_6 (by decide) ?_
  refine lv_istore (lv' := [(9, .int (nI 0)), (7, .long frm), (6, .int (nI 0)), (0, .ref x0), (1, .int (nI t)), (2, .long frm), (4, .int (nI n)), (5, .int (nI sp))]) hx hb d_F_missing_7 hl (by decide) rfl (fun ls hl => ?_)
  have loop_9 : ∀ (fuel : Nat) (j : Nat) (cm : Nat) (kx : Int64), j ≤ n → cm = missA a t frm sp j → kx = rK frm sp j → n - j < fuel → ∀ (ls : Array Slot), lv_has ls 10 [(0, .ref x0), (1, .int (nI t)), (2, .long frm), (4, .int (nI n)), (5, .int (nI sp)), (6, .int (nI cm)), (7, .long kx), (9, .int (nI j))] → W p l e { frames := 4, cells := 0, slots := 0, locals := 98 } s m [.ref x0, .int (nI t), .long frm, .int (nI n), .int (nI sp)].toArray below meth c s.heap [] 0 0 Z (F0 m 9 ls []) := by
    intro fuel
    induction fuel with
    | zero => intro j cm kx hj hcm hkx hfuel; exact absurd hfuel (Nat.not_lt_zero _)
    | succ fuel ih =>
      intro j cm kx hj hcm hkx hfuel ls hl
      have hml2 := missA_le a t frm sp j
      refine lv_iload hx hb d_F_missing_9 (lv_at hl 7 rfl) ?_
      refine lv_iload hx hb d_F_missing_11 (lv_at hl 3 rfl) ?_
      refine lv_icmp_ge (tgt := 43) hx hb d_F_missing_13 (by decide) (fun c13 => ?_) (fun c13 => ?_)
      · have c13 : n ≤ j := by exact (nI_leI (by omega) (by omega)).mp c13
        refine lv_iload hx hb d_F_missing_43 (lv_at hl 5 rfl) ?_
        exact hret (nI cm) 45 ls (by rw [hcm, show j = n by omega]) d_F_missing_45
      · have c13 : ¬ n ≤ j := fun h => c13 (by exact (nI_leI (by omega) (by omega)).mpr h)
        refine lv_aload_n hx hb d_F_missing_16 rfl (lv_at hl 0 rfl) ?_
        refine lv_iload_n hx hb d_F_missing_17 rfl (lv_at hl 1 rfl) ?_
        refine lv_lload hx hb d_F_missing_18 (lv_at hl 6 rfl) ?_
        refine QryI.callV (ci := 0) (q0 := 0) (c_whole l dC dI cI cL cB x0 tr f y1 y2 y3 y4 y5 a1 a2 a3 a4 a5 a6 ck nT g gt cn a fi la kc vc bo ow ky kd nu fo sn t kx hCI (by omega)) ⟨hx, hb, hml, hown, hw⟩ (fz_cwV 2 hw m_274 m_271 m_273 ms_12 m_1 rfl rfl (by decide +kernel) ⟨Nat.le_of_ble_eq_true rfl, Nat.le_of_ble_eq_true rfl⟩) hK hP [0, 1, 2, 3, 4, 5, 6, 7, 8, 9, 10, 11, 12, 13] rfl rfl rfl rfl rfl hl.1 rfl (Nat.le_of_ble_eq_true rfl) d_F_missing_20 ⟨(Nat.le_of_ble_eq_true rfl), (Nat.le_of_ble_eq_true rfl)⟩ (fun r20 h20 => ?_)
        subst h20
        have hfl := aF_le a (t * 8 + 3) kx
        refine lv_if_ne (tgt := 29) hx hb d_F_missing_23 (by decide) (fun c23 => ?_) (fun c23 => ?_)
        · have c23 : ¬ aF a (t * 8 + 3) kx = 0 := fun h => c23 (((nI_eq (by omega) (by omega)).mpr h).trans nI_0)
          refine lv_lload hx hb d_F_missing_29 (lv_at hl 6 rfl) ?_
          refine lv_iload hx hb d_F_missing_31 (lv_at hl 4 rfl) ?_
          refine lv_i2l (v := lN sp) hx hb d_F_missing_33 (nI_l (by omega)) ?_
          refine lv_ladd hx hb d_F_missing_34 ?_
          refine fz_eql (y := rK frm sp (j + 1)) (by rw [hkx]; exact rK_1 _ _ _) ?_
          refine lv_lstore (lv' := [(7, .long (rK frm sp (j + 1))), (0, .ref x0), (1, .int (nI t)), (2, .long frm), (4, .int (nI n)), (5, .int (nI sp)), (6, .int (nI cm)), (9, .int (nI j))]) hx hb d_F_missing_35 hl (by decide) rfl (fun ls hl => ?_)
          refine lv_iinc (v := nI (j + 1)) (lv' := [(9, .int (nI (j + 1))), (7, .long (rK frm sp (j + 1))), (0, .ref x0), (1, .int (nI t)), (2, .long frm), (4, .int (nI n)), (5, .int (nI sp)), (6, .int (nI cm))]) hx hb d_F_missing_37 hl (k := 7) rfl (fz_inc j) (by decide) rfl (fun ls hl => ?_)
          refine lv_goto (tgt := 9) hx hb d_F_missing_40 (by decide) ?_
          exact ih (j + 1) cm (rK frm sp (j + 1)) (by omega) (by show _ = missA a t frm sp j + _; rw [← hkx, if_neg c23, hcm, Nat.add_zero]) rfl (by omega) ls (lv_sub hl [2, 3, 4, 5, 6, 7, 1, 0] rfl)
        · have c23 : aF a (t * 8 + 3) kx = 0 := (nI_eq (by omega) (by omega)).mp (c23.trans nI_0.symm)
          refine lv_iinc (v := nI (cm + 1)) (lv' := [(6, .int (nI (cm + 1))), (0, .ref x0), (1, .int (nI t)), (2, .long frm), (4, .int (nI n)), (5, .int (nI sp)), (7, .long kx), (9, .int (nI j))]) hx hb d_F_missing_26 hl (k := 5) rfl (fz_inc cm) (by decide) rfl (fun ls hl => ?_)
          refine lv_lload hx hb d_F_missing_29 (lv_at hl 6 rfl) ?_
          refine lv_iload hx hb d_F_missing_31 (lv_at hl 5 rfl) ?_
          refine lv_i2l (v := lN sp) hx hb d_F_missing_33 (nI_l (by omega)) ?_
          refine lv_ladd hx hb d_F_missing_34 ?_
          refine fz_eql (y := rK frm sp (j + 1)) (by rw [hkx]; exact rK_1 _ _ _) ?_
          refine lv_lstore (lv' := [(7, .long (rK frm sp (j + 1))), (6, .int (nI (cm + 1))), (0, .ref x0), (1, .int (nI t)), (2, .long frm), (4, .int (nI n)), (5, .int (nI sp)), (9, .int (nI j))]) hx hb d_F_missing_35 hl (by decide) rfl (fun ls hl => ?_)
          refine lv_iinc (v := nI (j + 1)) (lv' := [(9, .int (nI (j + 1))), (7, .long (rK frm sp (j + 1))), (6, .int (nI (cm + 1))), (0, .ref x0), (1, .int (nI t)), (2, .long frm), (4, .int (nI n)), (5, .int (nI sp))]) hx hb d_F_missing_37 hl (k := 7) rfl (fz_inc j) (by decide) rfl (fun ls hl => ?_)
          refine lv_goto (tgt := 9) hx hb d_F_missing_40 (by decide) ?_
          exact ih (j + 1) (cm + 1) (rK frm sp (j + 1)) (by omega) (by show _ = missA a t frm sp j + _; rw [← hkx, if_pos c23, hcm]) rfl (by omega) ls (lv_sub hl [3, 4, 5, 6, 7, 2, 1, 0] rfl)
  exact loop_9 (n - 0 + 1) 0 0 frm (by omega) rfl (rK_0 _ _).symm (Nat.lt_succ_self _) ls (lv_sub hl [3, 4, 5, 6, 7, 2, 1, 0] rfl)
set_option maxHeartbeats 4000000 in
set_option maxRecDepth 100000 in
/-- fill -/
theorem c_fill (l : Launch) (dC : Nat → ClassId) (dI : Nat → Nat → Nat) (cI cL cB : ClassId) (x0 : Nat) (tr : Nat) (f : Nat) (y1 : Nat) (y2 : Nat) (y3 : Nat) (y4 : Nat) (y5 : Nat) (a1 : Nat) (a2 : Nat) (a3 : Nat) (a4 : Nat) (a5 : Nat) (a6 : Nat) (ck : Nat) (nT : Nat) (g : Nat) (gt : Nat) (cn : Int64) (a : AS) (fi : Nat → Nat) (la : Nat → Nat) (kc : Nat → Nat) (vc : Nat → Nat) (bo : Nat → Nat) (ow : Nat → Nat) (ky : Nat → Int64) (kd : Nat → Nat) (nu : Nat → Int64) (fo : Nat → Nat) (sn : Nat → Nat) (x : Int32) (frm : Int64) (n : Int32) (sp : Int32) (hCI : CI nT a g gt ow ky kd nu fo sn fi la kc vc bo) : StdI l y_F_fill (wd y_F_fill b_F_fill 10 (some .int)) 6 155 (6 * (gF g (aN ((fFill nT a x frm n sp).2)) - g)) (Gs (gF g (aN ((fFill nT a x frm n sp).2))) - Gs g) (dC, dI) classes (tyK cI cL cB) [.ref x0, .int x, .long frm, .int n, .int sp] [(x0, .inr (0, [.ref tr, .ref f, .int (nI ck), .long cn])), (tr, .inr (1, [.int (nI nT), .ref y1, .ref y2, .ref y3, .ref y4, .ref y5])), (y1, .inl (cI, hz_R gt, .inl (nf fi))), (y2, .inl (cI, hz_R gt, .inl (nf la))), (y3, .inl (cI, hz_R gt, .inl (nf kc))), (y4, .inl (cI, hz_R gt, .inl (nf vc))), (y5, .inl (cI, hz_R gt, .inl (nf bo))), (f, .inr (2, [.int (nI (aN a)), .ref a1, .ref a2, .ref a3, .ref a4, .ref a5, .ref a6])), (a1, .inl (cI, hz_L g, .inl (nf ow))), (a2, .inl (cL, hz_L g, .inr (.inl ky))), (a3, .inl (cB, hz_L g, .inl (nf kd))), (a4, .inl (cL, hz_L g, .inr (.inl nu))), (a5, .inl (cI, hz_L g, .inl (nf fo))), (a6, .inl (cI, hz_M g, .inl (nf sn)))] (fun (r : Int32) (u : Nat × Nat × Nat × Nat × Nat × Nat × (Nat → Nat) × (Nat → Nat) × (Nat → Nat) × (Nat → Nat) × (Nat → Nat) × (Nat → Nat) × (Nat → Int64) × (Nat → Nat) × (Nat → Int64) × (Nat → Nat) × (Nat → Nat)) => r = (fFill nT a x frm n sp).1 ∧ CI nT ((fFill nT a x frm n sp).2) (gF g (aN ((fFill nT a x frm n sp).2))) gt u.2.2.2.2.2.2.2.2.2.2.2.1 u.2.2.2.2.2.2.2.2.2.2.2.2.1 u.2.2.2.2.2.2.2.2.2.2.2.2.2.1 u.2.2.2.2.2.2.2.2.2.2.2.2.2.2.1 u.2.2.2.2.2.2.2.2.2.2.2.2.2.2.2.1 u.2.2.2.2.2.2.2.2.2.2.2.2.2.2.2.2 u.2.2.2.2.2.2.1 u.2.2.2.2.2.2.2.1 u.2.2.2.2.2.2.2.2.1 u.2.2.2.2.2.2.2.2.2.1 u.2.2.2.2.2.2.2.2.2.2.1) (fun (u : Nat × Nat × Nat × Nat × Nat × Nat × (Nat → Nat) × (Nat → Nat) × (Nat → Nat) × (Nat → Nat) × (Nat → Nat) × (Nat → Nat) × (Nat → Int64) × (Nat → Nat) × (Nat → Int64) × (Nat → Nat) × (Nat → Nat)) => [(x0, .inr (0, [.ref tr, .ref f, .int (nI ck), .long cn])), (tr, .inr (1, [.int (nI nT), .ref y1, .ref y2, .ref y3, .ref y4, .ref y5])), (y1, .inl (cI, hz_R gt, .inl (nf u.2.2.2.2.2.2.1))), (y2, .inl (cI, hz_R gt, .inl (nf u.2.2.2.2.2.2.2.1))), (y3, .inl (cI, hz_R gt, .inl (nf u.2.2.2.2.2.2.2.2.1))), (y4, .inl (cI, hz_R gt, .inl (nf u.2.2.2.2.2.2.2.2.2.1))), (y5, .inl (cI, hz_R gt, .inl (nf u.2.2.2.2.2.2.2.2.2.2.1))), (f, .inr (2, [.int (nI (aN ((fFill nT a x frm n sp).2))), .ref u.1, .ref u.2.1, .ref u.2.2.1, .ref u.2.2.2.1, .ref u.2.2.2.2.1, .ref u.2.2.2.2.2.1])), (u.1, .inl (cI, hz_L (gF g (aN ((fFill nT a x frm n sp).2))), .inl (nf u.2.2.2.2.2.2.2.2.2.2.2.1))), (u.2.1, .inl (cL, hz_L (gF g (aN ((fFill nT a x frm n sp).2))), .inr (.inl u.2.2.2.2.2.2.2.2.2.2.2.2.1))), (u.2.2.1, .inl (cB, hz_L (gF g (aN ((fFill nT a x frm n sp).2))), .inl (nf u.2.2.2.2.2.2.2.2.2.2.2.2.2.1))), (u.2.2.2.1, .inl (cL, hz_L (gF g (aN ((fFill nT a x frm n sp).2))), .inr (.inl u.2.2.2.2.2.2.2.2.2.2.2.2.2.2.1))), (u.2.2.2.2.1, .inl (cI, hz_L (gF g (aN ((fFill nT a x frm n sp).2))), .inl (nf u.2.2.2.2.2.2.2.2.2.2.2.2.2.2.2.1))), (u.2.2.2.2.2.1, .inl (cI, hz_M (gF g (aN ((fFill nT a x frm n sp).2))), .inl (nf u.2.2.2.2.2.2.2.2.2.2.2.2.2.2.2.2)))]) := by
  obtain ⟨hCS, hCT, hgt, hRT⟩ := id hCI
  have hAI := hCS.1
  have hnT := hCS.2.1
  have hg := hCS.2.2.1
  have hnL := hCS.2.2.2.1
  have hAg := hCS.2.2.2.2.1
  have hk8 := hCS.2.2.2.2.2.1
  have hT := hCS.2.2.2.2.2.2
  have hO := hCS.O
  have hU := hCS.U
  have hg1 := hz_gen g hg
  have hg2 := hz_Rgen gt hgt
  have hn4 := hAI.1
  refine StdI.mk (cc := b_F_fill) (maxL := 10) (by decide) rfl (Nat.le_of_ble_eq_true rfl) ?_
  intro p e s m below meth c A Z ls hx hb hml hown hts hin hP hK hD hA hS hret hl
  have hown : s.vm.findClass R_F = some m.cls := hown
  have hw : ∀ x ∈ WALL, x.before _ s = true := fun x h => hts x (List.mem_cons_of_mem _ h)
  have hl : lv_has ls 10 [(0, .ref x0), (1, .int x), (2, .long frm), (4, .int n), (5, .int sp)] := hl
  refine lv_aload_n hx hb d_F_fill_0 rfl (lv_at hl 0 rfl) ?_
  refine lv_iload_n hx hb d_F_fill_1 rfl (lv_at hl 1 rfl) ?_
  refine lv_lload_n hx hb d_F_fill_2 rfl (lv_at hl 2 rfl) ?_
  refine lv_iload hx hb d_F_fill_3 (lv_at hl 3 rfl) ?_
  refine lv_iload hx hb d_F_fill_5 (lv_at hl 4 rfl) ?_
  refine QryI.callV (ci := 0) (q0 := 0) (c_isRun l dC dI cI cL cB x0 tr f y1 y2 y3 y4 y5 a1 a2 a3 a4 a5 a6 ck nT g gt cn a fi la kc vc bo ow ky kd nu fo sn x frm n sp hCI) ⟨hx, hb, hml, hown, hw⟩ (fz_cwV 4 hw m_264 m_261 m_263 ms_10 m_1 rfl rfl (by decide +kernel) ⟨Nat.le_of_ble_eq_true rfl, Nat.le_of_ble_eq_true rfl⟩) hK hP [0, 1, 2, 3, 4, 5, 6, 7, 8, 9, 10, 11, 12, 13] rfl rfl rfl rfl rfl hl.1 rfl (Nat.le_of_ble_eq_true rfl) d_F_fill_7 ⟨(by (try dsimp only); omega), (by (try dsimp only); omega)⟩ (fun r7 h7 => ?_)
  obtain ⟨b7, hb7, e7, hok7⟩ := h7
  subst e7
  refine lv_if_ne (tgt := 15) hx hb d_F_fill_10 (by decide) (fun c10 => ?_) (fun c10 => ?_)
  · have c10 : ¬ b7 = 0 := fun h => c10 (((nI_eq (by omega) (by omega)).mpr h).trans nI_0)
    obtain ⟨⟨t, ht1, ht2, ext⟩, ⟨nn, hnn, exn⟩, ⟨ss, hs1, hs2, exs⟩, hf1, hf2⟩ := hok7.mp (by omega)
    rw [ext, exn, exs] at hl
    have eG : (fFill nT a x frm n sp) = fFillG a t frm nn ss := (by unfold fFill; rw [ifc_pos (hok7.mp (by omega)), ext, exn, exs, tN_nI (by omega), tN_nI (by omega), tN_nI (by omega)])
    have hmz := missA_le a t frm ss nn
    have join_50 : aN a + missA a t frm ss nn ≤ 40000 → ∀ (H : Heap) (locs : List Loc), va_P (dC, dI) classes [(x0, .inr (0, [.ref tr, .ref f, .int (nI ck), .long cn])), (tr, .inr (1, [.int (nI nT), .ref y1, .ref y2, .ref y3, .ref y4, .ref y5])), (y1, .inl (cI, hz_R gt, .inl (nf fi))), (y2, .inl (cI, hz_R gt, .inl (nf la))), (y3, .inl (cI, hz_R gt, .inl (nf kc))), (y4, .inl (cI, hz_R gt, .inl (nf vc))), (y5, .inl (cI, hz_R gt, .inl (nf bo))), (f, .inr (2, [.int (nI (aN a)), .ref a1, .ref a2, .ref a3, .ref a4, .ref a5, .ref a6])), (a1, .inl (cI, hz_L g, .inl (nf ow))), (a2, .inl (cL, hz_L g, .inr (.inl ky))), (a3, .inl (cB, hz_L g, .inl (nf kd))), (a4, .inl (cL, hz_L g, .inr (.inl nu))), (a5, .inl (cI, hz_L g, .inl (nf fo))), (a6, .inl (cI, hz_M g, .inl (nf sn)))] H → va_D A [(x0, .inr (0, [.ref tr, .ref f, .int (nI ck), .long cn])), (tr, .inr (1, [.int (nI nT), .ref y1, .ref y2, .ref y3, .ref y4, .ref y5])), (y1, .inl (cI, hz_R gt, .inl (nf fi))), (y2, .inl (cI, hz_R gt, .inl (nf la))), (y3, .inl (cI, hz_R gt, .inl (nf kc))), (y4, .inl (cI, hz_R gt, .inl (nf vc))), (y5, .inl (cI, hz_R gt, .inl (nf bo))), (f, .inr (2, [.int (nI (aN a)), .ref a1, .ref a2, .ref a3, .ref a4, .ref a5, .ref a6])), (a1, .inl (cI, hz_L g, .inl (nf ow))), (a2, .inl (cL, hz_L g, .inr (.inl ky))), (a3, .inl (cB, hz_L g, .inl (nf kd))), (a4, .inl (cL, hz_L g, .inr (.inl nu))), (a5, .inl (cI, hz_L g, .inl (nf fo))), (a6, .inl (cI, hz_M g, .inl (nf sn)))] → va_S A s.heap H locs → ∀ (ls : Array Slot), lv_has ls 10 [(0, .ref x0), (1, .int (nI t)), (2, .long frm), (4, .int (nI nn)), (5, .int (nI ss))] → W p l e { frames := 6, cells := (6 * (gF g (aN ((fFill nT a x frm n sp).2)) - g)), slots := (Gs (gF g (aN ((fFill nT a x frm n sp).2))) - Gs g), locals := 155 } s m [.ref x0, .int x, .long frm, .int n, .int sp].toArray below meth c H locs 0 0 Z (F0 m 50 ls []) := by
      intro  hfit H locs hP hD hS ls hl
      have eF : (fFill nT a x frm n sp) = (nI (missA a t frm ss nn), runA a t frm ss nn) := eG.trans (if_neg (by omega))
      refine lv_iconst (v := nI 0) hx hb d_F_fill_50 (by decide) ?_
      refine lv_istore (lv' := [(6, .int (nI 0)), (0, .ref x0), (1, .int (nI t)), (2, .long frm), (4, .int (nI nn)), (5, .int (nI ss))]) hx hb d_F_fill_51 hl (by decide) rfl (fun ls hl => ?_)
      refine lv_lload_n hx hb d_F_fill_53 rfl (lv_at hl 3 rfl) ?_
      refine lv_lstore (lv' := [(7, .long frm), (6, .int (nI 0)), (0, .ref x0), (1, .int (nI t)), (2, .long frm), (4, .int (nI nn)), (5, .int (nI ss))]) hx hb d_F_fill_54 hl (by decide) rfl (fun ls hl => ?_)
      refine lv_iconst (v := nI 1) hx hb d_F_fill_56 (by decide) ?_
      refine lv_istore (lv' := [(9, .int (nI 1)), (7, .long frm), (6, .int (nI 0)), (0, .ref x0), (1, .int (nI t)), (2, .long frm), (4, .int (nI nn)), (5, .int (nI ss))]) hx hb d_F_fill_57 hl (by decide) rfl (fun ls hl => ?_)
      have loop_59 : ∀ (fuel : Nat) (j : Nat) (cm : Nat) (kx : Int64) (p1 : Nat) (p2 : Nat) (p3 : Nat) (p4 : Nat) (p5 : Nat) (p6 : Nat) (fiq : Nat → Nat) (laq : Nat → Nat) (kcq : Nat → Nat) (vcq : Nat → Nat) (boq : Nat → Nat) (owq : Nat → Nat) (kyq : Nat → Int64) (kdq : Nat → Nat) (nuq : Nat → Int64) (foq : Nat → Nat) (snq : Nat → Nat), j ≤ nn → cm = missA a t frm ss j → kx = rK frm ss j → CI nT (runA a t frm ss j) (gF g (aN (runA a t frm ss j))) gt owq kyq kdq nuq foq snq fiq laq kcq vcq boq → nn - j < fuel → ∀ (H : Heap) (locs : List Loc), va_P (dC, dI) classes [(x0, .inr (0, [.ref tr, .ref f, .int (nI ck), .long cn])), (tr, .inr (1, [.int (nI nT), .ref y1, .ref y2, .ref y3, .ref y4, .ref y5])), (y1, .inl (cI, hz_R gt, .inl (nf fiq))), (y2, .inl (cI, hz_R gt, .inl (nf laq))), (y3, .inl (cI, hz_R gt, .inl (nf kcq))), (y4, .inl (cI, hz_R gt, .inl (nf vcq))), (y5, .inl (cI, hz_R gt, .inl (nf boq))), (f, .inr (2, [.int (nI (aN (runA a t frm ss j))), .ref p1, .ref p2, .ref p3, .ref p4, .ref p5, .ref p6])), (p1, .inl (cI, hz_L (gF g (aN (runA a t frm ss j))), .inl (nf owq))), (p2, .inl (cL, hz_L (gF g (aN (runA a t frm ss j))), .inr (.inl kyq))), (p3, .inl (cB, hz_L (gF g (aN (runA a t frm ss j))), .inl (nf kdq))), (p4, .inl (cL, hz_L (gF g (aN (runA a t frm ss j))), .inr (.inl nuq))), (p5, .inl (cI, hz_L (gF g (aN (runA a t frm ss j))), .inl (nf foq))), (p6, .inl (cI, hz_M (gF g (aN (runA a t frm ss j))), .inl (nf snq)))] H → va_D A [(x0, .inr (0, [.ref tr, .ref f, .int (nI ck), .long cn])), (tr, .inr (1, [.int (nI nT), .ref y1, .ref y2, .ref y3, .ref y4, .ref y5])), (y1, .inl (cI, hz_R gt, .inl (nf fiq))), (y2, .inl (cI, hz_R gt, .inl (nf laq))), (y3, .inl (cI, hz_R gt, .inl (nf kcq))), (y4, .inl (cI, hz_R gt, .inl (nf vcq))), (y5, .inl (cI, hz_R gt, .inl (nf boq))), (f, .inr (2, [.int (nI (aN (runA a t frm ss j))), .ref p1, .ref p2, .ref p3, .ref p4, .ref p5, .ref p6])), (p1, .inl (cI, hz_L (gF g (aN (runA a t frm ss j))), .inl (nf owq))), (p2, .inl (cL, hz_L (gF g (aN (runA a t frm ss j))), .inr (.inl kyq))), (p3, .inl (cB, hz_L (gF g (aN (runA a t frm ss j))), .inl (nf kdq))), (p4, .inl (cL, hz_L (gF g (aN (runA a t frm ss j))), .inr (.inl nuq))), (p5, .inl (cI, hz_L (gF g (aN (runA a t frm ss j))), .inl (nf foq))), (p6, .inl (cI, hz_M (gF g (aN (runA a t frm ss j))), .inl (nf snq)))] → va_S A s.heap H locs → ∀ (ls : Array Slot), lv_has ls 10 [(0, .ref x0), (1, .int (nI t)), (2, .long frm), (4, .int (nI nn)), (5, .int (nI ss)), (6, .int (nI cm)), (7, .long kx), (9, .int (nI (j + 1)))] → W p l e { frames := 6, cells := (6 * (gF g (aN ((fFill nT a x frm n sp).2)) - g)), slots := (Gs (gF g (aN ((fFill nT a x frm n sp).2))) - Gs g), locals := 155 } s m [.ref x0, .int x, .long frm, .int n, .int sp].toArray below meth c H locs (6 * (gF g (aN (runA a t frm ss j)) - g)) (Gs (gF g (aN (runA a t frm ss j))) - Gs g) Z (F0 m 59 ls []) := by
        intro fuel
        induction fuel with
        | zero => intro j cm kx p1 p2 p3 p4 p5 p6 fiq laq kcq vcq boq owq kyq kdq nuq foq snq hj hcm hkx hC hfuel; exact absurd hfuel (Nat.not_lt_zero _)
        | succ fuel ih =>
          intro j cm kx p1 p2 p3 p4 p5 p6 fiq laq kcq vcq boq owq kyq kdq nuq foq snq hj hcm hkx hC hfuel H locs hP hD hS ls hl
          subst hkx
          have hA1 := runA_AI (frm := frm) hAI hnT ht1 ht2 hs1 hs2 j (by omega) (by have := missA_mono a t frm ss hj; omega)
          have hN0 := runA_N (a := a) (t := t) (frm := frm) hs1 hs2 j (by omega)
          have hM0 := missA_mono a t frm ss hj
          have hG0 := gF_spec (g := g) (n := aN (runA a t frm ss j)) hg (by omega)
          have hz0 := hz_gen _ hG0.2.1
          have hz1 := Gs_mono hG0.1
          have hz2 := missA_le a t frm ss j
          have hEn : aN (runA a t frm ss nn) = aN a + missA a t frm ss nn := runA_N hs1 hs2 nn (by omega)
          have hG9 := gF_mono (g := g) hg (show aN (runA a t frm ss nn) ≤ 40000 by omega) (show aN (runA a t frm ss j) ≤ aN (runA a t frm ss nn) by omega)
          have hGs9 := Gs_mono hG9
          refine lv_iload hx hb d_F_fill_59 (lv_at hl 7 rfl) ?_
          refine lv_iload hx hb d_F_fill_61 (lv_at hl 3 rfl) ?_
          refine lv_icmp_gt (tgt := 97) hx hb d_F_fill_63 (by decide) (fun c63 => ?_) (fun c63 => ?_)
          · have c63 : nn < j + 1 := by exact (nI_ltI (by omega) (by omega)).mp c63
            refine lv_iload hx hb d_F_fill_97 (lv_at hl 5 rfl) ?_
            have ejn : j = nn := by omega
            have hP : va_P (dC, dI) classes [(x0, .inr (0, [.ref tr, .ref f, .int (nI ck), .long cn])), (tr, .inr (1, [.int (nI nT), .ref y1, .ref y2, .ref y3, .ref y4, .ref y5])), (y1, .inl (cI, hz_R gt, .inl (nf fiq))), (y2, .inl (cI, hz_R gt, .inl (nf laq))), (y3, .inl (cI, hz_R gt, .inl (nf kcq))), (y4, .inl (cI, hz_R gt, .inl (nf vcq))), (y5, .inl (cI, hz_R gt, .inl (nf boq))), (f, .inr (2, [.int (nI (aN (fFill nT a x frm n sp).2)), .ref p1, .ref p2, .ref p3, .ref p4, .ref p5, .ref p6])), (p1, .inl (cI, hz_L (gF g (aN ((fFill nT a x frm n sp).2))), .inl (nf owq))), (p2, .inl (cL, hz_L (gF g (aN ((fFill nT a x frm n sp).2))), .inr (.inl kyq))), (p3, .inl (cB, hz_L (gF g (aN ((fFill nT a x frm n sp).2))), .inl (nf kdq))), (p4, .inl (cL, hz_L (gF g (aN ((fFill nT a x frm n sp).2))), .inr (.inl nuq))), (p5, .inl (cI, hz_L (gF g (aN ((fFill nT a x frm n sp).2))), .inl (nf foq))), (p6, .inl (cI, hz_M (gF g (aN ((fFill nT a x frm n sp).2))), .inl (nf snq)))] H := by rw [eF, ← ejn]; exact hP
            have hD : va_D A [(x0, .inr (0, [.ref tr, .ref f, .int (nI ck), .long cn])), (tr, .inr (1, [.int (nI nT), .ref y1, .ref y2, .ref y3, .ref y4, .ref y5])), (y1, .inl (cI, hz_R gt, .inl (nf fiq))), (y2, .inl (cI, hz_R gt, .inl (nf laq))), (y3, .inl (cI, hz_R gt, .inl (nf kcq))), (y4, .inl (cI, hz_R gt, .inl (nf vcq))), (y5, .inl (cI, hz_R gt, .inl (nf boq))), (f, .inr (2, [.int (nI (aN (fFill nT a x frm n sp).2)), .ref p1, .ref p2, .ref p3, .ref p4, .ref p5, .ref p6])), (p1, .inl (cI, hz_L (gF g (aN ((fFill nT a x frm n sp).2))), .inl (nf owq))), (p2, .inl (cL, hz_L (gF g (aN ((fFill nT a x frm n sp).2))), .inr (.inl kyq))), (p3, .inl (cB, hz_L (gF g (aN ((fFill nT a x frm n sp).2))), .inl (nf kdq))), (p4, .inl (cL, hz_L (gF g (aN ((fFill nT a x frm n sp).2))), .inr (.inl nuq))), (p5, .inl (cI, hz_L (gF g (aN ((fFill nT a x frm n sp).2))), .inl (nf foq))), (p6, .inl (cI, hz_M (gF g (aN ((fFill nT a x frm n sp).2))), .inl (nf snq)))] := by rw [eF, ← ejn]; exact hD
            refine W.widen (k := 6 * (gF g (aN ((fFill nT a x frm n sp).2)) - g)) (n := Gs (gF g (aN ((fFill nT a x frm n sp).2))) - Gs g) (by rw [eF, ← ejn]; exact Nat.le_refl _) (by rw [eF, ← ejn]; exact Nat.le_refl _) ?_
            have hpost : (nI cm) = (fFill nT a x frm n sp).1 ∧ CI nT ((fFill nT a x frm n sp).2) (gF g (aN ((fFill nT a x frm n sp).2))) gt owq kyq kdq nuq foq snq fiq laq kcq vcq boq := ⟨by rw [eF, hcm, show j = nn by omega], by rw [eF, ← ejn]; exact hC⟩
            exact hret (nI cm) (p1, p2, p3, p4, p5, p6, fiq, laq, kcq, vcq, boq, owq, kyq, kdq, nuq, foq, snq) _ _ 99 ls hpost hP hD hS d_F_fill_99
          · have c63 : ¬ nn < j + 1 := fun h => c63 (by exact (nI_ltI (by omega) (by omega)).mpr h)
            refine lv_iload hx hb d_F_fill_66 (lv_at hl 5 rfl) ?_
            refine lv_aload_n hx hb d_F_fill_68 rfl (lv_at hl 0 rfl) ?_
            refine lv_iload_n hx hb d_F_fill_69 rfl (lv_at hl 1 rfl) ?_
            refine lv_iconst (v := nI 3) hx hb d_F_fill_70 (by decide) ?_
            refine lv_lload hx hb d_F_fill_71 (lv_at hl 6 rfl) ?_
            refine lv_iconst (v := nI 3) hx hb d_F_fill_73 (by decide) ?_
            refine lv_iload hx hb d_F_fill_74 (lv_at hl 7 rfl) ?_
            refine lv_i2l (v := lN (j + 1)) hx hb d_F_fill_76 (nI_l (by omega)) ?_
            have hN1 : aN (runA a t frm ss (j + 1)) = aN (runA a t frm ss j) + comeA (runA a t frm ss j) (t * 8 + 3) (rK frm ss j) 3 := giveA_N _ _ _ _ _
            have hN2 := runA_N (a := a) (t := t) (frm := frm) hs1 hs2 (j + 1) (by omega)
            have hM1 := missA_mono a t frm ss (j := j + 1) (n := nn) (by omega)
            have eT : gF (gF g (aN (runA a t frm ss j))) (aN (giveA (runA a t frm ss j) (t * 8 + 3) (rK frm ss j) 3 (lN (j + 1)))) = gF g (aN (runA a t frm ss (j + 1))) := gF_trans (n := aN (runA a t frm ss j)) (m := aN (runA a t frm ss (j + 1))) hg (by omega) (by omega)
            have hG1 := gF_mono (g := g) hg (show aN (runA a t frm ss (j + 1)) ≤ 40000 by omega) (show aN (runA a t frm ss j) ≤ aN (runA a t frm ss (j + 1)) by omega)
            have hG2 := gF_mono (g := g) hg (show aN (runA a t frm ss nn) ≤ 40000 by omega) (show aN (runA a t frm ss (j + 1)) ≤ aN (runA a t frm ss nn) by omega)
            have hGs1 := Gs_mono hG1
            have hGs2 := Gs_mono hG2
            refine StdI.callV (ci := 0) (q0 := 0) (wr := []) (c_give l dC dI cI cL cB x0 tr f y1 y2 y3 y4 y5 p1 p2 p3 p4 p5 p6 ck nT (gF g (aN (runA a t frm ss j))) gt cn (runA a t frm ss j) fiq laq kcq vcq boq owq kyq kdq nuq foq snq t 3 3 (rK frm ss j) (lN (j + 1)) hC (by omega) (by omega) (by omega) (by omega) (by omega) (by omega)) ⟨hx, hb, hml, hown, hw⟩ (fz_cwV 5 hw m_164 m_161 m_163 ms_2 m_1 rfl rfl (by decide +kernel) ⟨Nat.le_of_ble_eq_true rfl, Nat.le_of_ble_eq_true rfl⟩) hK hP hD hS hA [0, 1, 2, 3, 4, 5, 6, 7, 8, 9, 10, 11, 12, 13] [] rfl rfl (by decide) (by decide) (by decide) rfl rfl rfl rfl hl.1 rfl (Nat.le_of_ble_eq_true rfl) d_F_fill_77 ⟨(by dsimp only; rw [eT, eF]; dsimp only; omega), (by dsimp only; rw [eT, eF]; dsimp only; omega)⟩ (fun r77 u77 H locs h77 hP hD hS => ?_)
            obtain ⟨b177, b277, b377, b477, b577, b677, fi277, la277, kc277, vc277, bo277, ow277, ky277, kd277, nu277, fo277, sn277⟩ := u77
            try dsimp only at h77
            have hP : va_P (dC, dI) classes [(x0, .inr (0, [.ref tr, .ref f, .int (nI ck), .long cn])), (tr, .inr (1, [.int (nI nT), .ref y1, .ref y2, .ref y3, .ref y4, .ref y5])), (y1, .inl (cI, hz_R gt, .inl (nf fi277))), (y2, .inl (cI, hz_R gt, .inl (nf la277))), (y3, .inl (cI, hz_R gt, .inl (nf kc277))), (y4, .inl (cI, hz_R gt, .inl (nf vc277))), (y5, .inl (cI, hz_R gt, .inl (nf bo277))), (f, .inr (2, [.int (nI (aN (giveA (runA a t frm ss j) (t * 8 + 3) (rK frm ss j) 3 (lN (j + 1))))), .ref b177, .ref b277, .ref b377, .ref b477, .ref b577, .ref b677])), (b177, .inl (cI, hz_L (gF (gF g (aN (runA a t frm ss j))) (aN (giveA (runA a t frm ss j) (t * 8 + 3) (rK frm ss j) 3 (lN (j + 1))))), .inl (nf ow277))), (b277, .inl (cL, hz_L (gF (gF g (aN (runA a t frm ss j))) (aN (giveA (runA a t frm ss j) (t * 8 + 3) (rK frm ss j) 3 (lN (j + 1))))), .inr (.inl ky277))), (b377, .inl (cB, hz_L (gF (gF g (aN (runA a t frm ss j))) (aN (giveA (runA a t frm ss j) (t * 8 + 3) (rK frm ss j) 3 (lN (j + 1))))), .inl (nf kd277))), (b477, .inl (cL, hz_L (gF (gF g (aN (runA a t frm ss j))) (aN (giveA (runA a t frm ss j) (t * 8 + 3) (rK frm ss j) 3 (lN (j + 1))))), .inr (.inl nu277))), (b577, .inl (cI, hz_L (gF (gF g (aN (runA a t frm ss j))) (aN (giveA (runA a t frm ss j) (t * 8 + 3) (rK frm ss j) 3 (lN (j + 1))))), .inl (nf fo277))), (b677, .inl (cI, hz_M (gF (gF g (aN (runA a t frm ss j))) (aN (giveA (runA a t frm ss j) (t * 8 + 3) (rK frm ss j) 3 (lN (j + 1))))), .inl (nf sn277)))] H := hP
            have hD : va_D A [(x0, .inr (0, [.ref tr, .ref f, .int (nI ck), .long cn])), (tr, .inr (1, [.int (nI nT), .ref y1, .ref y2, .ref y3, .ref y4, .ref y5])), (y1, .inl (cI, hz_R gt, .inl (nf fi277))), (y2, .inl (cI, hz_R gt, .inl (nf la277))), (y3, .inl (cI, hz_R gt, .inl (nf kc277))), (y4, .inl (cI, hz_R gt, .inl (nf vc277))), (y5, .inl (cI, hz_R gt, .inl (nf bo277))), (f, .inr (2, [.int (nI (aN (giveA (runA a t frm ss j) (t * 8 + 3) (rK frm ss j) 3 (lN (j + 1))))), .ref b177, .ref b277, .ref b377, .ref b477, .ref b577, .ref b677])), (b177, .inl (cI, hz_L (gF (gF g (aN (runA a t frm ss j))) (aN (giveA (runA a t frm ss j) (t * 8 + 3) (rK frm ss j) 3 (lN (j + 1))))), .inl (nf ow277))), (b277, .inl (cL, hz_L (gF (gF g (aN (runA a t frm ss j))) (aN (giveA (runA a t frm ss j) (t * 8 + 3) (rK frm ss j) 3 (lN (j + 1))))), .inr (.inl ky277))), (b377, .inl (cB, hz_L (gF (gF g (aN (runA a t frm ss j))) (aN (giveA (runA a t frm ss j) (t * 8 + 3) (rK frm ss j) 3 (lN (j + 1))))), .inl (nf kd277))), (b477, .inl (cL, hz_L (gF (gF g (aN (runA a t frm ss j))) (aN (giveA (runA a t frm ss j) (t * 8 + 3) (rK frm ss j) 3 (lN (j + 1))))), .inr (.inl nu277))), (b577, .inl (cI, hz_L (gF (gF g (aN (runA a t frm ss j))) (aN (giveA (runA a t frm ss j) (t * 8 + 3) (rK frm ss j) 3 (lN (j + 1))))), .inl (nf fo277))), (b677, .inl (cI, hz_M (gF (gF g (aN (runA a t frm ss j))) (aN (giveA (runA a t frm ss j) (t * 8 + 3) (rK frm ss j) 3 (lN (j + 1))))), .inl (nf sn277)))] := hD
            refine W.widen (k := (6 * (gF g (aN (runA a t frm ss j)) - g)) + (6 * (gF (gF g (aN (runA a t frm ss j))) (aN (giveA (runA a t frm ss j) (t * 8 + 3) (rK frm ss j) 3 (lN (j + 1)))) - (gF g (aN (runA a t frm ss j)))))) (n := (Gs (gF g (aN (runA a t frm ss j))) - Gs g) + (Gs (gF (gF g (aN (runA a t frm ss j))) (aN (giveA (runA a t frm ss j) (t * 8 + 3) (rK frm ss j) 3 (lN (j + 1))))) - Gs (gF g (aN (runA a t frm ss j))))) (by omega) (by omega) ?_
            obtain ⟨e77, h77⟩ := h77
            subst e77
            refine lv_iadd hx hb d_F_fill_80 ?_
            refine fz_eqi (y := nI (cm + (comeA (runA a t frm ss j) (t * 8 + 3) (rK frm ss j) 3))) (nI_add cm (comeA (runA a t frm ss j) (t * 8 + 3) (rK frm ss j) 3)) ?_
            refine lv_istore (lv' := [(6, .int (nI (cm + (comeA (runA a t frm ss j) (t * 8 + 3) (rK frm ss j) 3)))), (0, .ref x0), (1, .int (nI t)), (2, .long frm), (4, .int (nI nn)), (5, .int (nI ss)), (7, .long (rK frm ss j)), (9, .int (nI (j + 1)))]) hx hb d_F_fill_81 hl (by decide) rfl (fun ls hl => ?_)
            refine lv_lload hx hb d_F_fill_83 (lv_at hl 6 rfl) ?_
            refine lv_iload hx hb d_F_fill_85 (lv_at hl 5 rfl) ?_
            refine lv_i2l (v := lN ss) hx hb d_F_fill_87 (nI_l (by omega)) ?_
            refine lv_ladd hx hb d_F_fill_88 ?_
            refine fz_eql (y := rK frm ss (j + 1)) (rK_1 _ _ _) ?_
            refine lv_lstore (lv' := [(7, .long (rK frm ss (j + 1))), (6, .int (nI (cm + (comeA (runA a t frm ss j) (t * 8 + 3) (rK frm ss j) 3)))), (0, .ref x0), (1, .int (nI t)), (2, .long frm), (4, .int (nI nn)), (5, .int (nI ss)), (9, .int (nI (j + 1)))]) hx hb d_F_fill_89 hl (by decide) rfl (fun ls hl => ?_)
            refine lv_iinc (v := nI (j + 2)) (lv' := [(9, .int (nI (j + 2))), (7, .long (rK frm ss (j + 1))), (6, .int (nI (cm + (comeA (runA a t frm ss j) (t * 8 + 3) (rK frm ss j) 3)))), (0, .ref x0), (1, .int (nI t)), (2, .long frm), (4, .int (nI nn)), (5, .int (nI ss))]) hx hb d_F_fill_91 hl (k := 7) rfl (fz_inc (j + 1)) (by decide) rfl (fun ls hl => ?_)
            refine lv_goto (tgt := 59) hx hb d_F_fill_94 (by decide) ?_
            have hP : va_P (dC, dI) classes [(x0, .inr (0, [.ref tr, .ref f, .int (nI ck), .long cn])), (tr, .inr (1, [.int (nI nT), .ref y1, .ref y2, .ref y3, .ref y4, .ref y5])), (y1, .inl (cI, hz_R gt, .inl (nf fi277))), (y2, .inl (cI, hz_R gt, .inl (nf la277))), (y3, .inl (cI, hz_R gt, .inl (nf kc277))), (y4, .inl (cI, hz_R gt, .inl (nf vc277))), (y5, .inl (cI, hz_R gt, .inl (nf bo277))), (f, .inr (2, [.int (nI (aN (runA a t frm ss (j + 1)))), .ref b177, .ref b277, .ref b377, .ref b477, .ref b577, .ref b677])), (b177, .inl (cI, hz_L (gF g (aN (runA a t frm ss (j + 1)))), .inl (nf ow277))), (b277, .inl (cL, hz_L (gF g (aN (runA a t frm ss (j + 1)))), .inr (.inl ky277))), (b377, .inl (cB, hz_L (gF g (aN (runA a t frm ss (j + 1)))), .inl (nf kd277))), (b477, .inl (cL, hz_L (gF g (aN (runA a t frm ss (j + 1)))), .inr (.inl nu277))), (b577, .inl (cI, hz_L (gF g (aN (runA a t frm ss (j + 1)))), .inl (nf fo277))), (b677, .inl (cI, hz_M (gF g (aN (runA a t frm ss (j + 1)))), .inl (nf sn277)))] H := by rw [← eT]; exact hP
            have hD : va_D A [(x0, .inr (0, [.ref tr, .ref f, .int (nI ck), .long cn])), (tr, .inr (1, [.int (nI nT), .ref y1, .ref y2, .ref y3, .ref y4, .ref y5])), (y1, .inl (cI, hz_R gt, .inl (nf fi277))), (y2, .inl (cI, hz_R gt, .inl (nf la277))), (y3, .inl (cI, hz_R gt, .inl (nf kc277))), (y4, .inl (cI, hz_R gt, .inl (nf vc277))), (y5, .inl (cI, hz_R gt, .inl (nf bo277))), (f, .inr (2, [.int (nI (aN (runA a t frm ss (j + 1)))), .ref b177, .ref b277, .ref b377, .ref b477, .ref b577, .ref b677])), (b177, .inl (cI, hz_L (gF g (aN (runA a t frm ss (j + 1)))), .inl (nf ow277))), (b277, .inl (cL, hz_L (gF g (aN (runA a t frm ss (j + 1)))), .inr (.inl ky277))), (b377, .inl (cB, hz_L (gF g (aN (runA a t frm ss (j + 1)))), .inl (nf kd277))), (b477, .inl (cL, hz_L (gF g (aN (runA a t frm ss (j + 1)))), .inr (.inl nu277))), (b577, .inl (cI, hz_L (gF g (aN (runA a t frm ss (j + 1)))), .inl (nf fo277))), (b677, .inl (cI, hz_M (gF g (aN (runA a t frm ss (j + 1)))), .inl (nf sn277)))] := by rw [← eT]; exact hD
            refine W.widen (k := 6 * (gF g (aN (runA a t frm ss (j + 1))) - g)) (n := Gs (gF g (aN (runA a t frm ss (j + 1)))) - Gs g) (by rw [eT]; omega) (by rw [eT]; omega) ?_
            exact ih (j + 1) (cm + (comeA (runA a t frm ss j) (t * 8 + 3) (rK frm ss j) 3)) (rK frm ss (j + 1)) b177 b277 b377 b477 b577 b677 fi277 la277 kc277 vc277 bo277 ow277 ky277 kd277 nu277 fo277 sn277 (by omega) (by omega) rfl (by rw [← eT]; exact h77) (by omega) _ _ hP hD hS ls (lv_sub hl [3, 4, 5, 6, 7, 2, 1, 0] rfl)
      have eg0 : gF g (aN (runA a t frm ss 0)) = g := gF_same hg hn4 hnL
      have hP : va_P (dC, dI) classes [(x0, .inr (0, [.ref tr, .ref f, .int (nI ck), .long cn])), (tr, .inr (1, [.int (nI nT), .ref y1, .ref y2, .ref y3, .ref y4, .ref y5])), (y1, .inl (cI, hz_R gt, .inl (nf fi))), (y2, .inl (cI, hz_R gt, .inl (nf la))), (y3, .inl (cI, hz_R gt, .inl (nf kc))), (y4, .inl (cI, hz_R gt, .inl (nf vc))), (y5, .inl (cI, hz_R gt, .inl (nf bo))), (f, .inr (2, [.int (nI (aN (runA a t frm ss 0))), .ref a1, .ref a2, .ref a3, .ref a4, .ref a5, .ref a6])), (a1, .inl (cI, hz_L (gF g (aN (runA a t frm ss 0))), .inl (nf ow))), (a2, .inl (cL, hz_L (gF g (aN (runA a t frm ss 0))), .inr (.inl ky))), (a3, .inl (cB, hz_L (gF g (aN (runA a t frm ss 0))), .inl (nf kd))), (a4, .inl (cL, hz_L (gF g (aN (runA a t frm ss 0))), .inr (.inl nu))), (a5, .inl (cI, hz_L (gF g (aN (runA a t frm ss 0))), .inl (nf fo))), (a6, .inl (cI, hz_M (gF g (aN (runA a t frm ss 0))), .inl (nf sn)))] H := by rw [eg0]; exact hP
      have hD : va_D A [(x0, .inr (0, [.ref tr, .ref f, .int (nI ck), .long cn])), (tr, .inr (1, [.int (nI nT), .ref y1, .ref y2, .ref y3, .ref y4, .ref y5])), (y1, .inl (cI, hz_R gt, .inl (nf fi))), (y2, .inl (cI, hz_R gt, .inl (nf la))), (y3, .inl (cI, hz_R gt, .inl (nf kc))), (y4, .inl (cI, hz_R gt, .inl (nf vc))), (y5, .inl (cI, hz_R gt, .inl (nf bo))), (f, .inr (2, [.int (nI (aN (runA a t frm ss 0))), .ref a1, .ref a2, .ref a3, .ref a4, .ref a5, .ref a6])), (a1, .inl (cI, hz_L (gF g (aN (runA a t frm ss 0))), .inl (nf ow))), (a2, .inl (cL, hz_L (gF g (aN (runA a t frm ss 0))), .inr (.inl ky))), (a3, .inl (cB, hz_L (gF g (aN (runA a t frm ss 0))), .inl (nf kd))), (a4, .inl (cL, hz_L (gF g (aN (runA a t frm ss 0))), .inr (.inl nu))), (a5, .inl (cI, hz_L (gF g (aN (runA a t frm ss 0))), .inl (nf fo))), (a6, .inl (cI, hz_M (gF g (aN (runA a t frm ss 0))), .inl (nf sn)))] := by rw [eg0]; exact hD
      refine W.widen (k := 6 * (gF g (aN (runA a t frm ss 0)) - g)) (n := Gs (gF g (aN (runA a t frm ss 0))) - Gs g) (by omega) (by omega) ?_
      exact loop_59 (nn - 0 + 1) 0 0 frm a1 a2 a3 a4 a5 a6 fi la kc vc bo ow ky kd nu fo sn (by omega) rfl (rK_0 _ _).symm (by rw [eg0]; exact hCI) (Nat.lt_succ_self _) _ _ hP hD hS ls (lv_sub hl [3, 4, 5, 6, 7, 2, 1, 0] rfl)
    refine lv_iload hx hb d_F_fill_15 (lv_at hl 3 rfl) ?_
    refine lv_aload_n hx hb d_F_fill_17 rfl (lv_at hl 0 rfl) ?_
    refine va_get (D := (dC, dI)) (ci := 0) (v := .ref f) (C := R_F) (T := T_F) (N := 4) hx hb hw in_F hown hK hP 0 rfl rfl 1 (by decide) (hw _ m_84) (fun _ h9 => h9) rfl d_F_fill_18 ?_
    refine QryI.callV (ci := 2) (q0 := 0) (c_room l dC dI cI cL cB f a1 a2 a3 a4 a5 a6 (aN a) (by omega)) ⟨hx, hb, hml, hown, hw⟩ (fz_cwV 0 hw m_142 m_139 m_140 m_141 m_3 rfl rfl (by decide +kernel) ⟨Nat.le_of_ble_eq_true rfl, Nat.le_of_ble_eq_true rfl⟩) hK hP [7] rfl rfl rfl rfl rfl hl.1 rfl (Nat.le_of_ble_eq_true rfl) d_F_fill_21 ⟨(by (try dsimp only); omega), (by (try dsimp only); omega)⟩ (fun r21 h21 => ?_)
    subst h21
    refine lv_icmp_le (tgt := 50) hx hb d_F_fill_24 (by decide) (fun c24 => ?_) (fun c24 => ?_)
    · have c24 : nn ≤ 40000 - aN a := by exact (nI_leI (by omega) (by omega)).mp c24
      exact join_50  (by omega)  _ _ hP hD hS ls (lv_sub hl [0, 1, 2, 3, 4] rfl)
    · have c24 : ¬ nn ≤ 40000 - aN a := fun h => c24 (by exact (nI_leI (by omega) (by omega)).mpr h)
      refine lv_aload_n hx hb d_F_fill_27 rfl (lv_at hl 0 rfl) ?_
      refine lv_iload_n hx hb d_F_fill_28 rfl (lv_at hl 1 rfl) ?_
      refine lv_lload_n hx hb d_F_fill_29 rfl (lv_at hl 2 rfl) ?_
      refine lv_iload hx hb d_F_fill_30 (lv_at hl 3 rfl) ?_
      refine lv_iload hx hb d_F_fill_32 (lv_at hl 4 rfl) ?_
      refine QryI.callV (ci := 0) (q0 := 0) (c_missing l dC dI cI cL cB x0 tr f y1 y2 y3 y4 y5 a1 a2 a3 a4 a5 a6 ck nT g gt cn a fi la kc vc bo ow ky kd nu fo sn t nn ss frm hCI (by omega) (by omega) (by omega)) ⟨hx, hb, hml, hown, hw⟩ (fz_cwV 4 hw m_270 m_267 m_269 ms_11 m_1 rfl rfl (by decide +kernel) ⟨Nat.le_of_ble_eq_true rfl, Nat.le_of_ble_eq_true rfl⟩) hK hP [0, 1, 2, 3, 4, 5, 6, 7, 8, 9, 10, 11, 12, 13] rfl rfl rfl rfl rfl hl.1 rfl (Nat.le_of_ble_eq_true rfl) d_F_fill_34 ⟨(by (try dsimp only); omega), (by (try dsimp only); omega)⟩ (fun r34 h34 => ?_)
      subst h34
      refine lv_aload_n hx hb d_F_fill_37 rfl (lv_at hl 0 rfl) ?_
      refine va_get (D := (dC, dI)) (ci := 0) (v := .ref f) (C := R_F) (T := T_F) (N := 4) hx hb hw in_F hown hK hP 0 rfl rfl 1 (by decide) (hw _ m_84) (fun _ h9 => h9) rfl d_F_fill_38 ?_
      refine QryI.callV (ci := 2) (q0 := 0) (c_room l dC dI cI cL cB f a1 a2 a3 a4 a5 a6 (aN a) (by omega)) ⟨hx, hb, hml, hown, hw⟩ (fz_cwV 0 hw m_142 m_139 m_140 m_141 m_3 rfl rfl (by decide +kernel) ⟨Nat.le_of_ble_eq_true rfl, Nat.le_of_ble_eq_true rfl⟩) hK hP [7] rfl rfl rfl rfl rfl hl.1 rfl (Nat.le_of_ble_eq_true rfl) d_F_fill_41 ⟨(by (try dsimp only); omega), (by (try dsimp only); omega)⟩ (fun r41 h41 => ?_)
      subst h41
      refine lv_icmp_le (tgt := 50) hx hb d_F_fill_44 (by decide) (fun c44 => ?_) (fun c44 => ?_)
      · have c44 : missA a t frm ss nn ≤ 40000 - aN a := by exact (nI_leI (by omega) (by omega)).mp c44
        exact join_50  (by omega)  _ _ hP hD hS ls (lv_sub hl [0, 1, 2, 3, 4] rfl)
      · have c44 : ¬ missA a t frm ss nn ≤ 40000 - aN a := fun h => c44 (by exact (nI_leI (by omega) (by omega)).mpr h)
        refine lv_bipush (v := -3) hx hb d_F_fill_47 (by decide) ?_
        have eF : (fFill nT a x frm n sp) = (-3, a) := eG.trans (if_pos (by omega))
        have eg : gF g (aN ((fFill nT a x frm n sp).2)) = g := by rw [eF]; exact gF_same hg hn4 hnL
        have hP : va_P (dC, dI) classes [(x0, .inr (0, [.ref tr, .ref f, .int (nI ck), .long cn])), (tr, .inr (1, [.int (nI nT), .ref y1, .ref y2, .ref y3, .ref y4, .ref y5])), (y1, .inl (cI, hz_R gt, .inl (nf fi))), (y2, .inl (cI, hz_R gt, .inl (nf la))), (y3, .inl (cI, hz_R gt, .inl (nf kc))), (y4, .inl (cI, hz_R gt, .inl (nf vc))), (y5, .inl (cI, hz_R gt, .inl (nf bo))), (f, .inr (2, [.int (nI (aN (fFill nT a x frm n sp).2)), .ref a1, .ref a2, .ref a3, .ref a4, .ref a5, .ref a6])), (a1, .inl (cI, hz_L (gF g (aN ((fFill nT a x frm n sp).2))), .inl (nf ow))), (a2, .inl (cL, hz_L (gF g (aN ((fFill nT a x frm n sp).2))), .inr (.inl ky))), (a3, .inl (cB, hz_L (gF g (aN ((fFill nT a x frm n sp).2))), .inl (nf kd))), (a4, .inl (cL, hz_L (gF g (aN ((fFill nT a x frm n sp).2))), .inr (.inl nu))), (a5, .inl (cI, hz_L (gF g (aN ((fFill nT a x frm n sp).2))), .inl (nf fo))), (a6, .inl (cI, hz_M (gF g (aN ((fFill nT a x frm n sp).2))), .inl (nf sn)))] s.heap := by rw [eg, eF]; exact hP
        have hD : va_D A [(x0, .inr (0, [.ref tr, .ref f, .int (nI ck), .long cn])), (tr, .inr (1, [.int (nI nT), .ref y1, .ref y2, .ref y3, .ref y4, .ref y5])), (y1, .inl (cI, hz_R gt, .inl (nf fi))), (y2, .inl (cI, hz_R gt, .inl (nf la))), (y3, .inl (cI, hz_R gt, .inl (nf kc))), (y4, .inl (cI, hz_R gt, .inl (nf vc))), (y5, .inl (cI, hz_R gt, .inl (nf bo))), (f, .inr (2, [.int (nI (aN (fFill nT a x frm n sp).2)), .ref a1, .ref a2, .ref a3, .ref a4, .ref a5, .ref a6])), (a1, .inl (cI, hz_L (gF g (aN ((fFill nT a x frm n sp).2))), .inl (nf ow))), (a2, .inl (cL, hz_L (gF g (aN ((fFill nT a x frm n sp).2))), .inr (.inl ky))), (a3, .inl (cB, hz_L (gF g (aN ((fFill nT a x frm n sp).2))), .inl (nf kd))), (a4, .inl (cL, hz_L (gF g (aN ((fFill nT a x frm n sp).2))), .inr (.inl nu))), (a5, .inl (cI, hz_L (gF g (aN ((fFill nT a x frm n sp).2))), .inl (nf fo))), (a6, .inl (cI, hz_M (gF g (aN ((fFill nT a x frm n sp).2))), .inl (nf sn)))] := by rw [eg, eF]; exact hD
        refine W.widen (k := 6 * (gF g (aN ((fFill nT a x frm n sp).2)) - g)) (n := Gs (gF g (aN ((fFill nT a x frm n sp).2))) - Gs g) (by omega) (by omega) ?_
        have hpost : (-3) = (fFill nT a x frm n sp).1 ∧ CI nT ((fFill nT a x frm n sp).2) (gF g (aN ((fFill nT a x frm n sp).2))) gt ow ky kd nu fo sn fi la kc vc bo := ⟨by rw [eF], by rw [eg, eF]; exact hCI⟩
        exact hret (-3) (a1, a2, a3, a4, a5, a6, fi, la, kc, vc, bo, ow, ky, kd, nu, fo, sn) _ _ 49 ls hpost hP hD hS d_F_fill_49
  · have c10 : b7 = 0 := (nI_eq (by omega) (by omega)).mp (c10.trans nI_0.symm)
    refine lv_iconst (v := -1) hx hb d_F_fill_13 (by decide) ?_
    have eF : (fFill nT a x frm n sp) = (-1, a) := ifc_neg (fun h => absurd (hok7.mpr h) (by omega))
    have eg : gF g (aN ((fFill nT a x frm n sp).2)) = g := by rw [eF]; exact gF_same hg hn4 hnL
    have hP : va_P (dC, dI) classes [(x0, .inr (0, [.ref tr, .ref f, .int (nI ck), .long cn])), (tr, .inr (1, [.int (nI nT), .ref y1, .ref y2, .ref y3, .ref y4, .ref y5])), (y1, .inl (cI, hz_R gt, .inl (nf fi))), (y2, .inl (cI, hz_R gt, .inl (nf la))), (y3, .inl (cI, hz_R gt, .inl (nf kc))), (y4, .inl (cI, hz_R gt, .inl (nf vc))), (y5, .inl (cI, hz_R gt, .inl (nf bo))), (f, .inr (2, [.int (nI (aN (fFill nT a x frm n sp).2)), .ref a1, .ref a2, .ref a3, .ref a4, .ref a5, .ref a6])), (a1, .inl (cI, hz_L (gF g (aN ((fFill nT a x frm n sp).2))), .inl (nf ow))), (a2, .inl (cL, hz_L (gF g (aN ((fFill nT a x frm n sp).2))), .inr (.inl ky))), (a3, .inl (cB, hz_L (gF g (aN ((fFill nT a x frm n sp).2))), .inl (nf kd))), (a4, .inl (cL, hz_L (gF g (aN ((fFill nT a x frm n sp).2))), .inr (.inl nu))), (a5, .inl (cI, hz_L (gF g (aN ((fFill nT a x frm n sp).2))), .inl (nf fo))), (a6, .inl (cI, hz_M (gF g (aN ((fFill nT a x frm n sp).2))), .inl (nf sn)))] s.heap := by rw [eg, eF]; exact hP
    have hD : va_D A [(x0, .inr (0, [.ref tr, .ref f, .int (nI ck), .long cn])), (tr, .inr (1, [.int (nI nT), .ref y1, .ref y2, .ref y3, .ref y4, .ref y5])), (y1, .inl (cI, hz_R gt, .inl (nf fi))), (y2, .inl (cI, hz_R gt, .inl (nf la))), (y3, .inl (cI, hz_R gt, .inl (nf kc))), (y4, .inl (cI, hz_R gt, .inl (nf vc))), (y5, .inl (cI, hz_R gt, .inl (nf bo))), (f, .inr (2, [.int (nI (aN (fFill nT a x frm n sp).2)), .ref a1, .ref a2, .ref a3, .ref a4, .ref a5, .ref a6])), (a1, .inl (cI, hz_L (gF g (aN ((fFill nT a x frm n sp).2))), .inl (nf ow))), (a2, .inl (cL, hz_L (gF g (aN ((fFill nT a x frm n sp).2))), .inr (.inl ky))), (a3, .inl (cB, hz_L (gF g (aN ((fFill nT a x frm n sp).2))), .inl (nf kd))), (a4, .inl (cL, hz_L (gF g (aN ((fFill nT a x frm n sp).2))), .inr (.inl nu))), (a5, .inl (cI, hz_L (gF g (aN ((fFill nT a x frm n sp).2))), .inl (nf fo))), (a6, .inl (cI, hz_M (gF g (aN ((fFill nT a x frm n sp).2))), .inl (nf sn)))] := by rw [eg, eF]; exact hD
    refine W.widen (k := 6 * (gF g (aN ((fFill nT a x frm n sp).2)) - g)) (n := Gs (gF g (aN ((fFill nT a x frm n sp).2))) - Gs g) (by omega) (by omega) ?_
    have hpost : (-1) = (fFill nT a x frm n sp).1 ∧ CI nT ((fFill nT a x frm n sp).2) (gF g (aN ((fFill nT a x frm n sp).2))) gt ow ky kd nu fo sn fi la kc vc bo := ⟨by rw [eF], by rw [eg, eF]; exact hCI⟩
    exact hret (-1) (a1, a2, a3, a4, a5, a6, fi, la, kc, vc, bo, ow, ky, kd, nu, fo, sn) _ _ 14 ls hpost hP hD hS d_F_fill_14
end
section
/-! how often the rows of tables have grown -/
def gR (g n : Nat) : Nat := if n < hz_R g then g else g + 1
theorem gR_same {g n : Nat} (_ : g ≤ 11) (h : n < hz_R g) : gR g n = g := if_pos h
theorem gR_step {g n : Nat} (_ : g ≤ 11) (_ : n < 30000) (_ : n < hz_R g) : (n + 1 < hz_R g ∧ gR g (n + 1) = g) ∨ (hz_R g ≤ n + 1 ∧ gR g (n + 1) = g + 1) := by
  unfold gR
  by_cases q : n + 1 < hz_R g
  · exact Or.inl ⟨q, if_pos q⟩
  · exact Or.inr ⟨by omega, if_neg q⟩
theorem Rs_mono {a b : Nat} (h : a ≤ b) : Rs a ≤ Rs b := by
  induction b with
  | zero => rw [Nat.le_zero.mp h]; exact Nat.le_refl _
  | succ b ih =>
    by_cases e : a = b + 1
    · rw [e]; exact Nat.le_refl _
    · have := ih (by omega)
      show Rs a ≤ Rs b + _
      omega
/-- a table comes, with no keys -/
theorem CI.make {nT g gt : Nat} {a : AS} {ow : Nat → Nat} {ky : Nat → Int64} {kd : Nat → Nat} {nu : Nat → Int64} {fo sn fi la kc vc bo fi2 la2 kc2 vc2 bo2 : Nat → Nat} (h : CI nT a g gt ow ky kd nu fo sn fi la kc vc bo) (hn : nT < 30000)
    (h2 : (∀ i, i ≤ nT → fi2 i = fi i ∧ la2 i = la i ∧ kc2 i = kc i ∧ vc2 i = vc i ∧ bo2 i = bo i) ∧ fi2 (nT + 1) = 0 ∧ la2 (nT + 1) = 0 ∧ kc2 (nT + 1) = 0 ∧ vc2 (nT + 1) = 0 ∧ bo2 (nT + 1) = 0) : CI (nT + 1) a g (gR gt (nT + 1)) ow ky kd nu fo sn fi2 la2 kc2 vc2 bo2 := by
  obtain ⟨⟨q1, q2, q3, q4, q5, q6, q7⟩, ⟨r1, r2⟩, r3, r4⟩ := h
  obtain ⟨s1, s2, s3, s4, s5, s6⟩ := h2
  have hno : ∀ i, 1 ≤ i → i ≤ aN a → aO a i / 8 ≠ nT + 1 := fun i h1 h2 => by have := (q1.2.1 i h1 h2).2.1; omega
  have hgt : gR gt (nT + 1) ≤ 11 ∧ nT + 1 < hz_R (gR gt (nT + 1)) := by
    rcases gR_step r3 hn r4 with ⟨z1, z2⟩ | ⟨z1, z2⟩
    · rw [z2]; exact ⟨r3, z1⟩
    · have g11 : gt < 11 := by
        rcases Nat.lt_or_ge gt 11 with y | y
        · exact y
        · have e : gt = 11 := by omega
          rw [e, show hz_R 11 = 30001 from rfl] at z1; omega
      have := (hz_Rgrow gt g11).2
      rw [z2]; exact ⟨by omega, by omega⟩
  refine ⟨⟨⟨q1.1, fun i h1 h2 => ?_, q1.2.2⟩, by omega, q3, q4, q5, q6, q7⟩, ⟨r1, fun t h1 h2 => ?_⟩, hgt.1, hgt.2⟩
  · have := q1.2.1 i h1 h2; omega
  · by_cases e : t = nT + 1
    · subst e
      rw [s2, s3, s4, s5, s6]
      refine ⟨Or.inl ⟨rfl, fun k a1 a2 => hno k (by omega) a2⟩, Or.inl ⟨rfl, fun k a1 a2 => hno k a1 a2⟩, ?_, ?_, fun k h1 h2 => by omega, ?_⟩
      · exact (cnt_none (fun j a1 a2 => beq_eq_false_iff_ne.mpr (hno j a1 a2))).symm
      · exact (cnt_none (fun j a1 a2 => by rw [beq_eq_false_iff_ne.mpr (hno j a1 a2)]; rfl)).symm
      · show aD a (aF a ((nT + 1) * 8 + 3) (lN 1)) = 0
        by_cases z : aF a ((nT + 1) * 8 + 3) (lN 1) = 0
        · rw [z]; exact q1.2.2.2.1
        · have := (aF_hit z).1
          have b := hno _ (Nat.pos_of_ne_zero z) (aF_le _ _ _)
          rw [this] at b; omega
    · obtain ⟨p1, p2, p3, p4, p5⟩ := s1 t (by omega)
      rw [p1, p2, p3, p4, p5]
      exact r2 t h1 (by omega)
end
section
set_option maxHeartbeats 4000000 in
set_option maxRecDepth 100000 in
/-- clear -/
theorem c_clear (l : Launch) (dC : Nat → ClassId) (dI : Nat → Nat → Nat) (cI cL cB : ClassId) (x0 : Nat) (tr : Nat) (f : Nat) (y1 : Nat) (y2 : Nat) (y3 : Nat) (y4 : Nat) (y5 : Nat) (a1 : Nat) (a2 : Nat) (a3 : Nat) (a4 : Nat) (a5 : Nat) (a6 : Nat) (ck : Nat) (nT : Nat) (g : Nat) (gt : Nat) (cn : Int64) (a : AS) (fi : Nat → Nat) (la : Nat → Nat) (kc : Nat → Nat) (vc : Nat → Nat) (bo : Nat → Nat) (ow : Nat → Nat) (ky : Nat → Int64) (kd : Nat → Nat) (nu : Nat → Int64) (fo : Nat → Nat) (sn : Nat → Nat) (x : Int32) (frm : Int64) (n : Int32) (sp : Int32) (hCI : CI nT a g gt ow ky kd nu fo sn fi la kc vc bo) : StdI l y_F_clear (wd y_F_clear b_F_clear 10 (some .int)) 6 155 (6 * (gF g (aN ((fClear nT a x frm n sp).2)) - g)) (Gs (gF g (aN ((fClear nT a x frm n sp).2))) - Gs g) (dC, dI) classes (tyK cI cL cB) [.ref x0, .int x, .long frm, .int n, .int sp] [(x0, .inr (0, [.ref tr, .ref f, .int (nI ck), .long cn])), (tr, .inr (1, [.int (nI nT), .ref y1, .ref y2, .ref y3, .ref y4, .ref y5])), (y1, .inl (cI, hz_R gt, .inl (nf fi))), (y2, .inl (cI, hz_R gt, .inl (nf la))), (y3, .inl (cI, hz_R gt, .inl (nf kc))), (y4, .inl (cI, hz_R gt, .inl (nf vc))), (y5, .inl (cI, hz_R gt, .inl (nf bo))), (f, .inr (2, [.int (nI (aN a)), .ref a1, .ref a2, .ref a3, .ref a4, .ref a5, .ref a6])), (a1, .inl (cI, hz_L g, .inl (nf ow))), (a2, .inl (cL, hz_L g, .inr (.inl ky))), (a3, .inl (cB, hz_L g, .inl (nf kd))), (a4, .inl (cL, hz_L g, .inr (.inl nu))), (a5, .inl (cI, hz_L g, .inl (nf fo))), (a6, .inl (cI, hz_M g, .inl (nf sn)))] (fun (r : Int32) (u : Nat × Nat × Nat × Nat × Nat × Nat × (Nat → Nat) × (Nat → Nat) × (Nat → Nat) × (Nat → Nat) × (Nat → Nat) × (Nat → Nat) × (Nat → Int64) × (Nat → Nat) × (Nat → Int64) × (Nat → Nat) × (Nat → Nat)) => r = (fClear nT a x frm n sp).1 ∧ CI nT ((fClear nT a x frm n sp).2) (gF g (aN ((fClear nT a x frm n sp).2))) gt u.2.2.2.2.2.2.2.2.2.2.2.1 u.2.2.2.2.2.2.2.2.2.2.2.2.1 u.2.2.2.2.2.2.2.2.2.2.2.2.2.1 u.2.2.2.2.2.2.2.2.2.2.2.2.2.2.1 u.2.2.2.2.2.2.2.2.2.2.2.2.2.2.2.1 u.2.2.2.2.2.2.2.2.2.2.2.2.2.2.2.2 u.2.2.2.2.2.2.1 u.2.2.2.2.2.2.2.1 u.2.2.2.2.2.2.2.2.1 u.2.2.2.2.2.2.2.2.2.1 u.2.2.2.2.2.2.2.2.2.2.1) (fun (u : Nat × Nat × Nat × Nat × Nat × Nat × (Nat → Nat) × (Nat → Nat) × (Nat → Nat) × (Nat → Nat) × (Nat → Nat) × (Nat → Nat) × (Nat → Int64) × (Nat → Nat) × (Nat → Int64) × (Nat → Nat) × (Nat → Nat)) => [(x0, .inr (0, [.ref tr, .ref f, .int (nI ck), .long cn])), (tr, .inr (1, [.int (nI nT), .ref y1, .ref y2, .ref y3, .ref y4, .ref y5])), (y1, .inl (cI, hz_R gt, .inl (nf u.2.2.2.2.2.2.1))), (y2, .inl (cI, hz_R gt, .inl (nf u.2.2.2.2.2.2.2.1))), (y3, .inl (cI, hz_R gt, .inl (nf u.2.2.2.2.2.2.2.2.1))), (y4, .inl (cI, hz_R gt, .inl (nf u.2.2.2.2.2.2.2.2.2.1))), (y5, .inl (cI, hz_R gt, .inl (nf u.2.2.2.2.2.2.2.2.2.2.1))), (f, .inr (2, [.int (nI (aN ((fClear nT a x frm n sp).2))), .ref u.1, .ref u.2.1, .ref u.2.2.1, .ref u.2.2.2.1, .ref u.2.2.2.2.1, .ref u.2.2.2.2.2.1])), (u.1, .inl (cI, hz_L (gF g (aN ((fClear nT a x frm n sp).2))), .inl (nf u.2.2.2.2.2.2.2.2.2.2.2.1))), (u.2.1, .inl (cL, hz_L (gF g (aN ((fClear nT a x frm n sp).2))), .inr (.inl u.2.2.2.2.2.2.2.2.2.2.2.2.1))), (u.2.2.1, .inl (cB, hz_L (gF g (aN ((fClear nT a x frm n sp).2))), .inl (nf u.2.2.2.2.2.2.2.2.2.2.2.2.2.1))), (u.2.2.2.1, .inl (cL, hz_L (gF g (aN ((fClear nT a x frm n sp).2))), .inr (.inl u.2.2.2.2.2.2.2.2.2.2.2.2.2.2.1))), (u.2.2.2.2.1, .inl (cI, hz_L (gF g (aN ((fClear nT a x frm n sp).2))), .inl (nf u.2.2.2.2.2.2.2.2.2.2.2.2.2.2.2.1))), (u.2.2.2.2.2.1, .inl (cI, hz_M (gF g (aN ((fClear nT a x frm n sp).2))), .inl (nf u.2.2.2.2.2.2.2.2.2.2.2.2.2.2.2.2)))]) := by
  obtain ⟨hCS, hCT, hgt, hRT⟩ := id hCI
  have hAI := hCS.1
  have hnT := hCS.2.1
  have hg := hCS.2.2.1
  have hnL := hCS.2.2.2.1
  have hAg := hCS.2.2.2.2.1
  have hk8 := hCS.2.2.2.2.2.1
  have hT := hCS.2.2.2.2.2.2
  have hO := hCS.O
  have hU := hCS.U
  have hg1 := hz_gen g hg
  have hg2 := hz_Rgen gt hgt
  have hn4 := hAI.1
  refine StdI.mk (cc := b_F_clear) (maxL := 10) (by decide) rfl (Nat.le_of_ble_eq_true rfl) ?_
  intro p e s m below meth c A Z ls hx hb hml hown hts hin hP hK hD hA hS hret hl
  have hown : s.vm.findClass R_F = some m.cls := hown
  have hw : ∀ x ∈ WALL, x.before _ s = true := fun x h => hts x (List.mem_cons_of_mem _ h)
  have hl : lv_has ls 10 [(0, .ref x0), (1, .int x), (2, .long frm), (4, .int n), (5, .int sp)] := hl
  refine lv_aload_n hx hb d_F_clear_0 rfl (lv_at hl 0 rfl) ?_
  refine lv_iload_n hx hb d_F_clear_1 rfl (lv_at hl 1 rfl) ?_
  refine lv_lload_n hx hb d_F_clear_2 rfl (lv_at hl 2 rfl) ?_
  refine lv_iload hx hb d_F_clear_3 (lv_at hl 3 rfl) ?_
  refine lv_iload hx hb d_F_clear_5 (lv_at hl 4 rfl) ?_
  refine QryI.callV (ci := 0) (q0 := 0) (c_isRun l dC dI cI cL cB x0 tr f y1 y2 y3 y4 y5 a1 a2 a3 a4 a5 a6 ck nT g gt cn a fi la kc vc bo ow ky kd nu fo sn x frm n sp hCI) ⟨hx, hb, hml, hown, hw⟩ (fz_cwV 4 hw m_264 m_261 m_263 ms_10 m_1 rfl rfl (by decide +kernel) ⟨Nat.le_of_ble_eq_true rfl, Nat.le_of_ble_eq_true rfl⟩) hK hP [0, 1, 2, 3, 4, 5, 6, 7, 8, 9, 10, 11, 12, 13] rfl rfl rfl rfl rfl hl.1 rfl (Nat.le_of_ble_eq_true rfl) d_F_clear_7 ⟨(by (try dsimp only); omega), (by (try dsimp only); omega)⟩ (fun r7 h7 => ?_)
  obtain ⟨b7, hb7, e7, hok7⟩ := h7
  subst e7
  refine lv_if_ne (tgt := 15) hx hb d_F_clear_10 (by decide) (fun c10 => ?_) (fun c10 => ?_)
  · have c10 : ¬ b7 = 0 := fun h => c10 (((nI_eq (by omega) (by omega)).mpr h).trans nI_0)
    obtain ⟨⟨t, ht1, ht2, ext⟩, ⟨nn, hnn, exn⟩, ⟨ss, hs1, hs2, exs⟩, hf1, hf2⟩ := hok7.mp (by omega)
    rw [ext, exn, exs] at hl
    have eF : (fClear nT a x frm n sp) = (nI (wereA a t frm ss nn), clrA a t frm ss nn) := by unfold fClear; rw [ifc_pos (hok7.mp (by omega)), ext, exn, exs, tN_nI (by omega), tN_nI (by omega), tN_nI (by omega)]
    refine lv_aload_n hx hb d_F_clear_15 rfl (lv_at hl 0 rfl) ?_
    refine va_get (D := (dC, dI)) (ci := 0) (v := .ref tr) (C := R_F) (T := T_F) (N := 4) hx hb hw in_F hown hK hP 0 rfl rfl 0 (by decide) (hw _ m_83) (fun _ h9 => h9) rfl d_F_clear_16 ?_
    refine va_get (D := (dC, dI)) (ci := 1) (v := .ref y4) (C := R_T) (T := T_T) (N := 6) hx hb hw in_T hown hK hP 1 rfl rfl 4 (by decide) (hw _ m_31) (fun _ h9 => h9) rfl d_F_clear_19 ?_
    refine lv_iload_n hx hb d_F_clear_22 rfl (lv_at hl 1 rfl) ?_
    refine fz_iald hx hb hK hP 5 0 rfl rfl (j := t) (by omega) (by omega) d_F_clear_23 ?_
    refine lv_istore (lv' := [(6, .int (nI (vc t))), (0, .ref x0), (1, .int (nI t)), (2, .long frm), (4, .int (nI nn)), (5, .int (nI ss))]) hx hb d_F_clear_24 hl (by decide) rfl (fun ls hl => ?_)
    refine lv_lload_n hx hb d_F_clear_26 rfl (lv_at hl 3 rfl) ?_
    refine lv_lstore (lv' := [(7, .long frm), (6, .int (nI (vc t))), (0, .ref x0), (1, .int (nI t)), (2, .long frm), (4, .int (nI nn)), (5, .int (nI ss))]) hx hb d_F_clear_27 hl (by decide) rfl (fun ls hl => ?_)
    refine lv_iconst (v := nI 0) hx hb d_F_clear_29 (by decide) ?_
    refine lv_istore (lv' := [(9, .int (nI 0)), (7, .long frm), (6, .int (nI (vc t))), (0, .ref x0), (1, .int (nI t)), (2, .long frm), (4, .int (nI nn)), (5, .int (nI ss))]) hx hb d_F_clear_30 hl (by decide) rfl (fun ls hl => ?_)
    have loop_32 : ∀ (fuel : Nat) (j : Nat) (kx : Int64) (p1 : Nat) (p2 : Nat) (p3 : Nat) (p4 : Nat) (p5 : Nat) (p6 : Nat) (fiq : Nat → Nat) (laq : Nat → Nat) (kcq : Nat → Nat) (vcq : Nat → Nat) (boq : Nat → Nat) (owq : Nat → Nat) (kyq : Nat → Int64) (kdq : Nat → Nat) (nuq : Nat → Int64) (foq : Nat → Nat) (snq : Nat → Nat), j ≤ nn → kx = rK frm ss j → CI nT (clrA a t frm ss j) g gt owq kyq kdq nuq foq snq fiq laq kcq vcq boq → nn - j < fuel → ∀ (H : Heap) (locs : List Loc), va_P (dC, dI) classes [(x0, .inr (0, [.ref tr, .ref f, .int (nI ck), .long cn])), (tr, .inr (1, [.int (nI nT), .ref y1, .ref y2, .ref y3, .ref y4, .ref y5])), (y1, .inl (cI, hz_R gt, .inl (nf fiq))), (y2, .inl (cI, hz_R gt, .inl (nf laq))), (y3, .inl (cI, hz_R gt, .inl (nf kcq))), (y4, .inl (cI, hz_R gt, .inl (nf vcq))), (y5, .inl (cI, hz_R gt, .inl (nf boq))), (f, .inr (2, [.int (nI (aN (clrA a t frm ss j))), .ref p1, .ref p2, .ref p3, .ref p4, .ref p5, .ref p6])), (p1, .inl (cI, hz_L g, .inl (nf owq))), (p2, .inl (cL, hz_L g, .inr (.inl kyq))), (p3, .inl (cB, hz_L g, .inl (nf kdq))), (p4, .inl (cL, hz_L g, .inr (.inl nuq))), (p5, .inl (cI, hz_L g, .inl (nf foq))), (p6, .inl (cI, hz_M g, .inl (nf snq)))] H → va_D A [(x0, .inr (0, [.ref tr, .ref f, .int (nI ck), .long cn])), (tr, .inr (1, [.int (nI nT), .ref y1, .ref y2, .ref y3, .ref y4, .ref y5])), (y1, .inl (cI, hz_R gt, .inl (nf fiq))), (y2, .inl (cI, hz_R gt, .inl (nf laq))), (y3, .inl (cI, hz_R gt, .inl (nf kcq))), (y4, .inl (cI, hz_R gt, .inl (nf vcq))), (y5, .inl (cI, hz_R gt, .inl (nf boq))), (f, .inr (2, [.int (nI (aN (clrA a t frm ss j))), .ref p1, .ref p2, .ref p3, .ref p4, .ref p5, .ref p6])), (p1, .inl (cI, hz_L g, .inl (nf owq))), (p2, .inl (cL, hz_L g, .inr (.inl kyq))), (p3, .inl (cB, hz_L g, .inl (nf kdq))), (p4, .inl (cL, hz_L g, .inr (.inl nuq))), (p5, .inl (cI, hz_L g, .inl (nf foq))), (p6, .inl (cI, hz_M g, .inl (nf snq)))] → va_S A s.heap H locs → ∀ (ls : Array Slot), lv_has ls 10 [(0, .ref x0), (1, .int (nI t)), (2, .long frm), (4, .int (nI nn)), (5, .int (nI ss)), (6, .int (nI (vc t))), (7, .long kx), (9, .int (nI j))] → W p l e { frames := 6, cells := (6 * (gF g (aN ((fClear nT a x frm n sp).2)) - g)), slots := (Gs (gF g (aN ((fClear nT a x frm n sp).2))) - Gs g), locals := 155 } s m [.ref x0, .int x, .long frm, .int n, .int sp].toArray below meth c H locs 0 0 Z (F0 m 32 ls []) := by
      intro fuel
      induction fuel with
      | zero => intro j kx p1 p2 p3 p4 p5 p6 fiq laq kcq vcq boq owq kyq kdq nuq foq snq hj hkx hC hfuel; exact absurd hfuel (Nat.not_lt_zero _)
      | succ fuel ih =>
        intro j kx p1 p2 p3 p4 p5 p6 fiq laq kcq vcq boq owq kyq kdq nuq foq snq hj hkx hC hfuel H locs hP hD hS ls hl
        subst hkx
        have hN0 := clrA_N (a := a) (t := t) (frm := frm) (st := ss) j
        have hN1 : aN (giveA (clrA a t frm ss j) (t * 8 + 3) (rK frm ss j) 0 (lN 0)) = aN a := (clrA_N (a := a) (t := t) (frm := frm) (st := ss) (j + 1))
        have eT : gF g (aN (giveA (clrA a t frm ss j) (t * 8 + 3) (rK frm ss j) 0 (lN 0))) = g := by rw [hN1]; exact gF_same hg hn4 hnL
        refine lv_iload hx hb d_F_clear_32 (lv_at hl 7 rfl) ?_
        refine lv_iload hx hb d_F_clear_34 (lv_at hl 3 rfl) ?_
        refine lv_icmp_ge (tgt := 64) hx hb d_F_clear_36 (by decide) (fun c36 => ?_) (fun c36 => ?_)
        · have c36 : nn ≤ j := by exact (nI_leI (by omega) (by omega)).mp c36
          refine lv_iload hx hb d_F_clear_64 (lv_at hl 5 rfl) ?_
          refine lv_aload_n hx hb d_F_clear_66 rfl (lv_at hl 0 rfl) ?_
          refine va_get (D := (dC, dI)) (ci := 0) (v := .ref tr) (C := R_F) (T := T_F) (N := 4) hx hb hw in_F hown hK hP 0 rfl rfl 0 (by decide) (hw _ m_83) (fun _ h9 => h9) rfl d_F_clear_67 ?_
          refine va_get (D := (dC, dI)) (ci := 1) (v := .ref y4) (C := R_T) (T := T_T) (N := 6) hx hb hw in_T hown hK hP 1 rfl rfl 4 (by decide) (hw _ m_31) (fun _ h9 => h9) rfl d_F_clear_70 ?_
          refine lv_iload_n hx hb d_F_clear_73 rfl (lv_at hl 1 rfl) ?_
          refine fz_iald hx hb hK hP 5 0 rfl rfl (j := t) (by omega) (by omega) d_F_clear_74 ?_
          have hV0 := clrA_V (frm := frm) hAI hnT ht1 ht2 hs1 hs2 nn (by omega)
          have ejn9 : j = nn := by omega
          have hV3 : vcq t = cV (clrA a t frm ss nn) t := by rw [← ejn9]; exact (hC.2.1.2 t ht1 ht2).2.2.2.1
          have hV4 : vc t = cV a t := (hCT.2 t ht1 ht2).2.2.2.1
          have hV1 : nI (vc t - vcq t) = nI (wereA a t frm ss nn) := by congr 1; omega
          refine lv_isub hx hb d_F_clear_75 ?_
          refine fz_eqi (y := nI ((vc t) - (vcq t))) (pk_sub (by omega)) ?_
          have ejn : j = nn := by omega
          have eg : gF g (aN ((fClear nT a x frm n sp).2)) = g := by rw [eF]; show gF g (aN (clrA a t frm ss nn)) = g; rw [clrA_N]; exact gF_same hg hn4 hnL
          have hP : va_P (dC, dI) classes [(x0, .inr (0, [.ref tr, .ref f, .int (nI ck), .long cn])), (tr, .inr (1, [.int (nI nT), .ref y1, .ref y2, .ref y3, .ref y4, .ref y5])), (y1, .inl (cI, hz_R gt, .inl (nf fiq))), (y2, .inl (cI, hz_R gt, .inl (nf laq))), (y3, .inl (cI, hz_R gt, .inl (nf kcq))), (y4, .inl (cI, hz_R gt, .inl (nf vcq))), (y5, .inl (cI, hz_R gt, .inl (nf boq))), (f, .inr (2, [.int (nI (aN (fClear nT a x frm n sp).2)), .ref p1, .ref p2, .ref p3, .ref p4, .ref p5, .ref p6])), (p1, .inl (cI, hz_L (gF g (aN ((fClear nT a x frm n sp).2))), .inl (nf owq))), (p2, .inl (cL, hz_L (gF g (aN ((fClear nT a x frm n sp).2))), .inr (.inl kyq))), (p3, .inl (cB, hz_L (gF g (aN ((fClear nT a x frm n sp).2))), .inl (nf kdq))), (p4, .inl (cL, hz_L (gF g (aN ((fClear nT a x frm n sp).2))), .inr (.inl nuq))), (p5, .inl (cI, hz_L (gF g (aN ((fClear nT a x frm n sp).2))), .inl (nf foq))), (p6, .inl (cI, hz_M (gF g (aN ((fClear nT a x frm n sp).2))), .inl (nf snq)))] H := by rw [eg, eF, ← ejn]; exact hP
          have hD : va_D A [(x0, .inr (0, [.ref tr, .ref f, .int (nI ck), .long cn])), (tr, .inr (1, [.int (nI nT), .ref y1, .ref y2, .ref y3, .ref y4, .ref y5])), (y1, .inl (cI, hz_R gt, .inl (nf fiq))), (y2, .inl (cI, hz_R gt, .inl (nf laq))), (y3, .inl (cI, hz_R gt, .inl (nf kcq))), (y4, .inl (cI, hz_R gt, .inl (nf vcq))), (y5, .inl (cI, hz_R gt, .inl (nf boq))), (f, .inr (2, [.int (nI (aN (fClear nT a x frm n sp).2)), .ref p1, .ref p2, .ref p3, .ref p4, .ref p5, .ref p6])), (p1, .inl (cI, hz_L (gF g (aN ((fClear nT a x frm n sp).2))), .inl (nf owq))), (p2, .inl (cL, hz_L (gF g (aN ((fClear nT a x frm n sp).2))), .inr (.inl kyq))), (p3, .inl (cB, hz_L (gF g (aN ((fClear nT a x frm n sp).2))), .inl (nf kdq))), (p4, .inl (cL, hz_L (gF g (aN ((fClear nT a x frm n sp).2))), .inr (.inl nuq))), (p5, .inl (cI, hz_L (gF g (aN ((fClear nT a x frm n sp).2))), .inl (nf foq))), (p6, .inl (cI, hz_M (gF g (aN ((fClear nT a x frm n sp).2))), .inl (nf snq)))] := by rw [eg, eF, ← ejn]; exact hD
          refine W.widen (k := 6 * (gF g (aN ((fClear nT a x frm n sp).2)) - g)) (n := Gs (gF g (aN ((fClear nT a x frm n sp).2))) - Gs g) (by omega) (by omega) ?_
          have hpost : (nI ((vc t) - (vcq t))) = (fClear nT a x frm n sp).1 ∧ CI nT ((fClear nT a x frm n sp).2) (gF g (aN ((fClear nT a x frm n sp).2))) gt owq kyq kdq nuq foq snq fiq laq kcq vcq boq := ⟨by rw [eF, hV1], by rw [eg, eF, ← ejn]; exact hC⟩
          exact hret (nI ((vc t) - (vcq t))) (p1, p2, p3, p4, p5, p6, fiq, laq, kcq, vcq, boq, owq, kyq, kdq, nuq, foq, snq) _ _ 76 ls hpost hP hD hS d_F_clear_76
        · have c36 : ¬ nn ≤ j := fun h => c36 (by exact (nI_leI (by omega) (by omega)).mpr h)
          refine lv_aload_n hx hb d_F_clear_39 rfl (lv_at hl 0 rfl) ?_
          refine lv_iload_n hx hb d_F_clear_40 rfl (lv_at hl 1 rfl) ?_
          refine lv_iconst (v := nI 3) hx hb d_F_clear_41 (by decide) ?_
          refine lv_lload hx hb d_F_clear_42 (lv_at hl 6 rfl) ?_
          refine lv_iconst (v := nI 0) hx hb d_F_clear_44 (by decide) ?_
          refine lv_lconst (v := lN 0) hx hb d_F_clear_45 rfl ?_
          refine StdI.callV (ci := 0) (q0 := 0) (wr := []) (c_give l dC dI cI cL cB x0 tr f y1 y2 y3 y4 y5 p1 p2 p3 p4 p5 p6 ck nT g gt cn (clrA a t frm ss j) fiq laq kcq vcq boq owq kyq kdq nuq foq snq t 3 0 (rK frm ss j) (lN 0) hC (by omega) (by omega) (by omega) (by omega) (by omega) (by rw [comeA_k0]; omega)) ⟨hx, hb, hml, hown, hw⟩ (fz_cwV 5 hw m_164 m_161 m_163 ms_2 m_1 rfl rfl (by decide +kernel) ⟨Nat.le_of_ble_eq_true rfl, Nat.le_of_ble_eq_true rfl⟩) hK hP hD hS hA [0, 1, 2, 3, 4, 5, 6, 7, 8, 9, 10, 11, 12, 13] [] rfl rfl (by decide) (by decide) (by decide) rfl rfl rfl rfl hl.1 rfl (Nat.le_of_ble_eq_true rfl) d_F_clear_46 ⟨(by dsimp only; rw [eT]; omega), (by dsimp only; rw [eT]; omega)⟩ (fun r46 u46 H locs h46 hP hD hS => ?_)
          obtain ⟨b146, b246, b346, b446, b546, b646, fi246, la246, kc246, vc246, bo246, ow246, ky246, kd246, nu246, fo246, sn246⟩ := u46
          try dsimp only at h46
          have hP : va_P (dC, dI) classes [(x0, .inr (0, [.ref tr, .ref f, .int (nI ck), .long cn])), (tr, .inr (1, [.int (nI nT), .ref y1, .ref y2, .ref y3, .ref y4, .ref y5])), (y1, .inl (cI, hz_R gt, .inl (nf fi246))), (y2, .inl (cI, hz_R gt, .inl (nf la246))), (y3, .inl (cI, hz_R gt, .inl (nf kc246))), (y4, .inl (cI, hz_R gt, .inl (nf vc246))), (y5, .inl (cI, hz_R gt, .inl (nf bo246))), (f, .inr (2, [.int (nI (aN (giveA (clrA a t frm ss j) (t * 8 + 3) (rK frm ss j) 0 (lN 0)))), .ref b146, .ref b246, .ref b346, .ref b446, .ref b546, .ref b646])), (b146, .inl (cI, hz_L (gF g (aN (giveA (clrA a t frm ss j) (t * 8 + 3) (rK frm ss j) 0 (lN 0)))), .inl (nf ow246))), (b246, .inl (cL, hz_L (gF g (aN (giveA (clrA a t frm ss j) (t * 8 + 3) (rK frm ss j) 0 (lN 0)))), .inr (.inl ky246))), (b346, .inl (cB, hz_L (gF g (aN (giveA (clrA a t frm ss j) (t * 8 + 3) (rK frm ss j) 0 (lN 0)))), .inl (nf kd246))), (b446, .inl (cL, hz_L (gF g (aN (giveA (clrA a t frm ss j) (t * 8 + 3) (rK frm ss j) 0 (lN 0)))), .inr (.inl nu246))), (b546, .inl (cI, hz_L (gF g (aN (giveA (clrA a t frm ss j) (t * 8 + 3) (rK frm ss j) 0 (lN 0)))), .inl (nf fo246))), (b646, .inl (cI, hz_M (gF g (aN (giveA (clrA a t frm ss j) (t * 8 + 3) (rK frm ss j) 0 (lN 0)))), .inl (nf sn246)))] H := hP
          have hD : va_D A [(x0, .inr (0, [.ref tr, .ref f, .int (nI ck), .long cn])), (tr, .inr (1, [.int (nI nT), .ref y1, .ref y2, .ref y3, .ref y4, .ref y5])), (y1, .inl (cI, hz_R gt, .inl (nf fi246))), (y2, .inl (cI, hz_R gt, .inl (nf la246))), (y3, .inl (cI, hz_R gt, .inl (nf kc246))), (y4, .inl (cI, hz_R gt, .inl (nf vc246))), (y5, .inl (cI, hz_R gt, .inl (nf bo246))), (f, .inr (2, [.int (nI (aN (giveA (clrA a t frm ss j) (t * 8 + 3) (rK frm ss j) 0 (lN 0)))), .ref b146, .ref b246, .ref b346, .ref b446, .ref b546, .ref b646])), (b146, .inl (cI, hz_L (gF g (aN (giveA (clrA a t frm ss j) (t * 8 + 3) (rK frm ss j) 0 (lN 0)))), .inl (nf ow246))), (b246, .inl (cL, hz_L (gF g (aN (giveA (clrA a t frm ss j) (t * 8 + 3) (rK frm ss j) 0 (lN 0)))), .inr (.inl ky246))), (b346, .inl (cB, hz_L (gF g (aN (giveA (clrA a t frm ss j) (t * 8 + 3) (rK frm ss j) 0 (lN 0)))), .inl (nf kd246))), (b446, .inl (cL, hz_L (gF g (aN (giveA (clrA a t frm ss j) (t * 8 + 3) (rK frm ss j) 0 (lN 0)))), .inr (.inl nu246))), (b546, .inl (cI, hz_L (gF g (aN (giveA (clrA a t frm ss j) (t * 8 + 3) (rK frm ss j) 0 (lN 0)))), .inl (nf fo246))), (b646, .inl (cI, hz_M (gF g (aN (giveA (clrA a t frm ss j) (t * 8 + 3) (rK frm ss j) 0 (lN 0)))), .inl (nf sn246)))] := hD
          refine W.widen (k := 6 * (gF g (aN (giveA (clrA a t frm ss j) (t * 8 + 3) (rK frm ss j) 0 (lN 0))) - g)) (n := Gs (gF g (aN (giveA (clrA a t frm ss j) (t * 8 + 3) (rK frm ss j) 0 (lN 0)))) - Gs g) (by omega) (by omega) ?_
          obtain ⟨e46, h46⟩ := h46
          refine lv_pop hx hb d_F_clear_49 rfl ?_
          refine lv_lload hx hb d_F_clear_50 (lv_at hl 6 rfl) ?_
          refine lv_iload hx hb d_F_clear_52 (lv_at hl 4 rfl) ?_
          refine lv_i2l (v := lN ss) hx hb d_F_clear_54 (nI_l (by omega)) ?_
          refine lv_ladd hx hb d_F_clear_55 ?_
          refine fz_eql (y := rK frm ss (j + 1)) (rK_1 _ _ _) ?_
          refine lv_lstore (lv' := [(7, .long (rK frm ss (j + 1))), (0, .ref x0), (1, .int (nI t)), (2, .long frm), (4, .int (nI nn)), (5, .int (nI ss)), (6, .int (nI (vc t))), (9, .int (nI j))]) hx hb d_F_clear_56 hl (by decide) rfl (fun ls hl => ?_)
          refine lv_iinc (v := nI (j + 1)) (lv' := [(9, .int (nI (j + 1))), (7, .long (rK frm ss (j + 1))), (0, .ref x0), (1, .int (nI t)), (2, .long frm), (4, .int (nI nn)), (5, .int (nI ss)), (6, .int (nI (vc t)))]) hx hb d_F_clear_58 hl (k := 7) rfl (fz_inc j) (by decide) rfl (fun ls hl => ?_)
          refine lv_goto (tgt := 32) hx hb d_F_clear_61 (by decide) ?_
          rw [eT] at hP hD h46
          have hP : va_P (dC, dI) classes [(x0, .inr (0, [.ref tr, .ref f, .int (nI ck), .long cn])), (tr, .inr (1, [.int (nI nT), .ref y1, .ref y2, .ref y3, .ref y4, .ref y5])), (y1, .inl (cI, hz_R gt, .inl (nf fi246))), (y2, .inl (cI, hz_R gt, .inl (nf la246))), (y3, .inl (cI, hz_R gt, .inl (nf kc246))), (y4, .inl (cI, hz_R gt, .inl (nf vc246))), (y5, .inl (cI, hz_R gt, .inl (nf bo246))), (f, .inr (2, [.int (nI (aN (clrA a t frm ss (j + 1)))), .ref b146, .ref b246, .ref b346, .ref b446, .ref b546, .ref b646])), (b146, .inl (cI, hz_L g, .inl (nf ow246))), (b246, .inl (cL, hz_L g, .inr (.inl ky246))), (b346, .inl (cB, hz_L g, .inl (nf kd246))), (b446, .inl (cL, hz_L g, .inr (.inl nu246))), (b546, .inl (cI, hz_L g, .inl (nf fo246))), (b646, .inl (cI, hz_M g, .inl (nf sn246)))] H := hP
          have hD : va_D A [(x0, .inr (0, [.ref tr, .ref f, .int (nI ck), .long cn])), (tr, .inr (1, [.int (nI nT), .ref y1, .ref y2, .ref y3, .ref y4, .ref y5])), (y1, .inl (cI, hz_R gt, .inl (nf fi246))), (y2, .inl (cI, hz_R gt, .inl (nf la246))), (y3, .inl (cI, hz_R gt, .inl (nf kc246))), (y4, .inl (cI, hz_R gt, .inl (nf vc246))), (y5, .inl (cI, hz_R gt, .inl (nf bo246))), (f, .inr (2, [.int (nI (aN (clrA a t frm ss (j + 1)))), .ref b146, .ref b246, .ref b346, .ref b446, .ref b546, .ref b646])), (b146, .inl (cI, hz_L g, .inl (nf ow246))), (b246, .inl (cL, hz_L g, .inr (.inl ky246))), (b346, .inl (cB, hz_L g, .inl (nf kd246))), (b446, .inl (cL, hz_L g, .inr (.inl nu246))), (b546, .inl (cI, hz_L g, .inl (nf fo246))), (b646, .inl (cI, hz_M g, .inl (nf sn246)))] := hD
          refine W.widen (k := 0) (n := 0) (by rw [eT]; omega) (by rw [eT]; omega) ?_
          exact ih (j + 1) (rK frm ss (j + 1)) b146 b246 b346 b446 b546 b646 fi246 la246 kc246 vc246 bo246 ow246 ky246 kd246 nu246 fo246 sn246 (by omega) rfl h46 (by omega) _ _ hP hD hS ls (lv_sub hl [2, 3, 4, 5, 6, 7, 1, 0] rfl)
    exact loop_32 (nn - 0 + 1) 0 frm a1 a2 a3 a4 a5 a6 fi la kc vc bo ow ky kd nu fo sn (by omega) (rK_0 _ _).symm hCI (Nat.lt_succ_self _) _ _ hP hD hS ls (lv_sub hl [3, 4, 5, 6, 7, 2, 1, 0] rfl)
  · have c10 : b7 = 0 := (nI_eq (by omega) (by omega)).mp (c10.trans nI_0.symm)
    refine lv_iconst (v := -1) hx hb d_F_clear_13 (by decide) ?_
    have eF : (fClear nT a x frm n sp) = (-1, a) := ifc_neg (fun h => absurd (hok7.mpr h) (by omega))
    have eg : gF g (aN ((fClear nT a x frm n sp).2)) = g := by rw [eF]; exact gF_same hg hn4 hnL
    have hP : va_P (dC, dI) classes [(x0, .inr (0, [.ref tr, .ref f, .int (nI ck), .long cn])), (tr, .inr (1, [.int (nI nT), .ref y1, .ref y2, .ref y3, .ref y4, .ref y5])), (y1, .inl (cI, hz_R gt, .inl (nf fi))), (y2, .inl (cI, hz_R gt, .inl (nf la))), (y3, .inl (cI, hz_R gt, .inl (nf kc))), (y4, .inl (cI, hz_R gt, .inl (nf vc))), (y5, .inl (cI, hz_R gt, .inl (nf bo))), (f, .inr (2, [.int (nI (aN (fClear nT a x frm n sp).2)), .ref a1, .ref a2, .ref a3, .ref a4, .ref a5, .ref a6])), (a1, .inl (cI, hz_L (gF g (aN ((fClear nT a x frm n sp).2))), .inl (nf ow))), (a2, .inl (cL, hz_L (gF g (aN ((fClear nT a x frm n sp).2))), .inr (.inl ky))), (a3, .inl (cB, hz_L (gF g (aN ((fClear nT a x frm n sp).2))), .inl (nf kd))), (a4, .inl (cL, hz_L (gF g (aN ((fClear nT a x frm n sp).2))), .inr (.inl nu))), (a5, .inl (cI, hz_L (gF g (aN ((fClear nT a x frm n sp).2))), .inl (nf fo))), (a6, .inl (cI, hz_M (gF g (aN ((fClear nT a x frm n sp).2))), .inl (nf sn)))] s.heap := by rw [eg, eF]; exact hP
    have hD : va_D A [(x0, .inr (0, [.ref tr, .ref f, .int (nI ck), .long cn])), (tr, .inr (1, [.int (nI nT), .ref y1, .ref y2, .ref y3, .ref y4, .ref y5])), (y1, .inl (cI, hz_R gt, .inl (nf fi))), (y2, .inl (cI, hz_R gt, .inl (nf la))), (y3, .inl (cI, hz_R gt, .inl (nf kc))), (y4, .inl (cI, hz_R gt, .inl (nf vc))), (y5, .inl (cI, hz_R gt, .inl (nf bo))), (f, .inr (2, [.int (nI (aN (fClear nT a x frm n sp).2)), .ref a1, .ref a2, .ref a3, .ref a4, .ref a5, .ref a6])), (a1, .inl (cI, hz_L (gF g (aN ((fClear nT a x frm n sp).2))), .inl (nf ow))), (a2, .inl (cL, hz_L (gF g (aN ((fClear nT a x frm n sp).2))), .inr (.inl ky))), (a3, .inl (cB, hz_L (gF g (aN ((fClear nT a x frm n sp).2))), .inl (nf kd))), (a4, .inl (cL, hz_L (gF g (aN ((fClear nT a x frm n sp).2))), .inr (.inl nu))), (a5, .inl (cI, hz_L (gF g (aN ((fClear nT a x frm n sp).2))), .inl (nf fo))), (a6, .inl (cI, hz_M (gF g (aN ((fClear nT a x frm n sp).2))), .inl (nf sn)))] := by rw [eg, eF]; exact hD
    refine W.widen (k := 6 * (gF g (aN ((fClear nT a x frm n sp).2)) - g)) (n := Gs (gF g (aN ((fClear nT a x frm n sp).2))) - Gs g) (by omega) (by omega) ?_
    have hpost : (-1) = (fClear nT a x frm n sp).1 ∧ CI nT ((fClear nT a x frm n sp).2) (gF g (aN ((fClear nT a x frm n sp).2))) gt ow ky kd nu fo sn fi la kc vc bo := ⟨by rw [eF], by rw [eg, eF]; exact hCI⟩
    exact hret (-1) (a1, a2, a3, a4, a5, a6, fi, la, kc, vc, bo, ow, ky, kd, nu, fo, sn) _ _ 14 ls hpost hP hD hS d_F_clear_14
set_option maxHeartbeats 4000000 in
set_option maxRecDepth 100000 in
/-- empty -/
theorem c_empty (l : Launch) (dC : Nat → ClassId) (dI : Nat → Nat → Nat) (cI cL cB : ClassId) (x0 : Nat) (tr : Nat) (f : Nat) (y1 : Nat) (y2 : Nat) (y3 : Nat) (y4 : Nat) (y5 : Nat) (a1 : Nat) (a2 : Nat) (a3 : Nat) (a4 : Nat) (a5 : Nat) (a6 : Nat) (ck : Nat) (nT : Nat) (g : Nat) (gt : Nat) (cn : Int64) (a : AS) (fi : Nat → Nat) (la : Nat → Nat) (kc : Nat → Nat) (vc : Nat → Nat) (bo : Nat → Nat) (ow : Nat → Nat) (ky : Nat → Int64) (kd : Nat → Nat) (nu : Nat → Int64) (fo : Nat → Nat) (sn : Nat → Nat) (hCI : CI nT a g gt ow ky kd nu fo sn fi la kc vc bo) : StdI l y_F_empty (wd y_F_empty b_F_empty 2 (some .int)) 2 43 0 0 (dC, dI) classes (tyK cI cL cB) [.ref x0] [(x0, .inr (0, [.ref tr, .ref f, .int (nI ck), .long cn])), (tr, .inr (1, [.int (nI nT), .ref y1, .ref y2, .ref y3, .ref y4, .ref y5])), (y1, .inl (cI, hz_R gt, .inl (nf fi))), (y2, .inl (cI, hz_R gt, .inl (nf la))), (y3, .inl (cI, hz_R gt, .inl (nf kc))), (y4, .inl (cI, hz_R gt, .inl (nf vc))), (y5, .inl (cI, hz_R gt, .inl (nf bo))), (f, .inr (2, [.int (nI (aN a)), .ref a1, .ref a2, .ref a3, .ref a4, .ref a5, .ref a6])), (a1, .inl (cI, hz_L g, .inl (nf ow))), (a2, .inl (cL, hz_L g, .inr (.inl ky))), (a3, .inl (cB, hz_L g, .inl (nf kd))), (a4, .inl (cL, hz_L g, .inr (.inl nu))), (a5, .inl (cI, hz_L g, .inl (nf fo))), (a6, .inl (cI, hz_M g, .inl (nf sn)))] (fun (r : Int32) (u : (Nat → Nat)) => r = nI (aN a) ∧ CI 0 (emA a) g gt ow ky kd nu fo u fi la kc vc bo) (fun (u : (Nat → Nat)) => [(x0, .inr (0, [.ref tr, .ref f, .int (nI 0), .long (0 : Int64)])), (tr, .inr (1, [.int (nI 0), .ref y1, .ref y2, .ref y3, .ref y4, .ref y5])), (y1, .inl (cI, hz_R gt, .inl (nf fi))), (y2, .inl (cI, hz_R gt, .inl (nf la))), (y3, .inl (cI, hz_R gt, .inl (nf kc))), (y4, .inl (cI, hz_R gt, .inl (nf vc))), (y5, .inl (cI, hz_R gt, .inl (nf bo))), (f, .inr (2, [.int (nI (aN (emA a))), .ref a1, .ref a2, .ref a3, .ref a4, .ref a5, .ref a6])), (a1, .inl (cI, hz_L g, .inl (nf ow))), (a2, .inl (cL, hz_L g, .inr (.inl ky))), (a3, .inl (cB, hz_L g, .inl (nf kd))), (a4, .inl (cL, hz_L g, .inr (.inl nu))), (a5, .inl (cI, hz_L g, .inl (nf fo))), (a6, .inl (cI, hz_M g, .inl (nf u)))]) := by
  obtain ⟨hCS, hCT, hgt, hRT⟩ := id hCI
  have hAI := hCS.1
  have hnT := hCS.2.1
  have hg := hCS.2.2.1
  have hnL := hCS.2.2.2.1
  have hAg := hCS.2.2.2.2.1
  have hk8 := hCS.2.2.2.2.2.1
  have hT := hCS.2.2.2.2.2.2
  have hO := hCS.O
  have hU := hCS.U
  have hg1 := hz_gen g hg
  have hg2 := hz_Rgen gt hgt
  have hn4 := hAI.1
  refine StdI.mk (cc := b_F_empty) (maxL := 2) (by decide) rfl (Nat.le_of_ble_eq_true rfl) ?_
  intro p e s m below meth c A Z ls hx hb hml hown hts hin hP hK hD hA hS hret hl
  have hown : s.vm.findClass R_F = some m.cls := hown
  have hw : ∀ x ∈ WALL, x.before _ s = true := fun x h => hts x (List.mem_cons_of_mem _ h)
  have hl : lv_has ls 2 [(0, .ref x0)] := hl
  refine lv_aload_n hx hb d_F_empty_0 rfl (lv_at hl 0 rfl) ?_
  refine va_get (D := (dC, dI)) (ci := 0) (v := .ref f) (C := R_F) (T := T_F) (N := 4) hx hb hw in_F hown hK hP 0 rfl rfl 1 (by decide) (hw _ m_84) (fun _ h9 => h9) rfl d_F_empty_1 ?_
  refine va_get (D := (dC, dI)) (ci := 2) (v := .int (nI (aN a))) (C := R_S) (T := T_S) (N := 7) hx hb hw in_S hown hK hP 7 rfl rfl 0 (by decide) (hw _ m_55) (fun _ h9 => h9) rfl d_F_empty_4 ?_
  refine lv_istore_n (lv' := [(1, .int (nI (aN a))), (0, .ref x0)]) hx hb d_F_empty_7 rfl hl (by decide) rfl (fun ls hl => ?_)
  refine lv_aload_n hx hb d_F_empty_8 rfl (lv_at hl 1 rfl) ?_
  refine va_get (D := (dC, dI)) (ci := 0) (v := .ref tr) (C := R_F) (T := T_F) (N := 4) hx hb hw in_F hown hK hP 0 rfl rfl 0 (by decide) (hw _ m_83) (fun _ h9 => h9) rfl d_F_empty_9 ?_
  refine StdV.callV (ci := 1) (q0 := 0) (wr := [(x0, .inr (0, [.ref tr, .ref f, .int (nI ck), .long cn])), (y1, .inl (cI, hz_R gt, .inl (nf fi))), (y2, .inl (cI, hz_R gt, .inl (nf la))), (y3, .inl (cI, hz_R gt, .inl (nf kc))), (y4, .inl (cI, hz_R gt, .inl (nf vc))), (y5, .inl (cI, hz_R gt, .inl (nf bo))), (f, .inr (2, [.int (nI (aN a)), .ref a1, .ref a2, .ref a3, .ref a4, .ref a5, .ref a6])), (a1, .inl (cI, hz_L g, .inl (nf ow))), (a2, .inl (cL, hz_L g, .inr (.inl ky))), (a3, .inl (cB, hz_L g, .inl (nf kd))), (a4, .inl (cL, hz_L g, .inr (.inl nu))), (a5, .inl (cI, hz_L g, .inl (nf fo))), (a6, .inl (cI, hz_M g, .inl (nf sn)))]) (c_Tforget l dC dI cI cL cB tr y1 y2 y3 y4 y5 nT ) ⟨hx, hb, hml, hown, hw⟩ (fz_cwV 0 hw m_343 m_340 m_341 m_342 m_2 rfl rfl (by decide +kernel) ⟨Nat.le_of_ble_eq_true rfl, Nat.le_of_ble_eq_true rfl⟩) hK hP hD hS hA [1] [0, 2, 3, 4, 5, 6, 7, 8, 9, 10, 11, 12, 13] rfl rfl (by decide) (by decide) (by decide) rfl rfl rfl rfl hl.1 rfl (Nat.le_of_ble_eq_true rfl) d_F_empty_12 ⟨(Nat.le_of_ble_eq_true rfl), (Nat.le_of_ble_eq_true rfl)⟩ (fun u12 H locs h12 hP hD hS => ?_)
  try dsimp only at h12
  have hP : va_P (dC, dI) classes [(x0, .inr (0, [.ref tr, .ref f, .int (nI ck), .long cn])), (y1, .inl (cI, hz_R gt, .inl (nf fi))), (y2, .inl (cI, hz_R gt, .inl (nf la))), (y3, .inl (cI, hz_R gt, .inl (nf kc))), (y4, .inl (cI, hz_R gt, .inl (nf vc))), (y5, .inl (cI, hz_R gt, .inl (nf bo))), (f, .inr (2, [.int (nI (aN a)), .ref a1, .ref a2, .ref a3, .ref a4, .ref a5, .ref a6])), (a1, .inl (cI, hz_L g, .inl (nf ow))), (a2, .inl (cL, hz_L g, .inr (.inl ky))), (a3, .inl (cB, hz_L g, .inl (nf kd))), (a4, .inl (cL, hz_L g, .inr (.inl nu))), (a5, .inl (cI, hz_L g, .inl (nf fo))), (a6, .inl (cI, hz_M g, .inl (nf sn))), (tr, .inr (1, [.int (nI 0), .ref y1, .ref y2, .ref y3, .ref y4, .ref y5]))] H := hP
  have hD : va_D A [(x0, .inr (0, [.ref tr, .ref f, .int (nI ck), .long cn])), (y1, .inl (cI, hz_R gt, .inl (nf fi))), (y2, .inl (cI, hz_R gt, .inl (nf la))), (y3, .inl (cI, hz_R gt, .inl (nf kc))), (y4, .inl (cI, hz_R gt, .inl (nf vc))), (y5, .inl (cI, hz_R gt, .inl (nf bo))), (f, .inr (2, [.int (nI (aN a)), .ref a1, .ref a2, .ref a3, .ref a4, .ref a5, .ref a6])), (a1, .inl (cI, hz_L g, .inl (nf ow))), (a2, .inl (cL, hz_L g, .inr (.inl ky))), (a3, .inl (cB, hz_L g, .inl (nf kd))), (a4, .inl (cL, hz_L g, .inr (.inl nu))), (a5, .inl (cI, hz_L g, .inl (nf fo))), (a6, .inl (cI, hz_M g, .inl (nf sn))), (tr, .inr (1, [.int (nI 0), .ref y1, .ref y2, .ref y3, .ref y4, .ref y5]))] := hD
  refine lv_aload_n hx hb d_F_empty_15 rfl (lv_at hl 1 rfl) ?_
  refine va_get (D := (dC, dI)) (ci := 0) (v := .ref f) (C := R_F) (T := T_F) (N := 4) hx hb hw in_F hown hK hP 0 rfl rfl 1 (by decide) (hw _ m_84) (fun _ h9 => h9) rfl d_F_empty_16 ?_
  refine StdV.callV (ci := 2) (q0 := 0) (wr := [(x0, .inr (0, [.ref tr, .ref f, .int (nI ck), .long cn])), (y1, .inl (cI, hz_R gt, .inl (nf fi))), (y2, .inl (cI, hz_R gt, .inl (nf la))), (y3, .inl (cI, hz_R gt, .inl (nf kc))), (y4, .inl (cI, hz_R gt, .inl (nf vc))), (y5, .inl (cI, hz_R gt, .inl (nf bo))), (a1, .inl (cI, hz_L g, .inl (nf ow))), (a2, .inl (cL, hz_L g, .inr (.inl ky))), (a3, .inl (cB, hz_L g, .inl (nf kd))), (a4, .inl (cL, hz_L g, .inr (.inl nu))), (a5, .inl (cI, hz_L g, .inl (nf fo))), (tr, .inr (1, [.int (nI 0), .ref y1, .ref y2, .ref y3, .ref y4, .ref y5]))]) (c_Sforget l dC dI cI cL cB f a1 a2 a3 a4 a5 a6 (aN a) (hz_M g) sn (by omega)) ⟨hx, hb, hml, hown, hw⟩ (fz_cwV 0 hw m_347 m_344 m_345 m_346 m_3 rfl rfl (by decide +kernel) ⟨Nat.le_of_ble_eq_true rfl, Nat.le_of_ble_eq_true rfl⟩) hK hP hD hS hA [6, 12] [0, 1, 2, 3, 4, 5, 7, 8, 9, 10, 11, 13] rfl rfl (by decide) (by decide) (by decide) rfl rfl rfl rfl hl.1 rfl (Nat.le_of_ble_eq_true rfl) d_F_empty_19 ⟨(Nat.le_of_ble_eq_true rfl), (Nat.le_of_ble_eq_true rfl)⟩ (fun u19 H locs h19 hP hD hS => ?_)
  try dsimp only at h19
  have hP : va_P (dC, dI) classes [(x0, .inr (0, [.ref tr, .ref f, .int (nI ck), .long cn])), (y1, .inl (cI, hz_R gt, .inl (nf fi))), (y2, .inl (cI, hz_R gt, .inl (nf la))), (y3, .inl (cI, hz_R gt, .inl (nf kc))), (y4, .inl (cI, hz_R gt, .inl (nf vc))), (y5, .inl (cI, hz_R gt, .inl (nf bo))), (a1, .inl (cI, hz_L g, .inl (nf ow))), (a2, .inl (cL, hz_L g, .inr (.inl ky))), (a3, .inl (cB, hz_L g, .inl (nf kd))), (a4, .inl (cL, hz_L g, .inr (.inl nu))), (a5, .inl (cI, hz_L g, .inl (nf fo))), (tr, .inr (1, [.int (nI 0), .ref y1, .ref y2, .ref y3, .ref y4, .ref y5])), (f, .inr (2, [.int (nI 0), .ref a1, .ref a2, .ref a3, .ref a4, .ref a5, .ref a6])), (a6, .inl (cI, (hz_M g), .inl (nf (cpz (fun _ => 0) sn (hz_M g)))))] H := hP
  have hD : va_D A [(x0, .inr (0, [.ref tr, .ref f, .int (nI ck), .long cn])), (y1, .inl (cI, hz_R gt, .inl (nf fi))), (y2, .inl (cI, hz_R gt, .inl (nf la))), (y3, .inl (cI, hz_R gt, .inl (nf kc))), (y4, .inl (cI, hz_R gt, .inl (nf vc))), (y5, .inl (cI, hz_R gt, .inl (nf bo))), (a1, .inl (cI, hz_L g, .inl (nf ow))), (a2, .inl (cL, hz_L g, .inr (.inl ky))), (a3, .inl (cB, hz_L g, .inl (nf kd))), (a4, .inl (cL, hz_L g, .inr (.inl nu))), (a5, .inl (cI, hz_L g, .inl (nf fo))), (tr, .inr (1, [.int (nI 0), .ref y1, .ref y2, .ref y3, .ref y4, .ref y5])), (f, .inr (2, [.int (nI 0), .ref a1, .ref a2, .ref a3, .ref a4, .ref a5, .ref a6])), (a6, .inl (cI, (hz_M g), .inl (nf (cpz (fun _ => 0) sn (hz_M g)))))] := hD
  refine lv_aload_n hx hb d_F_empty_22 rfl (lv_at hl 1 rfl) ?_
  refine lv_iconst (v := nI 0) hx hb d_F_empty_23 (by decide) ?_
  have hCIe := (⟨⟨hAI.em 0, by omega, hg, by show 0 < hz_L g; omega, fun i (hi : i ≤ 0) => by rw [Nat.le_zero.mp hi]; exact ⟨(hAg 0 (Nat.zero_le _)).1, (hAg 0 (Nat.zero_le _)).2.1, by rw [(hAg 0 (Nat.zero_le _)).2.2.1]; exact hAI.2.2.2.1, by rw [(hAg 0 (Nat.zero_le _)).2.2.2]; exact hAI.2.2.2.2.1⟩, hk8, hz_T.none (fun j hj => cpz_in hj)⟩, ⟨fun i h1 (h2 : i ≤ 0) => by omega, fun t h1 h2 => by omega⟩, hgt, by omega⟩ : CI 0 (emA a) g gt ow ky kd nu fo (cpz (fun _ => 0) sn (hz_M g)) fi la kc vc bo)
  refine StdI.callV (ci := 0) (q0 := 0) (wr := []) (c_setCursor l dC dI cI cL cB x0 tr f y1 y2 y3 y4 y5 a1 a2 a3 a4 a5 a6 ck 0 g gt cn (emA a) fi la kc vc bo ow ky kd nu fo (cpz (fun _ => 0) sn (hz_M g)) 0 hCIe (Nat.zero_le _)) ⟨hx, hb, hml, hown, hw⟩ (fz_cwV 1 hw m_248 m_245 m_247 ms_9 m_1 rfl rfl (by decide +kernel) ⟨Nat.le_of_ble_eq_true rfl, Nat.le_of_ble_eq_true rfl⟩) hK hP hD hS hA [0, 11, 1, 2, 3, 4, 5, 12, 6, 7, 8, 9, 10, 13] [] rfl rfl (by decide) (by decide) (by decide) rfl rfl rfl rfl hl.1 rfl (Nat.le_of_ble_eq_true rfl) d_F_empty_24 ⟨(Nat.le_of_ble_eq_true rfl), (Nat.le_of_ble_eq_true rfl)⟩ (fun r24 u24 H locs h24 hP hD hS => ?_)
  obtain ⟨ck224, cn224⟩ := u24
  try dsimp only at h24
  have hP : va_P (dC, dI) classes [(x0, .inr (0, [.ref tr, .ref f, .int (nI ck224), .long cn224])), (tr, .inr (1, [.int (nI 0), .ref y1, .ref y2, .ref y3, .ref y4, .ref y5])), (y1, .inl (cI, hz_R gt, .inl (nf fi))), (y2, .inl (cI, hz_R gt, .inl (nf la))), (y3, .inl (cI, hz_R gt, .inl (nf kc))), (y4, .inl (cI, hz_R gt, .inl (nf vc))), (y5, .inl (cI, hz_R gt, .inl (nf bo))), (f, .inr (2, [.int (nI (aN (emA a))), .ref a1, .ref a2, .ref a3, .ref a4, .ref a5, .ref a6])), (a1, .inl (cI, hz_L g, .inl (nf ow))), (a2, .inl (cL, hz_L g, .inr (.inl ky))), (a3, .inl (cB, hz_L g, .inl (nf kd))), (a4, .inl (cL, hz_L g, .inr (.inl nu))), (a5, .inl (cI, hz_L g, .inl (nf fo))), (a6, .inl (cI, hz_M g, .inl (nf (cpz (fun _ => 0) sn (hz_M g)))))] H := hP
  have hD : va_D A [(x0, .inr (0, [.ref tr, .ref f, .int (nI ck224), .long cn224])), (tr, .inr (1, [.int (nI 0), .ref y1, .ref y2, .ref y3, .ref y4, .ref y5])), (y1, .inl (cI, hz_R gt, .inl (nf fi))), (y2, .inl (cI, hz_R gt, .inl (nf la))), (y3, .inl (cI, hz_R gt, .inl (nf kc))), (y4, .inl (cI, hz_R gt, .inl (nf vc))), (y5, .inl (cI, hz_R gt, .inl (nf bo))), (f, .inr (2, [.int (nI (aN (emA a))), .ref a1, .ref a2, .ref a3, .ref a4, .ref a5, .ref a6])), (a1, .inl (cI, hz_L g, .inl (nf ow))), (a2, .inl (cL, hz_L g, .inr (.inl ky))), (a3, .inl (cB, hz_L g, .inl (nf kd))), (a4, .inl (cL, hz_L g, .inr (.inl nu))), (a5, .inl (cI, hz_L g, .inl (nf fo))), (a6, .inl (cI, hz_M g, .inl (nf (cpz (fun _ => 0) sn (hz_M g)))))] := hD
  have e24 : (r24, ck224, cn224) = ((nI 0, 0, 0) : Int32 × Nat × Int64) := h24
  obtain ⟨e1, e2, e3⟩ := Prod.mk.inj e24 |>.imp id Prod.mk.inj
  subst e2
  subst e3
  refine lv_pop hx hb d_F_empty_27 rfl ?_
  refine lv_iload_n hx hb d_F_empty_28 rfl (lv_at hl 0 rfl) ?_
  have hpost : (nI (aN a)) = nI (aN a) ∧ CI 0 (emA a) g gt ow ky kd nu fo (cpz (fun _ => 0) sn (hz_M g)) fi la kc vc bo := ⟨rfl, hCIe⟩
  exact hret (nI (aN a)) (cpz (fun _ => 0) sn (hz_M g)) _ _ 29 ls hpost hP hD hS d_F_empty_29
set_option maxHeartbeats 4000000 in
set_option maxRecDepth 100000 in
/-- make -/
theorem c_make (l : Launch) (dC : Nat → ClassId) (dI : Nat → Nat → Nat) (cI cL cB : ClassId) (x0 : Nat) (tr : Nat) (f : Nat) (y1 : Nat) (y2 : Nat) (y3 : Nat) (y4 : Nat) (y5 : Nat) (a1 : Nat) (a2 : Nat) (a3 : Nat) (a4 : Nat) (a5 : Nat) (a6 : Nat) (ck : Nat) (nT : Nat) (g : Nat) (gt : Nat) (cn : Int64) (a : AS) (fi : Nat → Nat) (la : Nat → Nat) (kc : Nat → Nat) (vc : Nat → Nat) (bo : Nat → Nat) (ow : Nat → Nat) (ky : Nat → Int64) (kd : Nat → Nat) (nu : Nat → Int64) (fo : Nat → Nat) (sn : Nat → Nat) (hCI : CI nT a g gt ow ky kd nu fo sn fi la kc vc bo) : StdI l y_F_make (wd y_F_make b_F_make 1 (some .int)) 4 91 (5 * (gR gt (fMake nT).2 - gt)) (Rs (gR gt (fMake nT).2) - Rs gt) (dC, dI) classes (tyK cI cL cB) [.ref x0] [(x0, .inr (0, [.ref tr, .ref f, .int (nI ck), .long cn])), (tr, .inr (1, [.int (nI nT), .ref y1, .ref y2, .ref y3, .ref y4, .ref y5])), (y1, .inl (cI, hz_R gt, .inl (nf fi))), (y2, .inl (cI, hz_R gt, .inl (nf la))), (y3, .inl (cI, hz_R gt, .inl (nf kc))), (y4, .inl (cI, hz_R gt, .inl (nf vc))), (y5, .inl (cI, hz_R gt, .inl (nf bo))), (f, .inr (2, [.int (nI (aN a)), .ref a1, .ref a2, .ref a3, .ref a4, .ref a5, .ref a6])), (a1, .inl (cI, hz_L g, .inl (nf ow))), (a2, .inl (cL, hz_L g, .inr (.inl ky))), (a3, .inl (cB, hz_L g, .inl (nf kd))), (a4, .inl (cL, hz_L g, .inr (.inl nu))), (a5, .inl (cI, hz_L g, .inl (nf fo))), (a6, .inl (cI, hz_M g, .inl (nf sn)))] (fun (r : Int32) (u : Nat × Nat × Nat × Nat × Nat × (Nat → Nat) × (Nat → Nat) × (Nat → Nat) × (Nat → Nat) × (Nat → Nat)) => r = (fMake nT).1 ∧ CI (fMake nT).2 a g (gR gt (fMake nT).2) ow ky kd nu fo sn u.2.2.2.2.2.1 u.2.2.2.2.2.2.1 u.2.2.2.2.2.2.2.1 u.2.2.2.2.2.2.2.2.1 u.2.2.2.2.2.2.2.2.2) (fun (u : Nat × Nat × Nat × Nat × Nat × (Nat → Nat) × (Nat → Nat) × (Nat → Nat) × (Nat → Nat) × (Nat → Nat)) => [(x0, .inr (0, [.ref tr, .ref f, .int (nI ck), .long cn])), (tr, .inr (1, [.int (nI ((fMake nT).2)), .ref u.1, .ref u.2.1, .ref u.2.2.1, .ref u.2.2.2.1, .ref u.2.2.2.2.1])), (u.1, .inl (cI, hz_R (gR gt (fMake nT).2), .inl (nf u.2.2.2.2.2.1))), (u.2.1, .inl (cI, hz_R (gR gt (fMake nT).2), .inl (nf u.2.2.2.2.2.2.1))), (u.2.2.1, .inl (cI, hz_R (gR gt (fMake nT).2), .inl (nf u.2.2.2.2.2.2.2.1))), (u.2.2.2.1, .inl (cI, hz_R (gR gt (fMake nT).2), .inl (nf u.2.2.2.2.2.2.2.2.1))), (u.2.2.2.2.1, .inl (cI, hz_R (gR gt (fMake nT).2), .inl (nf u.2.2.2.2.2.2.2.2.2))), (f, .inr (2, [.int (nI (aN a)), .ref a1, .ref a2, .ref a3, .ref a4, .ref a5, .ref a6])), (a1, .inl (cI, hz_L g, .inl (nf ow))), (a2, .inl (cL, hz_L g, .inr (.inl ky))), (a3, .inl (cB, hz_L g, .inl (nf kd))), (a4, .inl (cL, hz_L g, .inr (.inl nu))), (a5, .inl (cI, hz_L g, .inl (nf fo))), (a6, .inl (cI, hz_M g, .inl (nf sn)))]) := by
  obtain ⟨hCS, hCT, hgt, hRT⟩ := id hCI
  have hAI := hCS.1
  have hnT := hCS.2.1
  have hg := hCS.2.2.1
  have hnL := hCS.2.2.2.1
  have hAg := hCS.2.2.2.2.1
  have hk8 := hCS.2.2.2.2.2.1
  have hT := hCS.2.2.2.2.2.2
  have hO := hCS.O
  have hU := hCS.U
  have hg1 := hz_gen g hg
  have hg2 := hz_Rgen gt hgt
  have hn4 := hAI.1
  refine StdI.mk (cc := b_F_make) (maxL := 1) (by decide) rfl (Nat.le_of_ble_eq_true rfl) ?_
  intro p e s m below meth c A Z ls hx hb hml hown hts hin hP hK hD hA hS hret hl
  have hown : s.vm.findClass R_F = some m.cls := hown
  have hw : ∀ x ∈ WALL, x.before _ s = true := fun x h => hts x (List.mem_cons_of_mem _ h)
  have hl : lv_has ls 1 [(0, .ref x0)] := hl
  refine lv_aload_n hx hb d_F_make_0 rfl (lv_at hl 0 rfl) ?_
  refine va_get (D := (dC, dI)) (ci := 0) (v := .ref tr) (C := R_F) (T := T_F) (N := 4) hx hb hw in_F hown hK hP 0 rfl rfl 0 (by decide) (hw _ m_83) (fun _ h9 => h9) rfl d_F_make_1 ?_
  refine va_get (D := (dC, dI)) (ci := 1) (v := .int (nI nT)) (C := R_T) (T := T_T) (N := 6) hx hb hw in_T hown hK hP 1 rfl rfl 0 (by decide) (hw _ m_23) (fun _ h9 => h9) rfl d_F_make_4 ?_
  refine lv_sipush (v := nI 30000) hx hb d_F_make_7 (by decide) ?_
  refine lv_icmp_ne (tgt := 18) hx hb d_F_make_10 (by decide) (fun c10 => ?_) (fun c10 => ?_)
  · have c10 : ¬ nT = 30000 := fun h => c10 (by exact (nI_eq (by omega) (by omega)).mpr h)
    refine lv_aload_n hx hb d_F_make_18 rfl (lv_at hl 0 rfl) ?_
    refine va_get (D := (dC, dI)) (ci := 0) (v := .ref tr) (C := R_F) (T := T_F) (N := 4) hx hb hw in_F hown hK hP 0 rfl rfl 0 (by decide) (hw _ m_83) (fun _ h9 => h9) rfl d_F_make_19 ?_
    have eF : (fMake nT) = (nI (nT + 1), nT + 1) := if_neg c10
    refine StdI.callV (ci := 1) (q0 := 0) (wr := [(x0, .inr (0, [.ref tr, .ref f, .int (nI ck), .long cn])), (f, .inr (2, [.int (nI (aN a)), .ref a1, .ref a2, .ref a3, .ref a4, .ref a5, .ref a6])), (a1, .inl (cI, hz_L g, .inl (nf ow))), (a2, .inl (cL, hz_L g, .inr (.inl ky))), (a3, .inl (cB, hz_L g, .inl (nf kd))), (a4, .inl (cL, hz_L g, .inr (.inl nu))), (a5, .inl (cI, hz_L g, .inl (nf fo))), (a6, .inl (cI, hz_M g, .inl (nf sn)))]) (c_open l dC dI cI cL cB tr y1 y2 y3 y4 y5 nT gt (gR gt (nT + 1)) fi la kc vc bo (by omega) (by omega) (by omega) (gR_step hgt (by omega) hRT)) ⟨hx, hb, hml, hown, hw⟩ (fz_cwV 0 hw m_103 m_100 m_101 m_102 m_2 rfl rfl (by decide +kernel) ⟨Nat.le_of_ble_eq_true rfl, Nat.le_of_ble_eq_true rfl⟩) hK hP hD hS hA [1, 2, 3, 4, 5, 6] [0, 7, 8, 9, 10, 11, 12, 13] rfl rfl (by decide) (by decide) (by decide) rfl rfl rfl rfl hl.1 rfl (Nat.le_of_ble_eq_true rfl) d_F_make_22 ⟨(by dsimp only; rw [eF]; dsimp only; omega), (by dsimp only; rw [eF]; dsimp only; omega)⟩ (fun r22 u22 H locs h22 hP hD hS => ?_)
    obtain ⟨z122, z222, z322, z422, z522, fi222, la222, kc222, vc222, bo222⟩ := u22
    try dsimp only at h22
    have hP : va_P (dC, dI) classes [(x0, .inr (0, [.ref tr, .ref f, .int (nI ck), .long cn])), (f, .inr (2, [.int (nI (aN a)), .ref a1, .ref a2, .ref a3, .ref a4, .ref a5, .ref a6])), (a1, .inl (cI, hz_L g, .inl (nf ow))), (a2, .inl (cL, hz_L g, .inr (.inl ky))), (a3, .inl (cB, hz_L g, .inl (nf kd))), (a4, .inl (cL, hz_L g, .inr (.inl nu))), (a5, .inl (cI, hz_L g, .inl (nf fo))), (a6, .inl (cI, hz_M g, .inl (nf sn))), (tr, .inr (1, [.int (nI (nT + 1)), .ref z122, .ref z222, .ref z322, .ref z422, .ref z522])), (z122, .inl (cI, hz_R (gR gt (nT + 1)), .inl (nf fi222))), (z222, .inl (cI, hz_R (gR gt (nT + 1)), .inl (nf la222))), (z322, .inl (cI, hz_R (gR gt (nT + 1)), .inl (nf kc222))), (z422, .inl (cI, hz_R (gR gt (nT + 1)), .inl (nf vc222))), (z522, .inl (cI, hz_R (gR gt (nT + 1)), .inl (nf bo222)))] H := hP
    have hD : va_D A [(x0, .inr (0, [.ref tr, .ref f, .int (nI ck), .long cn])), (f, .inr (2, [.int (nI (aN a)), .ref a1, .ref a2, .ref a3, .ref a4, .ref a5, .ref a6])), (a1, .inl (cI, hz_L g, .inl (nf ow))), (a2, .inl (cL, hz_L g, .inr (.inl ky))), (a3, .inl (cB, hz_L g, .inl (nf kd))), (a4, .inl (cL, hz_L g, .inr (.inl nu))), (a5, .inl (cI, hz_L g, .inl (nf fo))), (a6, .inl (cI, hz_M g, .inl (nf sn))), (tr, .inr (1, [.int (nI (nT + 1)), .ref z122, .ref z222, .ref z322, .ref z422, .ref z522])), (z122, .inl (cI, hz_R (gR gt (nT + 1)), .inl (nf fi222))), (z222, .inl (cI, hz_R (gR gt (nT + 1)), .inl (nf la222))), (z322, .inl (cI, hz_R (gR gt (nT + 1)), .inl (nf kc222))), (z422, .inl (cI, hz_R (gR gt (nT + 1)), .inl (nf vc222))), (z522, .inl (cI, hz_R (gR gt (nT + 1)), .inl (nf bo222)))] := hD
    refine W.widen (k := 5 * ((gR gt (nT + 1)) - gt)) (n := Rs (gR gt (nT + 1)) - Rs gt) (by omega) (by omega) ?_
    have eF : (fMake nT) = (nI (nT + 1), nT + 1) := if_neg c10
    have hP : va_P (dC, dI) classes [(x0, .inr (0, [.ref tr, .ref f, .int (nI ck), .long cn])), (f, .inr (2, [.int (nI (aN a)), .ref a1, .ref a2, .ref a3, .ref a4, .ref a5, .ref a6])), (a1, .inl (cI, hz_L g, .inl (nf ow))), (a2, .inl (cL, hz_L g, .inr (.inl ky))), (a3, .inl (cB, hz_L g, .inl (nf kd))), (a4, .inl (cL, hz_L g, .inr (.inl nu))), (a5, .inl (cI, hz_L g, .inl (nf fo))), (a6, .inl (cI, hz_M g, .inl (nf sn))), (tr, .inr (1, [.int (nI ((fMake nT).2)), .ref z122, .ref z222, .ref z322, .ref z422, .ref z522])), (z122, .inl (cI, hz_R (gR gt (fMake nT).2), .inl (nf fi222))), (z222, .inl (cI, hz_R (gR gt (fMake nT).2), .inl (nf la222))), (z322, .inl (cI, hz_R (gR gt (fMake nT).2), .inl (nf kc222))), (z422, .inl (cI, hz_R (gR gt (fMake nT).2), .inl (nf vc222))), (z522, .inl (cI, hz_R (gR gt (fMake nT).2), .inl (nf bo222)))] H := by rw [eF]; exact hP
    have hD : va_D A [(x0, .inr (0, [.ref tr, .ref f, .int (nI ck), .long cn])), (f, .inr (2, [.int (nI (aN a)), .ref a1, .ref a2, .ref a3, .ref a4, .ref a5, .ref a6])), (a1, .inl (cI, hz_L g, .inl (nf ow))), (a2, .inl (cL, hz_L g, .inr (.inl ky))), (a3, .inl (cB, hz_L g, .inl (nf kd))), (a4, .inl (cL, hz_L g, .inr (.inl nu))), (a5, .inl (cI, hz_L g, .inl (nf fo))), (a6, .inl (cI, hz_M g, .inl (nf sn))), (tr, .inr (1, [.int (nI ((fMake nT).2)), .ref z122, .ref z222, .ref z322, .ref z422, .ref z522])), (z122, .inl (cI, hz_R (gR gt (fMake nT).2), .inl (nf fi222))), (z222, .inl (cI, hz_R (gR gt (fMake nT).2), .inl (nf la222))), (z322, .inl (cI, hz_R (gR gt (fMake nT).2), .inl (nf kc222))), (z422, .inl (cI, hz_R (gR gt (fMake nT).2), .inl (nf vc222))), (z522, .inl (cI, hz_R (gR gt (fMake nT).2), .inl (nf bo222)))] := by rw [eF]; exact hD
    refine W.widen (k := 5 * (gR gt (fMake nT).2 - gt)) (n := Rs (gR gt (fMake nT).2) - Rs gt) (by rw [eF]; dsimp only; omega) (by rw [eF]; dsimp only; omega) ?_
    have hpost : r22 = (fMake nT).1 ∧ CI (fMake nT).2 a g (gR gt (fMake nT).2) ow ky kd nu fo sn fi222 la222 kc222 vc222 bo222 := ⟨by rw [eF]; exact h22.1, by rw [eF]; exact CI.make hCI (by omega) h22.2⟩
    exact hret r22 (z122, z222, z322, z422, z522, fi222, la222, kc222, vc222, bo222) _ _ 25 ls hpost (fz_subP hP [0, 8, 9, 10, 11, 12, 13, 1, 2, 3, 4, 5, 6, 7] rfl) (hD.sub [0, 8, 9, 10, 11, 12, 13, 1, 2, 3, 4, 5, 6, 7] (by decide) rfl) hS d_F_make_25
  · have c10 : nT = 30000 := by exact (nI_eq (by omega) (by omega)).mp c10
    refine lv_bipush (v := -3) hx hb d_F_make_13 (by decide) ?_
    refine lv_goto (tgt := 25) hx hb d_F_make_15 (by decide) ?_
    have eF : (fMake nT) = (-3, nT) := if_pos c10
    have eg : gR gt (fMake nT).2 = gt := by rw [eF]; exact gR_same hgt hRT
    have hP : va_P (dC, dI) classes [(x0, .inr (0, [.ref tr, .ref f, .int (nI ck), .long cn])), (tr, .inr (1, [.int (nI ((fMake nT).2)), .ref y1, .ref y2, .ref y3, .ref y4, .ref y5])), (y1, .inl (cI, hz_R (gR gt (fMake nT).2), .inl (nf fi))), (y2, .inl (cI, hz_R (gR gt (fMake nT).2), .inl (nf la))), (y3, .inl (cI, hz_R (gR gt (fMake nT).2), .inl (nf kc))), (y4, .inl (cI, hz_R (gR gt (fMake nT).2), .inl (nf vc))), (y5, .inl (cI, hz_R (gR gt (fMake nT).2), .inl (nf bo))), (f, .inr (2, [.int (nI (aN a)), .ref a1, .ref a2, .ref a3, .ref a4, .ref a5, .ref a6])), (a1, .inl (cI, hz_L g, .inl (nf ow))), (a2, .inl (cL, hz_L g, .inr (.inl ky))), (a3, .inl (cB, hz_L g, .inl (nf kd))), (a4, .inl (cL, hz_L g, .inr (.inl nu))), (a5, .inl (cI, hz_L g, .inl (nf fo))), (a6, .inl (cI, hz_M g, .inl (nf sn)))] s.heap := by rw [eg, eF]; exact hP
    have hD : va_D A [(x0, .inr (0, [.ref tr, .ref f, .int (nI ck), .long cn])), (tr, .inr (1, [.int (nI ((fMake nT).2)), .ref y1, .ref y2, .ref y3, .ref y4, .ref y5])), (y1, .inl (cI, hz_R (gR gt (fMake nT).2), .inl (nf fi))), (y2, .inl (cI, hz_R (gR gt (fMake nT).2), .inl (nf la))), (y3, .inl (cI, hz_R (gR gt (fMake nT).2), .inl (nf kc))), (y4, .inl (cI, hz_R (gR gt (fMake nT).2), .inl (nf vc))), (y5, .inl (cI, hz_R (gR gt (fMake nT).2), .inl (nf bo))), (f, .inr (2, [.int (nI (aN a)), .ref a1, .ref a2, .ref a3, .ref a4, .ref a5, .ref a6])), (a1, .inl (cI, hz_L g, .inl (nf ow))), (a2, .inl (cL, hz_L g, .inr (.inl ky))), (a3, .inl (cB, hz_L g, .inl (nf kd))), (a4, .inl (cL, hz_L g, .inr (.inl nu))), (a5, .inl (cI, hz_L g, .inl (nf fo))), (a6, .inl (cI, hz_M g, .inl (nf sn)))] := by rw [eg, eF]; exact hD
    refine W.widen (k := 5 * (gR gt (fMake nT).2 - gt)) (n := Rs (gR gt (fMake nT).2) - Rs gt) (by omega) (by omega) ?_
    have hpost : (-3) = (fMake nT).1 ∧ CI (fMake nT).2 a g (gR gt (fMake nT).2) ow ky kd nu fo sn fi la kc vc bo := ⟨by rw [eF], by rw [eg, eF]; exact hCI⟩
    exact hret (-3) (y1, y2, y3, y4, y5, fi, la, kc, vc, bo) _ _ 25 ls hpost hP hD hS d_F_make_25
end
