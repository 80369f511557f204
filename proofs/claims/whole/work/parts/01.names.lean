-- ===== PART A: goes FIRST, ahead of the names: the tables' words, and 'selects' of the private methods out of them =====
/-- a private method of a class that the tables say can be made, by its rows of tables_1 -/
def lw_okq (q : MethodName × Nat) : Prop := (q.1.cls ≠ "java/lang/invoke/MethodHandle" ∧ q.1.cls ≠ "java/lang/invoke/VarHandle") ∧ Cond.instantiable q.1.cls q.2 ∈ tables_1 ∧ Cond.privateMethod q.1 ∈ tables_1 ∧ Cond.instanceMethod q.1 ∈ tables_1
theorem lw_p0 : lw_okq (⟨"PairedEnds", "all", "()I"⟩, 6) := ⟨⟨by decide +kernel, by decide +kernel⟩, List.mem_of_getElem? (i := 12) (by decide +kernel), List.mem_of_getElem? (i := 58) (by decide +kernel), List.mem_of_getElem? (i := 59) (by decide +kernel)⟩
theorem lw_p1 : lw_okq (⟨"PairedEnds", "findNaming", "(I)Z"⟩, 6) := ⟨⟨by decide +kernel, by decide +kernel⟩, List.mem_of_getElem? (i := 12) (by decide +kernel), List.mem_of_getElem? (i := 65) (by decide +kernel), List.mem_of_getElem? (i := 66) (by decide +kernel)⟩
theorem lw_p2 : lw_okq (⟨"PairedEnds", "nameFrom", "(II)Z"⟩, 6) := ⟨⟨by decide +kernel, by decide +kernel⟩, List.mem_of_getElem? (i := 12) (by decide +kernel), List.mem_of_getElem? (i := 69) (by decide +kernel), List.mem_of_getElem? (i := 70) (by decide +kernel)⟩
theorem lw_p3 : lw_okq (⟨"PairedEnds", "fits", "(III)Z"⟩, 6) := ⟨⟨by decide +kernel, by decide +kernel⟩, List.mem_of_getElem? (i := 12) (by decide +kernel), List.mem_of_getElem? (i := 82) (by decide +kernel), List.mem_of_getElem? (i := 83) (by decide +kernel)⟩
theorem lw_p4 : lw_okq (⟨"PairedEnds", "give", "(III)V"⟩, 6) := ⟨⟨by decide +kernel, by decide +kernel⟩, List.mem_of_getElem? (i := 12) (by decide +kernel), List.mem_of_getElem? (i := 86) (by decide +kernel), List.mem_of_getElem? (i := 87) (by decide +kernel)⟩
theorem lw_p5 : lw_okq (⟨"PairedEnds", "takeBack", "(II)V"⟩, 6) := ⟨⟨by decide +kernel, by decide +kernel⟩, List.mem_of_getElem? (i := 12) (by decide +kernel), List.mem_of_getElem? (i := 90) (by decide +kernel), List.mem_of_getElem? (i := 91) (by decide +kernel)⟩
theorem lw_p6 : lw_okq (⟨"PairedEnds", "isApart", "(I)Z"⟩, 6) := ⟨⟨by decide +kernel, by decide +kernel⟩, List.mem_of_getElem? (i := 12) (by decide +kernel), List.mem_of_getElem? (i := 98) (by decide +kernel), List.mem_of_getElem? (i := 99) (by decide +kernel)⟩
theorem lw_p7 : lw_okq (⟨"PairedEnds", "neighboursOf", "(I)I"⟩, 6) := ⟨⟨by decide +kernel, by decide +kernel⟩, List.mem_of_getElem? (i := 12) (by decide +kernel), List.mem_of_getElem? (i := 102) (by decide +kernel), List.mem_of_getElem? (i := 103) (by decide +kernel)⟩
theorem lw_p8 : lw_okq (⟨"PairedEnds", "isClose", "(I)Z"⟩, 6) := ⟨⟨by decide +kernel, by decide +kernel⟩, List.mem_of_getElem? (i := 12) (by decide +kernel), List.mem_of_getElem? (i := 110) (by decide +kernel), List.mem_of_getElem? (i := 111) (by decide +kernel)⟩
theorem lw_p9 : lw_okq (⟨"java/lang/Throwable", "fillInStackTrace", "(I)Ljava/lang/Throwable;"⟩, 6) := ⟨⟨by decide +kernel, by decide +kernel⟩, List.mem_of_getElem? (i := 160) (by decide +kernel), List.mem_of_getElem? (i := 158) (by decide +kernel), List.mem_of_getElem? (i := 159) (by decide +kernel)⟩
theorem lw_p10 : lw_okq (⟨"PairedEnds", "checkTwo", "(II)V"⟩, 6) := ⟨⟨by decide +kernel, by decide +kernel⟩, List.mem_of_getElem? (i := 12) (by decide +kernel), List.mem_of_getElem? (i := 207) (by decide +kernel), List.mem_of_getElem? (i := 208) (by decide +kernel)⟩
theorem lw_p11 : lw_okq (⟨"PairedEnds", "checkVertex", "(I)V"⟩, 6) := ⟨⟨by decide +kernel, by decide +kernel⟩, List.mem_of_getElem? (i := 12) (by decide +kernel), List.mem_of_getElem? (i := 211) (by decide +kernel), List.mem_of_getElem? (i := 212) (by decide +kernel)⟩
theorem lw_p12 : lw_okq (⟨"PairedEnds", "nameAll", "()V"⟩, 6) := ⟨⟨by decide +kernel, by decide +kernel⟩, List.mem_of_getElem? (i := 12) (by decide +kernel), List.mem_of_getElem? (i := 279) (by decide +kernel), List.mem_of_getElem? (i := 280) (by decide +kernel)⟩
theorem lw_p13 : lw_okq (⟨"PairedEnds", "looseEnds", "()I"⟩, 6) := ⟨⟨by decide +kernel, by decide +kernel⟩, List.mem_of_getElem? (i := 12) (by decide +kernel), List.mem_of_getElem? (i := 313) (by decide +kernel), List.mem_of_getElem? (i := 314) (by decide +kernel)⟩
theorem lw_p14 : lw_okq (⟨"PairedEnds", "endsOf", "(I)I"⟩, 6) := ⟨⟨by decide +kernel, by decide +kernel⟩, List.mem_of_getElem? (i := 12) (by decide +kernel), List.mem_of_getElem? (i := 318) (by decide +kernel), List.mem_of_getElem? (i := 319) (by decide +kernel)⟩
theorem lw_p15 : lw_okq (⟨"PairedEnds", "pairOf", "(I)I"⟩, 6) := ⟨⟨by decide +kernel, by decide +kernel⟩, List.mem_of_getElem? (i := 12) (by decide +kernel), List.mem_of_getElem? (i := 322) (by decide +kernel), List.mem_of_getElem? (i := 323) (by decide +kernel)⟩
def lw_privs_1 : List (MethodName × Nat) := [(⟨"PairedEnds", "all", "()I"⟩, 6), (⟨"PairedEnds", "findNaming", "(I)Z"⟩, 6), (⟨"PairedEnds", "nameFrom", "(II)Z"⟩, 6), (⟨"PairedEnds", "fits", "(III)Z"⟩, 6), (⟨"PairedEnds", "give", "(III)V"⟩, 6), (⟨"PairedEnds", "takeBack", "(II)V"⟩, 6), (⟨"PairedEnds", "isApart", "(I)Z"⟩, 6), (⟨"PairedEnds", "neighboursOf", "(I)I"⟩, 6), (⟨"PairedEnds", "isClose", "(I)Z"⟩, 6), (⟨"java/lang/Throwable", "fillInStackTrace", "(I)Ljava/lang/Throwable;"⟩, 6), (⟨"PairedEnds", "checkTwo", "(II)V"⟩, 6), (⟨"PairedEnds", "checkVertex", "(I)V"⟩, 6), (⟨"PairedEnds", "nameAll", "()V"⟩, 6), (⟨"PairedEnds", "looseEnds", "()I"⟩, 6), (⟨"PairedEnds", "endsOf", "(I)I"⟩, 6), (⟨"PairedEnds", "pairOf", "(I)I"⟩, 6)]
theorem lw_r1 : ∀ q ∈ lw_privs_1, lw_okq q := List.forall_mem_cons.mpr ⟨lw_p0, List.forall_mem_cons.mpr ⟨lw_p1, List.forall_mem_cons.mpr ⟨lw_p2, List.forall_mem_cons.mpr ⟨lw_p3, List.forall_mem_cons.mpr ⟨lw_p4, List.forall_mem_cons.mpr ⟨lw_p5, List.forall_mem_cons.mpr ⟨lw_p6, List.forall_mem_cons.mpr ⟨lw_p7, List.forall_mem_cons.mpr ⟨lw_p8, List.forall_mem_cons.mpr ⟨lw_p9, List.forall_mem_cons.mpr ⟨lw_p10, List.forall_mem_cons.mpr ⟨lw_p11, List.forall_mem_cons.mpr ⟨lw_p12, List.forall_mem_cons.mpr ⟨lw_p13, List.forall_mem_cons.mpr ⟨lw_p14, List.forall_mem_cons.mpr ⟨lw_p15, fun _ h => absurd h List.not_mem_nil⟩⟩⟩⟩⟩⟩⟩⟩⟩⟩⟩⟩⟩⟩⟩⟩
theorem lw_p16 : lw_okq (⟨"PairedEndsModel", "change", "(III)Z"⟩, 7) := ⟨⟨by decide +kernel, by decide +kernel⟩, List.mem_of_getElem? (i := 333) (by decide +kernel), List.mem_of_getElem? (i := 377) (by decide +kernel), List.mem_of_getElem? (i := 378) (by decide +kernel)⟩
theorem lw_p17 : lw_okq (⟨"PairedEndsModel", "is", "(I)Z"⟩, 7) := ⟨⟨by decide +kernel, by decide +kernel⟩, List.mem_of_getElem? (i := 333) (by decide +kernel), List.mem_of_getElem? (i := 381) (by decide +kernel), List.mem_of_getElem? (i := 382) (by decide +kernel)⟩
theorem lw_p18 : lw_okq (⟨"PairedEndsModel", "all", "()I"⟩, 7) := ⟨⟨by decide +kernel, by decide +kernel⟩, List.mem_of_getElem? (i := 333) (by decide +kernel), List.mem_of_getElem? (i := 409) (by decide +kernel), List.mem_of_getElem? (i := 410) (by decide +kernel)⟩
theorem lw_p19 : lw_okq (⟨"PairedEndsModel", "name", "(I)I"⟩, 7) := ⟨⟨by decide +kernel, by decide +kernel⟩, List.mem_of_getElem? (i := 333) (by decide +kernel), List.mem_of_getElem? (i := 413) (by decide +kernel), List.mem_of_getElem? (i := 414) (by decide +kernel)⟩
theorem lw_p20 : lw_okq (⟨"PairedEndsModel", "begin", "(I)V"⟩, 7) := ⟨⟨by decide +kernel, by decide +kernel⟩, List.mem_of_getElem? (i := 333) (by decide +kernel), List.mem_of_getElem? (i := 417) (by decide +kernel), List.mem_of_getElem? (i := 418) (by decide +kernel)⟩
theorem lw_p21 : lw_okq (⟨"PairedEndsModel", "advance", "(I)Z"⟩, 7) := ⟨⟨by decide +kernel, by decide +kernel⟩, List.mem_of_getElem? (i := 333) (by decide +kernel), List.mem_of_getElem? (i := 421) (by decide +kernel), List.mem_of_getElem? (i := 422) (by decide +kernel)⟩
theorem lw_p22 : lw_okq (⟨"PairedEndsModel", "suits", "(I)Z"⟩, 7) := ⟨⟨by decide +kernel, by decide +kernel⟩, List.mem_of_getElem? (i := 333) (by decide +kernel), List.mem_of_getElem? (i := 425) (by decide +kernel), List.mem_of_getElem? (i := 426) (by decide +kernel)⟩
theorem lw_p23 : lw_okq (⟨"PairedEndsModel", "line", "(I)Z"⟩, 7) := ⟨⟨by decide +kernel, by decide +kernel⟩, List.mem_of_getElem? (i := 333) (by decide +kernel), List.mem_of_getElem? (i := 433) (by decide +kernel), List.mem_of_getElem? (i := 434) (by decide +kernel)⟩
theorem lw_p24 : lw_okq (⟨"PairedEndsModel", "named", "(I)Z"⟩, 7) := ⟨⟨by decide +kernel, by decide +kernel⟩, List.mem_of_getElem? (i := 333) (by decide +kernel), List.mem_of_getElem? (i := 441) (by decide +kernel), List.mem_of_getElem? (i := 442) (by decide +kernel)⟩
theorem lw_p25 : lw_okq (⟨"PairedEndsModel", "greatest", "(I)I"⟩, 7) := ⟨⟨by decide +kernel, by decide +kernel⟩, List.mem_of_getElem? (i := 333) (by decide +kernel), List.mem_of_getElem? (i := 457) (by decide +kernel), List.mem_of_getElem? (i := 458) (by decide +kernel)⟩
theorem lw_p26 : lw_okq (⟨"PairedEndsModel", "alike", "(II)Z"⟩, 7) := ⟨⟨by decide +kernel, by decide +kernel⟩, List.mem_of_getElem? (i := 333) (by decide +kernel), List.mem_of_getElem? (i := 461) (by decide +kernel), List.mem_of_getElem? (i := 462) (by decide +kernel)⟩
theorem lw_p27 : lw_okq (⟨"PairedEndsModel", "left", "()I"⟩, 7) := ⟨⟨by decide +kernel, by decide +kernel⟩, List.mem_of_getElem? (i := 333) (by decide +kernel), List.mem_of_getElem? (i := 476) (by decide +kernel), List.mem_of_getElem? (i := 477) (by decide +kernel)⟩
def lw_privs_2 : List (MethodName × Nat) := [(⟨"PairedEndsModel", "change", "(III)Z"⟩, 7), (⟨"PairedEndsModel", "is", "(I)Z"⟩, 7), (⟨"PairedEndsModel", "all", "()I"⟩, 7), (⟨"PairedEndsModel", "name", "(I)I"⟩, 7), (⟨"PairedEndsModel", "begin", "(I)V"⟩, 7), (⟨"PairedEndsModel", "advance", "(I)Z"⟩, 7), (⟨"PairedEndsModel", "suits", "(I)Z"⟩, 7), (⟨"PairedEndsModel", "line", "(I)Z"⟩, 7), (⟨"PairedEndsModel", "named", "(I)Z"⟩, 7), (⟨"PairedEndsModel", "greatest", "(I)I"⟩, 7), (⟨"PairedEndsModel", "alike", "(II)Z"⟩, 7), (⟨"PairedEndsModel", "left", "()I"⟩, 7)]
theorem lw_r2 : ∀ q ∈ lw_privs_2, lw_okq q := List.forall_mem_cons.mpr ⟨lw_p16, List.forall_mem_cons.mpr ⟨lw_p17, List.forall_mem_cons.mpr ⟨lw_p18, List.forall_mem_cons.mpr ⟨lw_p19, List.forall_mem_cons.mpr ⟨lw_p20, List.forall_mem_cons.mpr ⟨lw_p21, List.forall_mem_cons.mpr ⟨lw_p22, List.forall_mem_cons.mpr ⟨lw_p23, List.forall_mem_cons.mpr ⟨lw_p24, List.forall_mem_cons.mpr ⟨lw_p25, List.forall_mem_cons.mpr ⟨lw_p26, List.forall_mem_cons.mpr ⟨lw_p27, fun _ h => absurd h List.not_mem_nil⟩⟩⟩⟩⟩⟩⟩⟩⟩⟩⟩⟩
def lw_privs : List (MethodName × Nat) := lw_privs_1 ++ (lw_privs_2)
def lw_tbl : List Cond := k2_sels lw_privs ++ tables_1
theorem lw_privs_ok : ∀ q ∈ lw_privs, lw_okq q := by
  show ∀ q ∈ lw_privs_1 ++ (lw_privs_2), lw_okq q
  exact List.forall_mem_append.mpr ⟨lw_r1, lw_r2⟩
abbrev RX : String := "PairedEnds"
abbrev RM : String := "PairedEndsModel"
abbrev RL : String := "PairedEndsLaw"
abbrev RI : String := "java/lang/Integer"
def TX : u_T := fun k => match k with
  | 0 => ("PairedEnds", "neighbours", "[I", true)
  | 1 => ("PairedEnds", "count", "I", false)
  | 2 => ("PairedEnds", "lows", "[I", true)
  | 3 => ("PairedEnds", "highs", "[I", true)
  | 4 => ("PairedEnds", "holders", "[I", true)
  | _ => ("PairedEnds", "used", "I", false)
def tyX : Nat → FieldType := fun k => match k with
  | 0 => .array .int
  | 1 => .int
  | 2 => .array .int
  | 3 => .array .int
  | 4 => .array .int
  | _ => .int
theorem nmX : ∀ a, a < 6 → ∀ b, b < 6 → a ≠ b → (TX a).2.1 ≠ (TX b).2.1 := by decide +kernel
theorem tyX_ok : ∀ k, k < 6 → parseFieldDescriptor (TX k).2.2.1 = some (tyX k) := by decide +kernel
def TM : u_T := fun k => match k with
  | 0 => ("PairedEndsModel", "n", "I", false)
  | 1 => ("PairedEndsModel", "edge", "[I", false)
  | 2 => ("PairedEndsModel", "fault", "I", false)
  | 3 => ("PairedEndsModel", "low", "[I", false)
  | 4 => ("PairedEndsModel", "high", "[I", false)
  | 5 => ("PairedEndsModel", "order", "[I", false)
  | _ => ("PairedEndsModel", "used", "[I", false)
def tyM : Nat → FieldType := fun k => match k with
  | 0 => .int
  | 1 => .array .int
  | 2 => .int
  | 3 => .array .int
  | 4 => .array .int
  | 5 => .array .int
  | _ => .array .int
theorem nmM : ∀ a, a < 7 → ∀ b, b < 7 → a ≠ b → (TM a).2.1 ≠ (TM b).2.1 := by decide +kernel
theorem tyM_ok : ∀ k, k < 7 → parseFieldDescriptor (TM k).2.2.1 = some (tyM k) := by decide +kernel
/-- the classes whose objects the worlds hold -/
abbrev vwCl : List vw_C := [(RX, TX, 6), (RM, TM, 7)]
def yX_init : MethodName := ⟨"PairedEnds", "<init>", "()V"⟩
abbrev cX_init : ByteArray := prog_1_method_1_code
def yX_vertices : MethodName := ⟨"PairedEnds", "vertices", "()I"⟩
abbrev cX_vertices : ByteArray := prog_1_method_7_code
def yX_edges : MethodName := ⟨"PairedEnds", "edges", "()I"⟩
abbrev cX_edges : ByteArray := prog_1_method_8_code
def yI_bitCount : MethodName := ⟨"java/lang/Integer", "bitCount", "(I)I"⟩
abbrev cI_bitCount : ByteArray := prog_8_method_49_code
def yX_isLine : MethodName := ⟨"PairedEnds", "isLine", "()Z"⟩
abbrev cX_isLine : ByteArray := prog_1_method_10_code
def yX_all : MethodName := ⟨"PairedEnds", "all", "()I"⟩
abbrev cX_all : ByteArray := prog_1_method_23_code
def yX_only : MethodName := ⟨"PairedEnds", "only", "(I)I"⟩
abbrev cX_only : ByteArray := prog_1_method_21_code
def yX_findNaming : MethodName := ⟨"PairedEnds", "findNaming", "(I)Z"⟩
abbrev cX_findNaming : ByteArray := prog_1_method_28_code
def yX_nameFrom : MethodName := ⟨"PairedEnds", "nameFrom", "(II)Z"⟩
abbrev cX_nameFrom : ByteArray := prog_1_method_29_code
def yX_has : MethodName := ⟨"PairedEnds", "has", "(II)Z"⟩
abbrev cX_has : ByteArray := prog_1_method_22_code
def yX_fits : MethodName := ⟨"PairedEnds", "fits", "(III)Z"⟩
abbrev cX_fits : ByteArray := prog_1_method_30_code
def yX_give : MethodName := ⟨"PairedEnds", "give", "(III)V"⟩
abbrev cX_give : ByteArray := prog_1_method_31_code
def yX_takeBack : MethodName := ⟨"PairedEnds", "takeBack", "(II)V"⟩
abbrev cX_takeBack : ByteArray := prog_1_method_32_code
def yX_apart : MethodName := ⟨"PairedEnds", "apart", "()I"⟩
abbrev cX_apart : ByteArray := prog_1_method_15_code
def yX_isApart : MethodName := ⟨"PairedEnds", "isApart", "(I)Z"⟩
abbrev cX_isApart : ByteArray := prog_1_method_25_code
def yX_neighboursOf : MethodName := ⟨"PairedEnds", "neighboursOf", "(I)I"⟩
abbrev cX_neighboursOf : ByteArray := prog_1_method_24_code
def yX_close : MethodName := ⟨"PairedEnds", "close", "()I"⟩
abbrev cX_close : ByteArray := prog_1_method_16_code
def yX_isClose : MethodName := ⟨"PairedEnds", "isClose", "(I)Z"⟩
abbrev cX_isClose : ByteArray := prog_1_method_26_code
def yL_grow : MethodName := ⟨"PairedEndsLaw", "grow", "(LPairedEnds;[J)I"⟩
abbrev cL_grow : ByteArray := method_3_code
def yX_grow : MethodName := ⟨"PairedEnds", "grow", "()I"⟩
abbrev cX_grow : ByteArray := prog_1_method_2_code
def yL_shrink : MethodName := ⟨"PairedEndsLaw", "shrink", "(LPairedEnds;)I"⟩
abbrev cL_shrink : ByteArray := method_4_code
def yX_shrink : MethodName := ⟨"PairedEnds", "shrink", "()V"⟩
abbrev cX_shrink : ByteArray := prog_1_method_3_code
def yL_join : MethodName := ⟨"PairedEndsLaw", "join", "(LPairedEnds;II[J)I"⟩
abbrev cL_join : ByteArray := method_5_code
def yX_join : MethodName := ⟨"PairedEnds", "join", "(II)Z"⟩
abbrev cX_join : ByteArray := prog_1_method_4_code
def yX_checkTwo : MethodName := ⟨"PairedEnds", "checkTwo", "(II)V"⟩
abbrev cX_checkTwo : ByteArray := prog_1_method_19_code
def yX_checkVertex : MethodName := ⟨"PairedEnds", "checkVertex", "(I)V"⟩
abbrev cX_checkVertex : ByteArray := prog_1_method_20_code
def yL_part : MethodName := ⟨"PairedEndsLaw", "part", "(LPairedEnds;II[J)I"⟩
abbrev cL_part : ByteArray := method_6_code
def yX_part : MethodName := ⟨"PairedEnds", "part", "(II)Z"⟩
abbrev cX_part : ByteArray := prog_1_method_5_code
def yL_adjacent : MethodName := ⟨"PairedEndsLaw", "adjacent", "(LPairedEnds;II[J)I"⟩
abbrev cL_adjacent : ByteArray := method_7_code
def yX_adjacent : MethodName := ⟨"PairedEnds", "adjacent", "(II)Z"⟩
abbrev cX_adjacent : ByteArray := prog_1_method_6_code
def yL_leader : MethodName := ⟨"PairedEndsLaw", "leader", "(LPairedEnds;I[J)I"⟩
abbrev cL_leader : ByteArray := method_8_code
def yX_leader : MethodName := ⟨"PairedEnds", "leader", "(I)I"⟩
abbrev cX_leader : ByteArray := prog_1_method_9_code
def yI_numberOfTrailingZeros : MethodName := ⟨"java/lang/Integer", "numberOfTrailingZeros", "(I)I"⟩
abbrev cI_numberOfTrailingZeros : ByteArray := prog_8_method_48_code
def yL_ends : MethodName := ⟨"PairedEndsLaw", "ends", "(LPairedEnds;[J)I"⟩
abbrev cL_ends : ByteArray := method_9_code
def yX_ends : MethodName := ⟨"PairedEnds", "ends", "()I"⟩
abbrev cX_ends : ByteArray := prog_1_method_11_code
def yX_nameAll : MethodName := ⟨"PairedEnds", "nameAll", "()V"⟩
abbrev cX_nameAll : ByteArray := prog_1_method_27_code
def yL_low : MethodName := ⟨"PairedEndsLaw", "low", "(LPairedEnds;I[J)I"⟩
abbrev cL_low : ByteArray := method_10_code
def yX_low : MethodName := ⟨"PairedEnds", "low", "(I)I"⟩
abbrev cX_low : ByteArray := prog_1_method_12_code
def yL_high : MethodName := ⟨"PairedEndsLaw", "high", "(LPairedEnds;I[J)I"⟩
abbrev cL_high : ByteArray := method_11_code
def yX_high : MethodName := ⟨"PairedEnds", "high", "(I)I"⟩
abbrev cX_high : ByteArray := prog_1_method_13_code
def yL_spoiler : MethodName := ⟨"PairedEndsLaw", "spoiler", "(LPairedEnds;[J)I"⟩
abbrev cL_spoiler : ByteArray := method_12_code
def yX_spoiler : MethodName := ⟨"PairedEnds", "spoiler", "()I"⟩
abbrev cX_spoiler : ByteArray := prog_1_method_14_code
def yL_loose : MethodName := ⟨"PairedEndsLaw", "loose", "(LPairedEnds;[J)I"⟩
abbrev cL_loose : ByteArray := method_13_code
def yX_loose : MethodName := ⟨"PairedEnds", "loose", "()I"⟩
abbrev cX_loose : ByteArray := prog_1_method_17_code
def yX_looseEnds : MethodName := ⟨"PairedEnds", "looseEnds", "()I"⟩
abbrev cX_looseEnds : ByteArray := prog_1_method_35_code
def yX_endsOf : MethodName := ⟨"PairedEnds", "endsOf", "(I)I"⟩
abbrev cX_endsOf : ByteArray := prog_1_method_34_code
def yX_pairOf : MethodName := ⟨"PairedEnds", "pairOf", "(I)I"⟩
abbrev cX_pairOf : ByteArray := prog_1_method_33_code
def yL_barrier : MethodName := ⟨"PairedEndsLaw", "barrier", "(LPairedEnds;[J)I"⟩
abbrev cL_barrier : ByteArray := method_14_code
def yX_barrier : MethodName := ⟨"PairedEnds", "barrier", "()I"⟩
abbrev cX_barrier : ByteArray := prog_1_method_18_code
def yM_init : MethodName := ⟨"PairedEndsModel", "<init>", "()V"⟩
abbrev cM_init : ByteArray := prog_3_method_1_code
def yM_thrown : MethodName := ⟨"PairedEndsModel", "thrown", "()I"⟩
abbrev cM_thrown : ByteArray := prog_3_method_2_code
def yM_grow : MethodName := ⟨"PairedEndsModel", "grow", "()I"⟩
abbrev cM_grow : ByteArray := prog_3_method_4_code
def yM_shrink : MethodName := ⟨"PairedEndsModel", "shrink", "()V"⟩
abbrev cM_shrink : ByteArray := prog_3_method_5_code
def yM_join : MethodName := ⟨"PairedEndsModel", "join", "(II)Z"⟩
abbrev cM_join : ByteArray := prog_3_method_7_code
def yM_change : MethodName := ⟨"PairedEndsModel", "change", "(III)Z"⟩
abbrev cM_change : ByteArray := prog_3_method_6_code
def yM_is : MethodName := ⟨"PairedEndsModel", "is", "(I)Z"⟩
abbrev cM_is : ByteArray := prog_3_method_3_code
def yM_part : MethodName := ⟨"PairedEndsModel", "part", "(II)Z"⟩
abbrev cM_part : ByteArray := prog_3_method_8_code
def yM_adjacent : MethodName := ⟨"PairedEndsModel", "adjacent", "(II)Z"⟩
abbrev cM_adjacent : ByteArray := prog_3_method_9_code
def yM_vertices : MethodName := ⟨"PairedEndsModel", "vertices", "()I"⟩
abbrev cM_vertices : ByteArray := prog_3_method_10_code
def yM_edges : MethodName := ⟨"PairedEndsModel", "edges", "()I"⟩
abbrev cM_edges : ByteArray := prog_3_method_11_code
def yM_leader : MethodName := ⟨"PairedEndsModel", "leader", "(I)I"⟩
abbrev cM_leader : ByteArray := prog_3_method_12_code
def yM_isLine : MethodName := ⟨"PairedEndsModel", "isLine", "()Z"⟩
abbrev cM_isLine : ByteArray := prog_3_method_19_code
def yM_all : MethodName := ⟨"PairedEndsModel", "all", "()I"⟩
abbrev cM_all : ByteArray := prog_3_method_17_code
def yM_name : MethodName := ⟨"PairedEndsModel", "name", "(I)I"⟩
abbrev cM_name : ByteArray := prog_3_method_16_code
def yM_begin : MethodName := ⟨"PairedEndsModel", "begin", "(I)V"⟩
abbrev cM_begin : ByteArray := prog_3_method_15_code
def yM_advance : MethodName := ⟨"PairedEndsModel", "advance", "(I)Z"⟩
abbrev cM_advance : ByteArray := prog_3_method_14_code
def yM_suits : MethodName := ⟨"PairedEndsModel", "suits", "(I)Z"⟩
abbrev cM_suits : ByteArray := prog_3_method_13_code
def yM_ends : MethodName := ⟨"PairedEndsModel", "ends", "()I"⟩
abbrev cM_ends : ByteArray := prog_3_method_20_code
def yM_line : MethodName := ⟨"PairedEndsModel", "line", "(I)Z"⟩
abbrev cM_line : ByteArray := prog_3_method_18_code
def yM_low : MethodName := ⟨"PairedEndsModel", "low", "(I)I"⟩
abbrev cM_low : ByteArray := prog_3_method_22_code
def yM_named : MethodName := ⟨"PairedEndsModel", "named", "(I)Z"⟩
abbrev cM_named : ByteArray := prog_3_method_21_code
def yM_high : MethodName := ⟨"PairedEndsModel", "high", "(I)I"⟩
abbrev cM_high : ByteArray := prog_3_method_23_code
def yM_spoiler : MethodName := ⟨"PairedEndsModel", "spoiler", "()I"⟩
abbrev cM_spoiler : ByteArray := prog_3_method_24_code
def yM_apart : MethodName := ⟨"PairedEndsModel", "apart", "()I"⟩
abbrev cM_apart : ByteArray := prog_3_method_28_code
def yM_greatest : MethodName := ⟨"PairedEndsModel", "greatest", "(I)I"⟩
abbrev cM_greatest : ByteArray := prog_3_method_27_code
def yM_alike : MethodName := ⟨"PairedEndsModel", "alike", "(II)Z"⟩
abbrev cM_alike : ByteArray := prog_3_method_26_code
def yM_count : MethodName := ⟨"PairedEndsModel", "count", "(I)I"⟩
abbrev cM_count : ByteArray := prog_3_method_25_code
def yM_close : MethodName := ⟨"PairedEndsModel", "close", "()I"⟩
abbrev cM_close : ByteArray := prog_3_method_29_code
def yM_loose : MethodName := ⟨"PairedEndsModel", "loose", "()I"⟩
abbrev cM_loose : ByteArray := prog_3_method_31_code
def yM_left : MethodName := ⟨"PairedEndsModel", "left", "()I"⟩
abbrev cM_left : ByteArray := prog_3_method_30_code
def yM_barrier : MethodName := ⟨"PairedEndsModel", "barrier", "()I"⟩
abbrev cM_barrier : ByteArray := prog_3_method_32_code
/-- the words of the tables that every method of this claim carries -/
def bw : List Cond := lw_tbl.filter goodWord
theorem bw_0 {w : Cond} (i : Nat) (h : (k2_sels lw_privs)[i]? = some w) (hg : goodWord w = true) : w ∈ bw := List.mem_filter.mpr ⟨List.mem_append_left _ (List.mem_of_getElem? h), hg⟩
theorem bw_1 {w : Cond} (i : Nat) (h : tables_1_1[i]? = some w) (hg : goodWord w = true) : w ∈ bw := List.mem_filter.mpr ⟨List.mem_append_right _ (List.mem_append_left _ (List.mem_of_getElem? h)), hg⟩
theorem bw_2 {w : Cond} (i : Nat) (h : tables_1_2[i]? = some w) (hg : goodWord w = true) : w ∈ bw := List.mem_filter.mpr ⟨List.mem_append_right _ (List.mem_append_right _ (List.mem_append_left _ (List.mem_of_getElem? h))), hg⟩
theorem bw_3 {w : Cond} (i : Nat) (h : tables_1_3[i]? = some w) (hg : goodWord w = true) : w ∈ bw := List.mem_filter.mpr ⟨List.mem_append_right _ (List.mem_append_right _ (List.mem_append_right _ (List.mem_of_getElem? h))), hg⟩
theorem w1_0 : Cond.initialized "PairedEndsLaw" ∈ bw := bw_1 0 rfl rfl
theorem w1_1 : Cond.initialized "PairedEnds" ∈ bw := bw_1 1 rfl rfl
theorem w1_2 : Cond.initialized "PairedEndsModel" ∈ bw := bw_1 2 rfl rfl
theorem w1_3 : Cond.initialized "java/lang/Throwable" ∈ bw := bw_1 3 rfl rfl
theorem w1_4 : Cond.initialized "java/lang/Exception" ∈ bw := bw_1 4 rfl rfl
theorem w1_5 : Cond.initialized "java/lang/RuntimeException" ∈ bw := bw_1 5 rfl rfl
theorem w1_6 : Cond.initialized "java/lang/IllegalStateException" ∈ bw := bw_1 6 rfl rfl
theorem w1_7 : Cond.initialized "java/lang/IndexOutOfBoundsException" ∈ bw := bw_1 7 rfl rfl
theorem w1_8 : Cond.initialized "java/lang/IllegalArgumentException" ∈ bw := bw_1 8 rfl rfl
theorem w1_9 : Cond.initialized "java/lang/Integer" ∈ bw := bw_1 9 rfl rfl
theorem w1_10 : Cond.initialized "java/lang/Math" ∈ bw := bw_1 10 rfl rfl
theorem w1_11 : Cond.classLink "PairedEndsLaw" 8 "PairedEnds" ∈ bw := bw_1 11 rfl rfl
theorem w1_12 : Cond.instantiable "PairedEnds" 6 ∈ bw := bw_1 12 rfl rfl
theorem w1_13 : Cond.methodLink "PairedEndsLaw" 54 yX_init ∈ bw := bw_1 13 rfl rfl
theorem w1_14 : Cond.instanceMethod yX_init ∈ bw := bw_1 14 rfl rfl
theorem w1_15 : Cond.code yX_init prog_1_method_1_code 1 none ∈ bw := bw_1 15 rfl rfl
theorem w1_16 : Cond.methodLink "PairedEnds" 3 (⟨"java/lang/Object", "<init>", "()V"⟩ : MethodName) ∈ bw := bw_1 16 rfl rfl
theorem w1_17 : Cond.instanceMethod (⟨"java/lang/Object", "<init>", "()V"⟩ : MethodName) ∈ bw := bw_1 17 rfl rfl
theorem w1_18 : Cond.code (⟨"java/lang/Object", "<init>", "()V"⟩ : MethodName) object_method_1_code 1 none ∈ bw := bw_1 18 rfl rfl
theorem w1_19 : Cond.fieldLink "PairedEnds" 9 "PairedEnds" "neighbours" "[I" ∈ bw := bw_1 19 rfl rfl
theorem w1_20 : Cond.fieldLink "PairedEnds" 22 "PairedEnds" "count" "I" ∈ bw := bw_1 20 rfl rfl
theorem w1_21 : Cond.fieldLink "PairedEnds" 13 "PairedEnds" "lows" "[I" ∈ bw := bw_1 21 rfl rfl
theorem w1_22 : Cond.fieldLink "PairedEnds" 16 "PairedEnds" "highs" "[I" ∈ bw := bw_1 22 rfl rfl
theorem w1_23 : Cond.fieldLink "PairedEnds" 19 "PairedEnds" "holders" "[I" ∈ bw := bw_1 23 rfl rfl
theorem w1_24 : Cond.fieldLink "PairedEnds" 26 "PairedEnds" "used" "I" ∈ bw := bw_1 24 rfl rfl
theorem w1_25 : Cond.laysFinal "PairedEnds" "PairedEnds" "neighbours" "[I" ∈ bw := bw_1 25 rfl rfl
theorem w1_27 : Cond.lays "PairedEnds" "PairedEnds" "count" "I" ∈ bw := bw_1 27 rfl rfl
theorem w1_29 : Cond.laysFinal "PairedEnds" "PairedEnds" "lows" "[I" ∈ bw := bw_1 29 rfl rfl
theorem w1_31 : Cond.laysFinal "PairedEnds" "PairedEnds" "highs" "[I" ∈ bw := bw_1 31 rfl rfl
theorem w1_33 : Cond.laysFinal "PairedEnds" "PairedEnds" "holders" "[I" ∈ bw := bw_1 33 rfl rfl
theorem w1_35 : Cond.lays "PairedEnds" "PairedEnds" "used" "I" ∈ bw := bw_1 35 rfl rfl
theorem w1_38 : Cond.arrayClass FieldType.int ∈ bw := bw_1 38 rfl rfl
theorem w1_39 : Cond.methodLink "PairedEndsLaw" 81 yX_vertices ∈ bw := bw_1 39 rfl rfl
theorem w1_40 : Cond.instanceMethod yX_vertices ∈ bw := bw_1 40 rfl rfl
theorem w1_41 : Cond.selects "PairedEnds" yX_vertices yX_vertices ∈ bw := bw_1 41 rfl rfl
theorem w1_42 : Cond.code yX_vertices prog_1_method_7_code 1 (some FieldType.int) ∈ bw := bw_1 42 rfl rfl
theorem w1_43 : Cond.methodLink "PairedEndsLaw" 85 yX_edges ∈ bw := bw_1 43 rfl rfl
theorem w1_44 : Cond.instanceMethod yX_edges ∈ bw := bw_1 44 rfl rfl
theorem w1_45 : Cond.selects "PairedEnds" yX_edges yX_edges ∈ bw := bw_1 45 rfl rfl
theorem w1_46 : Cond.code yX_edges prog_1_method_8_code 3 (some FieldType.int) ∈ bw := bw_1 46 rfl rfl
theorem w1_47 : Cond.methodLink "PairedEnds" 54 yI_bitCount ∈ bw := bw_1 47 rfl rfl
theorem w1_48 : Cond.static yI_bitCount ∈ bw := bw_1 48 rfl rfl
theorem w1_49 : Cond.code yI_bitCount prog_8_method_49_code 1 (some FieldType.int) ∈ bw := bw_1 49 rfl rfl
theorem w1_50 : Cond.constant "java/lang/Integer" 265 1431655765 ∈ bw := bw_1 50 rfl rfl
theorem w1_51 : Cond.constant "java/lang/Integer" 266 858993459 ∈ bw := bw_1 51 rfl rfl
theorem w1_52 : Cond.constant "java/lang/Integer" 267 252645135 ∈ bw := bw_1 52 rfl rfl
theorem w1_53 : Cond.methodLink "PairedEndsLaw" 93 yX_isLine ∈ bw := bw_1 53 rfl rfl
theorem w1_54 : Cond.instanceMethod yX_isLine ∈ bw := bw_1 54 rfl rfl
theorem w1_55 : Cond.selects "PairedEnds" yX_isLine yX_isLine ∈ bw := bw_1 55 rfl rfl
theorem w1_56 : Cond.code yX_isLine prog_1_method_10_code 1 (some FieldType.boolean) ∈ bw := bw_1 56 rfl rfl
theorem w1_57 : Cond.methodLink "PairedEnds" 65 yX_all ∈ bw := bw_1 57 rfl rfl
theorem w1_59 : Cond.instanceMethod yX_all ∈ bw := bw_1 59 rfl rfl
theorem w1_60 : Cond.code yX_all prog_1_method_23_code 1 (some FieldType.int) ∈ bw := bw_1 60 rfl rfl
theorem w1_61 : Cond.methodLink "PairedEnds" 38 yX_only ∈ bw := bw_1 61 rfl rfl
theorem w1_62 : Cond.static yX_only ∈ bw := bw_1 62 rfl rfl
theorem w1_63 : Cond.code yX_only prog_1_method_21_code 1 (some FieldType.int) ∈ bw := bw_1 63 rfl rfl
theorem w1_64 : Cond.methodLink "PairedEnds" 69 yX_findNaming ∈ bw := bw_1 64 rfl rfl
theorem w1_66 : Cond.instanceMethod yX_findNaming ∈ bw := bw_1 66 rfl rfl
theorem w1_67 : Cond.code yX_findNaming prog_1_method_28_code 3 (some FieldType.boolean) ∈ bw := bw_1 67 rfl rfl
theorem w1_68 : Cond.methodLink "PairedEnds" 102 yX_nameFrom ∈ bw := bw_1 68 rfl rfl
theorem w1_70 : Cond.instanceMethod yX_nameFrom ∈ bw := bw_1 70 rfl rfl
theorem w1_71 : Cond.code yX_nameFrom prog_1_method_29_code 8 (some FieldType.boolean) ∈ bw := bw_1 71 rfl rfl
theorem w1_72 : Cond.methodLink "PairedEnds" 46 yX_has ∈ bw := bw_1 72 rfl rfl
theorem w1_73 : Cond.static yX_has ∈ bw := bw_1 73 rfl rfl
theorem w1_74 : Cond.code yX_has prog_1_method_22_code 2 (some FieldType.boolean) ∈ bw := bw_1 74 rfl rfl
theorem w1_75 : Cond.methodLink "PairedEnds" 105 (⟨"java/lang/Math", "max", "(II)I"⟩ : MethodName) ∈ bw := bw_1 75 rfl rfl
theorem w1_76 : Cond.static (⟨"java/lang/Math", "max", "(II)I"⟩ : MethodName) ∈ bw := bw_1 76 rfl rfl
theorem w1_77 : Cond.code (⟨"java/lang/Math", "max", "(II)I"⟩ : MethodName) prog_9_method_65_code 2 (some FieldType.int) ∈ bw := bw_1 77 rfl rfl
theorem w1_78 : Cond.methodLink "PairedEnds" 111 (⟨"java/lang/Math", "min", "(II)I"⟩ : MethodName) ∈ bw := bw_1 78 rfl rfl
theorem w1_79 : Cond.static (⟨"java/lang/Math", "min", "(II)I"⟩ : MethodName) ∈ bw := bw_1 79 rfl rfl
theorem w1_80 : Cond.code (⟨"java/lang/Math", "min", "(II)I"⟩ : MethodName) prog_9_method_69_code 2 (some FieldType.int) ∈ bw := bw_1 80 rfl rfl
theorem w1_81 : Cond.methodLink "PairedEnds" 114 yX_fits ∈ bw := bw_1 81 rfl rfl
theorem w1_83 : Cond.instanceMethod yX_fits ∈ bw := bw_1 83 rfl rfl
theorem w1_84 : Cond.code yX_fits prog_1_method_30_code 4 (some FieldType.boolean) ∈ bw := bw_1 84 rfl rfl
theorem w1_85 : Cond.methodLink "PairedEnds" 118 yX_give ∈ bw := bw_1 85 rfl rfl
theorem w1_87 : Cond.instanceMethod yX_give ∈ bw := bw_1 87 rfl rfl
theorem w1_88 : Cond.code yX_give prog_1_method_31_code 4 none ∈ bw := bw_1 88 rfl rfl
theorem w1_89 : Cond.methodLink "PairedEnds" 122 yX_takeBack ∈ bw := bw_1 89 rfl rfl
theorem w1_91 : Cond.instanceMethod yX_takeBack ∈ bw := bw_1 91 rfl rfl
theorem w1_92 : Cond.code yX_takeBack prog_1_method_32_code 3 none ∈ bw := bw_1 92 rfl rfl
theorem w1_93 : Cond.methodLink "PairedEndsLaw" 110 yX_apart ∈ bw := bw_1 93 rfl rfl
theorem w1_94 : Cond.instanceMethod yX_apart ∈ bw := bw_1 94 rfl rfl
theorem w1_95 : Cond.selects "PairedEnds" yX_apart yX_apart ∈ bw := bw_1 95 rfl rfl
theorem w1_96 : Cond.code yX_apart prog_1_method_15_code 3 (some FieldType.int) ∈ bw := bw_1 96 rfl rfl
theorem w1_97 : Cond.methodLink "PairedEnds" 78 yX_isApart ∈ bw := bw_1 97 rfl rfl
theorem w1_99 : Cond.instanceMethod yX_isApart ∈ bw := bw_1 99 rfl rfl
theorem w1_100 : Cond.code yX_isApart prog_1_method_25_code 2 (some FieldType.boolean) ∈ bw := bw_1 100 rfl rfl
theorem w1_101 : Cond.methodLink "PairedEnds" 59 yX_neighboursOf ∈ bw := bw_1 101 rfl rfl
theorem w1_103 : Cond.instanceMethod yX_neighboursOf ∈ bw := bw_1 103 rfl rfl
theorem w1_104 : Cond.code yX_neighboursOf prog_1_method_24_code 4 (some FieldType.int) ∈ bw := bw_1 104 rfl rfl
theorem w1_105 : Cond.methodLink "PairedEndsLaw" 114 yX_close ∈ bw := bw_1 105 rfl rfl
theorem w1_106 : Cond.instanceMethod yX_close ∈ bw := bw_1 106 rfl rfl
theorem w1_107 : Cond.selects "PairedEnds" yX_close yX_close ∈ bw := bw_1 107 rfl rfl
theorem w1_108 : Cond.code yX_close prog_1_method_16_code 3 (some FieldType.int) ∈ bw := bw_1 108 rfl rfl
theorem w1_109 : Cond.methodLink "PairedEnds" 81 yX_isClose ∈ bw := bw_1 109 rfl rfl
theorem w1_111 : Cond.instanceMethod yX_isClose ∈ bw := bw_1 111 rfl rfl
theorem w1_112 : Cond.code yX_isClose prog_1_method_26_code 3 (some FieldType.boolean) ∈ bw := bw_1 112 rfl rfl
theorem w1_113 : Cond.methodLink "PairedEndsLaw" 58 yL_grow ∈ bw := bw_1 113 rfl rfl
theorem w1_114 : Cond.static yL_grow ∈ bw := bw_1 114 rfl rfl
theorem w1_115 : Cond.codeWith yL_grow method_3_code 3 (some FieldType.int) [(0, 8, 11, 13)] ∈ bw := bw_1 115 rfl rfl
theorem w1_116 : Cond.classLink "PairedEndsLaw" 13 "java/lang/IllegalStateException" ∈ bw := bw_1 116 rfl rfl
theorem w1_117 : Cond.methodLink "PairedEndsLaw" 7 yX_grow ∈ bw := bw_1 117 rfl rfl
theorem w1_118 : Cond.instanceMethod yX_grow ∈ bw := bw_1 118 rfl rfl
theorem w1_119 : Cond.selects "PairedEnds" yX_grow yX_grow ∈ bw := bw_1 119 rfl rfl
theorem w1_120 : Cond.code yX_grow prog_1_method_2_code 1 (some FieldType.int) ∈ bw := bw_1 120 rfl rfl
theorem w1_121 : Cond.classLink "PairedEnds" 29 "java/lang/IllegalStateException" ∈ bw := bw_1 121 rfl rfl
theorem w1_122 : Cond.instantiable "java/lang/IllegalStateException" 6 ∈ bw := bw_1 122 rfl rfl
theorem w1_130 : Cond.selects "java/lang/IllegalStateException" (⟨"java/lang/Throwable", "fillInStackTrace", "(I)Ljava/lang/Throwable;"⟩ : MethodName) (⟨"java/lang/Throwable", "fillInStackTrace", "(I)Ljava/lang/Throwable;"⟩ : MethodName) ∈ bw := bw_1 130 rfl rfl
theorem w1_131 : Cond.selects "java/lang/IllegalStateException" (⟨"java/lang/Throwable", "fillInStackTrace", "()Ljava/lang/Throwable;"⟩ : MethodName) (⟨"java/lang/Throwable", "fillInStackTrace", "()Ljava/lang/Throwable;"⟩ : MethodName) ∈ bw := bw_1 131 rfl rfl
theorem w1_132 : Cond.lays "java/lang/IllegalStateException" "java/lang/Throwable" "cause" "Ljava/lang/Throwable;" ∈ bw := bw_1 132 rfl rfl
theorem w1_133 : Cond.lays "java/lang/Throwable" "java/lang/Throwable" "cause" "Ljava/lang/Throwable;" ∈ bw := bw_1 133 rfl rfl
theorem w1_134 : Cond.lays "java/lang/IllegalStateException" "java/lang/Throwable" "stackTrace" "[Ljava/lang/StackTraceElement;" ∈ bw := bw_1 134 rfl rfl
theorem w1_135 : Cond.lays "java/lang/Throwable" "java/lang/Throwable" "stackTrace" "[Ljava/lang/StackTraceElement;" ∈ bw := bw_1 135 rfl rfl
theorem w1_136 : Cond.lays "java/lang/IllegalStateException" "java/lang/Throwable" "suppressedExceptions" "Ljava/util/List;" ∈ bw := bw_1 136 rfl rfl
theorem w1_137 : Cond.lays "java/lang/Throwable" "java/lang/Throwable" "suppressedExceptions" "Ljava/util/List;" ∈ bw := bw_1 137 rfl rfl
theorem w1_138 : Cond.lays "java/lang/IllegalStateException" "java/lang/Throwable" "detailMessage" "Ljava/lang/String;" ∈ bw := bw_1 138 rfl rfl
theorem w1_139 : Cond.lays "java/lang/Throwable" "java/lang/Throwable" "detailMessage" "Ljava/lang/String;" ∈ bw := bw_1 139 rfl rfl
theorem w1_140 : Cond.lays "java/lang/IllegalStateException" "java/lang/Throwable" "backtrace" "Ljava/lang/Object;" ∈ bw := bw_1 140 rfl rfl
theorem w1_141 : Cond.lays "java/lang/Throwable" "java/lang/Throwable" "backtrace" "Ljava/lang/Object;" ∈ bw := bw_1 141 rfl rfl
theorem w1_175 : Cond.fieldLink "java/lang/Throwable" 198 "java/lang/Throwable" "backtrace" "Ljava/lang/Object;" ∈ bw := bw_1 175 rfl rfl
theorem w1_144 : Cond.instanceMethod (⟨"java/lang/Throwable", "<init>", "()V"⟩ : MethodName) ∈ bw := bw_1 144 rfl rfl
theorem w1_145 : Cond.code (⟨"java/lang/Throwable", "<init>", "()V"⟩ : MethodName) prog_12_method_1_code 1 none ∈ bw := bw_1 145 rfl rfl
theorem w1_146 : Cond.methodLink "java/lang/Throwable" 1 (⟨"java/lang/Object", "<init>", "()V"⟩ : MethodName) ∈ bw := bw_1 146 rfl rfl
theorem w1_147 : Cond.fieldLink "java/lang/Throwable" 13 "java/lang/Throwable" "UNASSIGNED_STACK" "[Ljava/lang/StackTraceElement;" ∈ bw := bw_1 147 rfl rfl
theorem w1_149 : Cond.fieldLink "java/lang/Throwable" 20 "java/lang/Throwable" "SUPPRESSED_SENTINEL" "Ljava/util/List;" ∈ bw := bw_1 149 rfl rfl
theorem w1_151 : Cond.methodLink "java/lang/Throwable" 27 (⟨"java/lang/Throwable", "fillInStackTrace", "()Ljava/lang/Throwable;"⟩ : MethodName) ∈ bw := bw_1 151 rfl rfl
theorem w1_152 : Cond.instanceMethod (⟨"java/lang/Throwable", "fillInStackTrace", "()Ljava/lang/Throwable;"⟩ : MethodName) ∈ bw := bw_1 152 rfl rfl
theorem w1_154 : Cond.selects "java/lang/IllegalArgumentException" (⟨"java/lang/Throwable", "fillInStackTrace", "()Ljava/lang/Throwable;"⟩ : MethodName) (⟨"java/lang/Throwable", "fillInStackTrace", "()Ljava/lang/Throwable;"⟩ : MethodName) ∈ bw := bw_1 154 rfl rfl
theorem w1_155 : Cond.selects "java/lang/IndexOutOfBoundsException" (⟨"java/lang/Throwable", "fillInStackTrace", "()Ljava/lang/Throwable;"⟩ : MethodName) (⟨"java/lang/Throwable", "fillInStackTrace", "()Ljava/lang/Throwable;"⟩ : MethodName) ∈ bw := bw_1 155 rfl rfl
theorem w1_156 : Cond.codeSync (⟨"java/lang/Throwable", "fillInStackTrace", "()Ljava/lang/Throwable;"⟩ : MethodName) prog_12_method_18_code 1 (some (FieldType.object "java/lang/Throwable")) ∈ bw := bw_1 156 rfl rfl
theorem w1_157 : Cond.methodLink "java/lang/Throwable" 202 (⟨"java/lang/Throwable", "fillInStackTrace", "(I)Ljava/lang/Throwable;"⟩ : MethodName) ∈ bw := bw_1 157 rfl rfl
theorem w1_159 : Cond.instanceMethod (⟨"java/lang/Throwable", "fillInStackTrace", "(I)Ljava/lang/Throwable;"⟩ : MethodName) ∈ bw := bw_1 159 rfl rfl
theorem w1_160 : Cond.instantiable "java/lang/Throwable" 6 ∈ bw := bw_1 160 rfl rfl
theorem w1_161 : Cond.native (⟨"java/lang/Throwable", "fillInStackTrace", "(I)Ljava/lang/Throwable;"⟩ : MethodName) ∈ bw := bw_1 161 rfl rfl
theorem w1_163 : Cond.methodLink "PairedEnds" 33 (⟨"java/lang/IllegalStateException", "<init>", "(Ljava/lang/String;)V"⟩ : MethodName) ∈ bw := bw_1 163 rfl rfl
theorem w1_164 : Cond.instanceMethod (⟨"java/lang/IllegalStateException", "<init>", "(Ljava/lang/String;)V"⟩ : MethodName) ∈ bw := bw_1 164 rfl rfl
theorem w1_165 : Cond.code (⟨"java/lang/IllegalStateException", "<init>", "(Ljava/lang/String;)V"⟩ : MethodName) prog_6_method_2_code 2 none ∈ bw := bw_1 165 rfl rfl
theorem w1_166 : Cond.methodLink "java/lang/IllegalStateException" 7 (⟨"java/lang/RuntimeException", "<init>", "(Ljava/lang/String;)V"⟩ : MethodName) ∈ bw := bw_1 166 rfl rfl
theorem w1_167 : Cond.instanceMethod (⟨"java/lang/RuntimeException", "<init>", "(Ljava/lang/String;)V"⟩ : MethodName) ∈ bw := bw_1 167 rfl rfl
theorem w1_168 : Cond.code (⟨"java/lang/RuntimeException", "<init>", "(Ljava/lang/String;)V"⟩ : MethodName) prog_10_method_2_code 2 none ∈ bw := bw_1 168 rfl rfl
theorem w1_169 : Cond.methodLink "java/lang/RuntimeException" 7 (⟨"java/lang/Exception", "<init>", "(Ljava/lang/String;)V"⟩ : MethodName) ∈ bw := bw_1 169 rfl rfl
theorem w1_170 : Cond.instanceMethod (⟨"java/lang/Exception", "<init>", "(Ljava/lang/String;)V"⟩ : MethodName) ∈ bw := bw_1 170 rfl rfl
theorem w1_171 : Cond.code (⟨"java/lang/Exception", "<init>", "(Ljava/lang/String;)V"⟩ : MethodName) prog_4_method_2_code 2 none ∈ bw := bw_1 171 rfl rfl
theorem w1_172 : Cond.methodLink "java/lang/Exception" 7 (⟨"java/lang/Throwable", "<init>", "(Ljava/lang/String;)V"⟩ : MethodName) ∈ bw := bw_1 172 rfl rfl
theorem w1_173 : Cond.instanceMethod (⟨"java/lang/Throwable", "<init>", "(Ljava/lang/String;)V"⟩ : MethodName) ∈ bw := bw_1 173 rfl rfl
theorem w1_174 : Cond.code (⟨"java/lang/Throwable", "<init>", "(Ljava/lang/String;)V"⟩ : MethodName) prog_12_method_2_code 2 none ∈ bw := bw_1 174 rfl rfl
theorem w1_176 : Cond.fieldLink "java/lang/Throwable" 31 "java/lang/Throwable" "detailMessage" "Ljava/lang/String;" ∈ bw := bw_1 176 rfl rfl
theorem w1_177 : Cond.fieldLink "java/lang/Throwable" 7 "java/lang/Throwable" "cause" "Ljava/lang/Throwable;" ∈ bw := bw_1 177 rfl rfl
theorem w1_178 : Cond.fieldLink "java/lang/Throwable" 17 "java/lang/Throwable" "stackTrace" "[Ljava/lang/StackTraceElement;" ∈ bw := bw_1 178 rfl rfl
theorem w1_179 : Cond.fieldLink "java/lang/Throwable" 24 "java/lang/Throwable" "suppressedExceptions" "Ljava/util/List;" ∈ bw := bw_1 179 rfl rfl
theorem w1_184 : Cond.lays "java/lang/IllegalStateException" "java/lang/Throwable" "depth" "I" ∈ bw := bw_1 184 rfl rfl
theorem w1_188 : Cond.arrayClass FieldType.byte ∈ bw := bw_1 188 rfl rfl
theorem w1_189 : Cond.methodLink "PairedEndsLaw" 67 yL_shrink ∈ bw := bw_1 189 rfl rfl
theorem w1_190 : Cond.static yL_shrink ∈ bw := bw_1 190 rfl rfl
theorem w1_191 : Cond.codeWith yL_shrink method_4_code 2 (some FieldType.int) [(0, 4, 7, 13)] ∈ bw := bw_1 191 rfl rfl
theorem w1_192 : Cond.methodLink "PairedEndsLaw" 15 yX_shrink ∈ bw := bw_1 192 rfl rfl
theorem w1_193 : Cond.instanceMethod yX_shrink ∈ bw := bw_1 193 rfl rfl
theorem w1_194 : Cond.selects "PairedEnds" yX_shrink yX_shrink ∈ bw := bw_1 194 rfl rfl
theorem w1_195 : Cond.code yX_shrink prog_1_method_3_code 2 none ∈ bw := bw_1 195 rfl rfl
theorem w1_197 : Cond.methodLink "PairedEndsLaw" 71 yL_join ∈ bw := bw_1 197 rfl rfl
theorem w1_198 : Cond.static yL_join ∈ bw := bw_1 198 rfl rfl
theorem w1_199 : Cond.codeWith yL_join method_5_code 5 (some FieldType.int) [(0, 17, 20, 22), (0, 17, 24, 24)] ∈ bw := bw_1 199 rfl rfl
theorem w1_200 : Cond.classLink "PairedEndsLaw" 22 "java/lang/IndexOutOfBoundsException" ∈ bw := bw_1 200 rfl rfl
theorem w1_201 : Cond.classLink "PairedEndsLaw" 24 "java/lang/IllegalArgumentException" ∈ bw := bw_1 201 rfl rfl
theorem w1_202 : Cond.methodLink "PairedEndsLaw" 18 yX_join ∈ bw := bw_1 202 rfl rfl
theorem w1_203 : Cond.instanceMethod yX_join ∈ bw := bw_1 203 rfl rfl
theorem w1_204 : Cond.selects "PairedEnds" yX_join yX_join ∈ bw := bw_1 204 rfl rfl
theorem w1_205 : Cond.code yX_join prog_1_method_4_code 4 (some FieldType.boolean) ∈ bw := bw_1 205 rfl rfl
theorem w1_206 : Cond.methodLink "PairedEnds" 42 yX_checkTwo ∈ bw := bw_1 206 rfl rfl
theorem w1_208 : Cond.instanceMethod yX_checkTwo ∈ bw := bw_1 208 rfl rfl
theorem w1_209 : Cond.code yX_checkTwo prog_1_method_19_code 3 none ∈ bw := bw_1 209 rfl rfl
theorem w1_210 : Cond.methodLink "PairedEnds" 50 yX_checkVertex ∈ bw := bw_1 210 rfl rfl
theorem w1_212 : Cond.instanceMethod yX_checkVertex ∈ bw := bw_1 212 rfl rfl
theorem w1_213 : Cond.code yX_checkVertex prog_1_method_20_code 2 none ∈ bw := bw_1 213 rfl rfl
theorem w1_214 : Cond.classLink "PairedEnds" 95 "java/lang/IndexOutOfBoundsException" ∈ bw := bw_1 214 rfl rfl
theorem w1_215 : Cond.instantiable "java/lang/IndexOutOfBoundsException" 6 ∈ bw := bw_1 215 rfl rfl
theorem w1_217 : Cond.selects "java/lang/IndexOutOfBoundsException" (⟨"java/lang/Throwable", "fillInStackTrace", "(I)Ljava/lang/Throwable;"⟩ : MethodName) (⟨"java/lang/Throwable", "fillInStackTrace", "(I)Ljava/lang/Throwable;"⟩ : MethodName) ∈ bw := bw_1 217 rfl rfl
theorem w1_218 : Cond.lays "java/lang/IndexOutOfBoundsException" "java/lang/Throwable" "cause" "Ljava/lang/Throwable;" ∈ bw := bw_1 218 rfl rfl
theorem w1_219 : Cond.lays "java/lang/IndexOutOfBoundsException" "java/lang/Throwable" "stackTrace" "[Ljava/lang/StackTraceElement;" ∈ bw := bw_1 219 rfl rfl
theorem w1_220 : Cond.lays "java/lang/IndexOutOfBoundsException" "java/lang/Throwable" "suppressedExceptions" "Ljava/util/List;" ∈ bw := bw_1 220 rfl rfl
theorem w1_221 : Cond.lays "java/lang/IndexOutOfBoundsException" "java/lang/Throwable" "detailMessage" "Ljava/lang/String;" ∈ bw := bw_1 221 rfl rfl
theorem w1_222 : Cond.lays "java/lang/IndexOutOfBoundsException" "java/lang/Throwable" "backtrace" "Ljava/lang/Object;" ∈ bw := bw_1 222 rfl rfl
theorem w1_224 : Cond.methodLink "PairedEnds" 99 (⟨"java/lang/IndexOutOfBoundsException", "<init>", "(Ljava/lang/String;)V"⟩ : MethodName) ∈ bw := bw_1 224 rfl rfl
theorem w1_225 : Cond.instanceMethod (⟨"java/lang/IndexOutOfBoundsException", "<init>", "(Ljava/lang/String;)V"⟩ : MethodName) ∈ bw := bw_1 225 rfl rfl
theorem w1_226 : Cond.code (⟨"java/lang/IndexOutOfBoundsException", "<init>", "(Ljava/lang/String;)V"⟩ : MethodName) prog_7_method_2_code 2 none ∈ bw := bw_1 226 rfl rfl
theorem w1_227 : Cond.methodLink "java/lang/IndexOutOfBoundsException" 7 (⟨"java/lang/RuntimeException", "<init>", "(Ljava/lang/String;)V"⟩ : MethodName) ∈ bw := bw_1 227 rfl rfl
theorem w1_228 : Cond.lays "java/lang/IndexOutOfBoundsException" "java/lang/Throwable" "depth" "I" ∈ bw := bw_1 228 rfl rfl
theorem w1_230 : Cond.classLink "PairedEnds" 90 "java/lang/IllegalArgumentException" ∈ bw := bw_1 230 rfl rfl
theorem w1_231 : Cond.instantiable "java/lang/IllegalArgumentException" 6 ∈ bw := bw_1 231 rfl rfl
theorem w1_233 : Cond.selects "java/lang/IllegalArgumentException" (⟨"java/lang/Throwable", "fillInStackTrace", "(I)Ljava/lang/Throwable;"⟩ : MethodName) (⟨"java/lang/Throwable", "fillInStackTrace", "(I)Ljava/lang/Throwable;"⟩ : MethodName) ∈ bw := bw_1 233 rfl rfl
theorem w1_234 : Cond.lays "java/lang/IllegalArgumentException" "java/lang/Throwable" "cause" "Ljava/lang/Throwable;" ∈ bw := bw_1 234 rfl rfl
theorem w1_235 : Cond.lays "java/lang/IllegalArgumentException" "java/lang/Throwable" "stackTrace" "[Ljava/lang/StackTraceElement;" ∈ bw := bw_1 235 rfl rfl
theorem w1_236 : Cond.lays "java/lang/IllegalArgumentException" "java/lang/Throwable" "suppressedExceptions" "Ljava/util/List;" ∈ bw := bw_1 236 rfl rfl
theorem w1_237 : Cond.lays "java/lang/IllegalArgumentException" "java/lang/Throwable" "detailMessage" "Ljava/lang/String;" ∈ bw := bw_1 237 rfl rfl
theorem w1_238 : Cond.lays "java/lang/IllegalArgumentException" "java/lang/Throwable" "backtrace" "Ljava/lang/Object;" ∈ bw := bw_1 238 rfl rfl
theorem w2_0 : Cond.methodLink "PairedEnds" 94 (⟨"java/lang/IllegalArgumentException", "<init>", "(Ljava/lang/String;)V"⟩ : MethodName) ∈ bw := bw_2 0 rfl rfl
theorem w2_1 : Cond.instanceMethod (⟨"java/lang/IllegalArgumentException", "<init>", "(Ljava/lang/String;)V"⟩ : MethodName) ∈ bw := bw_2 1 rfl rfl
theorem w2_2 : Cond.code (⟨"java/lang/IllegalArgumentException", "<init>", "(Ljava/lang/String;)V"⟩ : MethodName) prog_5_method_2_code 2 none ∈ bw := bw_2 2 rfl rfl
theorem w2_3 : Cond.methodLink "java/lang/IllegalArgumentException" 7 (⟨"java/lang/RuntimeException", "<init>", "(Ljava/lang/String;)V"⟩ : MethodName) ∈ bw := bw_2 3 rfl rfl
theorem w2_4 : Cond.lays "java/lang/IllegalArgumentException" "java/lang/Throwable" "depth" "I" ∈ bw := bw_2 4 rfl rfl
theorem w2_6 : Cond.methodLink "PairedEndsLaw" 75 yL_part ∈ bw := bw_2 6 rfl rfl
theorem w2_7 : Cond.static yL_part ∈ bw := bw_2 7 rfl rfl
theorem w2_8 : Cond.codeWith yL_part method_6_code 5 (some FieldType.int) [(0, 17, 20, 22), (0, 17, 24, 24)] ∈ bw := bw_2 8 rfl rfl
theorem w2_9 : Cond.methodLink "PairedEndsLaw" 26 yX_part ∈ bw := bw_2 9 rfl rfl
theorem w2_10 : Cond.instanceMethod yX_part ∈ bw := bw_2 10 rfl rfl
theorem w2_11 : Cond.selects "PairedEnds" yX_part yX_part ∈ bw := bw_2 11 rfl rfl
theorem w2_12 : Cond.code yX_part prog_1_method_5_code 4 (some FieldType.boolean) ∈ bw := bw_2 12 rfl rfl
theorem w2_13 : Cond.methodLink "PairedEndsLaw" 78 yL_adjacent ∈ bw := bw_2 13 rfl rfl
theorem w2_14 : Cond.static yL_adjacent ∈ bw := bw_2 14 rfl rfl
theorem w2_15 : Cond.codeWith yL_adjacent method_7_code 5 (some FieldType.int) [(0, 17, 20, 22)] ∈ bw := bw_2 15 rfl rfl
theorem w2_16 : Cond.methodLink "PairedEndsLaw" 29 yX_adjacent ∈ bw := bw_2 16 rfl rfl
theorem w2_17 : Cond.instanceMethod yX_adjacent ∈ bw := bw_2 17 rfl rfl
theorem w2_18 : Cond.selects "PairedEnds" yX_adjacent yX_adjacent ∈ bw := bw_2 18 rfl rfl
theorem w2_19 : Cond.code yX_adjacent prog_1_method_6_code 3 (some FieldType.boolean) ∈ bw := bw_2 19 rfl rfl
theorem w2_20 : Cond.methodLink "PairedEndsLaw" 89 yL_leader ∈ bw := bw_2 20 rfl rfl
theorem w2_21 : Cond.static yL_leader ∈ bw := bw_2 21 rfl rfl
theorem w2_22 : Cond.codeWith yL_leader method_8_code 4 (some FieldType.int) [(0, 9, 12, 22)] ∈ bw := bw_2 22 rfl rfl
theorem w2_23 : Cond.methodLink "PairedEndsLaw" 32 yX_leader ∈ bw := bw_2 23 rfl rfl
theorem w2_24 : Cond.instanceMethod yX_leader ∈ bw := bw_2 24 rfl rfl
theorem w2_25 : Cond.selects "PairedEnds" yX_leader yX_leader ∈ bw := bw_2 25 rfl rfl
theorem w2_26 : Cond.code yX_leader prog_1_method_9_code 4 (some FieldType.int) ∈ bw := bw_2 26 rfl rfl
theorem w2_27 : Cond.methodLink "PairedEnds" 62 yI_numberOfTrailingZeros ∈ bw := bw_2 27 rfl rfl
theorem w2_28 : Cond.static yI_numberOfTrailingZeros ∈ bw := bw_2 28 rfl rfl
theorem w2_29 : Cond.code yI_numberOfTrailingZeros prog_8_method_48_code 2 (some FieldType.int) ∈ bw := bw_2 29 rfl rfl
theorem w2_30 : Cond.constant "java/lang/Integer" 264 65536 ∈ bw := bw_2 30 rfl rfl
theorem w2_31 : Cond.methodLink "PairedEndsLaw" 98 yL_ends ∈ bw := bw_2 31 rfl rfl
theorem w2_32 : Cond.static yL_ends ∈ bw := bw_2 32 rfl rfl
theorem w2_33 : Cond.codeWith yL_ends method_9_code 3 (some FieldType.int) [(0, 8, 11, 13)] ∈ bw := bw_2 33 rfl rfl
theorem w2_34 : Cond.methodLink "PairedEndsLaw" 36 yX_ends ∈ bw := bw_2 34 rfl rfl
theorem w2_35 : Cond.instanceMethod yX_ends ∈ bw := bw_2 35 rfl rfl
theorem w2_36 : Cond.selects "PairedEnds" yX_ends yX_ends ∈ bw := bw_2 36 rfl rfl
theorem w2_37 : Cond.code yX_ends prog_1_method_11_code 1 (some FieldType.int) ∈ bw := bw_2 37 rfl rfl
theorem w2_38 : Cond.methodLink "PairedEnds" 73 yX_nameAll ∈ bw := bw_2 38 rfl rfl
theorem w2_40 : Cond.instanceMethod yX_nameAll ∈ bw := bw_2 40 rfl rfl
theorem w2_41 : Cond.code yX_nameAll prog_1_method_27_code 1 none ∈ bw := bw_2 41 rfl rfl
theorem w2_43 : Cond.methodLink "PairedEndsLaw" 101 yL_low ∈ bw := bw_2 43 rfl rfl
theorem w2_44 : Cond.static yL_low ∈ bw := bw_2 44 rfl rfl
theorem w2_45 : Cond.codeWith yL_low method_10_code 4 (some FieldType.int) [(0, 9, 12, 22), (0, 9, 15, 13)] ∈ bw := bw_2 45 rfl rfl
theorem w2_46 : Cond.methodLink "PairedEndsLaw" 39 yX_low ∈ bw := bw_2 46 rfl rfl
theorem w2_47 : Cond.instanceMethod yX_low ∈ bw := bw_2 47 rfl rfl
theorem w2_48 : Cond.selects "PairedEnds" yX_low yX_low ∈ bw := bw_2 48 rfl rfl
theorem w2_49 : Cond.code yX_low prog_1_method_12_code 2 (some FieldType.int) ∈ bw := bw_2 49 rfl rfl
theorem w2_50 : Cond.methodLink "PairedEndsLaw" 104 yL_high ∈ bw := bw_2 50 rfl rfl
theorem w2_51 : Cond.static yL_high ∈ bw := bw_2 51 rfl rfl
theorem w2_52 : Cond.codeWith yL_high method_11_code 4 (some FieldType.int) [(0, 9, 12, 22), (0, 9, 15, 13)] ∈ bw := bw_2 52 rfl rfl
theorem w2_53 : Cond.methodLink "PairedEndsLaw" 42 yX_high ∈ bw := bw_2 53 rfl rfl
theorem w2_54 : Cond.instanceMethod yX_high ∈ bw := bw_2 54 rfl rfl
theorem w2_55 : Cond.selects "PairedEnds" yX_high yX_high ∈ bw := bw_2 55 rfl rfl
theorem w2_56 : Cond.code yX_high prog_1_method_13_code 2 (some FieldType.int) ∈ bw := bw_2 56 rfl rfl
theorem w2_57 : Cond.methodLink "PairedEndsLaw" 107 yL_spoiler ∈ bw := bw_2 57 rfl rfl
theorem w2_58 : Cond.static yL_spoiler ∈ bw := bw_2 58 rfl rfl
theorem w2_59 : Cond.codeWith yL_spoiler method_12_code 3 (some FieldType.int) [(0, 8, 11, 13)] ∈ bw := bw_2 59 rfl rfl
theorem w2_60 : Cond.methodLink "PairedEndsLaw" 45 yX_spoiler ∈ bw := bw_2 60 rfl rfl
theorem w2_61 : Cond.instanceMethod yX_spoiler ∈ bw := bw_2 61 rfl rfl
theorem w2_62 : Cond.selects "PairedEnds" yX_spoiler yX_spoiler ∈ bw := bw_2 62 rfl rfl
theorem w2_63 : Cond.code yX_spoiler prog_1_method_14_code 4 (some FieldType.int) ∈ bw := bw_2 63 rfl rfl
theorem w2_65 : Cond.methodLink "PairedEndsLaw" 118 yL_loose ∈ bw := bw_2 65 rfl rfl
theorem w2_66 : Cond.static yL_loose ∈ bw := bw_2 66 rfl rfl
theorem w2_67 : Cond.codeWith yL_loose method_13_code 3 (some FieldType.int) [(0, 8, 11, 13)] ∈ bw := bw_2 67 rfl rfl
theorem w2_68 : Cond.methodLink "PairedEndsLaw" 48 yX_loose ∈ bw := bw_2 68 rfl rfl
theorem w2_69 : Cond.instanceMethod yX_loose ∈ bw := bw_2 69 rfl rfl
theorem w2_70 : Cond.selects "PairedEnds" yX_loose yX_loose ∈ bw := bw_2 70 rfl rfl
theorem w2_71 : Cond.code yX_loose prog_1_method_17_code 1 (some FieldType.int) ∈ bw := bw_2 71 rfl rfl
theorem w2_72 : Cond.methodLink "PairedEnds" 84 yX_looseEnds ∈ bw := bw_2 72 rfl rfl
theorem w2_74 : Cond.instanceMethod yX_looseEnds ∈ bw := bw_2 74 rfl rfl
theorem w2_75 : Cond.code yX_looseEnds prog_1_method_35_code 5 (some FieldType.int) ∈ bw := bw_2 75 rfl rfl
theorem w2_76 : Cond.methodLink "PairedEnds" 125 yX_apart ∈ bw := bw_2 76 rfl rfl
theorem w2_77 : Cond.methodLink "PairedEnds" 128 yX_endsOf ∈ bw := bw_2 77 rfl rfl
theorem w2_79 : Cond.instanceMethod yX_endsOf ∈ bw := bw_2 79 rfl rfl
theorem w2_80 : Cond.code yX_endsOf prog_1_method_34_code 4 (some FieldType.int) ∈ bw := bw_2 80 rfl rfl
theorem w2_81 : Cond.methodLink "PairedEnds" 87 yX_pairOf ∈ bw := bw_2 81 rfl rfl
theorem w2_83 : Cond.instanceMethod yX_pairOf ∈ bw := bw_2 83 rfl rfl
theorem w2_84 : Cond.code yX_pairOf prog_1_method_33_code 2 (some FieldType.int) ∈ bw := bw_2 84 rfl rfl
theorem w2_85 : Cond.methodLink "PairedEndsLaw" 121 yL_barrier ∈ bw := bw_2 85 rfl rfl
theorem w2_86 : Cond.static yL_barrier ∈ bw := bw_2 86 rfl rfl
theorem w2_87 : Cond.codeWith yL_barrier method_14_code 3 (some FieldType.int) [(0, 8, 11, 13)] ∈ bw := bw_2 87 rfl rfl
theorem w2_88 : Cond.methodLink "PairedEndsLaw" 51 yX_barrier ∈ bw := bw_2 88 rfl rfl
theorem w2_89 : Cond.instanceMethod yX_barrier ∈ bw := bw_2 89 rfl rfl
theorem w2_90 : Cond.selects "PairedEnds" yX_barrier yX_barrier ∈ bw := bw_2 90 rfl rfl
theorem w2_91 : Cond.code yX_barrier prog_1_method_18_code 5 (some FieldType.int) ∈ bw := bw_2 91 rfl rfl
theorem w2_92 : Cond.classLink "PairedEndsLaw" 55 "PairedEndsModel" ∈ bw := bw_2 92 rfl rfl
theorem w2_93 : Cond.instantiable "PairedEndsModel" 7 ∈ bw := bw_2 93 rfl rfl
theorem w2_94 : Cond.methodLink "PairedEndsLaw" 57 yM_init ∈ bw := bw_2 94 rfl rfl
theorem w2_95 : Cond.instanceMethod yM_init ∈ bw := bw_2 95 rfl rfl
theorem w2_96 : Cond.code yM_init prog_3_method_1_code 1 none ∈ bw := bw_2 96 rfl rfl
theorem w2_97 : Cond.methodLink "PairedEndsModel" 1 (⟨"java/lang/Object", "<init>", "()V"⟩ : MethodName) ∈ bw := bw_2 97 rfl rfl
theorem w2_98 : Cond.fieldLink "PairedEndsModel" 29 "PairedEndsModel" "n" "I" ∈ bw := bw_2 98 rfl rfl
theorem w2_99 : Cond.fieldLink "PairedEndsModel" 7 "PairedEndsModel" "edge" "[I" ∈ bw := bw_2 99 rfl rfl
theorem w2_100 : Cond.fieldLink "PairedEndsModel" 25 "PairedEndsModel" "fault" "I" ∈ bw := bw_2 100 rfl rfl
theorem w2_101 : Cond.fieldLink "PairedEndsModel" 13 "PairedEndsModel" "low" "[I" ∈ bw := bw_2 101 rfl rfl
theorem w2_102 : Cond.fieldLink "PairedEndsModel" 16 "PairedEndsModel" "high" "[I" ∈ bw := bw_2 102 rfl rfl
theorem w2_103 : Cond.fieldLink "PairedEndsModel" 19 "PairedEndsModel" "order" "[I" ∈ bw := bw_2 103 rfl rfl
theorem w2_104 : Cond.fieldLink "PairedEndsModel" 22 "PairedEndsModel" "used" "[I" ∈ bw := bw_2 104 rfl rfl
theorem w2_105 : Cond.lays "PairedEndsModel" "PairedEndsModel" "n" "I" ∈ bw := bw_2 105 rfl rfl
theorem w2_107 : Cond.lays "PairedEndsModel" "PairedEndsModel" "edge" "[I" ∈ bw := bw_2 107 rfl rfl
theorem w2_109 : Cond.lays "PairedEndsModel" "PairedEndsModel" "fault" "I" ∈ bw := bw_2 109 rfl rfl
theorem w2_111 : Cond.lays "PairedEndsModel" "PairedEndsModel" "low" "[I" ∈ bw := bw_2 111 rfl rfl
theorem w2_113 : Cond.lays "PairedEndsModel" "PairedEndsModel" "high" "[I" ∈ bw := bw_2 113 rfl rfl
theorem w2_115 : Cond.lays "PairedEndsModel" "PairedEndsModel" "order" "[I" ∈ bw := bw_2 115 rfl rfl
theorem w2_117 : Cond.lays "PairedEndsModel" "PairedEndsModel" "used" "[I" ∈ bw := bw_2 117 rfl rfl
theorem w2_120 : Cond.methodLink "PairedEndsLaw" 64 yM_thrown ∈ bw := bw_2 120 rfl rfl
theorem w2_121 : Cond.instanceMethod yM_thrown ∈ bw := bw_2 121 rfl rfl
theorem w2_122 : Cond.selects "PairedEndsModel" yM_thrown yM_thrown ∈ bw := bw_2 122 rfl rfl
theorem w2_123 : Cond.code yM_thrown prog_3_method_2_code 1 (some FieldType.int) ∈ bw := bw_2 123 rfl rfl
theorem w2_124 : Cond.methodLink "PairedEndsLaw" 63 yM_grow ∈ bw := bw_2 124 rfl rfl
theorem w2_125 : Cond.instanceMethod yM_grow ∈ bw := bw_2 125 rfl rfl
theorem w2_126 : Cond.selects "PairedEndsModel" yM_grow yM_grow ∈ bw := bw_2 126 rfl rfl
theorem w2_127 : Cond.code yM_grow prog_3_method_4_code 1 (some FieldType.int) ∈ bw := bw_2 127 rfl rfl
theorem w2_128 : Cond.methodLink "PairedEndsLaw" 70 yM_shrink ∈ bw := bw_2 128 rfl rfl
theorem w2_129 : Cond.instanceMethod yM_shrink ∈ bw := bw_2 129 rfl rfl
theorem w2_130 : Cond.selects "PairedEndsModel" yM_shrink yM_shrink ∈ bw := bw_2 130 rfl rfl
theorem w2_131 : Cond.code yM_shrink prog_3_method_5_code 2 none ∈ bw := bw_2 131 rfl rfl
theorem w2_132 : Cond.methodLink "PairedEndsLaw" 74 yM_join ∈ bw := bw_2 132 rfl rfl
theorem w2_133 : Cond.instanceMethod yM_join ∈ bw := bw_2 133 rfl rfl
theorem w2_134 : Cond.selects "PairedEndsModel" yM_join yM_join ∈ bw := bw_2 134 rfl rfl
theorem w2_135 : Cond.code yM_join prog_3_method_7_code 3 (some FieldType.boolean) ∈ bw := bw_2 135 rfl rfl
theorem w2_136 : Cond.methodLink "PairedEndsModel" 36 yM_change ∈ bw := bw_2 136 rfl rfl
theorem w2_138 : Cond.instanceMethod yM_change ∈ bw := bw_2 138 rfl rfl
theorem w2_139 : Cond.code yM_change prog_3_method_6_code 4 (some FieldType.boolean) ∈ bw := bw_2 139 rfl rfl
theorem w2_140 : Cond.methodLink "PairedEndsModel" 32 yM_is ∈ bw := bw_2 140 rfl rfl
theorem w2_142 : Cond.instanceMethod yM_is ∈ bw := bw_2 142 rfl rfl
theorem w2_143 : Cond.code yM_is prog_3_method_3_code 2 (some FieldType.boolean) ∈ bw := bw_2 143 rfl rfl
theorem w2_144 : Cond.methodLink "PairedEndsLaw" 77 yM_part ∈ bw := bw_2 144 rfl rfl
theorem w2_145 : Cond.instanceMethod yM_part ∈ bw := bw_2 145 rfl rfl
theorem w2_146 : Cond.selects "PairedEndsModel" yM_part yM_part ∈ bw := bw_2 146 rfl rfl
theorem w2_147 : Cond.code yM_part prog_3_method_8_code 3 (some FieldType.boolean) ∈ bw := bw_2 147 rfl rfl
theorem w2_148 : Cond.methodLink "PairedEndsLaw" 80 yM_adjacent ∈ bw := bw_2 148 rfl rfl
theorem w2_149 : Cond.instanceMethod yM_adjacent ∈ bw := bw_2 149 rfl rfl
theorem w2_150 : Cond.selects "PairedEndsModel" yM_adjacent yM_adjacent ∈ bw := bw_2 150 rfl rfl
theorem w2_151 : Cond.code yM_adjacent prog_3_method_9_code 3 (some FieldType.boolean) ∈ bw := bw_2 151 rfl rfl
theorem w2_152 : Cond.methodLink "PairedEndsLaw" 84 yM_vertices ∈ bw := bw_2 152 rfl rfl
theorem w2_153 : Cond.instanceMethod yM_vertices ∈ bw := bw_2 153 rfl rfl
theorem w2_154 : Cond.selects "PairedEndsModel" yM_vertices yM_vertices ∈ bw := bw_2 154 rfl rfl
theorem w2_155 : Cond.code yM_vertices prog_3_method_10_code 1 (some FieldType.int) ∈ bw := bw_2 155 rfl rfl
theorem w2_156 : Cond.methodLink "PairedEndsLaw" 88 yM_edges ∈ bw := bw_2 156 rfl rfl
theorem w2_157 : Cond.instanceMethod yM_edges ∈ bw := bw_2 157 rfl rfl
theorem w2_158 : Cond.selects "PairedEndsModel" yM_edges yM_edges ∈ bw := bw_2 158 rfl rfl
theorem w2_159 : Cond.code yM_edges prog_3_method_11_code 3 (some FieldType.int) ∈ bw := bw_2 159 rfl rfl
theorem w2_160 : Cond.methodLink "PairedEndsLaw" 92 yM_leader ∈ bw := bw_2 160 rfl rfl
theorem w2_161 : Cond.instanceMethod yM_leader ∈ bw := bw_2 161 rfl rfl
theorem w2_162 : Cond.selects "PairedEndsModel" yM_leader yM_leader ∈ bw := bw_2 162 rfl rfl
theorem w2_163 : Cond.code yM_leader prog_3_method_12_code 5 (some FieldType.int) ∈ bw := bw_2 163 rfl rfl
theorem w2_164 : Cond.methodLink "PairedEndsLaw" 97 yM_isLine ∈ bw := bw_2 164 rfl rfl
theorem w2_165 : Cond.instanceMethod yM_isLine ∈ bw := bw_2 165 rfl rfl
theorem w2_166 : Cond.selects "PairedEndsModel" yM_isLine yM_isLine ∈ bw := bw_2 166 rfl rfl
theorem w2_167 : Cond.code yM_isLine prog_3_method_19_code 1 (some FieldType.boolean) ∈ bw := bw_2 167 rfl rfl
theorem w2_168 : Cond.methodLink "PairedEndsModel" 50 yM_all ∈ bw := bw_2 168 rfl rfl
theorem w2_170 : Cond.instanceMethod yM_all ∈ bw := bw_2 170 rfl rfl
theorem w2_171 : Cond.code yM_all prog_3_method_17_code 1 (some FieldType.int) ∈ bw := bw_2 171 rfl rfl
theorem w2_172 : Cond.methodLink "PairedEndsModel" 54 yM_name ∈ bw := bw_2 172 rfl rfl
theorem w2_174 : Cond.instanceMethod yM_name ∈ bw := bw_2 174 rfl rfl
theorem w2_175 : Cond.code yM_name prog_3_method_16_code 5 (some FieldType.int) ∈ bw := bw_2 175 rfl rfl
theorem w2_176 : Cond.methodLink "PairedEndsModel" 40 yM_begin ∈ bw := bw_2 176 rfl rfl
theorem w2_178 : Cond.instanceMethod yM_begin ∈ bw := bw_2 178 rfl rfl
theorem w2_179 : Cond.code yM_begin prog_3_method_15_code 2 none ∈ bw := bw_2 179 rfl rfl
theorem w2_180 : Cond.methodLink "PairedEndsModel" 44 yM_advance ∈ bw := bw_2 180 rfl rfl
theorem w2_182 : Cond.instanceMethod yM_advance ∈ bw := bw_2 182 rfl rfl
theorem w2_183 : Cond.code yM_advance prog_3_method_14_code 4 (some FieldType.boolean) ∈ bw := bw_2 183 rfl rfl
theorem w2_184 : Cond.methodLink "PairedEndsModel" 47 yM_suits ∈ bw := bw_2 184 rfl rfl
theorem w2_186 : Cond.instanceMethod yM_suits ∈ bw := bw_2 186 rfl rfl
theorem w2_187 : Cond.code yM_suits prog_3_method_13_code 5 (some FieldType.boolean) ∈ bw := bw_2 187 rfl rfl
theorem w2_188 : Cond.methodLink "PairedEndsLaw" 100 yM_ends ∈ bw := bw_2 188 rfl rfl
theorem w2_189 : Cond.instanceMethod yM_ends ∈ bw := bw_2 189 rfl rfl
theorem w2_190 : Cond.selects "PairedEndsModel" yM_ends yM_ends ∈ bw := bw_2 190 rfl rfl
theorem w2_191 : Cond.code yM_ends prog_3_method_20_code 1 (some FieldType.int) ∈ bw := bw_2 191 rfl rfl
theorem w2_192 : Cond.methodLink "PairedEndsModel" 58 yM_line ∈ bw := bw_2 192 rfl rfl
theorem w2_194 : Cond.instanceMethod yM_line ∈ bw := bw_2 194 rfl rfl
theorem w2_195 : Cond.code yM_line prog_3_method_18_code 3 (some FieldType.boolean) ∈ bw := bw_2 195 rfl rfl
theorem w2_196 : Cond.methodLink "PairedEndsLaw" 103 yM_low ∈ bw := bw_2 196 rfl rfl
theorem w2_197 : Cond.instanceMethod yM_low ∈ bw := bw_2 197 rfl rfl
theorem w2_198 : Cond.selects "PairedEndsModel" yM_low yM_low ∈ bw := bw_2 198 rfl rfl
theorem w2_199 : Cond.code yM_low prog_3_method_22_code 2 (some FieldType.int) ∈ bw := bw_2 199 rfl rfl
theorem w2_200 : Cond.methodLink "PairedEndsModel" 61 yM_named ∈ bw := bw_2 200 rfl rfl
theorem w2_202 : Cond.instanceMethod yM_named ∈ bw := bw_2 202 rfl rfl
theorem w2_203 : Cond.code yM_named prog_3_method_21_code 2 (some FieldType.boolean) ∈ bw := bw_2 203 rfl rfl
theorem w2_204 : Cond.methodLink "PairedEndsLaw" 106 yM_high ∈ bw := bw_2 204 rfl rfl
theorem w2_205 : Cond.instanceMethod yM_high ∈ bw := bw_2 205 rfl rfl
theorem w2_206 : Cond.selects "PairedEndsModel" yM_high yM_high ∈ bw := bw_2 206 rfl rfl
theorem w2_207 : Cond.code yM_high prog_3_method_23_code 2 (some FieldType.int) ∈ bw := bw_2 207 rfl rfl
theorem w2_208 : Cond.methodLink "PairedEndsLaw" 109 yM_spoiler ∈ bw := bw_2 208 rfl rfl
theorem w2_209 : Cond.instanceMethod yM_spoiler ∈ bw := bw_2 209 rfl rfl
theorem w2_210 : Cond.selects "PairedEndsModel" yM_spoiler yM_spoiler ∈ bw := bw_2 210 rfl rfl
theorem w2_211 : Cond.code yM_spoiler prog_3_method_24_code 4 (some FieldType.int) ∈ bw := bw_2 211 rfl rfl
theorem w2_212 : Cond.methodLink "PairedEndsLaw" 113 yM_apart ∈ bw := bw_2 212 rfl rfl
theorem w2_213 : Cond.instanceMethod yM_apart ∈ bw := bw_2 213 rfl rfl
theorem w2_214 : Cond.selects "PairedEndsModel" yM_apart yM_apart ∈ bw := bw_2 214 rfl rfl
theorem w2_215 : Cond.code yM_apart prog_3_method_28_code 1 (some FieldType.int) ∈ bw := bw_2 215 rfl rfl
theorem w2_216 : Cond.methodLink "PairedEndsModel" 71 yM_greatest ∈ bw := bw_2 216 rfl rfl
theorem w2_218 : Cond.instanceMethod yM_greatest ∈ bw := bw_2 218 rfl rfl
theorem w2_219 : Cond.code yM_greatest prog_3_method_27_code 4 (some FieldType.int) ∈ bw := bw_2 219 rfl rfl
theorem w2_220 : Cond.methodLink "PairedEndsModel" 64 yM_alike ∈ bw := bw_2 220 rfl rfl
theorem w2_222 : Cond.instanceMethod yM_alike ∈ bw := bw_2 222 rfl rfl
theorem w2_223 : Cond.code yM_alike prog_3_method_26_code 6 (some FieldType.boolean) ∈ bw := bw_2 223 rfl rfl
theorem w2_224 : Cond.methodLink "PairedEndsModel" 68 yM_count ∈ bw := bw_2 224 rfl rfl
theorem w2_225 : Cond.static yM_count ∈ bw := bw_2 225 rfl rfl
theorem w2_226 : Cond.code yM_count prog_3_method_25_code 3 (some FieldType.int) ∈ bw := bw_2 226 rfl rfl
theorem w2_227 : Cond.methodLink "PairedEndsLaw" 117 yM_close ∈ bw := bw_2 227 rfl rfl
theorem w2_228 : Cond.instanceMethod yM_close ∈ bw := bw_2 228 rfl rfl
theorem w2_229 : Cond.selects "PairedEndsModel" yM_close yM_close ∈ bw := bw_2 229 rfl rfl
theorem w2_230 : Cond.code yM_close prog_3_method_29_code 1 (some FieldType.int) ∈ bw := bw_2 230 rfl rfl
theorem w2_231 : Cond.methodLink "PairedEndsLaw" 120 yM_loose ∈ bw := bw_2 231 rfl rfl
theorem w2_232 : Cond.instanceMethod yM_loose ∈ bw := bw_2 232 rfl rfl
theorem w2_233 : Cond.selects "PairedEndsModel" yM_loose yM_loose ∈ bw := bw_2 233 rfl rfl
theorem w2_234 : Cond.code yM_loose prog_3_method_31_code 1 (some FieldType.int) ∈ bw := bw_2 234 rfl rfl
theorem w2_235 : Cond.methodLink "PairedEndsModel" 74 yM_left ∈ bw := bw_2 235 rfl rfl
theorem w2_237 : Cond.instanceMethod yM_left ∈ bw := bw_2 237 rfl rfl
theorem w2_238 : Cond.code yM_left prog_3_method_30_code 7 (some FieldType.int) ∈ bw := bw_2 238 rfl rfl
theorem w2_239 : Cond.methodLink "PairedEndsLaw" 123 yM_barrier ∈ bw := bw_2 239 rfl rfl
theorem w3_0 : Cond.instanceMethod yM_barrier ∈ bw := bw_3 0 rfl rfl
theorem w3_1 : Cond.selects "PairedEndsModel" yM_barrier yM_barrier ∈ bw := bw_3 1 rfl rfl
theorem w3_2 : Cond.code yM_barrier prog_3_method_32_code 6 (some FieldType.int) ∈ bw := bw_3 2 rfl rfl
theorem w3_3 : Cond.arrayClass FieldType.long ∈ bw := bw_3 3 rfl rfl
theorem w0_0 : Cond.selects "PairedEnds" yX_all yX_all ∈ bw := bw_0 0 rfl rfl
theorem w0_1 : Cond.selects "PairedEnds" yX_findNaming yX_findNaming ∈ bw := bw_0 1 rfl rfl
theorem w0_2 : Cond.selects "PairedEnds" yX_nameFrom yX_nameFrom ∈ bw := bw_0 2 rfl rfl
theorem w0_3 : Cond.selects "PairedEnds" yX_fits yX_fits ∈ bw := bw_0 3 rfl rfl
theorem w0_4 : Cond.selects "PairedEnds" yX_give yX_give ∈ bw := bw_0 4 rfl rfl
theorem w0_5 : Cond.selects "PairedEnds" yX_takeBack yX_takeBack ∈ bw := bw_0 5 rfl rfl
theorem w0_6 : Cond.selects "PairedEnds" yX_isApart yX_isApart ∈ bw := bw_0 6 rfl rfl
theorem w0_7 : Cond.selects "PairedEnds" yX_neighboursOf yX_neighboursOf ∈ bw := bw_0 7 rfl rfl
theorem w0_8 : Cond.selects "PairedEnds" yX_isClose yX_isClose ∈ bw := bw_0 8 rfl rfl
theorem w0_10 : Cond.selects "PairedEnds" yX_checkTwo yX_checkTwo ∈ bw := bw_0 10 rfl rfl
theorem w0_11 : Cond.selects "PairedEnds" yX_checkVertex yX_checkVertex ∈ bw := bw_0 11 rfl rfl
theorem w0_12 : Cond.selects "PairedEnds" yX_nameAll yX_nameAll ∈ bw := bw_0 12 rfl rfl
theorem w0_13 : Cond.selects "PairedEnds" yX_looseEnds yX_looseEnds ∈ bw := bw_0 13 rfl rfl
theorem w0_14 : Cond.selects "PairedEnds" yX_endsOf yX_endsOf ∈ bw := bw_0 14 rfl rfl
theorem w0_15 : Cond.selects "PairedEnds" yX_pairOf yX_pairOf ∈ bw := bw_0 15 rfl rfl
theorem w0_16 : Cond.selects "PairedEndsModel" yM_change yM_change ∈ bw := bw_0 16 rfl rfl
theorem w0_17 : Cond.selects "PairedEndsModel" yM_is yM_is ∈ bw := bw_0 17 rfl rfl
theorem w0_18 : Cond.selects "PairedEndsModel" yM_all yM_all ∈ bw := bw_0 18 rfl rfl
theorem w0_19 : Cond.selects "PairedEndsModel" yM_name yM_name ∈ bw := bw_0 19 rfl rfl
theorem w0_20 : Cond.selects "PairedEndsModel" yM_begin yM_begin ∈ bw := bw_0 20 rfl rfl
theorem w0_21 : Cond.selects "PairedEndsModel" yM_advance yM_advance ∈ bw := bw_0 21 rfl rfl
theorem w0_22 : Cond.selects "PairedEndsModel" yM_suits yM_suits ∈ bw := bw_0 22 rfl rfl
theorem w0_23 : Cond.selects "PairedEndsModel" yM_line yM_line ∈ bw := bw_0 23 rfl rfl
theorem w0_24 : Cond.selects "PairedEndsModel" yM_named yM_named ∈ bw := bw_0 24 rfl rfl
theorem w0_25 : Cond.selects "PairedEndsModel" yM_greatest yM_greatest ∈ bw := bw_0 25 rfl rfl
theorem w0_26 : Cond.selects "PairedEndsModel" yM_alike yM_alike ∈ bw := bw_0 26 rfl rfl
theorem w0_27 : Cond.selects "PairedEndsModel" yM_left yM_left ∈ bw := bw_0 27 rfl rfl
theorem gV {own C : String} {idx maxL : Nat} {y : MethodName} {bytes : ByteArray} {ret : Option FieldType} (h1 : Cond.methodLink own idx y ∈ bw) (h2 : Cond.instanceMethod y ∈ bw) (h3 : Cond.selects C y y ∈ bw) (h4 : Cond.initialized C ∈ bw) (h5 : Cond.code y bytes maxL ret ∈ bw) : GoodIn bw (wsV own idx C y (Cond.code y bytes maxL ret :: bw)) := by
  intro w hw
  have hm : w ∈ bw := by
    simp only [wsV, List.cons_append, List.nil_append, List.mem_cons] at hw
    rcases hw with rfl | rfl | rfl | rfl | rfl | hw
    · exact h1
    · exact h2
    · exact h3
    · exact h4
    · exact h5
    · exact hw
  exact ⟨hm, good_of_word (List.mem_filter.mp hm).2⟩
theorem gS {own : String} {idx maxL : Nat} {y : MethodName} {bytes : ByteArray} {ret : Option FieldType} (h1 : Cond.methodLink own idx y ∈ bw) (h2 : Cond.static y ∈ bw) (h4 : Cond.initialized own ∈ bw) (h5 : Cond.code y bytes maxL ret ∈ bw) : GoodIn bw (wsS own idx y (Cond.code y bytes maxL ret :: bw)) := by
  intro w hw
  have hm : w ∈ bw := by
    simp only [wsS, List.cons_append, List.nil_append, List.mem_cons] at hw
    rcases hw with rfl | rfl | rfl | rfl | hw
    · exact h1
    · exact h2
    · exact h4
    · exact h5
    · exact hw
  exact ⟨hm, good_of_word (List.mem_filter.mp hm).2⟩
theorem gC {y : MethodName} {bytes : ByteArray} {maxL : Nat} {ret : Option FieldType} (h5 : Cond.code y bytes maxL ret ∈ bw) : GoodIn bw (Cond.code y bytes maxL ret :: bw) := by
  intro w hw
  have hm : w ∈ bw := by
    rcases List.mem_cons.mp hw with rfl | hw
    · exact h5
    · exact hw
  exact ⟨hm, good_of_word (List.mem_filter.mp hm).2⟩
theorem uX : ∀ w ∈ u_ws RX TX 6, w ∈ bw := by
  show ∀ w ∈ [u_lay RX TX 0, u_lay RX TX 1, u_lay RX TX 2, u_lay RX TX 3, u_lay RX TX 4, u_lay RX TX 5], w ∈ bw
  exact List.forall_mem_cons.mpr ⟨w1_25, List.forall_mem_cons.mpr ⟨w1_27, List.forall_mem_cons.mpr ⟨w1_29, List.forall_mem_cons.mpr ⟨w1_31, List.forall_mem_cons.mpr ⟨w1_33, List.forall_mem_cons.mpr ⟨w1_35, fun _ h => absurd h List.not_mem_nil⟩⟩⟩⟩⟩⟩
theorem uM : ∀ w ∈ u_ws RM TM 7, w ∈ bw := by
  show ∀ w ∈ [u_lay RM TM 0, u_lay RM TM 1, u_lay RM TM 2, u_lay RM TM 3, u_lay RM TM 4, u_lay RM TM 5, u_lay RM TM 6], w ∈ bw
  exact List.forall_mem_cons.mpr ⟨w2_105, List.forall_mem_cons.mpr ⟨w2_107, List.forall_mem_cons.mpr ⟨w2_109, List.forall_mem_cons.mpr ⟨w2_111, List.forall_mem_cons.mpr ⟨w2_113, List.forall_mem_cons.mpr ⟨w2_115, List.forall_mem_cons.mpr ⟨w2_117, fun _ h => absurd h List.not_mem_nil⟩⟩⟩⟩⟩⟩⟩
