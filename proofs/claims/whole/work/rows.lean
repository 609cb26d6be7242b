section
/-- a private method of a class that the tables say can be made, by its rows of tables_1 -/
def lw_okq (q : MethodName × Nat) : Prop := (q.1.cls ≠ "java/lang/invoke/MethodHandle" ∧ q.1.cls ≠ "java/lang/invoke/VarHandle") ∧ Cond.instantiable q.1.cls q.2 ∈ tables_1 ∧ Cond.privateMethod q.1 ∈ tables_1 ∧ Cond.instanceMethod q.1 ∈ tables_1
theorem lw_p0 : lw_okq (⟨"java/lang/Throwable", "fillInStackTrace", "(I)Ljava/lang/Throwable;"⟩, 6) := ⟨⟨by decide +kernel, by decide +kernel⟩, List.mem_of_getElem? (i := 97) (by decide +kernel), List.mem_of_getElem? (i := 95) (by decide +kernel), List.mem_of_getElem? (i := 96) (by decide +kernel)⟩
theorem lw_p1 : lw_okq (⟨"NineValues", "requireElement", "(II)V"⟩, 2) := ⟨⟨by decide +kernel, by decide +kernel⟩, List.mem_of_getElem? (i := 14) (by decide +kernel), List.mem_of_getElem? (i := 161) (by decide +kernel), List.mem_of_getElem? (i := 162) (by decide +kernel)⟩
theorem lw_p2 : lw_okq (⟨"NineValues", "joinElements", "(ILNineValues$Word;LNineValues$Word;)V"⟩, 2) := ⟨⟨by decide +kernel, by decide +kernel⟩, List.mem_of_getElem? (i := 14) (by decide +kernel), List.mem_of_getElem? (i := 246) (by decide +kernel), List.mem_of_getElem? (i := 247) (by decide +kernel)⟩
theorem lw_p3 : lw_okq (⟨"NineValues", "setBehind", "(LNineValues$Word;LNineValues$Word;)V"⟩, 2) := ⟨⟨by decide +kernel, by decide +kernel⟩, List.mem_of_getElem? (i := 14) (by decide +kernel), List.mem_of_getElem? (i := 270) (by decide +kernel), List.mem_of_getElem? (i := 271) (by decide +kernel)⟩
theorem lw_p4 : lw_okq (⟨"NineValues", "calculate", "(IZLNineValues$Word;LNineValues$Word;)V"⟩, 2) := ⟨⟨by decide +kernel, by decide +kernel⟩, List.mem_of_getElem? (i := 14) (by decide +kernel), List.mem_of_getElem? (i := 278) (by decide +kernel), List.mem_of_getElem? (i := 279) (by decide +kernel)⟩
theorem lw_p5 : lw_okq (⟨"NineValues", "changeElements", "(ILNineValues$Word;)V"⟩, 2) := ⟨⟨by decide +kernel, by decide +kernel⟩, List.mem_of_getElem? (i := 14) (by decide +kernel), List.mem_of_getElem? (i := 341) (by decide +kernel), List.mem_of_getElem? (i := 342) (by decide +kernel)⟩
theorem lw_p6 : lw_okq (⟨"NineValues", "changeNumber", "(ILNineValues$Word;)V"⟩, 2) := ⟨⟨by decide +kernel, by decide +kernel⟩, List.mem_of_getElem? (i := 14) (by decide +kernel), List.mem_of_getElem? (i := 349) (by decide +kernel), List.mem_of_getElem? (i := 350) (by decide +kernel)⟩
theorem lw_p7 : lw_okq (⟨"NineValues", "turnRound", "(ILNineValues$Word;)V"⟩, 2) := ⟨⟨by decide +kernel, by decide +kernel⟩, List.mem_of_getElem? (i := 14) (by decide +kernel), List.mem_of_getElem? (i := 362) (by decide +kernel), List.mem_of_getElem? (i := 363) (by decide +kernel)⟩
theorem lw_p8 : lw_okq (⟨"NineValues", "move", "(IILNineValues$Word;)V"⟩, 2) := ⟨⟨by decide +kernel, by decide +kernel⟩, List.mem_of_getElem? (i := 14) (by decide +kernel), List.mem_of_getElem? (i := 370) (by decide +kernel), List.mem_of_getElem? (i := 371) (by decide +kernel)⟩
theorem lw_p9 : lw_okq (⟨"NineValuesModel", "keep", "(I)V"⟩, 5) := ⟨⟨by decide +kernel, by decide +kernel⟩, List.mem_of_getElem? (i := 431) (by decide +kernel), List.mem_of_getElem? (i := 464) (by decide +kernel), List.mem_of_getElem? (i := 465) (by decide +kernel)⟩
theorem lw_p10 : lw_okq (⟨"NineValuesModel", "cell", "(II)I"⟩, 5) := ⟨⟨by decide +kernel, by decide +kernel⟩, List.mem_of_getElem? (i := 431) (by decide +kernel), List.mem_of_getElem? (i := 476) (by decide +kernel), List.mem_of_getElem? (i := 477) (by decide +kernel)⟩
theorem lw_p11 : lw_okq (⟨"NineValuesModel", "bits", "(IJ)V"⟩, 5) := ⟨⟨by decide +kernel, by decide +kernel⟩, List.mem_of_getElem? (i := 431) (by decide +kernel), List.mem_of_getElem? (i := 488) (by decide +kernel), List.mem_of_getElem? (i := 489) (by decide +kernel)⟩
theorem lw_p12 : lw_okq (⟨"NineValuesModel", "clear", "(I)Z"⟩, 5) := ⟨⟨by decide +kernel, by decide +kernel⟩, List.mem_of_getElem? (i := 431) (by decide +kernel), List.mem_of_getElem? (i := 496) (by decide +kernel), List.mem_of_getElem? (i := 497) (by decide +kernel)⟩
theorem lw_p13 : lw_okq (⟨"NineValuesModel", "value", "(IZ)J"⟩, 5) := ⟨⟨by decide +kernel, by decide +kernel⟩, List.mem_of_getElem? (i := 431) (by decide +kernel), List.mem_of_getElem? (i := 509) (by decide +kernel), List.mem_of_getElem? (i := 510) (by decide +kernel)⟩
theorem lw_p14 : lw_okq (⟨"NineValuesModel", "numbers", "(IZIII)V"⟩, 5) := ⟨⟨by decide +kernel, by decide +kernel⟩, List.mem_of_getElem? (i := 431) (by decide +kernel), List.mem_of_getElem? (i := 536) (by decide +kernel), List.mem_of_getElem? (i := 537) (by decide +kernel)⟩
theorem lw_p15 : lw_okq (⟨"NineValuesModel", "divide", "(JJZ)J"⟩, 5) := ⟨⟨by decide +kernel, by decide +kernel⟩, List.mem_of_getElem? (i := 431) (by decide +kernel), List.mem_of_getElem? (i := 540) (by decide +kernel), List.mem_of_getElem? (i := 541) (by decide +kernel)⟩
def lw_privs_1 : List (MethodName × Nat) := [(⟨"java/lang/Throwable", "fillInStackTrace", "(I)Ljava/lang/Throwable;"⟩, 6), (⟨"NineValues", "requireElement", "(II)V"⟩, 2), (⟨"NineValues", "joinElements", "(ILNineValues$Word;LNineValues$Word;)V"⟩, 2), (⟨"NineValues", "setBehind", "(LNineValues$Word;LNineValues$Word;)V"⟩, 2), (⟨"NineValues", "calculate", "(IZLNineValues$Word;LNineValues$Word;)V"⟩, 2), (⟨"NineValues", "changeElements", "(ILNineValues$Word;)V"⟩, 2), (⟨"NineValues", "changeNumber", "(ILNineValues$Word;)V"⟩, 2), (⟨"NineValues", "turnRound", "(ILNineValues$Word;)V"⟩, 2), (⟨"NineValues", "move", "(IILNineValues$Word;)V"⟩, 2), (⟨"NineValuesModel", "keep", "(I)V"⟩, 5), (⟨"NineValuesModel", "cell", "(II)I"⟩, 5), (⟨"NineValuesModel", "bits", "(IJ)V"⟩, 5), (⟨"NineValuesModel", "clear", "(I)Z"⟩, 5), (⟨"NineValuesModel", "value", "(IZ)J"⟩, 5), (⟨"NineValuesModel", "numbers", "(IZIII)V"⟩, 5), (⟨"NineValuesModel", "divide", "(JJZ)J"⟩, 5)]
theorem lw_r1 : ∀ q ∈ lw_privs_1, lw_okq q := List.forall_mem_cons.mpr ⟨lw_p0, List.forall_mem_cons.mpr ⟨lw_p1, List.forall_mem_cons.mpr ⟨lw_p2, List.forall_mem_cons.mpr ⟨lw_p3, List.forall_mem_cons.mpr ⟨lw_p4, List.forall_mem_cons.mpr ⟨lw_p5, List.forall_mem_cons.mpr ⟨lw_p6, List.forall_mem_cons.mpr ⟨lw_p7, List.forall_mem_cons.mpr ⟨lw_p8, List.forall_mem_cons.mpr ⟨lw_p9, List.forall_mem_cons.mpr ⟨lw_p10, List.forall_mem_cons.mpr ⟨lw_p11, List.forall_mem_cons.mpr ⟨lw_p12, List.forall_mem_cons.mpr ⟨lw_p13, List.forall_mem_cons.mpr ⟨lw_p14, List.forall_mem_cons.mpr ⟨lw_p15, fun _ h => absurd h List.not_mem_nil⟩⟩⟩⟩⟩⟩⟩⟩⟩⟩⟩⟩⟩⟩⟩⟩
theorem lw_p16 : lw_okq (⟨"NineValuesModel", "bit", "(IIZ)I"⟩, 5) := ⟨⟨by decide +kernel, by decide +kernel⟩, List.mem_of_getElem? (i := 431) (by decide +kernel), List.mem_of_getElem? (i := 568) (by decide +kernel), List.mem_of_getElem? (i := 569) (by decide +kernel)⟩
def lw_privs_2 : List (MethodName × Nat) := [(⟨"NineValuesModel", "bit", "(IIZ)I"⟩, 5)]
theorem lw_r2 : ∀ q ∈ lw_privs_2, lw_okq q := List.forall_mem_cons.mpr ⟨lw_p16, fun _ h => absurd h List.not_mem_nil⟩
def lw_privs : List (MethodName × Nat) := lw_privs_1 ++ (lw_privs_2)
def lw_tbl : List Cond := k2_sels lw_privs ++ tables_1
theorem lw_privs_ok : ∀ q ∈ lw_privs, lw_okq q := by
  show ∀ q ∈ lw_privs_1 ++ (lw_privs_2), lw_okq q
  exact List.forall_mem_append.mpr ⟨lw_r1, lw_r2⟩
def RI : String := "NineValues$Wire"
abbrev bWire_isLow : ByteArray := prog_2_method_2_code
def yWire_isLow : MethodName := ⟨RI, "isLow", "(I)Z"⟩
abbrev bWire_isHigh : ByteArray := prog_2_method_3_code
def yWire_isHigh : MethodName := ⟨RI, "isHigh", "(I)Z"⟩
abbrev bWire_isClear : ByteArray := prog_2_method_4_code
def yWire_isClear : MethodName := ⟨RI, "isClear", "(I)Z"⟩
abbrev bWire_join : ByteArray := prog_2_method_5_code
def yWire_join : MethodName := ⟨RI, "join", "(III)I"⟩
abbrev bWire_drive : ByteArray := prog_2_method_6_code
def yWire_drive : MethodName := ⟨RI, "drive", "(II)I"⟩
abbrev bWire_and : ByteArray := prog_2_method_7_code
def yWire_and : MethodName := ⟨RI, "and", "(II)I"⟩
abbrev bWire_or : ByteArray := prog_2_method_8_code
def yWire_or : MethodName := ⟨RI, "or", "(II)I"⟩
abbrev bWire_xor : ByteArray := prog_2_method_9_code
def yWire_xor : MethodName := ⟨RI, "xor", "(II)I"⟩
abbrev bWire_not : ByteArray := prog_2_method_10_code
def yWire_not : MethodName := ⟨RI, "not", "(I)I"⟩
abbrev bWire_strip : ByteArray := prog_2_method_11_code
def yWire_strip : MethodName := ⟨RI, "strip", "(II)I"⟩
abbrev bWire_goTogether : ByteArray := prog_2_method_12_code
def yWire_goTogether : MethodName := ⟨RI, "goTogether", "(II)Z"⟩
def RW : String := "NineValues$Word"
abbrev bWord_init : ByteArray := prog_3_method_1_code
def yWord_init : MethodName := ⟨RW, "<init>", "()V"⟩
abbrev bWord_become : ByteArray := prog_3_method_2_code
def yWord_become : MethodName := ⟨RW, "become", "(II)V"⟩
abbrev bWord_hold : ByteArray := prog_3_method_3_code
def yWord_hold : MethodName := ⟨RW, "hold", "(IJ)V"⟩
abbrev bWord_copy : ByteArray := prog_3_method_4_code
def yWord_copy : MethodName := ⟨RW, "copy", "(LNineValues$Word;)V"⟩
abbrev bWord_lay : ByteArray := prog_3_method_5_code
def yWord_lay : MethodName := ⟨RW, "lay", "(LNineValues$Word;III)V"⟩
abbrev bWord_last : ByteArray := prog_3_method_6_code
def yWord_last : MethodName := ⟨RW, "last", "()I"⟩
abbrev bWord_isClear : ByteArray := prog_3_method_7_code
def yWord_isClear : MethodName := ⟨RW, "isClear", "()Z"⟩
abbrev bWord_counts : ByteArray := prog_3_method_8_code
def yWord_counts : MethodName := ⟨RW, "counts", "()Z"⟩
abbrev bWord_asLong : ByteArray := prog_3_method_9_code
def yWord_asLong : MethodName := ⟨RW, "asLong", "(Z)J"⟩
abbrev bWord_joined : ByteArray := prog_3_method_10_code
def yWord_joined : MethodName := ⟨RW, "joined", "(II)I"⟩
def RN : String := "NineValues"
abbrev bN_init : ByteArray := prog_1_method_1_code
def yN_init : MethodName := ⟨RN, "<init>", "()V"⟩
abbrev bN_fill : ByteArray := prog_1_method_2_code
def yN_fill : MethodName := ⟨RN, "fill", "(III)V"⟩
abbrev bN_put : ByteArray := prog_1_method_3_code
def yN_put : MethodName := ⟨RN, "put", "(III)V"⟩
abbrev bN_get : ByteArray := prog_1_method_4_code
def yN_get : MethodName := ⟨RN, "get", "(II)I"⟩
abbrev bN_length : ByteArray := prog_1_method_5_code
def yN_length : MethodName := ⟨RN, "length", "(I)I"⟩
abbrev bN_number : ByteArray := prog_1_method_6_code
def yN_number : MethodName := ⟨RN, "number", "(IIJ)V"⟩
abbrev bN_numberOf : ByteArray := prog_1_method_7_code
def yN_numberOf : MethodName := ⟨RN, "numberOf", "(IZ)J"⟩
abbrev bN_operate : ByteArray := prog_1_method_8_code
def yN_operate : MethodName := ⟨RN, "operate", "(IZIII)V"⟩
abbrev bN_change : ByteArray := prog_1_method_9_code
def yN_change : MethodName := ⟨RN, "change", "(III)V"⟩
abbrev bN_shift : ByteArray := prog_1_method_10_code
def yN_shift : MethodName := ⟨RN, "shift", "(IIIII)V"⟩
abbrev bN_bring : ByteArray := prog_1_method_11_code
def yN_bring : MethodName := ⟨RN, "bring", "(ZIII)V"⟩
abbrev bN_cut : ByteArray := prog_1_method_12_code
def yN_cut : MethodName := ⟨RN, "cut", "(IIII)V"⟩
abbrev bN_compare : ByteArray := prog_1_method_13_code
def yN_compare : MethodName := ⟨RN, "compare", "(ZII)I"⟩
abbrev bN_same : ByteArray := prog_1_method_14_code
def yN_same : MethodName := ⟨RN, "same", "(ZII)Z"⟩
abbrev bN_all : ByteArray := prog_1_method_15_code
def yN_all : MethodName := ⟨RN, "all", "(II)I"⟩
abbrev bN_edge : ByteArray := prog_1_method_16_code
def yN_edge : MethodName := ⟨RN, "edge", "(II)I"⟩
abbrev bN_requirePlace : ByteArray := prog_1_method_17_code
def yN_requirePlace : MethodName := ⟨RN, "requirePlace", "(I)V"⟩
abbrev bN_requireElement : ByteArray := prog_1_method_18_code
def yN_requireElement : MethodName := ⟨RN, "requireElement", "(II)V"⟩
abbrev bN_requireLength : ByteArray := prog_1_method_19_code
def yN_requireLength : MethodName := ⟨RN, "requireLength", "(I)V"⟩
abbrev bN_requireValue : ByteArray := prog_1_method_20_code
def yN_requireValue : MethodName := ⟨RN, "requireValue", "(I)V"⟩
abbrev bN_joinElements : ByteArray := prog_1_method_21_code
def yN_joinElements : MethodName := ⟨RN, "joinElements", "(ILNineValues$Word;LNineValues$Word;)V"⟩
abbrev bN_setBehind : ByteArray := prog_1_method_22_code
def yN_setBehind : MethodName := ⟨RN, "setBehind", "(LNineValues$Word;LNineValues$Word;)V"⟩
abbrev bN_calculate : ByteArray := prog_1_method_23_code
def yN_calculate : MethodName := ⟨RN, "calculate", "(IZLNineValues$Word;LNineValues$Word;)V"⟩
abbrev bN_lengthOfResult : ByteArray := prog_1_method_24_code
def yN_lengthOfResult : MethodName := ⟨RN, "lengthOfResult", "(III)I"⟩
abbrev bN_sumOrProduct : ByteArray := prog_1_method_25_code
def yN_sumOrProduct : MethodName := ⟨RN, "sumOrProduct", "(IJJ)J"⟩
abbrev bN_divideSigned : ByteArray := prog_1_method_26_code
def yN_divideSigned : MethodName := ⟨RN, "divideSigned", "(IJJ)J"⟩
abbrev bN_divideUnsigned : ByteArray := prog_1_method_27_code
def yN_divideUnsigned : MethodName := ⟨RN, "divideUnsigned", "(IJJ)J"⟩
abbrev bN_quotientUnsigned : ByteArray := prog_1_method_28_code
def yN_quotientUnsigned : MethodName := ⟨RN, "quotientUnsigned", "(JJ)J"⟩
abbrev bN_isBelowUnsigned : ByteArray := prog_1_method_29_code
def yN_isBelowUnsigned : MethodName := ⟨RN, "isBelowUnsigned", "(JJ)Z"⟩
abbrev bN_changeElements : ByteArray := prog_1_method_30_code
def yN_changeElements : MethodName := ⟨RN, "changeElements", "(ILNineValues$Word;)V"⟩
abbrev bN_changeNumber : ByteArray := prog_1_method_31_code
def yN_changeNumber : MethodName := ⟨RN, "changeNumber", "(ILNineValues$Word;)V"⟩
abbrev bN_move : ByteArray := prog_1_method_32_code
def yN_move : MethodName := ⟨RN, "move", "(IILNineValues$Word;)V"⟩
abbrev bN_turnRound : ByteArray := prog_1_method_33_code
def yN_turnRound : MethodName := ⟨RN, "turnRound", "(ILNineValues$Word;)V"⟩
def RM : String := "NineValuesModel"
abbrev bMo_init : ByteArray := prog_5_method_1_code
def yMo_init : MethodName := ⟨RM, "<init>", "()V"⟩
abbrev bMo_thrown : ByteArray := prog_5_method_2_code
def yMo_thrown : MethodName := ⟨RM, "thrown", "()I"⟩
abbrev bMo_none : ByteArray := prog_5_method_3_code
def yMo_none : MethodName := ⟨RM, "none", "(I)Z"⟩
abbrev bMo_isLow : ByteArray := prog_5_method_4_code
def yMo_isLow : MethodName := ⟨RM, "isLow", "(I)Z"⟩
abbrev bMo_isHigh : ByteArray := prog_5_method_5_code
def yMo_isHigh : MethodName := ⟨RM, "isHigh", "(I)Z"⟩
abbrev bMo_isClear : ByteArray := prog_5_method_6_code
def yMo_isClear : MethodName := ⟨RM, "isClear", "(I)Z"⟩
abbrev bMo_cell : ByteArray := prog_5_method_7_code
def yMo_cell : MethodName := ⟨RM, "cell", "(II)I"⟩
abbrev bMo_keep : ByteArray := prog_5_method_8_code
def yMo_keep : MethodName := ⟨RM, "keep", "(I)V"⟩
abbrev bMo_fill : ByteArray := prog_5_method_9_code
def yMo_fill : MethodName := ⟨RM, "fill", "(III)V"⟩
abbrev bMo_put : ByteArray := prog_5_method_10_code
def yMo_put : MethodName := ⟨RM, "put", "(III)V"⟩
abbrev bMo_get : ByteArray := prog_5_method_11_code
def yMo_get : MethodName := ⟨RM, "get", "(II)I"⟩
abbrev bMo_length : ByteArray := prog_5_method_12_code
def yMo_length : MethodName := ⟨RM, "length", "(I)I"⟩
abbrev bMo_bits : ByteArray := prog_5_method_13_code
def yMo_bits : MethodName := ⟨RM, "bits", "(IJ)V"⟩
abbrev bMo_number : ByteArray := prog_5_method_14_code
def yMo_number : MethodName := ⟨RM, "number", "(IIJ)V"⟩
abbrev bMo_clear : ByteArray := prog_5_method_15_code
def yMo_clear : MethodName := ⟨RM, "clear", "(I)Z"⟩
abbrev bMo_value : ByteArray := prog_5_method_16_code
def yMo_value : MethodName := ⟨RM, "value", "(IZ)J"⟩
abbrev bMo_numberOf : ByteArray := prog_5_method_17_code
def yMo_numberOf : MethodName := ⟨RM, "numberOf", "(IZ)J"⟩
abbrev bMo_together : ByteArray := prog_5_method_18_code
def yMo_together : MethodName := ⟨RM, "together", "(II)I"⟩
abbrev bMo_and : ByteArray := prog_5_method_19_code
def yMo_and : MethodName := ⟨RM, "and", "(II)I"⟩
abbrev bMo_or : ByteArray := prog_5_method_20_code
def yMo_or : MethodName := ⟨RM, "or", "(II)I"⟩
abbrev bMo_xor : ByteArray := prog_5_method_21_code
def yMo_xor : MethodName := ⟨RM, "xor", "(II)I"⟩
abbrev bMo_not : ByteArray := prog_5_method_22_code
def yMo_not : MethodName := ⟨RM, "not", "(I)I"⟩
abbrev bMo_strip : ByteArray := prog_5_method_23_code
def yMo_strip : MethodName := ⟨RM, "strip", "(II)I"⟩
abbrev bMo_byTable : ByteArray := prog_5_method_24_code
def yMo_byTable : MethodName := ⟨RM, "byTable", "(III)I"⟩
abbrev bMo_divide : ByteArray := prog_5_method_25_code
def yMo_divide : MethodName := ⟨RM, "divide", "(JJZ)J"⟩
abbrev bMo_numbers : ByteArray := prog_5_method_26_code
def yMo_numbers : MethodName := ⟨RM, "numbers", "(IZIII)V"⟩
abbrev bMo_operate : ByteArray := prog_5_method_27_code
def yMo_operate : MethodName := ⟨RM, "operate", "(IZIII)V"⟩
abbrev bMo_change : ByteArray := prog_5_method_28_code
def yMo_change : MethodName := ⟨RM, "change", "(III)V"⟩
abbrev bMo_shift : ByteArray := prog_5_method_29_code
def yMo_shift : MethodName := ⟨RM, "shift", "(IIIII)V"⟩
abbrev bMo_bring : ByteArray := prog_5_method_30_code
def yMo_bring : MethodName := ⟨RM, "bring", "(ZIII)V"⟩
abbrev bMo_cut : ByteArray := prog_5_method_31_code
def yMo_cut : MethodName := ⟨RM, "cut", "(IIII)V"⟩
abbrev bMo_bit : ByteArray := prog_5_method_32_code
def yMo_bit : MethodName := ⟨RM, "bit", "(IIZ)I"⟩
abbrev bMo_compare : ByteArray := prog_5_method_33_code
def yMo_compare : MethodName := ⟨RM, "compare", "(ZII)I"⟩
abbrev bMo_goes : ByteArray := prog_5_method_34_code
def yMo_goes : MethodName := ⟨RM, "goes", "(II)Z"⟩
abbrev bMo_same : ByteArray := prog_5_method_35_code
def yMo_same : MethodName := ⟨RM, "same", "(ZII)Z"⟩
abbrev bMo_all : ByteArray := prog_5_method_36_code
def yMo_all : MethodName := ⟨RM, "all", "(II)I"⟩
abbrev bMo_edge : ByteArray := prog_5_method_37_code
def yMo_edge : MethodName := ⟨RM, "edge", "(II)I"⟩
def RL : String := "NineValuesLaw"
abbrev bL_fill : ByteArray := method_3_code
def yL_fill : MethodName := ⟨RL, "fill", "(LNineValues;III)I"⟩
abbrev bL_put : ByteArray := method_4_code
def yL_put : MethodName := ⟨RL, "put", "(LNineValues;III)I"⟩
abbrev bL_get : ByteArray := method_5_code
def yL_get : MethodName := ⟨RL, "get", "(LNineValues;II[J)I"⟩
abbrev bL_length : ByteArray := method_6_code
def yL_length : MethodName := ⟨RL, "length", "(LNineValues;I[J)I"⟩
abbrev bL_number : ByteArray := method_7_code
def yL_number : MethodName := ⟨RL, "number", "(LNineValues;IIJ)I"⟩
abbrev bL_numberOf : ByteArray := method_8_code
def yL_numberOf : MethodName := ⟨RL, "numberOf", "(LNineValues;IZ[J)I"⟩
abbrev bL_operate : ByteArray := method_9_code
def yL_operate : MethodName := ⟨RL, "operate", "(LNineValues;IZIII)I"⟩
abbrev bL_change : ByteArray := method_10_code
def yL_change : MethodName := ⟨RL, "change", "(LNineValues;III)I"⟩
abbrev bL_shift : ByteArray := method_11_code
def yL_shift : MethodName := ⟨RL, "shift", "(LNineValues;IIIII)I"⟩
abbrev bL_bring : ByteArray := method_12_code
def yL_bring : MethodName := ⟨RL, "bring", "(LNineValues;ZIII)I"⟩
abbrev bL_cut : ByteArray := method_13_code
def yL_cut : MethodName := ⟨RL, "cut", "(LNineValues;IIII)I"⟩
abbrev bL_compare : ByteArray := method_14_code
def yL_compare : MethodName := ⟨RL, "compare", "(LNineValues;ZII[J)I"⟩
abbrev bL_same : ByteArray := method_15_code
def yL_same : MethodName := ⟨RL, "same", "(LNineValues;ZII[J)I"⟩
abbrev bL_all : ByteArray := method_16_code
def yL_all : MethodName := ⟨RL, "all", "(LNineValues;II[J)I"⟩
abbrev bL_edge : ByteArray := method_17_code
def yL_edge : MethodName := ⟨RL, "edge", "(LNineValues;II[J)I"⟩
abbrev bL_law : ByteArray := code
def yL_law : MethodName := ⟨RL, "law", "([I)Z"⟩
def FW : u_T := fun k => match k with
  | 0 => ("NineValues$Word", "size", "I", false)
  | _ => ("NineValues$Word", "elements", "[I", true)
def tyW : Nat → FieldType := fun k => match k with
  | 0 => .int
  | _ => .array .int
def FN : u_T := fun k => match k with
  | 0 => ("NineValues", "places", "[LNineValues$Word;", true)
  | _ => ("NineValues", "answer", "LNineValues$Word;", true)
def tyN : Nat → FieldType := fun k => match k with
  | 0 => .array (.object "NineValues$Word")
  | _ => .object "NineValues$Word"
def FM : u_T := fun k => match k with
  | 0 => ("NineValuesModel", "code", "I", false)
  | 1 => ("NineValuesModel", "cells", "[I", true)
  | 2 => ("NineValuesModel", "lengths", "[I", true)
  | 3 => ("NineValuesModel", "out", "[I", true)
  | _ => ("NineValuesModel", "count", "I", false)
def tyM : Nat → FieldType := fun k => match k with
  | 0 => .int
  | 1 => .array .int
  | 2 => .array .int
  | 3 => .array .int
  | _ => .int
theorem nmW : ∀ a, a < 2 → ∀ b, b < 2 → a ≠ b → (FW a).2.1 ≠ (FW b).2.1 := by decide +kernel
theorem tyW_ok : ∀ k, k < 2 → parseFieldDescriptor (FW k).2.2.1 = some (tyW k) := by decide +kernel
theorem nmN : ∀ a, a < 2 → ∀ b, b < 2 → a ≠ b → (FN a).2.1 ≠ (FN b).2.1 := by decide +kernel
theorem tyN_ok : ∀ k, k < 2 → parseFieldDescriptor (FN k).2.2.1 = some (tyN k) := by decide +kernel
theorem nmM : ∀ a, a < 5 → ∀ b, b < 5 → a ≠ b → (FM a).2.1 ≠ (FM b).2.1 := by decide +kernel
theorem tyM_ok : ∀ k, k < 5 → parseFieldDescriptor (FM k).2.2.1 = some (tyM k) := by decide +kernel
abbrev vwCl : List vw_C := [(RW, FW, 2), (RN, FN, 2), (RM, FM, 5)]
abbrev ciW : Nat := 0
abbrev ciN : Nat := 1
abbrev ciM : Nat := 2
abbrev nmHost : String := "NineValues"
abbrev bJ_floorMod : ByteArray := prog_11_method_50_code
def yJ_floorMod : MethodName := ⟨"java/lang/Math", "floorMod", "(II)I"⟩
abbrev bJ_floorModL : ByteArray := prog_11_method_52_code
def yJ_floorModL : MethodName := ⟨"java/lang/Math", "floorMod", "(JJ)J"⟩
end
section
/-! ===== what a method of ours leaves behind when it may throw; calls of such methods; catching; throwing ===== -/
section NyA
/-- what has moved since the method's start, however it ended -/
def ny_End (st t : State) (L : List Loc) (k n : Nat) : Prop := st.WarmedH t.vm ∧ st.sameButNew ({ t with vm := st.vm } : State) L k n
/-- its cells and slots: where it returns, k0 and n0 at most; where it throws, k1 and n1 -/
def ny_mk (k0 k1 : Nat) : Outcome → Nat
  | .returned _ => k0
  | .threw _ => k1
/-- a contract of a method that returns or throws: Qc speaks of either outcome -/
def ny_Met (l : Launch) (y : MethodName) (ws : List Cond) (rm : Room) (Pc : Array Value → State → Prop) (Qc : Array Value → State → Outcome → State → Prop) (k0 n0 k1 n1 : Nat) (free : Addr → Prop) : Prop :=
  MetFree l y (headSpec ws rm) Pc (fun _ _ _ _ _ => True) (fun a st o t => Qc a st o t ∧ ∃ L, ny_End st t L (ny_mk k0 k1 o) (ny_mk n0 n1 o) ∧ ∀ q ∈ L, free q.base)
/-- the caller's frame behind the callee's end: the answer on its stack, or the thrown object over it -/
def ny_on (U : State) (g : JFrame) (len : Nat) : Outcome → State
  | .returned v => U.setTop { g with pc := g.pc + len, stack := v.toList ++ g.stack }
  | .threw q => (U.setTop g).pushFrame (.throwing q)
section NyB
variable {l : Launch} {R : Room} {p : Program} {e : Env} {below : List Frame} {s : State} {sargs : Array Value} {y : MethodName} {len W9 : Nat}
theorem ny_back {ws : List Cond} {rm : Room} {Pc : Array Value → State → Prop} {Qc : Array Value → State → Outcome → State → Prop} {k0 n0 mc ms maxL : Nat} {free : Addr → Prop}
    (hM : ny_Met l y ws rm Pc Qc k0 n0 mc ms free) (hblind : FrameBlind Pc) (hrc : rm.cells = mc) (hrs : rm.slots = ms) (hframes : rm.frames + 1 ≤ R.frames) (hlocals : W9 + (maxL + 11) + rm.locals ≤ R.locals)
    (hws : ∀ w ∈ ws, ∀ (a' : Array Value) (U : State), s.WarmedH U.vm → w.before a' U = true) (hini : ∀ (a' : Array Value) (U : State), s.WarmedH U.vm → (Cond.initialized y.cls).before a' U = true)
    {m : MethodId} {meth : Method} {c : Code} {T : State} {locs : List Loc} {cells slots : Nat} (X : Stand p l e R s m sargs below meth c T locs cells slots)
    {g : JFrame} {ig : Instr} {mk : MethodId} {a : Array Value} (hg : g.method = m) (hsize : g.locals.size = c.maxLocals) (hdg : decode c.code g.pc = .ok (ig, len))
    (hW : 2 * g.monitorRoom + (g.stack.map fun v => v.category).sum ≤ W9) (hn : T.methodNamed? y = some mk)
    (hcd : ∃ (methY : Method) (cY : Code), T.vm.method? mk = some methY ∧ methY.code = some cY ∧ cY.maxLocals = maxL)
    (hc : cells + mc ≤ R.cells) (hs : slots + ms ≤ R.slots) (hP : Pc a T) :
    ∃ (o : Outcome) (t T' : State) (L : List Loc), T'.heap = t.heap ∧ T'.vm = t.vm ∧ Stand p l e R s m sargs below meth c T' (locs ++ L) (cells + ny_mk k0 mc o) (slots + ny_mk n0 ms o) ∧ (∀ q ∈ L, free q.base) ∧ Qc a (T.calling g mk a) o t ∧
      Steps p.tables e below (doInvoke e (T.setTop g) [] mk a).1 (ny_on T' g len o) := by
  have h1 : (headSpec ws rm).pre.before a T = true := atoms_intro fun w hw => hws w hw _ _ X.warmed
  obtain ⟨methY, cY, hmY, hcY, hlY⟩ := hcd
  obtain ⟨kY, hkY, -⟩ := className_of_methodNamed hn
  have hinitY : kY.init = .initialized := Cond.initialized_spec (findClass_of_methodNamed hn) hkY (hini a T X.warmed)
  have h : At T g.method c below := by rw [hg]; exact X.here
  have hr1 : (headSpec ws rm).room.frames + 1 ≤ R.frames := hframes
  have hr2 : 2 * g.monitorRoom + (g.stack.map fun v => v.category).sum + (cY.maxLocals + 11) + (headSpec ws rm).room.locals ≤ R.locals := by
    have h9 : (headSpec ws rm).room.locals = rm.locals := rfl
    rw [hlY, h9]; omega
  have hr3 : cells + (headSpec ws rm).room.cells ≤ R.cells := by
    have h9 : (headSpec ws rm).room.cells = rm.cells := rfl
    rw [h9, hrc]; exact hc
  have hr4 : slots + (headSpec ws rm).room.slots ≤ R.slots := by
    have h9 : (headSpec ws rm).room.slots = rm.slots := rfl
    rw [h9, hrs]; exact hs
  have happ : (headSpec ws rm).appliesLoose y e.platform (T.calling g mk a) = true :=
    Spec.appliesLoose_calling (g := g) h hdg hn hkY hinitY (X.room_calling (g := g) (R' := (headSpec ws rm).room) hsize hmY hcY hr1 hr2 hr3 hr4) h1
  obtain ⟨mid, hmid⟩ := h.above
  have hfr : (T.setTop g).frames = (.java g :: mid) ++ below := by rw [State.frames_setTop' g h.top, hmid]; rfl
  obtain ⟨o, t, hsteps, -, hend, hq⟩ := Steps.callFree hM p X.admits X.cas X.clock (acts := []) hfr happ (hblind _ _ _ _ hP) trivial
  have hq' : Qc a (T.calling g mk a) o t ∧ ∃ L, ny_End (T.calling g mk a) t L (ny_mk k0 mc o) (ny_mk n0 ms o) ∧ ∀ q ∈ L, free q.base := hq
  obtain ⟨hqc, L, ⟨hWt, hsm⟩, hL⟩ := hq'
  rw [State.frames_setTop' g h.top] at hend
  obtain ⟨g₀, hg0⟩ := Option.isSome_iff_exists.mp h.top
  obtain ⟨r, hr⟩ := State.topJava?_eq_some.mp hg0
  have hr' : (({ T with heap := t.heap, slotsUsed := t.slotsUsed } : State).setVm t.vm).frames = .java g₀ :: r := hr
  obtain ⟨e2, q2, q3, q4, q5, q6⟩ := id hsm
  have e3 : t = ({ (T.calling g mk a).setFrames t.frames with heap := t.heap, slotsUsed := t.slotsUsed } : State).setVm t.vm := by
    have h9 : t = ({ t with vm := (T.calling g mk a).vm } : State).setVm t.vm := rfl
    rw [e2] at h9
    exact h9
  have hW' : T.WarmedH t.vm := hWt
  have hsame : T.sameButNew ({ T with heap := t.heap, slotsUsed := t.slotsUsed } : State) L (ny_mk k0 mc o) (ny_mk n0 ms o) := by
    refine ⟨?_, q2, q3, q4, q5, q6⟩
    obtain ⟨t9, ht9, -⟩ := State.frames_cons hr
    show ({ T with heap := t.heap, slotsUsed := t.slotsUsed } : State) = { T.setFrames T.frames with heap := t.heap, slotsUsed := t.slotsUsed }
    rw [State.setFrames_self ht9]
  subst hg
  refine ⟨o, t, ({ T with heap := t.heap, slotsUsed := t.slotsUsed } : State).setVm t.vm, L, rfl, rfl,
    ⟨X.admits, X.cas, X.clock, X.frames, X.room, X.hears, X.method, X.code, (X.here.setHeapUsed t.heap t.slotsUsed).setVm hW'.alike, X.tail, State.WarmedH.trans X.warmed hW', X.limits, X.bytes, X.same.trans (hsame.setVm s.vm)⟩, hL, hqc, ?_⟩
  cases o with
  | returned v =>
    obtain ⟨c₂, i₂, len₂, hc₂, hd₂, hf₂⟩ := hend
    have hcc : c₂ = c := by
      have h9 : t.code? g.method = T.code? g.method := by rw [State.code?_eq, State.code?_eq, hW'.alike.method?]
      exact Option.some.inj (hc₂.symm.trans (h9.trans h.code))
    subst hcc
    have hlen : len₂ = len := by rw [hdg] at hd₂; cases hd₂; rfl
    subst hlen
    have hs₂ : t = (({ T with heap := t.heap, slotsUsed := t.slotsUsed } : State).setVm t.vm).setTop { g with pc := g.pc + len₂, stack := v.toList ++ g.stack } := by
      refine e3.trans ?_
      rw [hf₂, State.calling_eq h.top, State.setFrames_setFrames, State.setTop_of_frames _ hr', hr]
      rfl
    show Steps p.tables e below _ ((({ T with heap := t.heap, slotsUsed := t.slotsUsed } : State).setVm t.vm).setTop { g with pc := g.pc + len₂, stack := v.toList ++ g.stack })
    rw [← hs₂]
    exact hsteps
  | threw q =>
    have hf₂ : t.frames = .throwing q :: .java g :: T.frames.tail := hend
    have hs₂ : t = ((({ T with heap := t.heap, slotsUsed := t.slotsUsed } : State).setVm t.vm).setTop g).pushFrame (.throwing q) := by
      refine e3.trans ?_
      rw [hf₂, State.calling_eq h.top, State.setFrames_setFrames, State.pushFrame, State.frames_setTop _ hr', State.setTop_of_frames _ hr', State.setFrames_setFrames, hr]
      rfl
    show Steps p.tables e below _ (((({ T with heap := t.heap, slotsUsed := t.slotsUsed } : State).setVm t.vm).setTop g).pushFrame (.throwing q))
    rw [← hs₂]
    exact hsteps
end NyB
/-- the method's frame g with q thrown over it -/
def ny_W (p : Program) (l : Launch) (e : Env) (R : Room) (s : State) (m : MethodId) (args : Array Value) (below : List Frame) (meth : Method) (c : Code) (H : Heap) (locs : List Loc) (cells slots : Nat) (Q : State → Prop) (g : JFrame) (q : Addr) : Prop :=
  ∀ T : State, T.heap = H → Stand p l e R s m args below meth c T locs cells slots → ∃ t, Steps p.tables e below ((T.setTop g).pushFrame (.throwing q)) t ∧ Q t
/-- a call of a method that returns or throws -/
def ny_Run (p : Program) (l : Launch) (e : Env) (R : Room) (s : State) (m : MethodId) (args : Array Value) (below : List Frame) (meth : Method) (c : Code) (H : Heap) (locs : List Loc) (cells slots k0 n0 mc ms : Nat) (g : JFrame) (rest : List Value) (Qa : State → Outcome → State → Prop) (free : Addr → Prop) : Prop :=
  ∀ T : State, T.heap = H → Stand p l e R s m args below meth c T locs cells slots → ∃ (o : Outcome) (st₀ t T' : State) (L : List Loc), st₀.heap = H ∧ s.WarmedH st₀.vm ∧ Stand p l e R s m args below meth c T' (locs ++ L) (cells + ny_mk k0 mc o) (slots + ny_mk n0 ms o) ∧ (∀ q ∈ L, free q.base) ∧ T'.heap = t.heap ∧ T'.vm = t.vm ∧ Qa st₀ o t ∧
    ∀ target, Steps p.tables e below (ny_on T' { g with stack := rest } 3 o) target → Steps p.tables e below (T.setTop g) target
section NyC
variable {p : Program} {l : Launch} {e : Env} {R : Room} {s : State} {m : MethodId} {args : Array Value} {below : List Frame} {meth : Method} {c : Code} {H : Heap} {locs : List Loc} {cells slots : Nat}
variable {y : MethodName} {bytes cc : ByteArray} {maxL nL k0 n0 mc ms n index : Nat} {ret : Option FieldType} {ws : List Cond} {rm : Room} {Pc : Array Value → State → Prop} {Qc : Array Value → State → Outcome → State → Prop} {free : Addr → Prop} {Ts : List Cond} {own C : String} {b : Addr} {As rest : List Value} {g : JFrame}
theorem ny_runV (S : CallFix p m c cc nL s args Ts own) (hM : ny_Met l y ws rm Pc Qc k0 n0 mc ms free) (cw : CallW R s args own C index y bytes maxL ret ws rm mc ms n) (hp : PreV s H C b Pc As)
    (hg : g.method = m) (hn : As.length = n) (hsize : g.locals.size = nL) (hstack : g.stack = As.reverse ++ .ref b :: rest) (hW : 2 * g.monitorRoom + (rest.map fun v => v.category).sum ≤ 8) (hdg : decode cc g.pc = .ok (.invokevirtual index, 3)) (hf : cells + mc ≤ R.cells ∧ slots + ms ≤ R.slots) :
    ny_Run p l e R s m args below meth c H locs cells slots k0 n0 mc ms g rest (Qc (Value.ref b :: As).toArray) free := by
  obtain ⟨⟨hrc, hrs, hfr, hlo, hws, hcw, hcode, hini, hy, hlen, hl⟩, hinst, hsel⟩ := cw
  obtain ⟨hx, hb, hml, hown, -⟩ := S
  obtain ⟨hbl, ⟨cellB, hcB, hoB, hclB⟩, hPc⟩ := hp
  intro T hT X
  obtain ⟨mk, methM, hnamed, hmethM, hstM, habM⟩ := Cond.instanceMethod_spec hinst
  obtain ⟨methM', cM, hmethM', hcM, -, hlM, -, -, -, hsigM⟩ := Cond.code_spec hnamed hcode
  cases hmethM.symm.trans hmethM'
  obtain ⟨c2, r2, m2, q1, q2, q3, q4, kP, hkP, hkPi⟩ := Cond.selects_spec hsel
  cases hclB.symm.trans q1
  cases (State.methodFound?_of_named hnamed hy).symm.trans q2
  cases hnamed.symm.trans q3
  have hselP : selectMethod e.platform s.vm cellB.cls mk = .method mk := by rw [Launch.admits_selectMethod X.admits]; exact q4
  obtain ⟨vm₁, X₁, hstep₁⟩ := X.invokevirtual hx hown hl hnamed hmethM hstM hkP hkPi hy (a := b) (cell := cellB) (by rw [hT]; exact hcB)
    (fun z h => by rw [h] at hoB; cases hoB) hselP hmethM habM hkP hkPi (g := g) hg (argsL := As) (rest := rest) (hn.trans (hlen _ hsigM)) hstack (by rw [hb]; exact hdg)
  have hcd : ∃ (methY : Method) (cY : Code), (T.setVm vm₁).vm.method? mk = some methY ∧ methY.code = some cY ∧ cY.maxLocals = maxL := ⟨methM, cM, by rw [X₁.warmed.alike.method?]; exact hmethM, hcM, hlM⟩
  obtain ⟨o, t, T', L, e1, e2, X', hL, hq, hst⟩ := ny_back (g := { g with stack := rest }) (ig := .invokevirtual index) (len := 3) (W9 := 8) hM hbl hrc hrs hfr hlo hws (fun a' U hW => word_at hW (Or.inl (by first | rfl | simp [Cond.onTables, Cond.keeps, Cond.steady])) hini)
    X₁ hg (hsize.trans hml.symm) (by rw [hb]; exact hdg) hW (X₁.named hnamed) hcd hf.1 hf.2 (hPc (T.setVm vm₁) hT X₁.warmed)
  exact ⟨o, (T.setVm vm₁).calling { g with stack := rest } mk (Value.ref b :: As).toArray, t, T', L, hT, X₁.warmed, X', hL, e1, e2, hq, fun target h => hstep₁ _ fun acts => by rw [doInvoke_state]; exact hst.trans h⟩
theorem ny_runS (S : CallFix p m c cc nL s args Ts own) (hM : ny_Met l y ws rm Pc Qc k0 n0 mc ms free) (cw : CallB R s args own index y bytes maxL ret ws rm mc ms n ∧ (Cond.static y).before args s = true) (hp : PreS s H Pc As)
    (hg : g.method = m) (hn : As.length = n) (hsize : g.locals.size = nL) (hstack : g.stack = As.reverse ++ rest) (hW : 2 * g.monitorRoom + (rest.map fun v => v.category).sum ≤ 8) (hdg : decode cc g.pc = .ok (.invokestatic index, 3)) (hf : cells + mc ≤ R.cells ∧ slots + ms ≤ R.slots) :
    ny_Run p l e R s m args below meth c H locs cells slots k0 n0 mc ms g rest (Qc As.toArray) free := by
  obtain ⟨⟨hrc, hrs, hfr, hlo, hws, hcw, hcode, hini, hy, hlen, hl⟩, hstt⟩ := cw
  obtain ⟨hx, hb, hml, hown, -⟩ := S
  intro T hT X
  obtain ⟨mk, hnamed⟩ := Cond.code_named hcode
  obtain ⟨methM, cM, hmethM, hcM, -, hlM, -, -, -, hsigM⟩ := Cond.code_spec hnamed hcode
  have hstatic : methM.isStatic = true := Cond.static_spec hnamed hmethM hstt
  obtain ⟨kP, hkP, -⟩ := className_of_methodNamed hnamed
  have hinitP : kP.init = .initialized := Cond.initialized_spec (findClass_of_methodNamed hnamed) hkP hini
  obtain ⟨vm₁, X₁, hstep₁⟩ := X.invokestatic hx hown hl hnamed hmethM hstatic hkP hinitP hy (g := g) hg (argsL := As) (rest := rest) (hn.trans (hlen _ hsigM)) hstack (by rw [hb]; exact hdg)
  have hcd : ∃ (methY : Method) (cY : Code), (T.setVm vm₁).vm.method? mk = some methY ∧ methY.code = some cY ∧ cY.maxLocals = maxL := ⟨methM, cM, by rw [X₁.warmed.alike.method?]; exact hmethM, hcM, hlM⟩
  obtain ⟨o, t, T', L, e1, e2, X', hL, hq, hst⟩ := ny_back (g := { g with stack := rest }) (ig := .invokestatic index) (len := 3) (W9 := 8) hM hp.1 hrc hrs hfr hlo hws (fun a' U hW => word_at hW (Or.inl (by first | rfl | simp [Cond.onTables, Cond.keeps, Cond.steady])) hini)
    X₁ hg (hsize.trans hml.symm) (by rw [hb]; exact hdg) hW (X₁.named hnamed) hcd hf.1 hf.2 (hp.2 (T.setVm vm₁) hT X₁.warmed)
  exact ⟨o, (T.setVm vm₁).calling { g with stack := rest } mk As.toArray, t, T', L, hT, X₁.warmed, X', hL, e1, e2, hq, fun target h => hstep₁ _ fun acts => by rw [doInvoke_state]; exact hst.trans h⟩
/-- a static method with a table of its own (it catches), called by the law; it always returns -/
theorem ny_runSW {hh : List (Nat × Nat × Nat × Nat)} (S : CallFix p m c cc nL s args Ts own) (hM : Met l y ws rm Pc Qc mc ms free)
    (hrc : rm.cells = mc) (hrs : rm.slots = ms) (hfr : rm.frames + 1 ≤ R.frames) (hlo : 8 + (maxL + 11) + rm.locals ≤ R.locals) (hws : ∀ w ∈ ws, ∀ (a' : Array Value) (U : State), s.WarmedH U.vm → w.before a' U = true)
    (hcode : (Cond.codeWith y bytes maxL ret hh).before args s = true) (hini : (Cond.initialized y.cls).before args s = true) (hy : y.cls ≠ "java/lang/invoke/MethodHandle" ∧ y.cls ≠ "java/lang/invoke/VarHandle")
    (hlen : ∀ sig, parseMethodDescriptor y.desc = some sig → n = sig.parameters.length) (hl : (Cond.methodLink own index y).before args s = true) (hstt : (Cond.static y).before args s = true) (hp : PreS s H Pc As)
    (hg : g.method = m) (hn : As.length = n) (hsize : g.locals.size = nL) (hstack : g.stack = As.reverse ++ rest) (hW : 2 * g.monitorRoom + (rest.map fun v => v.category).sum ≤ 8) (hdg : decode cc g.pc = .ok (.invokestatic index, 3)) (hf : cells + mc ≤ R.cells ∧ slots + ms ≤ R.slots) :
    va_Run p l e R s m args below meth c H locs cells slots mc ms g rest (Qc As.toArray) free := by
  obtain ⟨hx, hb, hml, hown, -⟩ := S
  have hM' : ny_Met l y ws rm Pc (fun a st o t => (∃ v, o = .returned v) ∧ Qc a st o t) mc ms mc ms free := by
    intro p e ha hc hk s m args below hf happ hP _
    obtain ⟨n9, o, h1, h2, h3, hq, L, ⟨hv, hW9, hs9⟩, hL⟩ := hM p e ha hc hk s m args below hf happ hP trivial
    obtain ⟨v, rfl⟩ := hv
    exact ⟨n9, _, h1, h2, h3, ⟨⟨v, rfl⟩, hq⟩, L, ⟨hW9, hs9⟩, hL⟩
  intro T hT X
  obtain ⟨mk, methM, cM, hnamed, hmethM, hcM, -, hlM, -, -, -, hsigM⟩ := Cond.codeWith_spec hcode
  have hstatic : methM.isStatic = true := Cond.static_spec hnamed hmethM hstt
  obtain ⟨kP, hkP, -⟩ := className_of_methodNamed hnamed
  have hinitP : kP.init = .initialized := Cond.initialized_spec (findClass_of_methodNamed hnamed) hkP hini
  obtain ⟨vm₁, X₁, hstep₁⟩ := X.invokestatic hx hown hl hnamed hmethM hstatic hkP hinitP hy (g := g) hg (argsL := As) (rest := rest) (hn.trans (hlen _ hsigM)) hstack (by rw [hb]; exact hdg)
  have hcd : ∃ (methY : Method) (cY : Code), (T.setVm vm₁).vm.method? mk = some methY ∧ methY.code = some cY ∧ cY.maxLocals = maxL := ⟨methM, cM, by rw [X₁.warmed.alike.method?]; exact hmethM, hcM, hlM⟩
  obtain ⟨o, t, T', L, e1, e2, X', hL, ⟨⟨v, hv⟩, hq⟩, hst⟩ := ny_back (g := { g with stack := rest }) (ig := .invokestatic index) (len := 3) (W9 := 8) hM' hp.1 hrc hrs hfr hlo hws (fun a' U hW => word_at hW (Or.inl (by first | rfl | simp [Cond.onTables, Cond.keeps, Cond.steady])) hini)
    X₁ hg (hsize.trans hml.symm) (by rw [hb]; exact hdg) hW (X₁.named hnamed) hcd hf.1 hf.2 (hp.2 (T.setVm vm₁) hT X₁.warmed)
  subst hv
  exact ⟨v, (T.setVm vm₁).calling { g with stack := rest } mk As.toArray, t, T', L, hT, X', hL, e1, e2, hq, fun target h => hstep₁ _ fun acts => by rw [doInvoke_state]; exact hst.trans h⟩
end NyC
section NyD
variable {p : Program} {l : Launch} {e : Env} {R : Room} {s : State} {m : MethodId} {args : Array Value} {below : List Frame} {meth : Method} {c : Code} {H : Heap} {locs : List Loc} {cells slots : Nat} {Q : State → Prop}
variable {k0 n0 mc ms pc : Nat} {free : Addr → Prop} {ls : Array Slot} {st0 rest : List Value} {Qa : State → Outcome → State → Prop}
/-- behind such a call -/
theorem ny_call (hr : ny_Run p l e R s m args below meth c H locs cells slots k0 n0 mc ms (F0 m pc ls st0) rest Qa free)
    (kr : ∀ (v : Option Value) (st₀ t : State) (H1 : Heap) (L : List Loc), st₀.heap = H → s.WarmedH st₀.vm → t.heap = H1 → s.WarmedH t.vm → (∀ q ∈ L, free q.base) → Qa st₀ (.returned v) t → W p l e R s m args below meth c H1 (locs ++ L) (cells + k0) (slots + n0) Q (F0 m (pc + 3) ls (v.toList ++ rest)))
    (kx : ∀ (q : Addr) (st₀ t : State) (H1 : Heap) (L : List Loc), st₀.heap = H → s.WarmedH st₀.vm → t.heap = H1 → s.WarmedH t.vm → (∀ q ∈ L, free q.base) → Qa st₀ (.threw q) t → ny_W p l e R s m args below meth c H1 (locs ++ L) (cells + mc) (slots + ms) Q (F0 m pc ls rest) q) :
    W p l e R s m args below meth c H locs cells slots Q (F0 m pc ls st0) := by
  intro T hT X
  obtain ⟨o, st₀, t, T', L, h0, h1, X', hL, e1, e2, hq, st⟩ := hr T hT X
  cases o with
  | returned v =>
    obtain ⟨t2, a1, b1⟩ := kr v st₀ t T'.heap L h0 h1 e1.symm (by rw [← e2]; exact X'.warmed) hL hq T' rfl X'
    exact ⟨t2, st t2 a1, b1⟩
  | threw q =>
    obtain ⟨t2, a1, b1⟩ := kx q st₀ t T'.heap L h0 h1 e1.symm (by rw [← e2]; exact X'.warmed) hL hq T' rfl X'
    exact ⟨t2, st t2 a1, b1⟩
end NyD
end NyA
section NyF
/-- a row of the table whose class takes the object -/
theorem ny_goYes {Q : Handler → Pre} {E : CtlPost} {e : Env} {d : Bool} {acts : List Action} {s : State} {f : JFrame} {a : Addr} {x : ExceptionTableEntry} {t : List ExceptionTableEntry} {c : ClassId} {cell : Cell} (hx : covers x f.pc = true) (h0 : x.catchType ≠ 0)
    (hl : s.vm.ClassLinks e.platform f.method.cls x.catchType c) (hcell : s.heap[a]? = some cell) (hobj : ∀ k, cell.vm ≠ .statics k)
    (hk : ∃ k, s.vm.classes[cell.cls]? = some k) (hc : ∃ k, s.vm.classes[c]? = some k) (hfit : s.vm.assignable cell.cls c = true) :
    wp (findHandler.go f a (x :: t)) Q E e d acts s ↔ Q (.found x.handlerPc) d acts (s.setVm (s.vm.noted f.method.cls x.catchType (.cls c))) := by
  simp only [covers] at hx
  obtain ⟨ha, ht⟩ := (resolveClass_links e.toSetting hl).op (op := VmOp.resolveClass f.method.cls x.catchType) rfl
  have hal : s.vm.Alike (s.vm.noted f.method.cls x.catchType (.cls c)) := (Vm.Alike.refl s.vm).noted _ _ _
  obtain ⟨k1, hk1⟩ := hk
  obtain ⟨k2, hk2⟩ := hc
  obtain ⟨k3, hk3, -⟩ := hal.2.2 _ _ hk1
  obtain ⟨k4, hk4, -⟩ := hal.2.2 _ _ hk2
  have hf : (s.vm.noted f.method.cls x.catchType (.cls c)).assignable cell.cls c = true := by rw [hal.assignable]; exact hfit
  simp [findHandler.go, hx, h0, ha, ht, hcell, hobj, hk3, hk4, hf, VmOp.dirties, VmOp.acts]
/-- a row of the table whose class doesn't -/
theorem ny_goNo {Q : Handler → Pre} {E : CtlPost} {e : Env} {d : Bool} {acts : List Action} {s : State} {f : JFrame} {a : Addr} {x : ExceptionTableEntry} {t : List ExceptionTableEntry} {c : ClassId} {cell : Cell} (hx : covers x f.pc = true) (h0 : x.catchType ≠ 0)
    (hl : s.vm.ClassLinks e.platform f.method.cls x.catchType c) (hcell : s.heap[a]? = some cell) (hobj : ∀ k, cell.vm ≠ .statics k)
    (hk : ∃ k, s.vm.classes[cell.cls]? = some k) (hc : ∃ k, s.vm.classes[c]? = some k) (hfit : s.vm.assignable cell.cls c = false) :
    wp (findHandler.go f a (x :: t)) Q E e d acts s ↔ wp (findHandler.go f a t) Q E e d acts (s.setVm (s.vm.noted f.method.cls x.catchType (.cls c))) := by
  simp only [covers] at hx
  obtain ⟨ha, ht⟩ := (resolveClass_links e.toSetting hl).op (op := VmOp.resolveClass f.method.cls x.catchType) rfl
  have hal : s.vm.Alike (s.vm.noted f.method.cls x.catchType (.cls c)) := (Vm.Alike.refl s.vm).noted _ _ _
  obtain ⟨k1, hk1⟩ := hk
  obtain ⟨k2, hk2⟩ := hc
  obtain ⟨k3, hk3, -⟩ := hal.2.2 _ _ hk1
  obtain ⟨k4, hk4, -⟩ := hal.2.2 _ _ hk2
  have hf : (s.vm.noted f.method.cls x.catchType (.cls c)).assignable cell.cls c = false := by rw [hal.assignable]; exact hfit
  simp [findHandler.go, hx, h0, ha, ht, hcell, hobj, hk3, hk4, hf, VmOp.dirties, VmOp.acts]
/-- the search through the rows ahead of the one that takes it -/
theorem ny_find {e : Env} {s₀ : State} {f : JFrame} {a : Addr} {cell : Cell} {x : ExceptionTableEntry} {suf : List ExceptionTableEntry} {c : ClassId} (hobj : ∀ k, cell.vm ≠ .statics k) (hk0 : ∃ k, s₀.vm.classes[cell.cls]? = some k)
    (hx : covers x f.pc = true) (h0 : x.catchType ≠ 0) (hl : s₀.vm.ClassLinks e.platform f.method.cls x.catchType c) (hfit : s₀.vm.assignable cell.cls c = true) :
    ∀ (pre : List ExceptionTableEntry) (S : State), s₀.WarmedH S.vm → S.heap[a]? = some cell →
      (∀ y ∈ pre, covers y f.pc = true ∧ y.catchType ≠ 0 ∧ ∃ c', s₀.vm.ClassLinks e.platform f.method.cls y.catchType c' ∧ s₀.vm.assignable cell.cls c' = false) →
      ∃ vm', s₀.WarmedH vm' ∧ ∀ (Q : Handler → Pre) (E : CtlPost) (d : Bool) (acts : List Action), wp (findHandler.go f a (pre ++ x :: suf)) Q E e d acts S ↔ Q (.found x.handlerPc) d acts (S.setVm vm') := by
  obtain ⟨k0, hk0⟩ := hk0
  intro pre
  induction pre with
  | nil =>
    intro S hW hcell _
    obtain ⟨k1, hk1, -⟩ := hW.alike.2.2 _ _ hk0
    obtain ⟨dk, _, _, kt, hd, _, _, _, _, hkt, _, hopen⟩ := hl.here
    obtain ⟨kt1, hkt1, -⟩ := hW.alike.2.2 _ _ hkt
    exact ⟨_, hW.noted hd hopen (State.rightAt_cls hl), fun Q E d acts => ny_goYes hx h0 (hW.classLinks hl) hcell hobj ⟨k1, hk1⟩ ⟨kt1, hkt1⟩ (by rw [hW.alike.assignable]; exact hfit)⟩
  | cons y ys ih =>
    intro S hW hcell hpass
    obtain ⟨k1, hk1, -⟩ := hW.alike.2.2 _ _ hk0
    obtain ⟨hy, hy0, c', hly, hno⟩ := hpass y List.mem_cons_self
    obtain ⟨dk, _, _, kt, hd, _, _, _, _, hkt, _, hopen⟩ := hly.here
    obtain ⟨kt1, hkt1, -⟩ := hW.alike.2.2 _ _ hkt
    obtain ⟨vm', hW', hq⟩ := ih (S.setVm (S.vm.noted f.method.cls y.catchType (.cls c'))) (hW.noted hd hopen (State.rightAt_cls hly)) hcell (fun z hz => hpass z (List.mem_cons_of_mem _ hz))
    exact ⟨vm', hW', fun Q E d acts => (ny_goNo hy hy0 (hW.classLinks hly) hcell hobj ⟨k1, hk1⟩ ⟨kt1, hkt1⟩ (by rw [hW.alike.assignable]; exact hno)).trans (hq Q E d acts)⟩
/-- one step: from the thrown object to the handler -/
theorem ny_caught {tb : Tables} {e : Env} {s target : State} {g : JFrame} {c : Code} {below : List Frame} {a : Addr} (h : At s g.method c below) {pc : Nat} {vm' : Vm}
    (hfind : ∀ (Q : Handler → Pre) (E : CtlPost) (d : Bool) (acts : List Action), wp (findHandler g a) Q E e d acts ((s.setTop g).pushFrame (.throwing a)) ↔ Q (.found pc) d acts (((s.setTop g).pushFrame (.throwing a)).setVm vm'))
    (hrest : Steps tb e below ((s.setVm vm').setTop { g with pc := pc, stack := [.ref a] }) target) : Steps tb e below ((s.setTop g).pushFrame (.throwing a)) target := by
  have hstep : ∀ (S : State) (r : List Frame), (∀ (Q : Handler → Pre) (E : CtlPost) (d : Bool) (acts : List Action), wp (findHandler g a) Q E e d acts S ↔ Q (.found pc) d acts (S.setVm vm')) → (stepThrowing e S a (.java g :: r)).Is ((S.setVm vm').setFrames (.java { g with pc := pc, stack := [.ref a] } :: r)) [] := by
    intro S r hf
    simp only [stepThrowing, searchFrame, vmDo]
    generalize hr : Sem.go _ e false [] S = res
    obtain ⟨as, rfl, ha⟩ := Sem.eq_ok_of hr (a := Handler.found pc) (s' := S.setVm vm') (acts' := []) (by simp [hf _ _ _ _])
    exact ⟨rfl, ha⟩
  have hset : ∀ (u : State) (F G : List Frame), ((u.setFrames F).setVm vm').setFrames G = (u.setVm vm').setFrames G := by
    intro u F G
    have h1 : (u.setFrames F).setVm vm' = (u.setVm vm').setFrames F := rfl
    rw [h1, State.setFrames_setFrames]
  obtain ⟨hgo, hw⟩ := h.throwing a
  refine Steps.head hgo hw ?_
  rw [stepThread_throwing (frames_entered h.top _), (hstep ((s.setTop g).pushFrame (.throwing a)) _ hfind).1]
  obtain ⟨g₀, hg⟩ := Option.isSome_iff_exists.mp h.top
  obtain ⟨r, hr⟩ := State.topJava?_eq_some.mp hg
  have hr' : (s.setVm vm').frames = .java g₀ :: r := hr
  rw [State.setTop_of_frames _ hr'] at hrest
  rw [hr, List.tail_cons, State.pushFrame, hset, State.setTop_of_frames _ hr, hset]
  exact hrest
end NyF
section NyG
variable {p : Program} {l : Launch} {e : Env} {R : Room} {s : State} {m : MethodId} {args : Array Value} {below : List Frame} {meth : Method} {c : Code} {H : Heap} {locs : List Loc} {cells slots : Nat} {Q : State → Prop}
variable {k0 n0 mc ms pc : Nat} {free : Addr → Prop} {ls : Array Slot} {rest : List Value} {Qc : Array Value → State → Outcome → State → Prop}
/-- the row x of this method's table takes it; those ahead don't -/
theorem ny_catch {own name E : String} {ce : Cell} {q : Addr} (hown : s.vm.findClass own = some m.cls) (pre : List ExceptionTableEntry) (x : ExceptionTableEntry) (suf : List ExceptionTableEntry) (hsplit : c.exceptionTable.toList = pre ++ x :: suf)
    (hpass : ∀ z ∈ pre, covers z pc = true ∧ z.catchType ≠ 0 ∧ ∃ nm : String, (Cond.classLink own z.catchType nm).before args s = true ∧ va_Nc E nm s) (hx : covers x pc = true) (h0 : x.catchType ≠ 0)
    (hlink : (Cond.classLink own x.catchType name).before args s = true) (hcast : (Cond.castable E name).before args s = true) (hcell : H[q]? = some ce) (hv : ce.vm = .none) (hcl : s.vm.findClass E = some ce.cls)
    (kk : W p l e R s m args below meth c H locs cells slots Q (F0 m x.handlerPc ls [.ref q])) : ny_W p l e R s m args below meth c H locs cells slots Q (F0 m pc ls rest) q := by
  intro T hT X
  have hpl : e.platform.magicAccessors = ({} : Platform).magicAccessors := by rw [X.admits.platform]
  obtain ⟨c3, c4, hc3, hc4, hasg⟩ := Cond.castable_spec hcast
  cases Option.some.inj (hc3.symm.trans hcl)
  obtain ⟨c5, hc5, hcl5⟩ := Cond.classLink_spec hown hlink e.platform hpl
  cases Option.some.inj (hc4.symm.trans hc5)
  obtain ⟨k9, hk9, -⟩ := Vm.findClass_spec hcl
  have hcell' : ((T.setTop (F0 m pc ls rest)).pushFrame (.throwing q)).heap[q]? = some ce := by
    rw [Stand.throwing_heap, hT]; exact hcell
  have hwm : s.WarmedH ((T.setTop (F0 m pc ls rest)).pushFrame (.throwing q)).vm := by
    rw [Stand.throwing_vm]; exact X.warmed
  obtain ⟨vm', hW', hf⟩ := ny_find (e := e) (s₀ := s) (f := F0 m pc ls rest) (a := q) (cell := ce) (x := x) (suf := suf) (c := c4) (by rw [hv]; intro k h; cases h) ⟨k9, hk9⟩ hx h0 hcl5 hasg pre _ hwm hcell'
    (fun z hz => by
      obtain ⟨hz1, hz0, nm, hl1, a8, b8, h1, h2, h3⟩ := hpass z hz
      obtain ⟨c6, hc6, hcl6⟩ := Cond.classLink_spec hown hl1 e.platform hpl
      cases Option.some.inj (h1.symm.trans hcl)
      cases Option.some.inj (h2.symm.trans hc6)
      exact ⟨hz1, hz0, _, hcl6, h3⟩)
  obtain ⟨t, a1, b1⟩ := kk (T.setVm vm') hT (X.noted hW')
  refine ⟨t, ny_caught (g := F0 m pc ls rest) (c := c) X.here (pc := x.handlerPc) (vm' := vm') (fun Q E d acts => ?_) a1, b1⟩
  rw [Jvm.W.findHandler_eq (meth := meth) (code := c) (by rw [Stand.throwing_vm]; exact X.method') X.code, hsplit]
  exact hf Q E d acts
/-- what a body that may throw owes at its end -/
def ny_MQ (below : List Frame) (Qc : Array Value → State → Outcome → State → Prop) (a : Array Value) (s : State) (k0 n0 k1 n1 : Nat) (free : Addr → Prop) : State → Prop := fun t =>
  ∃ o, t.status = .running ∧ Ended t below o ∧ Qc a s o t ∧ ∃ L, ny_End s t L (ny_mk k0 k1 o) (ny_mk n0 n1 o) ∧ ∀ q ∈ L, free q.base
/-- where it returns: the kit's own ends -/
theorem ny_ret {g : JFrame} (k : W p l e R s m args below meth c H locs cells slots (MQ below Qc args s k0 n0 free) g) : W p l e R s m args below meth c H locs cells slots (ny_MQ below Qc args s k0 n0 mc ms free) g := by
  intro T hT X
  obtain ⟨t, a1, o, b1, b2, b3, L, ⟨⟨v, rfl⟩, hW, hs⟩, hL⟩ := k T hT X
  exact ⟨t, a1, _, b1, b2, b3, L, ⟨hW, hs⟩, hL⟩
/-- where it throws on what a callee has thrown -/
theorem ny_out {q : Addr} (hout : ∀ x ∈ c.exceptionTable.toList, covers x pc = false) (hlocks : meth.locks = false) (hx : ∀ t : State, t.heap = H → s.WarmedH t.vm → Qc args s (.threw q) t) (hf : ∀ z ∈ locs, free z.base) (hc : cells ≤ mc) (hs : slots ≤ ms) :
    ny_W p l e R s m args below meth c H locs cells slots (ny_MQ below Qc args s k0 n0 mc ms free) (F0 m pc ls rest) q := by
  intro T hT X
  obtain ⟨st1, hrun, hend, hW, hsm⟩ := X.leaveThrown q (g := F0 m pc ls rest) rfl rfl rfl hout hlocks
  exact ⟨_, st1, .threw q, hrun, hend, hx _ hT hW, locs, ⟨hW, hsm.mono hc hs⟩, hf⟩
theorem ny_widen {g : JFrame} {q : Addr} {k n : Nat} (h1 : cells ≤ k) (h2 : slots ≤ n) (kk : ny_W p l e R s m args below meth c H locs k n Q g q) : ny_W p l e R s m args below meth c H locs cells slots Q g q := fun T hT X => kk T hT (stand_widen X h1 h2)
/-- the contract out of the walk -/
theorem ny_ofW {y : MethodName} {ws ws' : List Cond} {rm : Room} {Pc : Array Value → State → Prop} {cc : ByteArray} {maxL : Nat} {ret : Option FieldType}
    (hy : plainName y.cls = true) (hw : ws = Cond.code y cc maxL ret :: ws')
    (body : ∀ p e s m args below meth c s₁, BodyLoose p l y (headSpec ws rm) cc maxL ret e s m args below meth c s₁ → c.maxLocals = maxL → (∀ x ∈ c.exceptionTable.toList, ∀ pc, covers x pc = false) → Pc args s →
      W p l e (headSpec ws rm).room s m args below meth c s.heap [] 0 0 (ny_MQ below Qc args s k0 n0 mc ms free) (entryFrame m args maxL)) : ny_Met l y ws rm Pc Qc k0 n0 mc ms free := by
  refine MetFree.of_bodyS (code := cc) (maxLocals := maxL) (ret := ret) hy ?_ ?_
  · intro args s m h hn
    obtain ⟨meth, c, h1, h2, h3, h4, h5, h6, -, -⟩ := Cond.code_spec hn (atoms_spec (ws := ws) h _ (by rw [hw]; exact List.mem_cons_self))
    exact ⟨meth, c, h1, h2, h3, h4, h5, h6⟩
  · intro p e s m args below meth c s₁ B hml hP _
    have hh0 : s₁.heap = s.heap := by rw [B.state]; rfl
    have X := Stand.of_body B
    have hno : ∀ x ∈ c.exceptionTable.toList, ∀ pc, covers x pc = false := by
      obtain ⟨meth', c', h1, h2, -, -, -, -, h7, -⟩ := Cond.code_spec B.named (atoms_spec (ws := ws) B.pre _ (by rw [hw]; exact List.mem_cons_self))
      cases B.method.symm.trans h1
      cases X.code.symm.trans h2
      intro x hx
      have h8 : c.exceptionTable.toList = [] := by
        have h9 : c.exceptionTable = #[] := by simpa using h7
        rw [h9]
      rw [h8] at hx
      cases hx
    obtain ⟨t, a1, o, b1, b2, b3, b4⟩ := body p e s m args below meth c s₁ B hml hno hP s₁ hh0 X
    exact ⟨t, o, a1, b1, b2, b3, b4⟩
end NyG
section NyH
/-- where a static of a class lies, and that its cell is in the heap -/
def ny_L (C n d : String) (U : State) : Prop := ∃ (c : ClassId) (k : Class) (i : Nat) (f : Field) (a : Nat) (cell : Cell), U.vm.findClass C = some c ∧ U.fieldFound? C n d = some (c, k, i, f) ∧ f.isStatic = true ∧ k.statics = some a ∧ U.heap[a]? = some cell ∧ cell.vm.isStatics = true ∧ cell.cls = c ∧ f.slot < cell.slots.size ∧ k.staticTypes[f.slot]? = some f.type
theorem ny_L.to {C n d : String} {u U : State} (hvm : u.vm.Alike U.vm) (hh : ∀ q, q < u.heap.size → U.heap[q]? = u.heap[q]?) (h : ny_L C n d u) : ny_L C n d U := by
  obtain ⟨c, k, i, f, a, cell, h1, h2, h3, h4, h5, h6, h7, h8, h9⟩ := h
  obtain ⟨k', hi', he⟩ := State.fieldFound?_setVm hvm h2
  exact ⟨c, k', i, f, a, cell, by rw [hvm.findClass]; exact h1, hi', h3, by rw [he]; exact h4, by rw [hh a (Array.getElem?_eq_some_iff.mp h5).1]; exact h5, h6, h7, h8, by rw [he]; exact h9⟩
theorem ny_L.word {C n d : String} {s : State} {args : Array Value} (h : ny_L C n d s) : (Cond.laysStatic C n d).before args s = true := by
  obtain ⟨c, k, i, f, a, cell, h1, h2, h3, h4, h5, h6, h7, h8, h9⟩ := h
  show (Cond.laysStatic C n d).holds args s none s [] = true
  exact Cond.laysStatic_of h1 h2 h3 h4 h5 h6 h7 h8 h9
theorem ny_L.of {C n d : String} {s : State} {args : Array Value} (h : (Cond.laysStatic C n d).before args s = true) : ny_L C n d s := Cond.laysStatic_spec h
theorem ny_isRef {C n d : String} {v : Value} {A : Nat → Prop} {s : State} {args : Array Value} (h : va_Z C n d v A s s.heap) (hv : v.isRef = true) : (Cond.isRef (.static C n d)).before args s = true := by
  obtain ⟨cf, kf, fi, f, a, cell, h1, h2, h3, h4, h5, h6, h7, -⟩ := h
  have he : (Term.static C n d).eval args s none [] s = some v := by
    simp [Term.eval, State.fieldNamed?, h1, h2, h4, h5, h6, h7]
  simp only [Cond.before, Cond.holds, Cond.value, he]
  cases v <;> simp_all [Value.isRef]
/-- what a throw asks of the heap: the two statics of Throwable -/
def ny_J (U : State) : Prop := va_Zq Bundle.tN "UNASSIGNED_STACK" Bundle.steD (fun _ => False) U U.heap ∧ va_Zq Bundle.tN "SUPPRESSED_SENTINEL" Bundle.listD (fun _ => False) U U.heap ∧ ny_L Bundle.tN "UNASSIGNED_STACK" Bundle.steD U ∧ ny_L Bundle.tN "SUPPRESSED_SENTINEL" Bundle.listD U
theorem ny_J.to {u U : State} (hvm : u.vm.Alike U.vm) (hh : ∀ q, q < u.heap.size → U.heap[q]? = u.heap[q]?) (h : ny_J u) : ny_J U :=
  ⟨(va_Zq.moved hvm h.1).kept (fun a h1 _ => hh a h1), (va_Zq.moved hvm h.2.1).kept (fun a h1 _ => hh a h1), h.2.2.1.to hvm hh, h.2.2.2.to hvm hh⟩
theorem ny_J.words {s : State} {args : Array Value} (h : ny_J s) : (Cond.isRef (.static Bundle.tN "UNASSIGNED_STACK" Bundle.steD)).before args s = true ∧ (Cond.isRef (.static Bundle.tN "SUPPRESSED_SENTINEL" Bundle.listD)).before args s = true ∧ (Cond.laysStatic Bundle.tN "UNASSIGNED_STACK" Bundle.steD).before args s = true ∧ (Cond.laysStatic Bundle.tN "SUPPRESSED_SENTINEL" Bundle.listD).before args s = true := by
  refine ⟨?_, ?_, h.2.2.1.word, h.2.2.2.word⟩
  · rcases h.1 with g | ⟨t, g⟩
    · exact ny_isRef g rfl
    · exact ny_isRef g rfl
  · rcases h.2.1 with g | ⟨t, g⟩
    · exact ny_isRef g rfl
    · exact ny_isRef g rfl
theorem ny_J.of {s : State} {args : Array Value} (hi : (Cond.initialized Bundle.tN).before args s = true) (h1 : (Cond.isRef (.static Bundle.tN "UNASSIGNED_STACK" Bundle.steD)).before args s = true) (h2 : (Cond.isRef (.static Bundle.tN "SUPPRESSED_SENTINEL" Bundle.listD)).before args s = true)
    (h3 : (Cond.laysStatic Bundle.tN "UNASSIGNED_STACK" Bundle.steD).before args s = true) (h4 : (Cond.laysStatic Bundle.tN "SUPPRESSED_SENTINEL" Bundle.listD).before args s = true) : ny_J s :=
  ⟨va_Zqof h3 hi h1 (fun _ _ h => h), va_Zqof h4 hi h2 (fun _ _ h => h), ny_L.of h3, ny_L.of h4⟩
/-- all words of a throw out of those that the tables decide and the four -/
theorem ny_own {args : Array Value} {s : State} {L : List Cond} (hJ : ny_J s)
    (h : ∀ w ∈ L, w = .isRef (.static Bundle.tN "UNASSIGNED_STACK" Bundle.steD) ∨ w = .isRef (.static Bundle.tN "SUPPRESSED_SENTINEL" Bundle.listD) ∨ w = .laysStatic Bundle.tN "UNASSIGNED_STACK" Bundle.steD ∨ w = .laysStatic Bundle.tN "SUPPRESSED_SENTINEL" Bundle.listD ∨ w.before args s = true) : ∀ w ∈ L, w.before args s = true := by
  intro w hw
  obtain ⟨g1, g2, g3, g4⟩ := hJ.words (args := args)
  rcases h w hw with e | e | e | e | e
  · rw [e]; exact g1
  · rw [e]; exact g2
  · rw [e]; exact g3
  · rw [e]; exact g4
  · exact e
/-- q is a new object of the class E, thrown; all that was there is as it was -/
def ny_Thr (E : String) (st : State) (q : Addr) (t : State) : Prop := ∃ ce : Cell, t.heap[q]? = some ce ∧ ce.vm = .none ∧ st.vm.findClass E = some ce.cls ∧ st.heap.size ≤ t.heap.size ∧ ∀ z : Nat, z < st.heap.size → t.heap[z]? = st.heap[z]?
variable {p : Program} {l : Launch} {e : Env} {R : Room} {s : State} {m : MethodId} {args : Array Value} {below : List Frame} {meth : Method} {c : Code} {free : Addr → Prop} {ls : Array Slot} {rest : List Value} {Qc : Array Value → State → Outcome → State → Prop}
/-- throw new E("text"), before anything has been written -/
theorem ny_throw {cc : ByteArray} {pc k0 n0 : Nat} (hexec : p.tables.exec = Jvm.exec) (hb : c.code = cc) (hfl : l.flags = pinnedFlags ++ [noTraceFlag]) {own cls text : String} {names : List String} {ik is ic sa : Nat}
    (hown : s.vm.findClass own = some m.cls) (hcls : Bundle.fit cls = true) (hnames : ∀ n ∈ names, Bundle.fit n = true)
    (hk : (Cond.classLink own ik cls).before args s = true) (hini : (Cond.initialized cls).before args s = true) (hstr : vk_R own is text sa s) (hat : ∀ w ∈ Bundle.ownAtoms own ic cls names, w.before args s = true) (hsize : ls.size = c.maxLocals)
    (d0 : decode cc pc = .ok (.new ik, 3)) (d3 : decode cc (pc + 3) = .ok (.dup, 1)) (d4 : decode cc (pc + 4) = .ok (.ldc is, 2)) (d6 : decode cc (pc + 6) = .ok (.invokespecial ic, 3)) (d9 : decode cc (pc + 9) = .ok (.athrow, 1))
    (hout : ∀ x ∈ c.exceptionTable.toList, ∀ pc, covers x pc = false)
    (hRframes : names.length + 3 < R.frames) (hRlocals : (rest.map fun v => v.category).sum + (13 * (names.length + 1) + 43) ≤ R.locals) (hRcells : 1 ≤ R.cells) (hRslots : 6 ≤ R.slots) (hlocks : meth.locks = false)
    (hx : ∀ (t : State) (q : Addr), s.WarmedH t.vm → ny_Thr cls s q t → Qc args s (.threw q) t) :
    W p l e R s m args below meth c s.heap [] 0 0 (ny_MQ below Qc args s k0 n0 1 6 free) (F0 m pc ls rest) := by
  intro T hT X
  have htr : e.platform.stackTraces = false := Launch.traces_off hfl X.admits
  have hins : (Cond.instantiable cls 6).before args s = true := hat _ (by simp [Bundle.ownAtoms])
  obtain ⟨vm₁, cX, kX, hfX, hkX, -, -, X₁, st1⟩ := X.newCold hexec (own := own) (C := cls) (index := ik) (n := 6) hown hk hins hini
    (g := F0 m pc ls rest) rfl (by rw [hb]; exact d0) (by omega) (by omega)
  generalize hT1 : (T.setVm vm₁).pushCell { cls := cX, slots := kX.instanceTypes.map defaultValue, vm := .none } = T1 at X₁ st1
  have hcat : (Value.ref T.heap.size).category = 1 := rfl
  have hcellA : T1.heap[T.heap.size]? = some (freshCell cX kX) := by rw [← hT1]; exact State.heap_pushCell_size _ _
  have d3' : decode c.code (pc + 3) = .ok (.dup, 1) := by rw [hb]; exact d3
  have d4' : decode c.code (pc + 4) = .ok (.ldc is, 2) := by rw [hb]; exact d4
  obtain ⟨U, hsteps, hrun, hend, hW, hsame, ce, hce, hO⟩ := X₁.ctorThrowS hexec htr (own := own) (cls := cls) (names := names) (ic := ic) hown hcls hnames hat (fun x hx => nomatch hx) hfX hkX hcellA (by rw [hT]; exact Nat.le_refl _) (msg := .ref sa) rfl
    (g := { method := m, pc := pc + 6, locals := ls, stack := .ref sa :: .ref T.heap.size :: .ref T.heap.size :: rest, locked := none }) rfl hsize rfl rfl (rest := rest) rfl
    (by rw [hb]; exact d6) (by rw [hb]; exact d9) (fun x hx => hout x hx _) hRframes (by
      show 2 * 0 + ((Value.ref T.heap.size :: rest).map fun v => v.category).sum + (13 * (names.length + 1) + 42) ≤ R.locals
      simp only [List.map_cons, List.sum_cons, hcat]; omega) hlocks
  have hthr : ny_Thr cls s T.heap.size U := by
    obtain ⟨-, h2, -, -, -, h6⟩ := id hsame
    refine ⟨ce, hce, hO.vm, hO.cls, h2, fun z hz => ?_⟩
    obtain ⟨c9, g1, g2, g3, g4⟩ := h6 z _ (Array.getElem?_eq_getElem hz)
    have hs : c9.slots = (s.heap[z]).slots := Array.ext_getElem? fun i => g4 i (fun hm => nomatch hm)
    have h9 : c9 = s.heap[z] := by
      rw [hs] at g2
      exact g2
    have g5 : U.heap[z]? = some c9 := g1
    rw [g5, h9, Array.getElem?_eq_getElem hz]
  refine ⟨U, ?_, .threw T.heap.size, hrun, hend, hx U _ hW hthr, [], ⟨hW, hsame⟩, fun q hq => nomatch hq⟩
  refine st1 _ ?_
  show Steps p.tables e below (T1.setTop { method := m, pc := pc + 3, locals := ls, stack := .ref T.heap.size :: rest, locked := none }) _
  jvm_step X₁.here [X₁.here.top, hexec, d3', Value.category]
  exact X₁.ldcString hexec (own := own) (text := text) (index := is) (a := sa) hown hstr.1 hstr.2
    (g := { method := m, pc := pc + 4, locals := ls, stack := .ref T.heap.size :: .ref T.heap.size :: rest, locked := none }) rfl d4' _ hsteps
end NyH
end
section
/-! ===== lN n to 2^64: shifts, and, or, masks, one bit ===== -/
theorem wb_tb (n : Nat) : (lN n).toBitVec = BitVec.ofNat 64 n := rfl
theorem wb_inj {a b : Int64} (h : a.toBitVec = b.toBitVec) : a = b := Int64.toBitVec_inj.mp h
theorem wb_tn {n : Nat} (h : n < 2 ^ 64) : (lN n).toBitVec.toNat = n := by rw [wb_tb, BitVec.toNat_ofNat, Nat.mod_eq_of_lt h]
theorem wb_of (x : Int64) : ∃ n, n < 2 ^ 64 ∧ x = lN n := ⟨x.toBitVec.toNat, x.toBitVec.isLt, wb_inj (by rw [wb_tb]; simp)⟩
theorem wb_of32 (x : Int32) : ∃ n, n < 2 ^ 32 ∧ x = nI n := ⟨x.toBitVec.toNat, x.toBitVec.isLt, Int32.toBitVec_inj.mp (by show _ = BitVec.ofNat 32 _; simp)⟩
theorem wb_c : ∀ k, k < 64 → ((nI k).toInt64 &&& 63) = lN k := by decide +kernel
theorem wb_cu : ∀ k, k < 64 → ((nI k).toInt64.toUInt64 &&& Int64.toUInt64 63) = UInt64.ofNat k := by decide +kernel
theorem wb_sm : ∀ k, k < 64 → (BitVec.ofNat 64 k).smod 64 = BitVec.ofNat 64 k := by decide +kernel
theorem wb_pw {a b : Nat} (h : a ≤ b) : 2 ^ b = 2 ^ a * 2 ^ (b - a) := by rw [← Nat.pow_add]; congr 1; omega
theorem wb_lt2 {a b : Nat} (h : a < b) : 2 ^ a < 2 ^ b := Nat.pow_lt_pow_right (by decide) h
theorem wb_mod (n : Nat) : lN n = lN (n % 2 ^ 64) := wb_inj (by rw [wb_tb, wb_tb]; apply BitVec.eq_of_toNat_eq; rw [BitVec.toNat_ofNat, BitVec.toNat_ofNat, Nat.mod_mod])
theorem wb_shr {n k : Nat} (hn : n < 2 ^ 64) (hk : k < 64) : ((lN n).toUInt64 >>> ((nI k).toInt64.toUInt64 &&& Int64.toUInt64 63)).toInt64 = lN (n / 2 ^ k) := by
  rw [wb_cu k hk]
  apply wb_inj
  apply BitVec.eq_of_toNat_eq
  show ((lN n).toUInt64 >>> UInt64.ofNat k).toNat = (BitVec.ofNat 64 _).toNat
  have h1 : (UInt64.ofNat k).toNat = k := by
    show (BitVec.ofNat 64 k).toNat = k
    rw [BitVec.toNat_ofNat, Nat.mod_eq_of_lt (by omega)]
  have h2 : (lN n).toUInt64.toNat = n := wb_tn hn
  rw [UInt64.toNat_shiftRight, h1, h2, Nat.mod_eq_of_lt hk, Nat.shiftRight_eq_div_pow, BitVec.toNat_ofNat, Nat.mod_eq_of_lt (Nat.lt_of_le_of_lt (Nat.div_le_self _ _) hn)]
theorem wb_shl (n : Nat) {k : Nat} (hk : k < 64) : lN n <<< ((nI k).toInt64 &&& 63) = lN (n * 2 ^ k) := by
  rw [wb_c k hk]
  apply wb_inj
  rw [Int64.toBitVec_shiftLeft, wb_tb, wb_tb, wb_tb, wb_sm k hk]
  apply BitVec.eq_of_toNat_eq
  rw [BitVec.shiftLeft_eq', BitVec.toNat_shiftLeft, BitVec.toNat_ofNat, BitVec.toNat_ofNat, BitVec.toNat_ofNat, Nat.mod_eq_of_lt (show k < 2 ^ 64 by omega), Nat.shiftLeft_eq, Nat.mul_mod, Nat.mod_mod, ← Nat.mul_mod]
theorem wb_and {a b : Nat} (ha : a < 2 ^ 64) (hb : b < 2 ^ 64) : lN a &&& lN b = lN (a &&& b) := by
  apply wb_inj
  rw [Int64.toBitVec_and, wb_tb, wb_tb, wb_tb]
  apply BitVec.eq_of_toNat_eq
  rw [BitVec.toNat_and, BitVec.toNat_ofNat, BitVec.toNat_ofNat, BitVec.toNat_ofNat, Nat.mod_eq_of_lt ha, Nat.mod_eq_of_lt hb, Nat.mod_eq_of_lt (Nat.and_lt_two_pow _ hb)]
theorem wb_or {a b : Nat} (ha : a < 2 ^ 64) (hb : b < 2 ^ 64) : lN a ||| lN b = lN (a ||| b) := by
  apply wb_inj
  rw [Int64.toBitVec_or, wb_tb, wb_tb, wb_tb]
  apply BitVec.eq_of_toNat_eq
  rw [BitVec.toNat_or, BitVec.toNat_ofNat, BitVec.toNat_ofNat, BitVec.toNat_ofNat, Nat.mod_eq_of_lt ha, Nat.mod_eq_of_lt hb, Nat.mod_eq_of_lt (Nat.or_lt_two_pow ha hb)]
theorem wb_mask {n k : Nat} (hn : n < 2 ^ 64) (hk : k < 64) : lN n &&& lN (2 ^ k - 1) = lN (n % 2 ^ k) := by
  rw [wb_and hn (by have := wb_lt2 hk; omega), Nat.and_two_pow_sub_one_eq_mod]
theorem wb_a1 {n : Nat} (hn : n < 2 ^ 64) : lN n &&& 1 = lN (n % 2) := wb_mask (k := 1) hn (by decide)
theorem wb_bit {n k : Nat} (hn : n < 2 ^ 64) (hk : k < 64) : ((lN n).toUInt64 >>> ((nI k).toInt64.toUInt64 &&& Int64.toUInt64 63)).toInt64 &&& 1 = lN (n / 2 ^ k % 2) := by
  rw [wb_shr hn hk, wb_a1 (Nat.lt_of_le_of_lt (Nat.div_le_self _ _) hn)]
theorem wb_xor {q k : Nat} (hk : k < 63) (h : 2 ^ k ≤ q) (h2 : q < 2 ^ (k + 1)) : lN q ^^^ lN (2 ^ k) = lN (q - 2 ^ k) := by
  obtain ⟨r, rfl⟩ : ∃ r, q = 2 ^ k + r := ⟨q - 2 ^ k, by omega⟩
  have hr : r < 2 ^ k := by rw [Nat.pow_succ] at h2; omega
  have hx : (2 ^ k + r) ^^^ 2 ^ k = r := by
    apply Nat.eq_of_testBit_eq
    intro i
    rw [Nat.testBit_xor, Nat.testBit_two_pow]
    rcases Nat.lt_trichotomy i k with h | h | h
    · rw [Nat.testBit_two_pow_add_gt h]
      simp [show ¬ k = i by omega]
    · subst h
      rw [Nat.testBit_two_pow_add_eq]
      simp
    · have a1 : 2 ^ (k + 1) ≤ 2 ^ i := Nat.pow_le_pow_right (by decide) h
      rw [Nat.testBit_lt_two_pow (show 2 ^ k + r < 2 ^ i by omega), Nat.testBit_lt_two_pow (show r < 2 ^ i by omega)]
      simp [show ¬ k = i by omega]
  have b1 := wb_lt2 (show k + 1 < 64 by omega)
  have b2 := wb_lt2 (show k < 64 by omega)
  apply wb_inj
  rw [Int64.toBitVec_xor, wb_tb, wb_tb, wb_tb]
  apply BitVec.eq_of_toNat_eq
  rw [BitVec.toNat_xor, BitVec.toNat_ofNat, BitVec.toNat_ofNat, BitVec.toNat_ofNat, Nat.mod_eq_of_lt (by omega : 2 ^ k + r < 2 ^ 64), Nat.mod_eq_of_lt b2, hx, Nat.add_sub_cancel_left, Nat.mod_eq_of_lt (by omega)]
/-! ===== lN: masks, 'or' of parts that don't overlap is a sum ===== -/
theorem u_tn {n : Nat} (h : n < 2 ^ 64) : (UInt64.ofNat n).toNat = n := Nat.mod_eq_of_lt h
theorem g_and {a b c : Nat} (ha : a < 2 ^ 64) (hb : b < 2 ^ 64) (hc : a &&& b = c) : lN a &&& lN b = lN c := by
  subst hc
  have h : UInt64.ofNat a &&& UInt64.ofNat b = UInt64.ofNat (a &&& b) := UInt64.toNat_inj.mp (by rw [UInt64.toNat_and, u_tn ha, u_tn hb, u_tn (Nat.and_lt_two_pow a hb)])
  have h2 := congrArg UInt64.toInt64 h
  exact h2
theorem g_and1 {a : Nat} (ha : a < 2 ^ 64) : lN a &&& 1 = lN (a % 2) := g_and (b := 1) ha (by decide) (Nat.and_two_pow_sub_one_eq_mod a 1)
theorem g_mask {a s p : Nat} (hp : 2 ^ s = p) (hs : s < 64) (ha : a < 2 ^ 64) : lN a &&& lN (p - 1) = lN (a % p) := by
  subst hp
  have := Nat.pow_lt_pow_right (show 1 < 2 by decide) hs
  exact g_and ha (by omega) (Nat.and_two_pow_sub_one_eq_mod a s)
theorem g_or {k p a b : Nat} (hp : 2 ^ k = p) (ha : a < p) (h : b * p + a < 2 ^ 64) : lN (b * p) ||| lN a = lN (b * p + a) := by
  subst hp
  have h1 : b * 2 ^ k ||| a = b * 2 ^ k + a := by rw [← Nat.shiftLeft_eq, Nat.shiftLeft_add_eq_or_of_lt ha]
  have h3 : UInt64.ofNat (b * 2 ^ k) ||| UInt64.ofNat a = UInt64.ofNat (b * 2 ^ k + a) := UInt64.toNat_inj.mp (by rw [UInt64.toNat_or, u_tn (by omega), u_tn (by omega), u_tn h, h1])
  have h2 := congrArg UInt64.toInt64 h3
  exact h2
theorem g_or' {k p a b : Nat} (hp : 2 ^ k = p) (ha : a < p) (h : a + b * p < 2 ^ 64) : lN a ||| lN (b * p) = lN (a + b * p) := by
  rw [Int64.or_comm, g_or hp ha (by omega), Nat.add_comm]
theorem g_ushr {a k p : Nat} {y : UInt64} (hy : y = UInt64.ofNat k) (hk : k < 64) (hp : 2 ^ k = p) (ha : a < 2 ^ 64) : ((lN a).toUInt64 >>> y).toInt64 = lN (a / p) := by
  subst hy hp
  have h : UInt64.ofNat a >>> UInt64.ofNat k = UInt64.ofNat (a / 2 ^ k) := UInt64.toNat_inj.mp (by rw [UInt64.toNat_shiftRight, u_tn ha, u_tn (by omega), u_tn (Nat.lt_of_le_of_lt (Nat.div_le_self _ _) ha), Nat.mod_eq_of_lt hk, Nat.shiftRight_eq_div_pow])
  have h2 := congrArg UInt64.toInt64 h
  exact h2
theorem g_shl {a k p : Nat} {y : Int64} (hy : y.toBitVec.smod 64 = BitVec.ofNat 64 k) (hk : k < 64) (hp : 2 ^ k = p) (ha : a < 2 ^ 64) : lN a <<< y = lN (a * p) := by
  subst hp
  apply Int64.toBitVec_inj.mp
  rw [Int64.toBitVec_shiftLeft, hy]
  apply BitVec.eq_of_toNat_eq
  have hb : (lN a).toBitVec.toNat = a := Nat.mod_eq_of_lt ha
  have hk' : (BitVec.ofNat 64 k).toNat = k := Nat.mod_eq_of_lt (by omega)
  have h : ((lN a).toBitVec <<< BitVec.ofNat 64 k).toNat = (a * 2 ^ k) % 2 ^ 64 := by simp only [BitVec.shiftLeft_eq', BitVec.toNat_shiftLeft, hb, hk', Nat.shiftLeft_eq]
  exact h
/-! ===== unsigned comparison by xor with the least ===== -/
theorem lN_bv (n : Nat) : (lN n).toBitVec = BitVec.ofNat 64 n := rfl
theorem lN_nat {n : Nat} (h : n < 2 ^ 64) : (lN n).toBitVec.toNat = n := by rw [lN_bv, BitVec.toNat_ofNat]; exact Nat.mod_eq_of_lt h
theorem lN_xor (a b : Nat) : lN a ^^^ lN b = lN (a ^^^ b) := by
  apply Int64.toBitVec_inj.mp; rw [Int64.toBitVec_xor, lN_bv, lN_bv, lN_bv]; apply BitVec.eq_of_getLsbD_eq; intro i hi; simp [BitVec.getLsbD_ofNat, Nat.testBit_xor, hi]
theorem lN_ti {m : Nat} (h : m < 2 ^ 64) : (lN m).toInt = if m < 2 ^ 63 then (m : Int) else (m : Int) - 2 ^ 64 := by
  have c := BitVec.toInt_eq_toNat_cond (lN m).toBitVec
  rw [lN_nat h] at c
  show (lN m).toBitVec.toInt = _
  rw [c]
  split <;> split <;> omega
theorem xor63 {x : Nat} (h : x < 2 ^ 63) : x ^^^ 2 ^ 63 = 2 ^ 63 + x := by
  apply Nat.eq_of_testBit_eq
  intro i
  rw [Nat.testBit_xor, Nat.testBit_two_pow]
  rcases Nat.lt_trichotomy i 63 with z | z | z
  · rw [Nat.testBit_two_pow_add_gt z, decide_eq_false (by omega)]; simp
  · subst z; rw [Nat.testBit_two_pow_add_eq]; simp
  · have hp : 2 ^ 64 ≤ 2 ^ i := Nat.pow_le_pow_right (by decide) z
    rw [Nat.testBit_lt_two_pow (show x < 2 ^ i by omega), Nat.testBit_lt_two_pow (show 2 ^ 63 + x < 2 ^ i by omega), decide_eq_false (by omega)]; rfl
theorem xorS {a : Nat} (h : a < 2 ^ 64) : (lN a ^^^ (-9223372036854775808)).toInt = (a : Int) - 2 ^ 63 := by
  rw [show (-9223372036854775808 : Int64) = lN (2 ^ 63) from by decide +kernel, lN_xor]
  rcases Nat.lt_or_ge a (2 ^ 63) with z | z
  · rw [xor63 z, lN_ti (by omega), if_neg (by omega)]; omega
  · obtain ⟨x, rfl⟩ : ∃ x, a = 2 ^ 63 + x := ⟨a - 2 ^ 63, by omega⟩
    rw [← xor63 (by omega), Nat.xor_assoc, Nat.xor_self, Nat.xor_zero, lN_ti (by omega), if_pos (by omega), xor63 (by omega)]; omega
theorem ultL {a b : Nat} (ha : a < 2 ^ 64) (hb : b < 2 ^ 64) : ((lN b ^^^ (-9223372036854775808)) ≤ (lN a ^^^ (-9223372036854775808))) ↔ b ≤ a := by
  rw [Int64.le_iff_toInt_le, xorS ha, xorS hb]; omega
end
section
/-! ===== worlds as blocks: N cells at the addresses T k, with the contents E k ===== -/
section Bw
def bw (N : Nat) (T : Nat → Nat) (E : Nat → va_E) : va_W := (List.range N).map (fun k => (T k, E k))
theorem bw_get {N k : Nat} {T : Nat → Nat} {E : Nat → va_E} (h : k < N) : (bw N T E)[k]? = some (T k, E k) := by
  simp [bw, h]
theorem bw_out {N k : Nat} {T : Nat → Nat} {E : Nat → va_E} (h : ¬ k < N) : (bw N T E)[k]? = none := by
  apply List.getElem?_eq_none
  simp [bw]
  omega
theorem bw_of {N k : Nat} {T : Nat → Nat} {E : Nat → va_E} {q : Nat × va_E} (h : (bw N T E)[k]? = some q) : k < N ∧ q = (T k, E k) := by
  by_cases hk : k < N
  · rw [bw_get hk] at h
    exact ⟨hk, (Option.some.inj h).symm⟩
  · rw [bw_out hk] at h
    cases h
theorem bw_set {N k : Nat} {T : Nat → Nat} {E : Nat → va_E} {e : va_E} (h : k < N) : (bw N T E).set k (T k, e) = bw N T (va_up E k e) := by
  apply List.ext_getElem?
  intro j
  rw [List.getElem?_set]
  by_cases hj : k = j
  · subst hj
    have hl : k < (bw N T E).length := by
      simp [bw]
      exact h
    rw [if_pos rfl, if_pos hl, bw_get h, va_up_self]
  · rw [if_neg hj]
    by_cases hN : j < N
    · rw [bw_get hN, bw_get hN, va_up_ne _ _ (fun q => hj q.symm)]
    · rw [bw_out hN, bw_out hN]
theorem bw_congr {N : Nat} {T : Nat → Nat} {E E' : Nat → va_E} (h : ∀ k, k < N → E k = E' k) : bw N T E = bw N T E' := by
  apply List.ext_getElem?
  intro j
  by_cases hN : j < N
  · rw [bw_get hN, bw_get hN, h j hN]
  · rw [bw_out hN, bw_out hN]
variable {D : va_G} {cl : List vw_C} {A A0 : Nat → Prop} {wc wr wd : va_W} {H H1 : Heap}
theorem nw_P1 (h : va_P D cl (wc ++ wr) H) : va_P D cl wc H := fun k q hk => h k q (by rw [List.getElem?_append_left (List.getElem?_eq_some_iff.mp hk).1]; exact hk)
theorem nw_P2 (h : va_P D cl (wc ++ wr) H) : va_P D cl wr H := fun k q hk => h (wc.length + k) q (by rw [List.getElem?_append_right (Nat.le_add_right _ _), Nat.add_sub_cancel_left]; exact hk)
theorem nw_D1 (h : va_D A (wc ++ wr)) : va_D A wc :=
  ⟨fun i j p q hi hj e => h.1 i j p q (by rw [List.getElem?_append_left (List.getElem?_eq_some_iff.mp hi).1]; exact hi) (by rw [List.getElem?_append_left (List.getElem?_eq_some_iff.mp hj).1]; exact hj) e,
   fun k q hk => h.2 k q (by rw [List.getElem?_append_left (List.getElem?_eq_some_iff.mp hk).1]; exact hk)⟩
theorem nw_D2 (h : va_D A (wc ++ wr)) : va_D A wr := by
  have g : ∀ (k : Nat) (q : Nat × va_E), wr[k]? = some q → (wc ++ wr)[wc.length + k]? = some q := fun k q hk => by
    rw [List.getElem?_append_right (Nat.le_add_right _ _), Nat.add_sub_cancel_left]; exact hk
  exact ⟨fun i j p q hi hj e => Nat.add_left_cancel (h.1 _ _ p q (g i p hi) (g j q hj) e), fun k q hk => h.2 _ q (g k q hk)⟩
/-- a cell of the one half is none of the other -/
theorem nw_ne (h : va_D A (wc ++ wr)) {i j : Nat} {p q : Nat × va_E} (hi : wc[i]? = some p) (hj : wr[j]? = some q) : p.1 ≠ q.1 := by
  intro e
  have hil : i < wc.length := (List.getElem?_eq_some_iff.mp hi).1
  have h1 : (wc ++ wr)[i]? = some p := by rw [List.getElem?_append_left hil]; exact hi
  have h2 : (wc ++ wr)[wc.length + j]? = some q := by rw [List.getElem?_append_right (Nat.le_add_right _ _), Nat.add_sub_cancel_left]; exact hj
  have := h.1 i (wc.length + j) p q h1 h2 e
  omega
theorem nw_free {H0 : Heap} {locs : List Loc} (hD : va_D A0 (wc ++ wr)) (hS : va_S A0 H0 H locs) (hA : ∀ q, H0.size ≤ q → A0 q) : ∀ q, va_A wc H.size q → A0 q := by
  intro q h
  rcases h with ⟨k, e, h⟩ | h
  · exact (nw_D1 hD).2 k (q, e) h
  · exact hA q (Nat.le_trans hS.1 h)
/-- behind a call that had the first half -/
theorem nw_join (hP : va_P D cl (wc ++ wr) H) (hD : va_D A0 (wc ++ wr)) (hk : ∀ q : Nat, q < H.size → ¬ va_A wc H.size q → H1[q]? = H[q]?) (hF : ∀ q, va_A wc H.size q → A0 q) (hP1 : va_P D cl wd H1) (hD1 : va_D (va_A wc H.size) wd) : va_P D cl (wd ++ wr) H1 ∧ va_D A0 (wd ++ wr) := by
  have apart : ∀ (k : Nat) (q : Nat × va_E), wr[k]? = some q → q.1 < H.size ∧ ¬ va_A wc H.size q.1 := by
    intro k q hq
    have hl := (nw_P2 hP k q hq).lt
    refine ⟨hl, fun h => ?_⟩
    rcases h with ⟨k2, e, h⟩ | h
    · exact nw_ne hD h hq rfl
    · omega
  refine ⟨va_P.app hP1 (fun k q hq => (nw_P2 hP k q hq).kept (hk q.1 (apart k q hq).1 (apart k q hq).2)), va_D.app (hD1.weaken (fun k q _ h => hF q.1 h)) (nw_D2 hD) (fun i j x y hx hy hxy => ?_)⟩
  exact (apart j y hy).2 (by rw [← hxy]; exact hD1.2 i x hx)
theorem nw_Psw (h : va_P D cl (wc ++ wr) H) : va_P D cl (wr ++ wc) H := va_P.app (nw_P2 h) (nw_P1 h)
theorem nw_Dsw (h : va_D A (wc ++ wr)) : va_D A (wr ++ wc) := va_D.app (nw_D2 h) (nw_D1 h) (fun i j p q hi hj e => nw_ne h hj hi e.symm)
end Bw
end
section
/-! ===== the values and words of the document, as numbers ===== -/
section Zp
def zLow (v : Nat) : Nat := if v = 2 ∨ v = 6 then 1 else 0
def zHigh (v : Nat) : Nat := if v = 3 ∨ v = 7 then 1 else 0
def zClear (v : Nat) : Nat := if v = 2 ∨ v = 6 ∨ v = 3 ∨ v = 7 then 1 else 0
def zDrive (p q : Nat) : Nat :=
  if p = 0 ∨ q = 0 then 0 else if p = 1 ∨ p = 8 ∨ q = 1 ∨ q = 8 then 1 else if p = 4 then q else if q = 4 then p
  else if (p = 2 ∧ q = 3) ∨ (p = 3 ∧ q = 2) then 1 else if p = 2 ∨ p = 3 then p else if q = 2 ∨ q = 3 then q else if p = q then p else 5
def zAnd (p q : Nat) : Nat := if zLow p = 1 ∨ zLow q = 1 then 2 else if p = 0 ∨ q = 0 then 0 else if zHigh p = 1 ∧ zHigh q = 1 then 3 else 1
def zOr (p q : Nat) : Nat := if zHigh p = 1 ∨ zHigh q = 1 then 3 else if p = 0 ∨ q = 0 then 0 else if zLow p = 1 ∧ zLow q = 1 then 2 else 1
def zXor (p q : Nat) : Nat := if p = 0 ∨ q = 0 then 0 else if zClear p = 0 ∨ zClear q = 0 then 1 else if zHigh p = zHigh q then 2 else 3
def zNot (v : Nat) : Nat := if v = 0 then 0 else if zLow v = 1 then 3 else if zHigh v = 1 then 2 else 1
def zJoin (o p q : Nat) : Nat :=
  if o = 0 then zDrive p q else if o = 1 then zAnd p q else if o = 2 then zOr p q else if o = 3 then zXor p q
  else if o = 4 then zNot (zAnd p q) else if o = 5 then zNot (zOr p q) else zNot (zXor p q)
def zStrip (o v : Nat) : Nat := if zLow v = 1 then 2 else if zHigh v = 1 then 3 else if o = 1 ∧ v = 4 then 4 else if o = 2 ∧ v = 0 then 0 else if o = 3 then 2 else 1
def zMatch (p q : Nat) : Nat := if p = 8 ∨ q = 8 ∨ (zLow p = 1 ∧ zLow q = 1) ∨ (zHigh p = 1 ∧ zHigh q = 1) then 1 else 0
theorem zDrive_lt : ∀ p, p < 9 → ∀ q, q < 9 → zDrive p q < 9 := by decide +kernel
theorem zAnd_lt : ∀ p, p < 9 → ∀ q, q < 9 → zAnd p q < 9 := by decide +kernel
theorem zOr_lt : ∀ p, p < 9 → ∀ q, q < 9 → zOr p q < 9 := by decide +kernel
theorem zXor_lt : ∀ p, p < 9 → ∀ q, q < 9 → zXor p q < 9 := by decide +kernel
theorem zNot_lt : ∀ p, p < 9 → zNot p < 9 := by decide +kernel
theorem zStrip_lt : ∀ o, o < 4 → ∀ p, p < 9 → zStrip o p < 9 := by decide +kernel
theorem zJoin_lt7 : ∀ o, o < 7 → ∀ p, p < 9 → ∀ q, q < 9 → zJoin o p q < 9 := by decide +kernel
/-- the places a .. a + k - 1 are f's, the others h's -/
def pov (f h : Nat → Nat) (a k : Nat) : Nat → Nat := fun j => if a ≤ j ∧ j < a + k then f j else h j
theorem pov_0 (f h : Nat → Nat) (a : Nat) : pov f h a 0 = h := by
  funext j
  unfold pov
  rw [if_neg (by omega)]
theorem pov_s (f h : Nat → Nat) (a k : Nat) : va_up (pov f h a k) (a + k) (f (a + k)) = pov f h a (k + 1) := by
  funext j
  unfold pov va_up
  by_cases hj : j = a + k
  · subst hj
    rw [if_pos rfl, if_pos (by omega)]
  · rw [if_neg hj]
    show (if a ≤ j ∧ j < a + k then f j else h j) = _
    by_cases hk : a ≤ j ∧ j < a + k
    · rw [if_pos hk, if_pos (by omega)]
    · rw [if_neg hk, if_neg (by omega)]
theorem pov_s0 (f h : Nat → Nat) (k : Nat) : va_up (pov f h 0 k) k (f k) = pov f h 0 (k + 1) := by
  have h1 := pov_s f h 0 k
  rw [Nat.zero_add] at h1
  exact h1
theorem pov_in {f h : Nat → Nat} {a k j : Nat} (h1 : a ≤ j) (h2 : j < a + k) : pov f h a k j = f j := if_pos ⟨h1, h2⟩
theorem pov_out {f h : Nat → Nat} {a k j : Nat} (h1 : j < a ∨ a + k ≤ j) : pov f h a k j = h j := if_neg (by omega)
theorem pov_lt {f h : Nat → Nat} {a k b : Nat} (hf : ∀ j, a ≤ j → j < a + k → f j < b) (hh : ∀ j, h j < b) : ∀ j, pov f h a k j < b := by
  intro j
  unfold pov
  by_cases hj : a ≤ j ∧ j < a + k
  · rw [if_pos hj]; exact hf j hj.1 hj.2
  · rw [if_neg hj]; exact hh j
/-- the number of the first N elements -/
def zNum (f : Nat → Nat) : Nat → Nat
  | 0 => 0
  | k + 1 => zNum f k + zHigh (f k) * 2 ^ k
theorem zHigh_le (v : Nat) : zHigh v ≤ 1 := by
  unfold zHigh
  split <;> omega
theorem zNum_lt (f : Nat → Nat) : ∀ k, zNum f k < 2 ^ k
  | 0 => by simp [zNum]
  | k + 1 => by
    have h1 := zNum_lt f k
    have h2 := zHigh_le (f k)
    have h3 : zHigh (f k) * 2 ^ k ≤ 1 * 2 ^ k := Nat.mul_le_mul_right _ h2
    rw [zNum, Nat.pow_succ]
    omega
theorem zNum_congr {f h : Nat → Nat} : ∀ {k : Nat}, (∀ j, j < k → f j = h j) → zNum f k = zNum h k
  | 0, _ => rfl
  | k + 1, e => by rw [zNum, zNum, zNum_congr (fun j hj => e j (by omega)), e k (by omega)]
/-- all of the first N are clear -/
def zAll (f : Nat → Nat) (N : Nat) : Nat := if ∀ k, k < N → zClear (f k) = 1 then 1 else 0
def zFold (o v : Nat) (f : Nat → Nat) : Nat → Nat
  | 0 => v
  | k + 1 => zJoin o (zFold o v f k) (f k)
theorem zFold_lt {o v : Nat} {f : Nat → Nat} (ho : o < 7) (hv : v < 9) (hf : ∀ k, f k < 9) : ∀ k, zFold o v f k < 9
  | 0 => hv
  | k + 1 => zJoin_lt7 o ho _ (zFold_lt ho hv hf k) _ (hf k)
/-- the last element, ZERO of an empty word -/
def zLast (f : Nat → Nat) (N : Nat) : Nat := if N = 0 then 2 else f (N - 1)
/-- a word's elements, its last one again and again beyond its end -/
def zExt (f : Nat → Nat) (N : Nat) : Nat → Nat := fun k => if k < N then f k else zLast f N
theorem zExt_in {f : Nat → Nat} {N k : Nat} (h : k < N) : zExt f N k = f k := if_pos h
theorem zExt_out {f : Nat → Nat} {N k : Nat} (h : N ≤ k) : zExt f N k = zLast f N := if_neg (by omega)
theorem zLast_lt {f : Nat → Nat} (hf : ∀ k, f k < 9) (N : Nat) : zLast f N < 9 := by
  unfold zLast
  by_cases h : N = 0
  · rw [if_pos h]; decide
  · rw [if_neg h]; exact hf _
/-- how many bits count: all 64 where it is signed -/
def zB (b N : Nat) : Nat := if b = 1 then 64 else N
theorem zB_le (b : Nat) {N : Nat} (h : N ≤ 64) : zB b N ≤ 64 := by
  unfold zB
  split <;> omega
/-- the 64 bits of a word's number; b = 1: signed -/
def zLong (b : Nat) (f : Nat → Nat) (N : Nat) : Nat := zNum (zExt f N) (zB b N)
theorem zLong_lt (b : Nat) (f : Nat → Nat) {N : Nat} (h : N ≤ 64) : zLong b f N < 2 ^ 64 :=
  Nat.lt_of_lt_of_le (zNum_lt _ _) (Nat.pow_le_pow_right (by decide) (zB_le b h))
theorem zNum_s0 {f : Nat → Nat} {k : Nat} (h : zHigh (f k) = 0) : zNum f (k + 1) = zNum f k := by
  rw [zNum, h, Nat.zero_mul, Nat.add_zero]
/-- it can be reckoned with -/
def zCnt (f : Nat → Nat) (N : Nat) : Nat := if 0 < N ∧ zAll f N = 1 then 1 else 0
theorem zAll_01 (f : Nat → Nat) (N : Nat) : zAll f N = 0 ∨ zAll f N = 1 := by
  unfold zAll
  split
  · exact Or.inr rfl
  · exact Or.inl rfl
theorem zCnt_0 {f : Nat → Nat} {N : Nat} (h : N ≤ 0) : (0 : Int32) = nI (zCnt f N) := by
  rw [show zCnt f N = 0 from if_neg (by omega)]; rfl
theorem zCnt_1 {f : Nat → Nat} {N : Nat} (h : 0 < N) (h2 : ¬ nI (zAll f N) = 0) : (1 : Int32) = nI (zCnt f N) := by
  rcases zAll_01 f N with q | q
  · exact absurd (by rw [q]; rfl) h2
  · rw [show zCnt f N = 1 from if_pos ⟨h, q⟩]; rfl
theorem zCnt_2 {f : Nat → Nat} {N : Nat} (h2 : nI (zAll f N) = 0) : (0 : Int32) = nI (zCnt f N) := by
  rcases zAll_01 f N with q | q
  · rw [show zCnt f N = 0 from if_neg (by omega)]; rfl
  · rw [q] at h2; exact absurd h2 (by decide)
theorem va_up_eta {α : Type} (f : Nat → α) (k : Nat) : va_up f k (f k) = f := by
  funext j
  unfold va_up
  by_cases h : j = k
  · rw [if_pos h, h]
  · rw [if_neg h]
theorem nv_step (g : Nat → Nat → Nat) (i : Nat) (f h : Nat → Nat) (k : Nat) : va_up (va_up g i (pov f h 0 k)) i (va_up ((va_up g i (pov f h 0 k)) i) k (f k)) = va_up g i (pov f h 0 (k + 1)) := by
  rw [va_up_self, bx_uu, pov_s0]
theorem nv_stepA (g : Nat → Nat → Nat) (i : Nat) (f h : Nat → Nat) (a k : Nat) : va_up (va_up g i (pov f h a k)) i (va_up ((va_up g i (pov f h a k)) i) (a + k) (f (a + k))) = va_up g i (pov f h a (k + 1)) := by
  rw [va_up_self, bx_uu, pov_s]
theorem zShl1 {k : Nat} (hk : k < 64) : (1 : Int64) <<< ((nI k).toInt64 &&& 63) = lN (2 ^ k) := by
  have h := wb_shl 1 hk
  rw [Nat.one_mul] at h
  exact h
theorem zNum_s1 {f : Nat → Nat} {k : Nat} (hk : k < 64) (h : zHigh (f k) = 1) : lN (zNum f k) ||| lN (2 ^ k) = lN (zNum f (k + 1)) := by
  have h1 := zNum_lt f k
  have h2 : (2 : Nat) ^ k * 2 ≤ 2 ^ 64 := by
    rw [← Nat.pow_succ]
    exact Nat.pow_le_pow_right (by decide) (by omega)
  have h3 := g_or' (k := k) (p := 2 ^ k) (a := zNum f k) (b := 1) rfl h1 (by omega)
  rw [Nat.one_mul] at h3
  rw [h3, zNum, h, Nat.one_mul]
/-- a number's bits as values -/
def zPut (v k : Nat) : Nat := if v / 2 ^ k % 2 = 0 then 2 else 3
theorem zPut_lt (v k : Nat) : zPut v k < 9 := by
  unfold zPut
  split <;> omega
end Zp
end
section
/-! ===== one list of words for all methods: the good ones of the tables; calls by it ===== -/
section Nz
def nzG : List Cond := lw_tbl.filter goodWord
theorem nzG_good : ∀ w ∈ nzG, goodWord w = true := fun w h => (List.mem_filter.mp h).2
theorem nzG_tbl : ∀ w ∈ nzG, w ∈ lw_tbl := fun w h => (List.mem_filter.mp h).1
theorem nz_pay {args : Array Value} {s : State} (h : ∀ w ∈ nzG, w.before args s = true) {w0 : Cond} (h0 : w0 ∈ nzG) : ∀ w ∈ w0 :: nzG, ∀ (a' : Array Value) (U : State), s.WarmedH U.vm → w.before a' U = true := fun w hw a' U hW => by
  rcases List.mem_cons.mp hw with e | e
  · rw [e]; exact word_at hW (good_of_word (nzG_good w0 h0)) (h w0 h0)
  · exact word_at hW (good_of_word (nzG_good w e)) (h w e)
/-- a static call, by its words -/
def nzS (own : String) (i : Nat) (y : MethodName) (b : ByteArray) (mL : Nat) (r : Option FieldType) (n : Nat) : Prop :=
  Cond.methodLink own i y ∈ nzG ∧ Cond.static y ∈ nzG ∧ Cond.initialized y.cls ∈ nzG ∧ Cond.code y b mL r ∈ nzG ∧ (y.cls ≠ "java/lang/invoke/MethodHandle" ∧ y.cls ≠ "java/lang/invoke/VarHandle") ∧ (parseMethodDescriptor y.desc).map (fun d => d.parameters.length) = some n
/-- a virtual call, by its words -/
def nzV (own : String) (i : Nat) (C : String) (y : MethodName) (b : ByteArray) (mL : Nat) (r : Option FieldType) (n : Nat) : Prop :=
  Cond.methodLink own i y ∈ nzG ∧ Cond.instanceMethod y ∈ nzG ∧ Cond.selects C y y ∈ nzG ∧ Cond.initialized y.cls ∈ nzG ∧ Cond.code y b mL r ∈ nzG ∧ (y.cls ≠ "java/lang/invoke/MethodHandle" ∧ y.cls ≠ "java/lang/invoke/VarHandle") ∧ (parseMethodDescriptor y.desc).map (fun d => d.parameters.length) = some n
variable {p : Program} {l : Launch} {e : Env} {R : Room} {s : State} {m : MethodId} {args : Array Value} {below : List Frame} {meth : Method} {c : Code} {H : Heap} {locs : List Loc} {cells slots : Nat} {Q : State → Prop}
variable {own C : String} {i : Nat} {y : MethodName} {b cc : ByteArray} {mL nL n mc ms pc : Nat} {r : Option FieldType} {rm : Room} {As rest st0 : List Value} {ls : Array Slot}
theorem nzS.cb (h : nzS own i y b mL r n) (hts : ∀ w ∈ nzG, w.before args s = true) (hrc : rm.cells = mc) (hrs : rm.slots = ms) (hR : rm.frames + 1 ≤ R.frames ∧ 8 + (mL + 11) + rm.locals ≤ R.locals) : CallB R s args own i y b mL r (Cond.code y b mL r :: nzG) rm mc ms n ∧ (Cond.static y).before args s = true := by
  obtain ⟨h1, h2, h3, h4, h5, h6⟩ := h
  refine ⟨⟨hrc, hrs, hR.1, hR.2, nz_pay hts h4, List.mem_cons_self, hts _ h4, hts _ h3, h5, fun sig hs => ?_, hts _ h1⟩, hts _ h2⟩
  rw [hs] at h6
  exact (Option.some.inj h6).symm
theorem nzV.cb (h : nzV own i C y b mL r n) (hts : ∀ w ∈ nzG, w.before args s = true) (hrc : rm.cells = mc) (hrs : rm.slots = ms) (hR : rm.frames + 1 ≤ R.frames ∧ 8 + (mL + 11) + rm.locals ≤ R.locals) : CallW R s args own C i y b mL r (Cond.code y b mL r :: nzG) rm mc ms n := by
  obtain ⟨h1, h2, h3, h4, h5, h6, h7⟩ := h
  refine ⟨⟨hrc, hrs, hR.1, hR.2, nz_pay hts h5, List.mem_cons_self, hts _ h5, hts _ h4, h6, fun sig hs => ?_, hts _ h1⟩, hts _ h2, hts _ h3⟩
  rw [hs] at h7
  exact (Option.some.inj h7).symm
/-- the callee's room fits mine -/
def nzR (rm R : Room) (mL k n : Nat) : Prop := rm.cells = k ∧ rm.slots = n ∧ rm.frames + 1 ≤ R.frames ∧ 8 + (mL + 11) + rm.locals ≤ R.locals
variable {Pre : State → Prop}
/-- a call of a static method that reads alone: an int comes back -/
theorem nz_si {post : Int32 → Prop} (S : CallFix p m c cc nL s args nzG own) (hM : Met l y (Cond.code y b mL r :: nzG) rm (va_Pc As Pre) (vp_Si post) 0 0 (fun _ => False)) (hw : nzS own i y b mL r n) (hR : nzR rm R mL 0 0) (hc : cells ≤ R.cells ∧ slots ≤ R.slots)
    (hbl : ∀ (a : Array Value) (U : State) (g : JFrame) (mk : MethodId), Pre U → Pre (U.calling g mk a)) (hpre : ∀ U : State, U.heap = H → s.WarmedH U.vm → Pre U)
    (hn : As.length = n) (hsz : ls.size = nL) (hst : st0 = As.reverse ++ rest) (hW : (rest.map fun v => v.category).sum ≤ 8) (hdg : decode cc pc = .ok (.invokestatic i, 3))
    (kk : ∀ r9 : Int32, post r9 → W p l e R s m args below meth c H locs cells slots Q (F0 m (pc + 3) ls (.int r9 :: rest))) : W p l e R s m args below meth c H locs cells slots Q (F0 m pc ls st0) :=
  vp_callSi (W.runS S hM (hw.cb S.2.2.2.2 hR.1 hR.2.1 hR.2.2) ⟨fun a U g mk q => ⟨q.1, hbl a U g mk q.2⟩, fun U hU hW => ⟨rfl, hpre U hU hW⟩⟩ rfl hn hsz hst (lv_room hW) hdg hc) kk
theorem nz_sl {post : Int64 → Prop} (S : CallFix p m c cc nL s args nzG own) (hM : Met l y (Cond.code y b mL r :: nzG) rm (va_Pc As Pre) (vp_Sl post) 0 0 (fun _ => False)) (hw : nzS own i y b mL r n) (hR : nzR rm R mL 0 0) (hc : cells ≤ R.cells ∧ slots ≤ R.slots)
    (hbl : ∀ (a : Array Value) (U : State) (g : JFrame) (mk : MethodId), Pre U → Pre (U.calling g mk a)) (hpre : ∀ U : State, U.heap = H → s.WarmedH U.vm → Pre U)
    (hn : As.length = n) (hsz : ls.size = nL) (hst : st0 = As.reverse ++ rest) (hW : (rest.map fun v => v.category).sum ≤ 8) (hdg : decode cc pc = .ok (.invokestatic i, 3))
    (kk : ∀ r9 : Int64, post r9 → W p l e R s m args below meth c H locs cells slots Q (F0 m (pc + 3) ls (.long r9 :: rest))) : W p l e R s m args below meth c H locs cells slots Q (F0 m pc ls st0) :=
  vp_callSl (W.runS S hM (hw.cb S.2.2.2.2 hR.1 hR.2.1 hR.2.2) ⟨fun a U g mk q => ⟨q.1, hbl a U g mk q.2⟩, fun U hU hW => ⟨rfl, hpre U hU hW⟩⟩ rfl hn hsz hst (lv_room hW) hdg hc) kk
/-- .. of a virtual one, on the object o -/
theorem nz_vi {post : Int32 → Prop} {o : Nat} (S : CallFix p m c cc nL s args nzG own) (hM : Met l y (Cond.code y b mL r :: nzG) rm (va_Pc (.ref o :: As) Pre) (vp_Si post) 0 0 (fun _ => False)) (hw : nzV own i C y b mL r n) (hR : nzR rm R mL 0 0) (hc : cells ≤ R.cells ∧ slots ≤ R.slots)
    (hbl : ∀ (a : Array Value) (U : State) (g : JFrame) (mk : MethodId), Pre U → Pre (U.calling g mk a)) (hob : ∃ cellB : Cell, H[o]? = some cellB ∧ cellB.vm.isStatics = false ∧ s.vm.findClass C = some cellB.cls) (hpre : ∀ U : State, U.heap = H → s.WarmedH U.vm → Pre U)
    (hn : As.length = n) (hsz : ls.size = nL) (hst : st0 = As.reverse ++ .ref o :: rest) (hW : (rest.map fun v => v.category).sum ≤ 8) (hdg : decode cc pc = .ok (.invokevirtual i, 3))
    (kk : ∀ r9 : Int32, post r9 → W p l e R s m args below meth c H locs cells slots Q (F0 m (pc + 3) ls (.int r9 :: rest))) : W p l e R s m args below meth c H locs cells slots Q (F0 m pc ls st0) :=
  vp_callSi (W.runV S hM (hw.cb S.2.2.2.2 hR.1 hR.2.1 hR.2.2) ⟨fun a U g mk q => ⟨q.1, hbl a U g mk q.2⟩, hob, fun U hU hW => ⟨rfl, hpre U hU hW⟩⟩ rfl hn hsz hst (lv_room hW) hdg hc) kk
theorem nz_vl {post : Int64 → Prop} {o : Nat} (S : CallFix p m c cc nL s args nzG own) (hM : Met l y (Cond.code y b mL r :: nzG) rm (va_Pc (.ref o :: As) Pre) (vp_Sl post) 0 0 (fun _ => False)) (hw : nzV own i C y b mL r n) (hR : nzR rm R mL 0 0) (hc : cells ≤ R.cells ∧ slots ≤ R.slots)
    (hbl : ∀ (a : Array Value) (U : State) (g : JFrame) (mk : MethodId), Pre U → Pre (U.calling g mk a)) (hob : ∃ cellB : Cell, H[o]? = some cellB ∧ cellB.vm.isStatics = false ∧ s.vm.findClass C = some cellB.cls) (hpre : ∀ U : State, U.heap = H → s.WarmedH U.vm → Pre U)
    (hn : As.length = n) (hsz : ls.size = nL) (hst : st0 = As.reverse ++ .ref o :: rest) (hW : (rest.map fun v => v.category).sum ≤ 8) (hdg : decode cc pc = .ok (.invokevirtual i, 3))
    (kk : ∀ r9 : Int64, post r9 → W p l e R s m args below meth c H locs cells slots Q (F0 m (pc + 3) ls (.long r9 :: rest))) : W p l e R s m args below meth c H locs cells slots Q (F0 m pc ls st0) :=
  vp_callSl (W.runV S hM (hw.cb S.2.2.2.2 hR.1 hR.2.1 hR.2.2) ⟨fun a U g mk q => ⟨q.1, hbl a U g mk q.2⟩, hob, fun U hU hW => ⟨rfl, hpre U hU hW⟩⟩ rfl hn hsz hst (lv_room hW) hdg hc) kk
theorem nz_eqi {x y : Int32} (h : x = y) (k : W p l e R s m args below meth c H locs cells slots Q (F0 m pc ls (.int y :: rest))) : W p l e R s m args below meth c H locs cells slots Q (F0 m pc ls (.int x :: rest)) := h ▸ k
theorem nz_eql {x y : Int64} (h : x = y) (k : W p l e R s m args below meth c H locs cells slots Q (F0 m pc ls (.long y :: rest))) : W p l e R s m args below meth c H locs cells slots Q (F0 m pc ls (.long x :: rest)) := h ▸ k
/-- a contract out of the walk of its body -/
theorem nz_of {Pc : Array Value → State → Prop} {Qc : Array Value → State → Outcome → State → Prop} {free : Addr → Prop} (hy : plainName y.cls = true) (ho : y.cls = own)
    (body : ∀ (p : Program) (e : Env) (s : State) (m : MethodId) (args : Array Value) (below : List Frame) (meth : Method) (c : Code), CallFix p m c b mL s args nzG own → meth.sig.returnType = r → meth.locks = false → meth.name = y.name → Pc args s →
      W p l e rm s m args below meth c s.heap [] 0 0 (MQ below Qc args s mc ms free) (entryFrame m args mL)) : Met l y (Cond.code y b mL r :: nzG) rm Pc Qc mc ms free := by
  refine Met.ofW (cc := b) (maxL := mL) (ret := r) hy rfl ?_
  intro p e s m args below meth c s₁ B hml hP
  exact body p e s m args below meth c ⟨B.exec, B.bytes, hml, by rw [← ho]; exact findClass_of_methodNamed B.named, fun w h => atoms_spec B.pre w (List.mem_cons_of_mem _ h)⟩ B.returns B.notSynchronized (name_of_methodNamed B.named B.method).1 hP
/-- .. of one that may throw -/
theorem nz_ofT {Pc : Array Value → State → Prop} {Qc : Array Value → State → Outcome → State → Prop} {free : Addr → Prop} {k0 n0 : Nat} (hy : plainName y.cls = true) (ho : y.cls = own)
    (body : ∀ (p : Program) (e : Env) (s : State) (m : MethodId) (args : Array Value) (below : List Frame) (meth : Method) (c : Code), CallFix p m c b mL s args nzG own → meth.sig.returnType = r → meth.locks = false → (∀ x ∈ c.exceptionTable.toList, ∀ pc, covers x pc = false) → Pc args s →
      W p l e rm s m args below meth c s.heap [] 0 0 (ny_MQ below Qc args s k0 n0 mc ms free) (entryFrame m args mL)) : ny_Met l y (Cond.code y b mL r :: nzG) rm Pc Qc k0 n0 mc ms free := by
  refine ny_ofW (cc := b) (maxL := mL) (ret := r) hy rfl ?_
  intro p e s m args below meth c s₁ B hml hno hP
  exact body p e s m args below meth c ⟨B.exec, B.bytes, hml, by rw [← ho]; exact findClass_of_methodNamed B.named, fun w h => atoms_spec B.pre w (List.mem_cons_of_mem _ h)⟩ B.returns B.notSynchronized hno hP
theorem nz_entry {vs : List Value} {lv : List (Nat × Value)} (h : (lg_sl vs).length ≤ n) (he : lv_args 0 vs = lv) (k : ∀ ls : Array Slot, lv_has ls n lv → W p l e R s m args below meth c H locs cells slots Q (F0 m 0 ls [])) : W p l e R s m args below meth c H locs cells slots Q (entryFrame m vs.toArray n) := by
  rw [lg_entry_eq]
  exact k _ (he ▸ lv_entry vs h)
end Nz
end
