section
/-- a private method of a class that the tables say can be made, by its rows of tables_1 -/
def lw_okq (q : MethodName × Nat) : Prop := (q.1.cls ≠ "java/lang/invoke/MethodHandle" ∧ q.1.cls ≠ "java/lang/invoke/VarHandle") ∧ Cond.instantiable q.1.cls q.2 ∈ tables_1 ∧ Cond.privateMethod q.1 ∈ tables_1 ∧ Cond.instanceMethod q.1 ∈ tables_1
theorem lw_p0 : lw_okq (⟨"java/lang/Throwable", "fillInStackTrace", "(I)Ljava/lang/Throwable;"⟩, 6) := ⟨⟨by decide +kernel, by decide +kernel⟩, List.mem_of_getElem? (i := 97) (by decide +kernel), List.mem_of_getElem? (i := 95) (by decide +kernel), List.mem_of_getElem? (i := 96) (by decide +kernel)⟩
theorem lw_p1 : lw_okq (⟨"NineValues", "requireElement", "(II)V"⟩, 2) := ⟨⟨by decide +kernel, by decide +kernel⟩, List.mem_of_getElem? (i := 14) (by decide +kernel), List.mem_of_getElem? (i := 161) (by decide +kernel), List.mem_of_getElem? (i := 162) (by decide +kernel)⟩
theorem lw_p2 : lw_okq (⟨"NineValues", "joinElements", "(ILNineValues$Word;LNineValues$Word;)V"⟩, 2) := ⟨⟨by decide +kernel, by decide +kernel⟩, List.mem_of_getElem? (i := 14) (by decide +kernel), List.mem_of_getElem? (i := 246) (by decide +kernel), List.mem_of_getElem? (i := 247) (by decide +kernel)⟩
theorem lw_p3 : lw_okq (⟨"NineValues", "setBehind", "(LNineValues$Word;LNineValues$Word;)V"⟩, 2) := ⟨⟨by decide +kernel, by decide +kernel⟩, List.mem_of_getElem? (i := 14) (by decide +kernel), List.mem_of_getElem? (i := 270) (by decide +kernel), List.mem_of_getElem? (i := 271) (by decide +kernel)⟩
theorem lw_p4 : lw_okq (⟨"NineValues", "calculate", "(IZLNineValues$Word;LNineValues$Word;)V"⟩, 2) := ⟨⟨by decide +kernel, by decide +kernel⟩, List.mem_of_getElem? (i := 14) (by decide +kernel), List.mem_of_getElem? (i := 278) (by decide +kernel), List.mem_of_getElem? (i := 279) (by decide +kernel)⟩
theorem lw_p5 : lw_okq (⟨"NineValues", "changeElements", "(ILNineValues$Word;)V"⟩, 2) := ⟨⟨by decide +kernel, by decide +kernel⟩, List.mem_of_getElem? (i := 14) (by decide +kernel), List.mem_of_getElem? (i := 341) (by decide +kernel), List.mem_of_getElem? (i := 342) (by decide +kernel)⟩
theorem lw_p6 : lw_okq (⟨"NineValues", "changeNumber", "(ILNineValues$Word;)V"⟩, 2) := ⟨⟨by decide +kernel, by decide +kernel⟩, List.mem_of_getElem? (i := 14) (by decide +kernel), List.mem_of_getElem? (i := 349) (by decide +kernel), List.mem_of_getElem? (i := 350) (by decide +kernel)⟩
theorem lw_p7 : lw_okq (⟨"NineValues", "turnRound", "(ILNineValues$Word;)V"⟩, 2) := ⟨⟨by decide +kernel, by decide +kernel⟩, List.mem_of_getElem? (i := 14) (by decide +kernel), List.mem_of_getElem? (i := 362) (by decide +kernel), List.mem_of_getElem? (i := 363) (by decide +kernel)⟩
theorem lw_p8 : lw_okq (⟨"NineValues", "move", "(IILNineValues$Word;)V"⟩, 2) := ⟨⟨by decide +kernel, by decide +kernel⟩, List.mem_of_getElem? (i := 14) (by decide +kernel), List.mem_of_getElem? (i := 370) (by decide +kernel), List.mem_of_getElem? (i := 371) (by decide +kernel)⟩
theorem lw_p9 : lw_okq (⟨"NineValuesModel", "keep", "(I)V"⟩, 5) := ⟨⟨by decide +kernel, by decide +kernel⟩, List.mem_of_getElem? (i := 431) (by decide +kernel), List.mem_of_getElem? (i := 464) (by decide +kernel), List.mem_of_getElem? (i := 465) (by decide +kernel)⟩
theorem lw_p10 : lw_okq (⟨"NineValuesModel", "cell", "(II)I"⟩, 5) := ⟨⟨by decide +kernel, by decide +kernel⟩, List.mem_of_getElem? (i := 431) (by decide +kernel), List.mem_of_getElem? (i := 476) (by decide +kernel), List.mem_of_getElem? (i := 477) (by decide +kernel)⟩
theorem lw_p11 : lw_okq (⟨"NineValuesModel", "bits", "(IJ)V"⟩, 5) := ⟨⟨by decide +kernel, by decide +kernel⟩, List.mem_of_getElem? (i := 431) (by decide +kernel), List.mem_of_getElem? (i := 488) (by decide +kernel), List.mem_of_getElem? (i := 489) (by decide +kernel)⟩
theorem lw_p12 : lw_okq (⟨"NineValuesModel", "clear", "(I)Z"⟩, 5) := ⟨⟨by decide +kernel, by decide +kernel⟩, List.mem_of_getElem? (i := 431) (by decide +kernel), List.mem_of_getElem? (i := 496) (by decide +kernel), List.mem_of_getElem? (i := 497) (by decide +kernel)⟩
theorem lw_p13 : lw_okq (⟨"NineValuesModel", "value", "(IZ)J"⟩, 5) := ⟨⟨by decide +kernel, by decide +kernel⟩, List.mem_of_getElem? (i := 431) (by decide +kernel), List.mem_of_getElem? (i := 509) (by decide +kernel), List.mem_of_getElem? (i := 510) (by decide +kernel)⟩
theorem lw_p14 : lw_okq (⟨"NineValuesModel", "numbers", "(IZIII)V"⟩, 5) := ⟨⟨by decide +kernel, by decide +kernel⟩, List.mem_of_getElem? (i := 431) (by decide +kernel), List.mem_of_getElem? (i := 536) (by decide +kernel), List.mem_of_getElem? (i := 537) (by decide +kernel)⟩
theorem lw_p15 : lw_okq (⟨"NineValuesModel", "divide", "(JJZ)J"⟩, 5) := ⟨⟨by decide +kernel, by decide +kernel⟩, List.mem_of_getElem? (i := 431) (by decide +kernel), List.mem_of_getElem? (i := 540) (by decide +kernel), List.mem_of_getElem? (i := 541) (by decide +kernel)⟩
def lw_privs_1 : List (MethodName × Nat) := [(⟨"java/lang/Throwable", "fillInStackTrace", "(I)Ljava/lang/Throwable;"⟩, 6), (⟨"NineValues", "requireElement", "(II)V"⟩, 2), (⟨"NineValues", "joinElements", "(ILNineValues$Word;LNineValues$Word;)V"⟩, 2), (⟨"NineValues", "setBehind", "(LNineValues$Word;LNineValues$Word;)V"⟩, 2), (⟨"NineValues", "calculate", "(IZLNineValues$Word;LNineValues$Word;)V"⟩, 2), (⟨"NineValues", "changeElements", "(ILNineValues$Word;)V"⟩, 2), (⟨"NineValues", "changeNumber", "(ILNineValues$Word;)V"⟩, 2), (⟨"NineValues", "turnRound", "(ILNineValues$Word;)V"⟩, 2), (⟨"NineValues", "move", "(IILNineValues$Word;)V"⟩, 2), (⟨"NineValuesModel", "keep", "(I)V"⟩, 5), (⟨"NineValuesModel", "cell", "(II)I"⟩, 5), (⟨"NineValuesModel", "bits", "(IJ)V"⟩, 5), (⟨"NineValuesModel", "clear", "(I)Z"⟩, 5), (⟨"NineValuesModel", "value", "(IZ)J"⟩, 5), (⟨"NineValuesModel", "numbers", "(IZIII)V"⟩, 5), (⟨"NineValuesModel", "divide", "(JJZ)J"⟩, 5)]
theorem lw_r1 : ∀ q ∈ lw_privs_1, lw_okq q := List.forall_mem_cons.mpr ⟨lw_p0, List.forall_mem_cons.mpr ⟨lw_p1, List.forall_mem_cons.mpr ⟨lw_p2, List.forall_mem_cons.mpr ⟨lw_p3, List.forall_mem_cons.mpr ⟨lw_p4, List.forall_mem_cons.mpr ⟨lw_p5, List.forall_mem_cons.mpr ⟨lw_p6, List.forall_mem_cons.mpr ⟨lw_p7, List.forall_mem_cons.mpr ⟨lw_p8, List.forall_mem_cons.mpr ⟨lw_p9, List.forall_mem_cons.mpr ⟨lw_p10, List.forall_mem_cons.mpr ⟨lw_p11, List.forall_mem_cons.mpr ⟨lw_p12, List.forall_mem_cons.mpr ⟨lw_p13, List.forall_mem_cons.mpr ⟨lw_p14, List.forall_mem_cons.mpr ⟨lw_p15, fun _ h => absurd h List.not_mem_nil⟩⟩⟩⟩⟩⟩⟩⟩⟩⟩⟩⟩⟩⟩⟩⟩
theorem lw_p16 : lw_okq (⟨"NineValuesModel", "bit", "(IIZ)I"⟩, 5) := ⟨⟨by decide +kernel, by decide +kernel⟩, List.mem_of_getElem? (i := 431) (by decide +kernel), List.mem_of_getElem? (i := 568) (by decide +kernel), List.mem_of_getElem? (i := 569) (by decide +kernel)⟩
def lw_privs_2 : List (MethodName × Nat) := [(⟨"NineValuesModel", "bit", "(IIZ)I"⟩, 5)]
theorem lw_r2 : ∀ q ∈ lw_privs_2, lw_okq q := List.forall_mem_cons.mpr ⟨lw_p16, fun _ h => absurd h List.not_mem_nil⟩
def lw_privs : List (MethodName × Nat) := lw_privs_1 ++ (lw_privs_2)
def lw_tbl : List Cond := k2_sels lw_privs ++ tables_1
theorem lw_privs_ok : ∀ q ∈ lw_privs, lw_okq q := by
  show ∀ q ∈ lw_privs_1 ++ (lw_privs_2), lw_okq q
  exact List.forall_mem_append.mpr ⟨lw_r1, lw_r2⟩
def RI : String := "NineValues$Wire"
abbrev bWire_isLow : ByteArray := prog_2_method_2_code
def yWire_isLow : MethodName := ⟨RI, "isLow", "(I)Z"⟩
abbrev bWire_isHigh : ByteArray := prog_2_method_3_code
def yWire_isHigh : MethodName := ⟨RI, "isHigh", "(I)Z"⟩
abbrev bWire_isClear : ByteArray := prog_2_method_4_code
def yWire_isClear : MethodName := ⟨RI, "isClear", "(I)Z"⟩
abbrev bWire_join : ByteArray := prog_2_method_5_code
def yWire_join : MethodName := ⟨RI, "join", "(III)I"⟩
abbrev bWire_drive : ByteArray := prog_2_method_6_code
def yWire_drive : MethodName := ⟨RI, "drive", "(II)I"⟩
abbrev bWire_and : ByteArray := prog_2_method_7_code
def yWire_and : MethodName := ⟨RI, "and", "(II)I"⟩
abbrev bWire_or : ByteArray := prog_2_method_8_code
def yWire_or : MethodName := ⟨RI, "or", "(II)I"⟩
abbrev bWire_xor : ByteArray := prog_2_method_9_code
def yWire_xor : MethodName := ⟨RI, "xor", "(II)I"⟩
abbrev bWire_not : ByteArray := prog_2_method_10_code
def yWire_not : MethodName := ⟨RI, "not", "(I)I"⟩
abbrev bWire_strip : ByteArray := prog_2_method_11_code
def yWire_strip : MethodName := ⟨RI, "strip", "(II)I"⟩
abbrev bWire_goTogether : ByteArray := prog_2_method_12_code
def yWire_goTogether : MethodName := ⟨RI, "goTogether", "(II)Z"⟩
def RW : String := "NineValues$Word"
abbrev bWord_init : ByteArray := prog_3_method_1_code
def yWord_init : MethodName := ⟨RW, "<init>", "()V"⟩
abbrev bWord_become : ByteArray := prog_3_method_2_code
def yWord_become : MethodName := ⟨RW, "become", "(II)V"⟩
abbrev bWord_hold : ByteArray := prog_3_method_3_code
def yWord_hold : MethodName := ⟨RW, "hold", "(IJ)V"⟩
abbrev bWord_copy : ByteArray := prog_3_method_4_code
def yWord_copy : MethodName := ⟨RW, "copy", "(LNineValues$Word;)V"⟩
abbrev bWord_lay : ByteArray := prog_3_method_5_code
def yWord_lay : MethodName := ⟨RW, "lay", "(LNineValues$Word;III)V"⟩
abbrev bWord_last : ByteArray := prog_3_method_6_code
def yWord_last : MethodName := ⟨RW, "last", "()I"⟩
abbrev bWord_isClear : ByteArray := prog_3_method_7_code
def yWord_isClear : MethodName := ⟨RW, "isClear", "()Z"⟩
abbrev bWord_counts : ByteArray := prog_3_method_8_code
def yWord_counts : MethodName := ⟨RW, "counts", "()Z"⟩
abbrev bWord_asLong : ByteArray := prog_3_method_9_code
def yWord_asLong : MethodName := ⟨RW, "asLong", "(Z)J"⟩
abbrev bWord_joined : ByteArray := prog_3_method_10_code
def yWord_joined : MethodName := ⟨RW, "joined", "(II)I"⟩
def RN : String := "NineValues"
abbrev bN_init : ByteArray := prog_1_method_1_code
def yN_init : MethodName := ⟨RN, "<init>", "()V"⟩
abbrev bN_fill : ByteArray := prog_1_method_2_code
def yN_fill : MethodName := ⟨RN, "fill", "(III)V"⟩
abbrev bN_put : ByteArray := prog_1_method_3_code
def yN_put : MethodName := ⟨RN, "put", "(III)V"⟩
abbrev bN_get : ByteArray := prog_1_method_4_code
def yN_get : MethodName := ⟨RN, "get", "(II)I"⟩
abbrev bN_length : ByteArray := prog_1_method_5_code
def yN_length : MethodName := ⟨RN, "length", "(I)I"⟩
abbrev bN_number : ByteArray := prog_1_method_6_code
def yN_number : MethodName := ⟨RN, "number", "(IIJ)V"⟩
abbrev bN_numberOf : ByteArray := prog_1_method_7_code
def yN_numberOf : MethodName := ⟨RN, "numberOf", "(IZ)J"⟩
abbrev bN_operate : ByteArray := prog_1_method_8_code
def yN_operate : MethodName := ⟨RN, "operate", "(IZIII)V"⟩
abbrev bN_change : ByteArray := prog_1_method_9_code
def yN_change : MethodName := ⟨RN, "change", "(III)V"⟩
abbrev bN_shift : ByteArray := prog_1_method_10_code
def yN_shift : MethodName := ⟨RN, "shift", "(IIIII)V"⟩
abbrev bN_bring : ByteArray := prog_1_method_11_code
def yN_bring : MethodName := ⟨RN, "bring", "(ZIII)V"⟩
abbrev bN_cut : ByteArray := prog_1_method_12_code
def yN_cut : MethodName := ⟨RN, "cut", "(IIII)V"⟩
abbrev bN_compare : ByteArray := prog_1_method_13_code
def yN_compare : MethodName := ⟨RN, "compare", "(ZII)I"⟩
abbrev bN_same : ByteArray := prog_1_method_14_code
def yN_same : MethodName := ⟨RN, "same", "(ZII)Z"⟩
abbrev bN_all : ByteArray := prog_1_method_15_code
def yN_all : MethodName := ⟨RN, "all", "(II)I"⟩
abbrev bN_edge : ByteArray := prog_1_method_16_code
def yN_edge : MethodName := ⟨RN, "edge", "(II)I"⟩
abbrev bN_requirePlace : ByteArray := prog_1_method_17_code
def yN_requirePlace : MethodName := ⟨RN, "requirePlace", "(I)V"⟩
abbrev bN_requireElement : ByteArray := prog_1_method_18_code
def yN_requireElement : MethodName := ⟨RN, "requireElement", "(II)V"⟩
abbrev bN_requireLength : ByteArray := prog_1_method_19_code
def yN_requireLength : MethodName := ⟨RN, "requireLength", "(I)V"⟩
abbrev bN_requireValue : ByteArray := prog_1_method_20_code
def yN_requireValue : MethodName := ⟨RN, "requireValue", "(I)V"⟩
abbrev bN_joinElements : ByteArray := prog_1_method_21_code
def yN_joinElements : MethodName := ⟨RN, "joinElements", "(ILNineValues$Word;LNineValues$Word;)V"⟩
abbrev bN_setBehind : ByteArray := prog_1_method_22_code
def yN_setBehind : MethodName := ⟨RN, "setBehind", "(LNineValues$Word;LNineValues$Word;)V"⟩
abbrev bN_calculate : ByteArray := prog_1_method_23_code
def yN_calculate : MethodName := ⟨RN, "calculate", "(IZLNineValues$Word;LNineValues$Word;)V"⟩
abbrev bN_lengthOfResult : ByteArray := prog_1_method_24_code
def yN_lengthOfResult : MethodName := ⟨RN, "lengthOfResult", "(III)I"⟩
abbrev bN_sumOrProduct : ByteArray := prog_1_method_25_code
def yN_sumOrProduct : MethodName := ⟨RN, "sumOrProduct", "(IJJ)J"⟩
abbrev bN_divideSigned : ByteArray := prog_1_method_26_code
def yN_divideSigned : MethodName := ⟨RN, "divideSigned", "(IJJ)J"⟩
abbrev bN_divideUnsigned : ByteArray := prog_1_method_27_code
def yN_divideUnsigned : MethodName := ⟨RN, "divideUnsigned", "(IJJ)J"⟩
abbrev bN_quotientUnsigned : ByteArray := prog_1_method_28_code
def yN_quotientUnsigned : MethodName := ⟨RN, "quotientUnsigned", "(JJ)J"⟩
abbrev bN_isBelowUnsigned : ByteArray := prog_1_method_29_code
def yN_isBelowUnsigned : MethodName := ⟨RN, "isBelowUnsigned", "(JJ)Z"⟩
abbrev bN_changeElements : ByteArray := prog_1_method_30_code
def yN_changeElements : MethodName := ⟨RN, "changeElements", "(ILNineValues$Word;)V"⟩
abbrev bN_changeNumber : ByteArray := prog_1_method_31_code
def yN_changeNumber : MethodName := ⟨RN, "changeNumber", "(ILNineValues$Word;)V"⟩
abbrev bN_move : ByteArray := prog_1_method_32_code
def yN_move : MethodName := ⟨RN, "move", "(IILNineValues$Word;)V"⟩
abbrev bN_turnRound : ByteArray := prog_1_method_33_code
def yN_turnRound : MethodName := ⟨RN, "turnRound", "(ILNineValues$Word;)V"⟩
def RM : String := "NineValuesModel"
abbrev bMo_init : ByteArray := prog_5_method_1_code
def yMo_init : MethodName := ⟨RM, "<init>", "()V"⟩
abbrev bMo_thrown : ByteArray := prog_5_method_2_code
def yMo_thrown : MethodName := ⟨RM, "thrown", "()I"⟩
abbrev bMo_none : ByteArray := prog_5_method_3_code
def yMo_none : MethodName := ⟨RM, "none", "(I)Z"⟩
abbrev bMo_isLow : ByteArray := prog_5_method_4_code
def yMo_isLow : MethodName := ⟨RM, "isLow", "(I)Z"⟩
abbrev bMo_isHigh : ByteArray := prog_5_method_5_code
def yMo_isHigh : MethodName := ⟨RM, "isHigh", "(I)Z"⟩
abbrev bMo_isClear : ByteArray := prog_5_method_6_code
def yMo_isClear : MethodName := ⟨RM, "isClear", "(I)Z"⟩
abbrev bMo_cell : ByteArray := prog_5_method_7_code
def yMo_cell : MethodName := ⟨RM, "cell", "(II)I"⟩
abbrev bMo_keep : ByteArray := prog_5_method_8_code
def yMo_keep : MethodName := ⟨RM, "keep", "(I)V"⟩
abbrev bMo_fill : ByteArray := prog_5_method_9_code
def yMo_fill : MethodName := ⟨RM, "fill", "(III)V"⟩
abbrev bMo_put : ByteArray := prog_5_method_10_code
def yMo_put : MethodName := ⟨RM, "put", "(III)V"⟩
abbrev bMo_get : ByteArray := prog_5_method_11_code
def yMo_get : MethodName := ⟨RM, "get", "(II)I"⟩
abbrev bMo_length : ByteArray := prog_5_method_12_code
def yMo_length : MethodName := ⟨RM, "length", "(I)I"⟩
abbrev bMo_bits : ByteArray := prog_5_method_13_code
def yMo_bits : MethodName := ⟨RM, "bits", "(IJ)V"⟩
abbrev bMo_number : ByteArray := prog_5_method_14_code
def yMo_number : MethodName := ⟨RM, "number", "(IIJ)V"⟩
abbrev bMo_clear : ByteArray := prog_5_method_15_code
def yMo_clear : MethodName := ⟨RM, "clear", "(I)Z"⟩
abbrev bMo_value : ByteArray := prog_5_method_16_code
def yMo_value : MethodName := ⟨RM, "value", "(IZ)J"⟩
abbrev bMo_numberOf : ByteArray := prog_5_method_17_code
def yMo_numberOf : MethodName := ⟨RM, "numberOf", "(IZ)J"⟩
abbrev bMo_together : ByteArray := prog_5_method_18_code
def yMo_together : MethodName := ⟨RM, "together", "(II)I"⟩
abbrev bMo_and : ByteArray := prog_5_method_19_code
def yMo_and : MethodName := ⟨RM, "and", "(II)I"⟩
abbrev bMo_or : ByteArray := prog_5_method_20_code
def yMo_or : MethodName := ⟨RM, "or", "(II)I"⟩
abbrev bMo_xor : ByteArray := prog_5_method_21_code
def yMo_xor : MethodName := ⟨RM, "xor", "(II)I"⟩
abbrev bMo_not : ByteArray := prog_5_method_22_code
def yMo_not : MethodName := ⟨RM, "not", "(I)I"⟩
abbrev bMo_strip : ByteArray := prog_5_method_23_code
def yMo_strip : MethodName := ⟨RM, "strip", "(II)I"⟩
abbrev bMo_byTable : ByteArray := prog_5_method_24_code
def yMo_byTable : MethodName := ⟨RM, "byTable", "(III)I"⟩
abbrev bMo_divide : ByteArray := prog_5_method_25_code
def yMo_divide : MethodName := ⟨RM, "divide", "(JJZ)J"⟩
abbrev bMo_numbers : ByteArray := prog_5_method_26_code
def yMo_numbers : MethodName := ⟨RM, "numbers", "(IZIII)V"⟩
abbrev bMo_operate : ByteArray := prog_5_method_27_code
def yMo_operate : MethodName := ⟨RM, "operate", "(IZIII)V"⟩
abbrev bMo_change : ByteArray := prog_5_method_28_code
def yMo_change : MethodName := ⟨RM, "change", "(III)V"⟩
abbrev bMo_shift : ByteArray := prog_5_method_29_code
def yMo_shift : MethodName := ⟨RM, "shift", "(IIIII)V"⟩
abbrev bMo_bring : ByteArray := prog_5_method_30_code
def yMo_bring : MethodName := ⟨RM, "bring", "(ZIII)V"⟩
abbrev bMo_cut : ByteArray := prog_5_method_31_code
def yMo_cut : MethodName := ⟨RM, "cut", "(IIII)V"⟩
abbrev bMo_bit : ByteArray := prog_5_method_32_code
def yMo_bit : MethodName := ⟨RM, "bit", "(IIZ)I"⟩
abbrev bMo_compare : ByteArray := prog_5_method_33_code
def yMo_compare : MethodName := ⟨RM, "compare", "(ZII)I"⟩
abbrev bMo_goes : ByteArray := prog_5_method_34_code
def yMo_goes : MethodName := ⟨RM, "goes", "(II)Z"⟩
abbrev bMo_same : ByteArray := prog_5_method_35_code
def yMo_same : MethodName := ⟨RM, "same", "(ZII)Z"⟩
abbrev bMo_all : ByteArray := prog_5_method_36_code
def yMo_all : MethodName := ⟨RM, "all", "(II)I"⟩
abbrev bMo_edge : ByteArray := prog_5_method_37_code
def yMo_edge : MethodName := ⟨RM, "edge", "(II)I"⟩
def RL : String := "NineValuesLaw"
abbrev bL_fill : ByteArray := method_3_code
def yL_fill : MethodName := ⟨RL, "fill", "(LNineValues;III)I"⟩
abbrev bL_put : ByteArray := method_4_code
def yL_put : MethodName := ⟨RL, "put", "(LNineValues;III)I"⟩
abbrev bL_get : ByteArray := method_5_code
def yL_get : MethodName := ⟨RL, "get", "(LNineValues;II[J)I"⟩
abbrev bL_length : ByteArray := method_6_code
def yL_length : MethodName := ⟨RL, "length", "(LNineValues;I[J)I"⟩
abbrev bL_number : ByteArray := method_7_code
def yL_number : MethodName := ⟨RL, "number", "(LNineValues;IIJ)I"⟩
abbrev bL_numberOf : ByteArray := method_8_code
def yL_numberOf : MethodName := ⟨RL, "numberOf", "(LNineValues;IZ[J)I"⟩
abbrev bL_operate : ByteArray := method_9_code
def yL_operate : MethodName := ⟨RL, "operate", "(LNineValues;IZIII)I"⟩
abbrev bL_change : ByteArray := method_10_code
def yL_change : MethodName := ⟨RL, "change", "(LNineValues;III)I"⟩
abbrev bL_shift : ByteArray := method_11_code
def yL_shift : MethodName := ⟨RL, "shift", "(LNineValues;IIIII)I"⟩
abbrev bL_bring : ByteArray := method_12_code
def yL_bring : MethodName := ⟨RL, "bring", "(LNineValues;ZIII)I"⟩
abbrev bL_cut : ByteArray := method_13_code
def yL_cut : MethodName := ⟨RL, "cut", "(LNineValues;IIII)I"⟩
abbrev bL_compare : ByteArray := method_14_code
def yL_compare : MethodName := ⟨RL, "compare", "(LNineValues;ZII[J)I"⟩
abbrev bL_same : ByteArray := method_15_code
def yL_same : MethodName := ⟨RL, "same", "(LNineValues;ZII[J)I"⟩
abbrev bL_all : ByteArray := method_16_code
def yL_all : MethodName := ⟨RL, "all", "(LNineValues;II[J)I"⟩
abbrev bL_edge : ByteArray := method_17_code
def yL_edge : MethodName := ⟨RL, "edge", "(LNineValues;II[J)I"⟩
abbrev bL_law : ByteArray := code
def yL_law : MethodName := ⟨RL, "law", "([I)Z"⟩
def FW : u_T := fun k => match k with
  | 0 => ("NineValues$Word", "size", "I", false)
  | _ => ("NineValues$Word", "elements", "[I", true)
def tyW : Nat → FieldType := fun k => match k with
  | 0 => .int
  | _ => .array .int
def FN : u_T := fun k => match k with
  | 0 => ("NineValues", "places", "[LNineValues$Word;", true)
  | _ => ("NineValues", "answer", "LNineValues$Word;", true)
def tyN : Nat → FieldType := fun k => match k with
  | 0 => .array (.object "NineValues$Word")
  | _ => .object "NineValues$Word"
def FM : u_T := fun k => match k with
  | 0 => ("NineValuesModel", "code", "I", false)
  | 1 => ("NineValuesModel", "cells", "[I", true)
  | 2 => ("NineValuesModel", "lengths", "[I", true)
  | 3 => ("NineValuesModel", "out", "[I", true)
  | _ => ("NineValuesModel", "count", "I", false)
def tyM : Nat → FieldType := fun k => match k with
  | 0 => .int
  | 1 => .array .int
  | 2 => .array .int
  | 3 => .array .int
  | _ => .int
theorem nmW : ∀ a, a < 2 → ∀ b, b < 2 → a ≠ b → (FW a).2.1 ≠ (FW b).2.1 := by decide +kernel
theorem tyW_ok : ∀ k, k < 2 → parseFieldDescriptor (FW k).2.2.1 = some (tyW k) := by decide +kernel
theorem nmN : ∀ a, a < 2 → ∀ b, b < 2 → a ≠ b → (FN a).2.1 ≠ (FN b).2.1 := by decide +kernel
theorem tyN_ok : ∀ k, k < 2 → parseFieldDescriptor (FN k).2.2.1 = some (tyN k) := by decide +kernel
theorem nmM : ∀ a, a < 5 → ∀ b, b < 5 → a ≠ b → (FM a).2.1 ≠ (FM b).2.1 := by decide +kernel
theorem tyM_ok : ∀ k, k < 5 → parseFieldDescriptor (FM k).2.2.1 = some (tyM k) := by decide +kernel
abbrev vwCl : List vw_C := [(RW, FW, 2), (RN, FN, 2), (RM, FM, 5)]
abbrev ciW : Nat := 0
abbrev ciN : Nat := 1
abbrev ciM : Nat := 2
abbrev nmHost : String := "NineValues"
abbrev bJ_floorMod : ByteArray := prog_11_method_50_code
def yJ_floorMod : MethodName := ⟨"java/lang/Math", "floorMod", "(II)I"⟩
abbrev bJ_floorModL : ByteArray := prog_11_method_52_code
def yJ_floorModL : MethodName := ⟨"java/lang/Math", "floorMod", "(JJ)J"⟩
end
section
/-! ===== what a method of ours leaves behind when it may throw; calls of such methods; catching; throwing ===== -/
section NyA
/-- what has moved since the method's start, however it ended -/
def ny_End (st t : State) (L : List Loc) (k n : Nat) : Prop := st.WarmedH t.vm ∧ st.sameButNew ({ t with vm := st.vm } : State) L k n
/-- its cells and slots: where it returns, k0 and n0 at most; where it throws, k1 and n1 -/
def ny_mk (k0 k1 : Nat) : Outcome → Nat
  | .returned _ => k0
  | .threw _ => k1
/-- a contract of a method that returns or throws: Qc speaks of either outcome -/
def ny_Met (l : Launch) (y : MethodName) (ws : List Cond) (rm : Room) (Pc : Array Value → State → Prop) (Qc : Array Value → State → Outcome → State → Prop) (k0 n0 k1 n1 : Nat) (free : Addr → Prop) : Prop :=
  MetFree l y (headSpec ws rm) Pc (fun _ _ _ _ _ => True) (fun a st o t => Qc a st o t ∧ ∃ L, ny_End st t L (ny_mk k0 k1 o) (ny_mk n0 n1 o) ∧ ∀ q ∈ L, free q.base)
/-- the caller's frame behind the callee's end: the answer on its stack, or the thrown object over it -/
def ny_on (U : State) (g : JFrame) (len : Nat) : Outcome → State
  | .returned v => U.setTop { g with pc := g.pc + len, stack := v.toList ++ g.stack }
  | .threw q => (U.setTop g).pushFrame (.throwing q)
section NyB
variable {l : Launch} {R : Room} {p : Program} {e : Env} {below : List Frame} {s : State} {sargs : Array Value} {y : MethodName} {len W9 : Nat}
theorem ny_back {ws : List Cond} {rm : Room} {Pc : Array Value → State → Prop} {Qc : Array Value → State → Outcome → State → Prop} {k0 n0 mc ms maxL : Nat} {free : Addr → Prop}
    (hM : ny_Met l y ws rm Pc Qc k0 n0 mc ms free) (hblind : FrameBlind Pc) (hrc : rm.cells = mc) (hrs : rm.slots = ms) (hframes : rm.frames + 1 ≤ R.frames) (hlocals : W9 + (maxL + 11) + rm.locals ≤ R.locals)
    (hws : ∀ w ∈ ws, ∀ (a' : Array Value) (U : State), s.WarmedH U.vm → w.before a' U = true) (hini : ∀ (a' : Array Value) (U : State), s.WarmedH U.vm → (Cond.initialized y.cls).before a' U = true)
    {m : MethodId} {meth : Method} {c : Code} {T : State} {locs : List Loc} {cells slots : Nat} (X : Stand p l e R s m sargs below meth c T locs cells slots)
    {g : JFrame} {ig : Instr} {mk : MethodId} {a : Array Value} (hg : g.method = m) (hsize : g.locals.size = c.maxLocals) (hdg : decode c.code g.pc = .ok (ig, len))
    (hW : 2 * g.monitorRoom + (g.stack.map fun v => v.category).sum ≤ W9) (hn : T.methodNamed? y = some mk)
    (hcd : ∃ (methY : Method) (cY : Code), T.vm.method? mk = some methY ∧ methY.code = some cY ∧ cY.maxLocals = maxL)
    (hc : cells + mc ≤ R.cells) (hs : slots + ms ≤ R.slots) (hP : Pc a T) :
    ∃ (o : Outcome) (t T' : State) (L : List Loc), T'.heap = t.heap ∧ T'.vm = t.vm ∧ Stand p l e R s m sargs below meth c T' (locs ++ L) (cells + ny_mk k0 mc o) (slots + ny_mk n0 ms o) ∧ (∀ q ∈ L, free q.base) ∧ Qc a (T.calling g mk a) o t ∧
      Steps p.tables e below (doInvoke e (T.setTop g) [] mk a).1 (ny_on T' g len o) := by
  have h1 : (headSpec ws rm).pre.before a T = true := atoms_intro fun w hw => hws w hw _ _ X.warmed
  obtain ⟨methY, cY, hmY, hcY, hlY⟩ := hcd
  obtain ⟨kY, hkY, -⟩ := className_of_methodNamed hn
  have hinitY : kY.init = .initialized := Cond.initialized_spec (findClass_of_methodNamed hn) hkY (hini a T X.warmed)
  have h : At T g.method c below := by rw [hg]; exact X.here
  have hr1 : (headSpec ws rm).room.frames + 1 ≤ R.frames := hframes
  have hr2 : 2 * g.monitorRoom + (g.stack.map fun v => v.category).sum + (cY.maxLocals + 11) + (headSpec ws rm).room.locals ≤ R.locals := by
    have h9 : (headSpec ws rm).room.locals = rm.locals := rfl
    rw [hlY, h9]; omega
  have hr3 : cells + (headSpec ws rm).room.cells ≤ R.cells := by
    have h9 : (headSpec ws rm).room.cells = rm.cells := rfl
    rw [h9, hrc]; exact hc
  have hr4 : slots + (headSpec ws rm).room.slots ≤ R.slots := by
    have h9 : (headSpec ws rm).room.slots = rm.slots := rfl
    rw [h9, hrs]; exact hs
  have happ : (headSpec ws rm).appliesLoose y e.platform (T.calling g mk a) = true :=
    Spec.appliesLoose_calling (g := g) h hdg hn hkY hinitY (X.room_calling (g := g) (R' := (headSpec ws rm).room) hsize hmY hcY hr1 hr2 hr3 hr4) h1
  obtain ⟨mid, hmid⟩ := h.above
  have hfr : (T.setTop g).frames = (.java g :: mid) ++ below := by rw [State.frames_setTop' g h.top, hmid]; rfl
  obtain ⟨o, t, hsteps, -, hend, hq⟩ := Steps.callFree hM p X.admits X.cas X.clock (acts := []) hfr happ (hblind _ _ _ _ hP) trivial
  have hq' : Qc a (T.calling g mk a) o t ∧ ∃ L, ny_End (T.calling g mk a) t L (ny_mk k0 mc o) (ny_mk n0 ms o) ∧ ∀ q ∈ L, free q.base := hq
  obtain ⟨hqc, L, ⟨hWt, hsm⟩, hL⟩ := hq'
  rw [State.frames_setTop' g h.top] at hend
  obtain ⟨g₀, hg0⟩ := Option.isSome_iff_exists.mp h.top
  obtain ⟨r, hr⟩ := State.topJava?_eq_some.mp hg0
  have hr' : (({ T with heap := t.heap, slotsUsed := t.slotsUsed } : State).setVm t.vm).frames = .java g₀ :: r := hr
  obtain ⟨e2, q2, q3, q4, q5, q6⟩ := id hsm
  have e3 : t = ({ (T.calling g mk a).setFrames t.frames with heap := t.heap, slotsUsed := t.slotsUsed } : State).setVm t.vm := by
    have h9 : t = ({ t with vm := (T.calling g mk a).vm } : State).setVm t.vm := rfl
    rw [e2] at h9
    exact h9
  have hW' : T.WarmedH t.vm := hWt
  have hsame : T.sameButNew ({ T with heap := t.heap, slotsUsed := t.slotsUsed } : State) L (ny_mk k0 mc o) (ny_mk n0 ms o) := by
    refine ⟨?_, q2, q3, q4, q5, q6⟩
    obtain ⟨t9, ht9, -⟩ := State.frames_cons hr
    show ({ T with heap := t.heap, slotsUsed := t.slotsUsed } : State) = { T.setFrames T.frames with heap := t.heap, slotsUsed := t.slotsUsed }
    rw [State.setFrames_self ht9]
  subst hg
  refine ⟨o, t, ({ T with heap := t.heap, slotsUsed := t.slotsUsed } : State).setVm t.vm, L, rfl, rfl,
    ⟨X.admits, X.cas, X.clock, X.frames, X.room, X.hears, X.method, X.code, (X.here.setHeapUsed t.heap t.slotsUsed).setVm hW'.alike, X.tail, State.WarmedH.trans X.warmed hW', X.limits, X.bytes, X.same.trans (hsame.setVm s.vm)⟩, hL, hqc, ?_⟩
  cases o with
  | returned v =>
    obtain ⟨c₂, i₂, len₂, hc₂, hd₂, hf₂⟩ := hend
    have hcc : c₂ = c := by
      have h9 : t.code? g.method = T.code? g.method := by rw [State.code?_eq, State.code?_eq, hW'.alike.method?]
      exact Option.some.inj (hc₂.symm.trans (h9.trans h.code))
    subst hcc
    have hlen : len₂ = len := by rw [hdg] at hd₂; cases hd₂; rfl
    subst hlen
    have hs₂ : t = (({ T with heap := t.heap, slotsUsed := t.slotsUsed } : State).setVm t.vm).setTop { g with pc := g.pc + len₂, stack := v.toList ++ g.stack } := by
      refine e3.trans ?_
      rw [hf₂, State.calling_eq h.top, State.setFrames_setFrames, State.setTop_of_frames _ hr', hr]
      rfl
    show Steps p.tables e below _ ((({ T with heap := t.heap, slotsUsed := t.slotsUsed } : State).setVm t.vm).setTop { g with pc := g.pc + len₂, stack := v.toList ++ g.stack })
    rw [← hs₂]
    exact hsteps
  | threw q =>
    have hf₂ : t.frames = .throwing q :: .java g :: T.frames.tail := hend
    have hs₂ : t = ((({ T with heap := t.heap, slotsUsed := t.slotsUsed } : State).setVm t.vm).setTop g).pushFrame (.throwing q) := by
      refine e3.trans ?_
      rw [hf₂, State.calling_eq h.top, State.setFrames_setFrames, State.pushFrame, State.frames_setTop _ hr', State.setTop_of_frames _ hr', State.setFrames_setFrames, hr]
      rfl
    show Steps p.tables e below _ (((({ T with heap := t.heap, slotsUsed := t.slotsUsed } : State).setVm t.vm).setTop g).pushFrame (.throwing q))
    rw [← hs₂]
    exact hsteps
end NyB
/-- the method's frame g with q thrown over it -/
def ny_W (p : Program) (l : Launch) (e : Env) (R : Room) (s : State) (m : MethodId) (args : Array Value) (below : List Frame) (meth : Method) (c : Code) (H : Heap) (locs : List Loc) (cells slots : Nat) (Q : State → Prop) (g : JFrame) (q : Addr) : Prop :=
  ∀ T : State, T.heap = H → Stand p l e R s m args below meth c T locs cells slots → ∃ t, Steps p.tables e below ((T.setTop g).pushFrame (.throwing q)) t ∧ Q t
/-- a call of a method that returns or throws -/
def ny_Run (p : Program) (l : Launch) (e : Env) (R : Room) (s : State) (m : MethodId) (args : Array Value) (below : List Frame) (meth : Method) (c : Code) (H : Heap) (locs : List Loc) (cells slots k0 n0 mc ms : Nat) (g : JFrame) (rest : List Value) (Qa : State → Outcome → State → Prop) (free : Addr → Prop) : Prop :=
  ∀ T : State, T.heap = H → Stand p l e R s m args below meth c T locs cells slots → ∃ (o : Outcome) (st₀ t T' : State) (L : List Loc), st₀.heap = H ∧ s.WarmedH st₀.vm ∧ Stand p l e R s m args below meth c T' (locs ++ L) (cells + ny_mk k0 mc o) (slots + ny_mk n0 ms o) ∧ (∀ q ∈ L, free q.base) ∧ T'.heap = t.heap ∧ T'.vm = t.vm ∧ Qa st₀ o t ∧
    ∀ target, Steps p.tables e below (ny_on T' { g with stack := rest } 3 o) target → Steps p.tables e below (T.setTop g) target
section NyC
variable {p : Program} {l : Launch} {e : Env} {R : Room} {s : State} {m : MethodId} {args : Array Value} {below : List Frame} {meth : Method} {c : Code} {H : Heap} {locs : List Loc} {cells slots : Nat}
variable {y : MethodName} {bytes cc : ByteArray} {maxL nL k0 n0 mc ms n index : Nat} {ret : Option FieldType} {ws : List Cond} {rm : Room} {Pc : Array Value → State → Prop} {Qc : Array Value → State → Outcome → State → Prop} {free : Addr → Prop} {Ts : List Cond} {own C : String} {b : Addr} {As rest : List Value} {g : JFrame}
theorem ny_runV (S : CallFix p m c cc nL s args Ts own) (hM : ny_Met l y ws rm Pc Qc k0 n0 mc ms free) (cw : CallW R s args own C index y bytes maxL ret ws rm mc ms n) (hp : PreV s H C b Pc As)
    (hg : g.method = m) (hn : As.length = n) (hsize : g.locals.size = nL) (hstack : g.stack = As.reverse ++ .ref b :: rest) (hW : 2 * g.monitorRoom + (rest.map fun v => v.category).sum ≤ 8) (hdg : decode cc g.pc = .ok (.invokevirtual index, 3)) (hf : cells + mc ≤ R.cells ∧ slots + ms ≤ R.slots) :
    ny_Run p l e R s m args below meth c H locs cells slots k0 n0 mc ms g rest (Qc (Value.ref b :: As).toArray) free := by
  obtain ⟨⟨hrc, hrs, hfr, hlo, hws, hcw, hcode, hini, hy, hlen, hl⟩, hinst, hsel⟩ := cw
  obtain ⟨hx, hb, hml, hown, -⟩ := S
  obtain ⟨hbl, ⟨cellB, hcB, hoB, hclB⟩, hPc⟩ := hp
  intro T hT X
  obtain ⟨mk, methM, hnamed, hmethM, hstM, habM⟩ := Cond.instanceMethod_spec hinst
  obtain ⟨methM', cM, hmethM', hcM, -, hlM, -, -, -, hsigM⟩ := Cond.code_spec hnamed hcode
  cases hmethM.symm.trans hmethM'
  obtain ⟨c2, r2, m2, q1, q2, q3, q4, kP, hkP, hkPi⟩ := Cond.selects_spec hsel
  cases hclB.symm.trans q1
  cases (State.methodFound?_of_named hnamed hy).symm.trans q2
  cases hnamed.symm.trans q3
  have hselP : selectMethod e.platform s.vm cellB.cls mk = .method mk := by rw [Launch.admits_selectMethod X.admits]; exact q4
  obtain ⟨vm₁, X₁, hstep₁⟩ := X.invokevirtual hx hown hl hnamed hmethM hstM hkP hkPi hy (a := b) (cell := cellB) (by rw [hT]; exact hcB)
    (fun z h => by rw [h] at hoB; cases hoB) hselP hmethM habM hkP hkPi (g := g) hg (argsL := As) (rest := rest) (hn.trans (hlen _ hsigM)) hstack (by rw [hb]; exact hdg)
  have hcd : ∃ (methY : Method) (cY : Code), (T.setVm vm₁).vm.method? mk = some methY ∧ methY.code = some cY ∧ cY.maxLocals = maxL := ⟨methM, cM, by rw [X₁.warmed.alike.method?]; exact hmethM, hcM, hlM⟩
  obtain ⟨o, t, T', L, e1, e2, X', hL, hq, hst⟩ := ny_back (g := { g with stack := rest }) (ig := .invokevirtual index) (len := 3) (W9 := 8) hM hbl hrc hrs hfr hlo hws (fun a' U hW => word_at hW (Or.inl (by first | rfl | simp [Cond.onTables, Cond.keeps, Cond.steady])) hini)
    X₁ hg (hsize.trans hml.symm) (by rw [hb]; exact hdg) hW (X₁.named hnamed) hcd hf.1 hf.2 (hPc (T.setVm vm₁) hT X₁.warmed)
  exact ⟨o, (T.setVm vm₁).calling { g with stack := rest } mk (Value.ref b :: As).toArray, t, T', L, hT, X₁.warmed, X', hL, e1, e2, hq, fun target h => hstep₁ _ fun acts => by rw [doInvoke_state]; exact hst.trans h⟩
theorem ny_runS (S : CallFix p m c cc nL s args Ts own) (hM : ny_Met l y ws rm Pc Qc k0 n0 mc ms free) (cw : CallB R s args own index y bytes maxL ret ws rm mc ms n ∧ (Cond.static y).before args s = true) (hp : PreS s H Pc As)
    (hg : g.method = m) (hn : As.length = n) (hsize : g.locals.size = nL) (hstack : g.stack = As.reverse ++ rest) (hW : 2 * g.monitorRoom + (rest.map fun v => v.category).sum ≤ 8) (hdg : decode cc g.pc = .ok (.invokestatic index, 3)) (hf : cells + mc ≤ R.cells ∧ slots + ms ≤ R.slots) :
    ny_Run p l e R s m args below meth c H locs cells slots k0 n0 mc ms g rest (Qc As.toArray) free := by
  obtain ⟨⟨hrc, hrs, hfr, hlo, hws, hcw, hcode, hini, hy, hlen, hl⟩, hstt⟩ := cw
  obtain ⟨hx, hb, hml, hown, -⟩ := S
  intro T hT X
  obtain ⟨mk, hnamed⟩ := Cond.code_named hcode
  obtain ⟨methM, cM, hmethM, hcM, -, hlM, -, -, -, hsigM⟩ := Cond.code_spec hnamed hcode
  have hstatic : methM.isStatic = true := Cond.static_spec hnamed hmethM hstt
  obtain ⟨kP, hkP, -⟩ := className_of_methodNamed hnamed
  have hinitP : kP.init = .initialized := Cond.initialized_spec (findClass_of_methodNamed hnamed) hkP hini
  obtain ⟨vm₁, X₁, hstep₁⟩ := X.invokestatic hx hown hl hnamed hmethM hstatic hkP hinitP hy (g := g) hg (argsL := As) (rest := rest) (hn.trans (hlen _ hsigM)) hstack (by rw [hb]; exact hdg)
  have hcd : ∃ (methY : Method) (cY : Code), (T.setVm vm₁).vm.method? mk = some methY ∧ methY.code = some cY ∧ cY.maxLocals = maxL := ⟨methM, cM, by rw [X₁.warmed.alike.method?]; exact hmethM, hcM, hlM⟩
  obtain ⟨o, t, T', L, e1, e2, X', hL, hq, hst⟩ := ny_back (g := { g with stack := rest }) (ig := .invokestatic index) (len := 3) (W9 := 8) hM hp.1 hrc hrs hfr hlo hws (fun a' U hW => word_at hW (Or.inl (by first | rfl | simp [Cond.onTables, Cond.keeps, Cond.steady])) hini)
    X₁ hg (hsize.trans hml.symm) (by rw [hb]; exact hdg) hW (X₁.named hnamed) hcd hf.1 hf.2 (hp.2 (T.setVm vm₁) hT X₁.warmed)
  exact ⟨o, (T.setVm vm₁).calling { g with stack := rest } mk As.toArray, t, T', L, hT, X₁.warmed, X', hL, e1, e2, hq, fun target h => hstep₁ _ fun acts => by rw [doInvoke_state]; exact hst.trans h⟩
/-- a static method with a table of its own (it catches), called by the law; it always returns -/
theorem ny_runSW {hh : List (Nat × Nat × Nat × Nat)} (S : CallFix p m c cc nL s args Ts own) (hM : Met l y ws rm Pc Qc mc ms free)
    (hrc : rm.cells = mc) (hrs : rm.slots = ms) (hfr : rm.frames + 1 ≤ R.frames) (hlo : 8 + (maxL + 11) + rm.locals ≤ R.locals) (hws : ∀ w ∈ ws, ∀ (a' : Array Value) (U : State), s.WarmedH U.vm → w.before a' U = true)
    (hcode : (Cond.codeWith y bytes maxL ret hh).before args s = true) (hini : (Cond.initialized y.cls).before args s = true) (hy : y.cls ≠ "java/lang/invoke/MethodHandle" ∧ y.cls ≠ "java/lang/invoke/VarHandle")
    (hlen : ∀ sig, parseMethodDescriptor y.desc = some sig → n = sig.parameters.length) (hl : (Cond.methodLink own index y).before args s = true) (hstt : (Cond.static y).before args s = true) (hp : PreS s H Pc As)
    (hg : g.method = m) (hn : As.length = n) (hsize : g.locals.size = nL) (hstack : g.stack = As.reverse ++ rest) (hW : 2 * g.monitorRoom + (rest.map fun v => v.category).sum ≤ 8) (hdg : decode cc g.pc = .ok (.invokestatic index, 3)) (hf : cells + mc ≤ R.cells ∧ slots + ms ≤ R.slots) :
    va_Run p l e R s m args below meth c H locs cells slots mc ms g rest (Qc As.toArray) free := by
  obtain ⟨hx, hb, hml, hown, -⟩ := S
  have hM' : ny_Met l y ws rm Pc (fun a st o t => (∃ v, o = .returned v) ∧ Qc a st o t) mc ms mc ms free := by
    intro p e ha hc hk s m args below hf happ hP _
    obtain ⟨n9, o, h1, h2, h3, hq, L, ⟨hv, hW9, hs9⟩, hL⟩ := hM p e ha hc hk s m args below hf happ hP trivial
    obtain ⟨v, rfl⟩ := hv
    exact ⟨n9, _, h1, h2, h3, ⟨⟨v, rfl⟩, hq⟩, L, ⟨hW9, hs9⟩, hL⟩
  intro T hT X
  obtain ⟨mk, methM, cM, hnamed, hmethM, hcM, -, hlM, -, -, -, hsigM⟩ := Cond.codeWith_spec hcode
  have hstatic : methM.isStatic = true := Cond.static_spec hnamed hmethM hstt
  obtain ⟨kP, hkP, -⟩ := className_of_methodNamed hnamed
  have hinitP : kP.init = .initialized := Cond.initialized_spec (findClass_of_methodNamed hnamed) hkP hini
  obtain ⟨vm₁, X₁, hstep₁⟩ := X.invokestatic hx hown hl hnamed hmethM hstatic hkP hinitP hy (g := g) hg (argsL := As) (rest := rest) (hn.trans (hlen _ hsigM)) hstack (by rw [hb]; exact hdg)
  have hcd : ∃ (methY : Method) (cY : Code), (T.setVm vm₁).vm.method? mk = some methY ∧ methY.code = some cY ∧ cY.maxLocals = maxL := ⟨methM, cM, by rw [X₁.warmed.alike.method?]; exact hmethM, hcM, hlM⟩
  obtain ⟨o, t, T', L, e1, e2, X', hL, ⟨⟨v, hv⟩, hq⟩, hst⟩ := ny_back (g := { g with stack := rest }) (ig := .invokestatic index) (len := 3) (W9 := 8) hM' hp.1 hrc hrs hfr hlo hws (fun a' U hW => word_at hW (Or.inl (by first | rfl | simp [Cond.onTables, Cond.keeps, Cond.steady])) hini)
    X₁ hg (hsize.trans hml.symm) (by rw [hb]; exact hdg) hW (X₁.named hnamed) hcd hf.1 hf.2 (hp.2 (T.setVm vm₁) hT X₁.warmed)
  subst hv
  exact ⟨v, (T.setVm vm₁).calling { g with stack := rest } mk As.toArray, t, T', L, hT, X', hL, e1, e2, hq, fun target h => hstep₁ _ fun acts => by rw [doInvoke_state]; exact hst.trans h⟩
end NyC
section NyD
variable {p : Program} {l : Launch} {e : Env} {R : Room} {s : State} {m : MethodId} {args : Array Value} {below : List Frame} {meth : Method} {c : Code} {H : Heap} {locs : List Loc} {cells slots : Nat} {Q : State → Prop}
variable {k0 n0 mc ms pc : Nat} {free : Addr → Prop} {ls : Array Slot} {st0 rest : List Value} {Qa : State → Outcome → State → Prop}
/-- behind such a call -/
theorem ny_call (hr : ny_Run p l e R s m args below meth c H locs cells slots k0 n0 mc ms (F0 m pc ls st0) rest Qa free)
    (kr : ∀ (v : Option Value) (st₀ t : State) (H1 : Heap) (L : List Loc), st₀.heap = H → s.WarmedH st₀.vm → t.heap = H1 → s.WarmedH t.vm → (∀ q ∈ L, free q.base) → Qa st₀ (.returned v) t → W p l e R s m args below meth c H1 (locs ++ L) (cells + k0) (slots + n0) Q (F0 m (pc + 3) ls (v.toList ++ rest)))
    (kx : ∀ (q : Addr) (st₀ t : State) (H1 : Heap) (L : List Loc), st₀.heap = H → s.WarmedH st₀.vm → t.heap = H1 → s.WarmedH t.vm → (∀ q ∈ L, free q.base) → Qa st₀ (.threw q) t → ny_W p l e R s m args below meth c H1 (locs ++ L) (cells + mc) (slots + ms) Q (F0 m pc ls rest) q) :
    W p l e R s m args below meth c H locs cells slots Q (F0 m pc ls st0) := by
  intro T hT X
  obtain ⟨o, st₀, t, T', L, h0, h1, X', hL, e1, e2, hq, st⟩ := hr T hT X
  cases o with
  | returned v =>
    obtain ⟨t2, a1, b1⟩ := kr v st₀ t T'.heap L h0 h1 e1.symm (by rw [← e2]; exact X'.warmed) hL hq T' rfl X'
    exact ⟨t2, st t2 a1, b1⟩
  | threw q =>
    obtain ⟨t2, a1, b1⟩ := kx q st₀ t T'.heap L h0 h1 e1.symm (by rw [← e2]; exact X'.warmed) hL hq T' rfl X'
    exact ⟨t2, st t2 a1, b1⟩
end NyD
end NyA
section NyF
/-- a row of the table whose class takes the object -/
theorem ny_goYes {Q : Handler → Pre} {E : CtlPost} {e : Env} {d : Bool} {acts : List Action} {s : State} {f : JFrame} {a : Addr} {x : ExceptionTableEntry} {t : List ExceptionTableEntry} {c : ClassId} {cell : Cell} (hx : covers x f.pc = true) (h0 : x.catchType ≠ 0)
    (hl : s.vm.ClassLinks e.platform f.method.cls x.catchType c) (hcell : s.heap[a]? = some cell) (hobj : ∀ k, cell.vm ≠ .statics k)
    (hk : ∃ k, s.vm.classes[cell.cls]? = some k) (hc : ∃ k, s.vm.classes[c]? = some k) (hfit : s.vm.assignable cell.cls c = true) :
    wp (findHandler.go f a (x :: t)) Q E e d acts s ↔ Q (.found x.handlerPc) d acts (s.setVm (s.vm.noted f.method.cls x.catchType (.cls c))) := by
  simp only [covers] at hx
  obtain ⟨ha, ht⟩ := (resolveClass_links e.toSetting hl).op (op := VmOp.resolveClass f.method.cls x.catchType) rfl
  have hal : s.vm.Alike (s.vm.noted f.method.cls x.catchType (.cls c)) := (Vm.Alike.refl s.vm).noted _ _ _
  obtain ⟨k1, hk1⟩ := hk
  obtain ⟨k2, hk2⟩ := hc
  obtain ⟨k3, hk3, -⟩ := hal.2.2 _ _ hk1
  obtain ⟨k4, hk4, -⟩ := hal.2.2 _ _ hk2
  have hf : (s.vm.noted f.method.cls x.catchType (.cls c)).assignable cell.cls c = true := by rw [hal.assignable]; exact hfit
  simp [findHandler.go, hx, h0, ha, ht, hcell, hobj, hk3, hk4, hf, VmOp.dirties, VmOp.acts]
/-- a row of the table whose class doesn't -/
theorem ny_goNo {Q : Handler → Pre} {E : CtlPost} {e : Env} {d : Bool} {acts : List Action} {s : State} {f : JFrame} {a : Addr} {x : ExceptionTableEntry} {t : List ExceptionTableEntry} {c : ClassId} {cell : Cell} (hx : covers x f.pc = true) (h0 : x.catchType ≠ 0)
    (hl : s.vm.ClassLinks e.platform f.method.cls x.catchType c) (hcell : s.heap[a]? = some cell) (hobj : ∀ k, cell.vm ≠ .statics k)
    (hk : ∃ k, s.vm.classes[cell.cls]? = some k) (hc : ∃ k, s.vm.classes[c]? = some k) (hfit : s.vm.assignable cell.cls c = false) :
    wp (findHandler.go f a (x :: t)) Q E e d acts s ↔ wp (findHandler.go f a t) Q E e d acts (s.setVm (s.vm.noted f.method.cls x.catchType (.cls c))) := by
  simp only [covers] at hx
  obtain ⟨ha, ht⟩ := (resolveClass_links e.toSetting hl).op (op := VmOp.resolveClass f.method.cls x.catchType) rfl
  have hal : s.vm.Alike (s.vm.noted f.method.cls x.catchType (.cls c)) := (Vm.Alike.refl s.vm).noted _ _ _
  obtain ⟨k1, hk1⟩ := hk
  obtain ⟨k2, hk2⟩ := hc
  obtain ⟨k3, hk3, -⟩ := hal.2.2 _ _ hk1
  obtain ⟨k4, hk4, -⟩ := hal.2.2 _ _ hk2
  have hf : (s.vm.noted f.method.cls x.catchType (.cls c)).assignable cell.cls c = false := by rw [hal.assignable]; exact hfit
  simp [findHandler.go, hx, h0, ha, ht, hcell, hobj, hk3, hk4, hf, VmOp.dirties, VmOp.acts]
/-- the search through the rows ahead of the one that takes it -/
theorem ny_find {e : Env} {s₀ : State} {f : JFrame} {a : Addr} {cell : Cell} {x : ExceptionTableEntry} {suf : List ExceptionTableEntry} {c : ClassId} (hobj : ∀ k, cell.vm ≠ .statics k) (hk0 : ∃ k, s₀.vm.classes[cell.cls]? = some k)
    (hx : covers x f.pc = true) (h0 : x.catchType ≠ 0) (hl : s₀.vm.ClassLinks e.platform f.method.cls x.catchType c) (hfit : s₀.vm.assignable cell.cls c = true) :
    ∀ (pre : List ExceptionTableEntry) (S : State), s₀.WarmedH S.vm → S.heap[a]? = some cell →
      (∀ y ∈ pre, covers y f.pc = true ∧ y.catchType ≠ 0 ∧ ∃ c', s₀.vm.ClassLinks e.platform f.method.cls y.catchType c' ∧ s₀.vm.assignable cell.cls c' = false) →
      ∃ vm', s₀.WarmedH vm' ∧ ∀ (Q : Handler → Pre) (E : CtlPost) (d : Bool) (acts : List Action), wp (findHandler.go f a (pre ++ x :: suf)) Q E e d acts S ↔ Q (.found x.handlerPc) d acts (S.setVm vm') := by
  obtain ⟨k0, hk0⟩ := hk0
  intro pre
  induction pre with
  | nil =>
    intro S hW hcell _
    obtain ⟨k1, hk1, -⟩ := hW.alike.2.2 _ _ hk0
    obtain ⟨dk, _, _, kt, hd, _, _, _, _, hkt, _, hopen⟩ := hl.here
    obtain ⟨kt1, hkt1, -⟩ := hW.alike.2.2 _ _ hkt
    exact ⟨_, hW.noted hd hopen (State.rightAt_cls hl), fun Q E d acts => ny_goYes hx h0 (hW.classLinks hl) hcell hobj ⟨k1, hk1⟩ ⟨kt1, hkt1⟩ (by rw [hW.alike.assignable]; exact hfit)⟩
  | cons y ys ih =>
    intro S hW hcell hpass
    obtain ⟨k1, hk1, -⟩ := hW.alike.2.2 _ _ hk0
    obtain ⟨hy, hy0, c', hly, hno⟩ := hpass y List.mem_cons_self
    obtain ⟨dk, _, _, kt, hd, _, _, _, _, hkt, _, hopen⟩ := hly.here
    obtain ⟨kt1, hkt1, -⟩ := hW.alike.2.2 _ _ hkt
    obtain ⟨vm', hW', hq⟩ := ih (S.setVm (S.vm.noted f.method.cls y.catchType (.cls c'))) (hW.noted hd hopen (State.rightAt_cls hly)) hcell (fun z hz => hpass z (List.mem_cons_of_mem _ hz))
    exact ⟨vm', hW', fun Q E d acts => (ny_goNo hy hy0 (hW.classLinks hly) hcell hobj ⟨k1, hk1⟩ ⟨kt1, hkt1⟩ (by rw [hW.alike.assignable]; exact hno)).trans (hq Q E d acts)⟩
/-- one step: from the thrown object to the handler -/
theorem ny_caught {tb : Tables} {e : Env} {s target : State} {g : JFrame} {c : Code} {below : List Frame} {a : Addr} (h : At s g.method c below) {pc : Nat} {vm' : Vm}
    (hfind : ∀ (Q : Handler → Pre) (E : CtlPost) (d : Bool) (acts : List Action), wp (findHandler g a) Q E e d acts ((s.setTop g).pushFrame (.throwing a)) ↔ Q (.found pc) d acts (((s.setTop g).pushFrame (.throwing a)).setVm vm'))
    (hrest : Steps tb e below ((s.setVm vm').setTop { g with pc := pc, stack := [.ref a] }) target) : Steps tb e below ((s.setTop g).pushFrame (.throwing a)) target := by
  have hstep : ∀ (S : State) (r : List Frame), (∀ (Q : Handler → Pre) (E : CtlPost) (d : Bool) (acts : List Action), wp (findHandler g a) Q E e d acts S ↔ Q (.found pc) d acts (S.setVm vm')) → (stepThrowing e S a (.java g :: r)).Is ((S.setVm vm').setFrames (.java { g with pc := pc, stack := [.ref a] } :: r)) [] := by
    intro S r hf
    simp only [stepThrowing, searchFrame, vmDo]
    generalize hr : Sem.go _ e false [] S = res
    obtain ⟨as, rfl, ha⟩ := Sem.eq_ok_of hr (a := Handler.found pc) (s' := S.setVm vm') (acts' := []) (by simp [hf _ _ _ _])
    exact ⟨rfl, ha⟩
  have hset : ∀ (u : State) (F G : List Frame), ((u.setFrames F).setVm vm').setFrames G = (u.setVm vm').setFrames G := by
    intro u F G
    have h1 : (u.setFrames F).setVm vm' = (u.setVm vm').setFrames F := rfl
    rw [h1, State.setFrames_setFrames]
  obtain ⟨hgo, hw⟩ := h.throwing a
  refine Steps.head hgo hw ?_
  rw [stepThread_throwing (frames_entered h.top _), (hstep ((s.setTop g).pushFrame (.throwing a)) _ hfind).1]
  obtain ⟨g₀, hg⟩ := Option.isSome_iff_exists.mp h.top
  obtain ⟨r, hr⟩ := State.topJava?_eq_some.mp hg
  have hr' : (s.setVm vm').frames = .java g₀ :: r := hr
  rw [State.setTop_of_frames _ hr'] at hrest
  rw [hr, List.tail_cons, State.pushFrame, hset, State.setTop_of_frames _ hr, hset]
  exact hrest
end NyF
section NyG
variable {p : Program} {l : Launch} {e : Env} {R : Room} {s : State} {m : MethodId} {args : Array Value} {below : List Frame} {meth : Method} {c : Code} {H : Heap} {locs : List Loc} {cells slots : Nat} {Q : State → Prop}
variable {k0 n0 mc ms pc : Nat} {free : Addr → Prop} {ls : Array Slot} {rest : List Value} {Qc : Array Value → State → Outcome → State → Prop}
/-- the row x of this method's table takes it; those ahead don't -/
theorem ny_catch {own name E : String} {ce : Cell} {q : Addr} (hown : s.vm.findClass own = some m.cls) (pre : List ExceptionTableEntry) (x : ExceptionTableEntry) (suf : List ExceptionTableEntry) (hsplit : c.exceptionTable.toList = pre ++ x :: suf)
    (hpass : ∀ z ∈ pre, covers z pc = true ∧ z.catchType ≠ 0 ∧ ∃ nm : String, (Cond.classLink own z.catchType nm).before args s = true ∧ va_Nc E nm s) (hx : covers x pc = true) (h0 : x.catchType ≠ 0)
    (hlink : (Cond.classLink own x.catchType name).before args s = true) (hcast : (Cond.castable E name).before args s = true) (hcell : H[q]? = some ce) (hv : ce.vm = .none) (hcl : s.vm.findClass E = some ce.cls)
    (kk : W p l e R s m args below meth c H locs cells slots Q (F0 m x.handlerPc ls [.ref q])) : ny_W p l e R s m args below meth c H locs cells slots Q (F0 m pc ls rest) q := by
  intro T hT X
  have hpl : e.platform.magicAccessors = ({} : Platform).magicAccessors := by rw [X.admits.platform]
  obtain ⟨c3, c4, hc3, hc4, hasg⟩ := Cond.castable_spec hcast
  cases Option.some.inj (hc3.symm.trans hcl)
  obtain ⟨c5, hc5, hcl5⟩ := Cond.classLink_spec hown hlink e.platform hpl
  cases Option.some.inj (hc4.symm.trans hc5)
  obtain ⟨k9, hk9, -⟩ := Vm.findClass_spec hcl
  have hcell' : ((T.setTop (F0 m pc ls rest)).pushFrame (.throwing q)).heap[q]? = some ce := by
    rw [Stand.throwing_heap, hT]; exact hcell
  have hwm : s.WarmedH ((T.setTop (F0 m pc ls rest)).pushFrame (.throwing q)).vm := by
    rw [Stand.throwing_vm]; exact X.warmed
  obtain ⟨vm', hW', hf⟩ := ny_find (e := e) (s₀ := s) (f := F0 m pc ls rest) (a := q) (cell := ce) (x := x) (suf := suf) (c := c4) (by rw [hv]; intro k h; cases h) ⟨k9, hk9⟩ hx h0 hcl5 hasg pre _ hwm hcell'
    (fun z hz => by
      obtain ⟨hz1, hz0, nm, hl1, a8, b8, h1, h2, h3⟩ := hpass z hz
      obtain ⟨c6, hc6, hcl6⟩ := Cond.classLink_spec hown hl1 e.platform hpl
      cases Option.some.inj (h1.symm.trans hcl)
      cases Option.some.inj (h2.symm.trans hc6)
      exact ⟨hz1, hz0, _, hcl6, h3⟩)
  obtain ⟨t, a1, b1⟩ := kk (T.setVm vm') hT (X.noted hW')
  refine ⟨t, ny_caught (g := F0 m pc ls rest) (c := c) X.here (pc := x.handlerPc) (vm' := vm') (fun Q E d acts => ?_) a1, b1⟩
  rw [Jvm.W.findHandler_eq (meth := meth) (code := c) (by rw [Stand.throwing_vm]; exact X.method') X.code, hsplit]
  exact hf Q E d acts
/-- what a body that may throw owes at its end -/
def ny_MQ (below : List Frame) (Qc : Array Value → State → Outcome → State → Prop) (a : Array Value) (s : State) (k0 n0 k1 n1 : Nat) (free : Addr → Prop) : State → Prop := fun t =>
  ∃ o, t.status = .running ∧ Ended t below o ∧ Qc a s o t ∧ ∃ L, ny_End s t L (ny_mk k0 k1 o) (ny_mk n0 n1 o) ∧ ∀ q ∈ L, free q.base
/-- where it returns: the kit's own ends -/
theorem ny_ret {g : JFrame} (k : W p l e R s m args below meth c H locs cells slots (MQ below Qc args s k0 n0 free) g) : W p l e R s m args below meth c H locs cells slots (ny_MQ below Qc args s k0 n0 mc ms free) g := by
  intro T hT X
  obtain ⟨t, a1, o, b1, b2, b3, L, ⟨⟨v, rfl⟩, hW, hs⟩, hL⟩ := k T hT X
  exact ⟨t, a1, _, b1, b2, b3, L, ⟨hW, hs⟩, hL⟩
/-- where it throws on what a callee has thrown -/
theorem ny_out {q : Addr} (hout : ∀ x ∈ c.exceptionTable.toList, covers x pc = false) (hlocks : meth.locks = false) (hx : ∀ t : State, t.heap = H → s.WarmedH t.vm → Qc args s (.threw q) t) (hf : ∀ z ∈ locs, free z.base) (hc : cells ≤ mc) (hs : slots ≤ ms) :
    ny_W p l e R s m args below meth c H locs cells slots (ny_MQ below Qc args s k0 n0 mc ms free) (F0 m pc ls rest) q := by
  intro T hT X
  obtain ⟨st1, hrun, hend, hW, hsm⟩ := X.leaveThrown q (g := F0 m pc ls rest) rfl rfl rfl hout hlocks
  exact ⟨_, st1, .threw q, hrun, hend, hx _ hT hW, locs, ⟨hW, hsm.mono hc hs⟩, hf⟩
theorem ny_widen {g : JFrame} {q : Addr} {k n : Nat} (h1 : cells ≤ k) (h2 : slots ≤ n) (kk : ny_W p l e R s m args below meth c H locs k n Q g q) : ny_W p l e R s m args below meth c H locs cells slots Q g q := fun T hT X => kk T hT (stand_widen X h1 h2)
/-- the contract out of the walk -/
theorem ny_ofW {y : MethodName} {ws ws' : List Cond} {rm : Room} {Pc : Array Value → State → Prop} {cc : ByteArray} {maxL : Nat} {ret : Option FieldType}
    (hy : plainName y.cls = true) (hw : ws = Cond.code y cc maxL ret :: ws')
    (body : ∀ p e s m args below meth c s₁, BodyLoose p l y (headSpec ws rm) cc maxL ret e s m args below meth c s₁ → c.maxLocals = maxL → (∀ x ∈ c.exceptionTable.toList, ∀ pc, covers x pc = false) → Pc args s →
      W p l e (headSpec ws rm).room s m args below meth c s.heap [] 0 0 (ny_MQ below Qc args s k0 n0 mc ms free) (entryFrame m args maxL)) : ny_Met l y ws rm Pc Qc k0 n0 mc ms free := by
  refine MetFree.of_bodyS (code := cc) (maxLocals := maxL) (ret := ret) hy ?_ ?_
  · intro args s m h hn
    obtain ⟨meth, c, h1, h2, h3, h4, h5, h6, -, -⟩ := Cond.code_spec hn (atoms_spec (ws := ws) h _ (by rw [hw]; exact List.mem_cons_self))
    exact ⟨meth, c, h1, h2, h3, h4, h5, h6⟩
  · intro p e s m args below meth c s₁ B hml hP _
    have hh0 : s₁.heap = s.heap := by rw [B.state]; rfl
    have X := Stand.of_body B
    have hno : ∀ x ∈ c.exceptionTable.toList, ∀ pc, covers x pc = false := by
      obtain ⟨meth', c', h1, h2, -, -, -, -, h7, -⟩ := Cond.code_spec B.named (atoms_spec (ws := ws) B.pre _ (by rw [hw]; exact List.mem_cons_self))
      cases B.method.symm.trans h1
      cases X.code.symm.trans h2
      intro x hx
      have h8 : c.exceptionTable.toList = [] := by
        have h9 : c.exceptionTable = #[] := by simpa using h7
        rw [h9]
      rw [h8] at hx
      cases hx
    obtain ⟨t, a1, o, b1, b2, b3, b4⟩ := body p e s m args below meth c s₁ B hml hno hP s₁ hh0 X
    exact ⟨t, o, a1, b1, b2, b3, b4⟩
end NyG
section NyH
/-- where a static of a class lies, and that its cell is in the heap -/
def ny_L (C n d : String) (U : State) : Prop := ∃ (c : ClassId) (k : Class) (i : Nat) (f : Field) (a : Nat) (cell : Cell), U.vm.findClass C = some c ∧ U.fieldFound? C n d = some (c, k, i, f) ∧ f.isStatic = true ∧ k.statics = some a ∧ U.heap[a]? = some cell ∧ cell.vm.isStatics = true ∧ cell.cls = c ∧ f.slot < cell.slots.size ∧ k.staticTypes[f.slot]? = some f.type
theorem ny_L.to {C n d : String} {u U : State} (hvm : u.vm.Alike U.vm) (hh : ∀ q, q < u.heap.size → U.heap[q]? = u.heap[q]?) (h : ny_L C n d u) : ny_L C n d U := by
  obtain ⟨c, k, i, f, a, cell, h1, h2, h3, h4, h5, h6, h7, h8, h9⟩ := h
  obtain ⟨k', hi', he⟩ := State.fieldFound?_setVm hvm h2
  exact ⟨c, k', i, f, a, cell, by rw [hvm.findClass]; exact h1, hi', h3, by rw [he]; exact h4, by rw [hh a (Array.getElem?_eq_some_iff.mp h5).1]; exact h5, h6, h7, h8, by rw [he]; exact h9⟩
theorem ny_L.word {C n d : String} {s : State} {args : Array Value} (h : ny_L C n d s) : (Cond.laysStatic C n d).before args s = true := by
  obtain ⟨c, k, i, f, a, cell, h1, h2, h3, h4, h5, h6, h7, h8, h9⟩ := h
  show (Cond.laysStatic C n d).holds args s none s [] = true
  exact Cond.laysStatic_of h1 h2 h3 h4 h5 h6 h7 h8 h9
theorem ny_L.of {C n d : String} {s : State} {args : Array Value} (h : (Cond.laysStatic C n d).before args s = true) : ny_L C n d s := Cond.laysStatic_spec h
theorem ny_isRef {C n d : String} {v : Value} {A : Nat → Prop} {s : State} {args : Array Value} (h : va_Z C n d v A s s.heap) (hv : v.isRef = true) : (Cond.isRef (.static C n d)).before args s = true := by
  obtain ⟨cf, kf, fi, f, a, cell, h1, h2, h3, h4, h5, h6, h7, -⟩ := h
  have he : (Term.static C n d).eval args s none [] s = some v := by
    simp [Term.eval, State.fieldNamed?, h1, h2, h4, h5, h6, h7]
  simp only [Cond.before, Cond.holds, Cond.value, he]
  cases v <;> simp_all [Value.isRef]
/-- what a throw asks of the heap: the two statics of Throwable -/
def ny_J (U : State) : Prop := va_Zq Bundle.tN "UNASSIGNED_STACK" Bundle.steD (fun _ => False) U U.heap ∧ va_Zq Bundle.tN "SUPPRESSED_SENTINEL" Bundle.listD (fun _ => False) U U.heap ∧ ny_L Bundle.tN "UNASSIGNED_STACK" Bundle.steD U ∧ ny_L Bundle.tN "SUPPRESSED_SENTINEL" Bundle.listD U
theorem ny_J.to {u U : State} (hvm : u.vm.Alike U.vm) (hh : ∀ q, q < u.heap.size → U.heap[q]? = u.heap[q]?) (h : ny_J u) : ny_J U :=
  ⟨(va_Zq.moved hvm h.1).kept (fun a h1 _ => hh a h1), (va_Zq.moved hvm h.2.1).kept (fun a h1 _ => hh a h1), h.2.2.1.to hvm hh, h.2.2.2.to hvm hh⟩
theorem ny_J.words {s : State} {args : Array Value} (h : ny_J s) : (Cond.isRef (.static Bundle.tN "UNASSIGNED_STACK" Bundle.steD)).before args s = true ∧ (Cond.isRef (.static Bundle.tN "SUPPRESSED_SENTINEL" Bundle.listD)).before args s = true ∧ (Cond.laysStatic Bundle.tN "UNASSIGNED_STACK" Bundle.steD).before args s = true ∧ (Cond.laysStatic Bundle.tN "SUPPRESSED_SENTINEL" Bundle.listD).before args s = true := by
  refine ⟨?_, ?_, h.2.2.1.word, h.2.2.2.word⟩
  · rcases h.1 with g | ⟨t, g⟩
    · exact ny_isRef g rfl
    · exact ny_isRef g rfl
  · rcases h.2.1 with g | ⟨t, g⟩
    · exact ny_isRef g rfl
    · exact ny_isRef g rfl
theorem ny_J.of {s : State} {args : Array Value} (hi : (Cond.initialized Bundle.tN).before args s = true) (h1 : (Cond.isRef (.static Bundle.tN "UNASSIGNED_STACK" Bundle.steD)).before args s = true) (h2 : (Cond.isRef (.static Bundle.tN "SUPPRESSED_SENTINEL" Bundle.listD)).before args s = true)
    (h3 : (Cond.laysStatic Bundle.tN "UNASSIGNED_STACK" Bundle.steD).before args s = true) (h4 : (Cond.laysStatic Bundle.tN "SUPPRESSED_SENTINEL" Bundle.listD).before args s = true) : ny_J s :=
  ⟨va_Zqof h3 hi h1 (fun _ _ h => h), va_Zqof h4 hi h2 (fun _ _ h => h), ny_L.of h3, ny_L.of h4⟩
/-- all words of a throw out of those that the tables decide and the four -/
theorem ny_own {args : Array Value} {s : State} {L : List Cond} (hJ : ny_J s)
    (h : ∀ w ∈ L, w = .isRef (.static Bundle.tN "UNASSIGNED_STACK" Bundle.steD) ∨ w = .isRef (.static Bundle.tN "SUPPRESSED_SENTINEL" Bundle.listD) ∨ w = .laysStatic Bundle.tN "UNASSIGNED_STACK" Bundle.steD ∨ w = .laysStatic Bundle.tN "SUPPRESSED_SENTINEL" Bundle.listD ∨ w.before args s = true) : ∀ w ∈ L, w.before args s = true := by
  intro w hw
  obtain ⟨g1, g2, g3, g4⟩ := hJ.words (args := args)
  rcases h w hw with e | e | e | e | e
  · rw [e]; exact g1
  · rw [e]; exact g2
  · rw [e]; exact g3
  · rw [e]; exact g4
  · exact e
/-- q is a new object of the class E, thrown; all that was there is as it was -/
def ny_Thr (E : String) (st : State) (q : Addr) (t : State) : Prop := ∃ ce : Cell, t.heap[q]? = some ce ∧ ce.vm = .none ∧ st.vm.findClass E = some ce.cls ∧ st.heap.size ≤ t.heap.size ∧ ∀ z : Nat, z < st.heap.size → t.heap[z]? = st.heap[z]?
variable {p : Program} {l : Launch} {e : Env} {R : Room} {s : State} {m : MethodId} {args : Array Value} {below : List Frame} {meth : Method} {c : Code} {free : Addr → Prop} {ls : Array Slot} {rest : List Value} {Qc : Array Value → State → Outcome → State → Prop}
/-- throw new E("text"), before anything has been written -/
theorem ny_throw {cc : ByteArray} {pc k0 n0 : Nat} (hexec : p.tables.exec = Jvm.exec) (hb : c.code = cc) (hfl : l.flags = pinnedFlags ++ [noTraceFlag]) {own cls text : String} {names : List String} {ik is ic sa : Nat}
    (hown : s.vm.findClass own = some m.cls) (hcls : Bundle.fit cls = true) (hnames : ∀ n ∈ names, Bundle.fit n = true)
    (hk : (Cond.classLink own ik cls).before args s = true) (hini : (Cond.initialized cls).before args s = true) (hstr : vk_R own is text sa s) (hat : ∀ w ∈ Bundle.ownAtoms own ic cls names, w.before args s = true) (hsize : ls.size = c.maxLocals)
    (d0 : decode cc pc = .ok (.new ik, 3)) (d3 : decode cc (pc + 3) = .ok (.dup, 1)) (d4 : decode cc (pc + 4) = .ok (.ldc is, 2)) (d6 : decode cc (pc + 6) = .ok (.invokespecial ic, 3)) (d9 : decode cc (pc + 9) = .ok (.athrow, 1))
    (hout : ∀ x ∈ c.exceptionTable.toList, ∀ pc, covers x pc = false)
    (hRframes : names.length + 3 < R.frames) (hRlocals : (rest.map fun v => v.category).sum + (13 * (names.length + 1) + 43) ≤ R.locals) (hRcells : 1 ≤ R.cells) (hRslots : 6 ≤ R.slots) (hlocks : meth.locks = false)
    (hx : ∀ (t : State) (q : Addr), s.WarmedH t.vm → ny_Thr cls s q t → Qc args s (.threw q) t) :
    W p l e R s m args below meth c s.heap [] 0 0 (ny_MQ below Qc args s k0 n0 1 6 free) (F0 m pc ls rest) := by
  intro T hT X
  have htr : e.platform.stackTraces = false := Launch.traces_off hfl X.admits
  have hins : (Cond.instantiable cls 6).before args s = true := hat _ (by simp [Bundle.ownAtoms])
  obtain ⟨vm₁, cX, kX, hfX, hkX, -, -, X₁, st1⟩ := X.newCold hexec (own := own) (C := cls) (index := ik) (n := 6) hown hk hins hini
    (g := F0 m pc ls rest) rfl (by rw [hb]; exact d0) (by omega) (by omega)
  generalize hT1 : (T.setVm vm₁).pushCell { cls := cX, slots := kX.instanceTypes.map defaultValue, vm := .none } = T1 at X₁ st1
  have hcat : (Value.ref T.heap.size).category = 1 := rfl
  have hcellA : T1.heap[T.heap.size]? = some (freshCell cX kX) := by rw [← hT1]; exact State.heap_pushCell_size _ _
  have d3' : decode c.code (pc + 3) = .ok (.dup, 1) := by rw [hb]; exact d3
  have d4' : decode c.code (pc + 4) = .ok (.ldc is, 2) := by rw [hb]; exact d4
  obtain ⟨U, hsteps, hrun, hend, hW, hsame, ce, hce, hO⟩ := X₁.ctorThrowS hexec htr (own := own) (cls := cls) (names := names) (ic := ic) hown hcls hnames hat (fun x hx => nomatch hx) hfX hkX hcellA (by rw [hT]; exact Nat.le_refl _) (msg := .ref sa) rfl
    (g := { method := m, pc := pc + 6, locals := ls, stack := .ref sa :: .ref T.heap.size :: .ref T.heap.size :: rest, locked := none }) rfl hsize rfl rfl (rest := rest) rfl
    (by rw [hb]; exact d6) (by rw [hb]; exact d9) (fun x hx => hout x hx _) hRframes (by
      show 2 * 0 + ((Value.ref T.heap.size :: rest).map fun v => v.category).sum + (13 * (names.length + 1) + 42) ≤ R.locals
      simp only [List.map_cons, List.sum_cons, hcat]; omega) hlocks
  have hthr : ny_Thr cls s T.heap.size U := by
    obtain ⟨-, h2, -, -, -, h6⟩ := id hsame
    refine ⟨ce, hce, hO.vm, hO.cls, h2, fun z hz => ?_⟩
    obtain ⟨c9, g1, g2, g3, g4⟩ := h6 z _ (Array.getElem?_eq_getElem hz)
    have hs : c9.slots = (s.heap[z]).slots := Array.ext_getElem? fun i => g4 i (fun hm => nomatch hm)
    have h9 : c9 = s.heap[z] := by
      rw [hs] at g2
      exact g2
    have g5 : U.heap[z]? = some c9 := g1
    rw [g5, h9, Array.getElem?_eq_getElem hz]
  refine ⟨U, ?_, .threw T.heap.size, hrun, hend, hx U _ hW hthr, [], ⟨hW, hsame⟩, fun q hq => nomatch hq⟩
  refine st1 _ ?_
  show Steps p.tables e below (T1.setTop { method := m, pc := pc + 3, locals := ls, stack := .ref T.heap.size :: rest, locked := none }) _
  jvm_step X₁.here [X₁.here.top, hexec, d3', Value.category]
  exact X₁.ldcString hexec (own := own) (text := text) (index := is) (a := sa) hown hstr.1 hstr.2
    (g := { method := m, pc := pc + 4, locals := ls, stack := .ref T.heap.size :: .ref T.heap.size :: rest, locked := none }) rfl d4' _ hsteps
end NyH
end
section
/-! ===== lN n to 2^64: shifts, and, or, masks, one bit ===== -/
theorem wb_tb (n : Nat) : (lN n).toBitVec = BitVec.ofNat 64 n := rfl
theorem wb_inj {a b : Int64} (h : a.toBitVec = b.toBitVec) : a = b := Int64.toBitVec_inj.mp h
theorem wb_tn {n : Nat} (h : n < 2 ^ 64) : (lN n).toBitVec.toNat = n := by rw [wb_tb, BitVec.toNat_ofNat, Nat.mod_eq_of_lt h]
theorem wb_of (x : Int64) : ∃ n, n < 2 ^ 64 ∧ x = lN n := ⟨x.toBitVec.toNat, x.toBitVec.isLt, wb_inj (by rw [wb_tb]; simp)⟩
theorem wb_of32 (x : Int32) : ∃ n, n < 2 ^ 32 ∧ x = nI n := ⟨x.toBitVec.toNat, x.toBitVec.isLt, Int32.toBitVec_inj.mp (by show _ = BitVec.ofNat 32 _; simp)⟩
theorem wb_c : ∀ k, k < 64 → ((nI k).toInt64 &&& 63) = lN k := by decide +kernel
theorem wb_cu : ∀ k, k < 64 → ((nI k).toInt64.toUInt64 &&& Int64.toUInt64 63) = UInt64.ofNat k := by decide +kernel
theorem wb_sm : ∀ k, k < 64 → (BitVec.ofNat 64 k).smod 64 = BitVec.ofNat 64 k := by decide +kernel
theorem wb_pw {a b : Nat} (h : a ≤ b) : 2 ^ b = 2 ^ a * 2 ^ (b - a) := by rw [← Nat.pow_add]; congr 1; omega
theorem wb_lt2 {a b : Nat} (h : a < b) : 2 ^ a < 2 ^ b := Nat.pow_lt_pow_right (by decide) h
theorem wb_mod (n : Nat) : lN n = lN (n % 2 ^ 64) := wb_inj (by rw [wb_tb, wb_tb]; apply BitVec.eq_of_toNat_eq; rw [BitVec.toNat_ofNat, BitVec.toNat_ofNat, Nat.mod_mod])
theorem wb_shr {n k : Nat} (hn : n < 2 ^ 64) (hk : k < 64) : ((lN n).toUInt64 >>> ((nI k).toInt64.toUInt64 &&& Int64.toUInt64 63)).toInt64 = lN (n / 2 ^ k) := by
  rw [wb_cu k hk]
  apply wb_inj
  apply BitVec.eq_of_toNat_eq
  show ((lN n).toUInt64 >>> UInt64.ofNat k).toNat = (BitVec.ofNat 64 _).toNat
  have h1 : (UInt64.ofNat k).toNat = k := by
    show (BitVec.ofNat 64 k).toNat = k
    rw [BitVec.toNat_ofNat, Nat.mod_eq_of_lt (by omega)]
  have h2 : (lN n).toUInt64.toNat = n := wb_tn hn
  rw [UInt64.toNat_shiftRight, h1, h2, Nat.mod_eq_of_lt hk, Nat.shiftRight_eq_div_pow, BitVec.toNat_ofNat, Nat.mod_eq_of_lt (Nat.lt_of_le_of_lt (Nat.div_le_self _ _) hn)]
theorem wb_shl (n : Nat) {k : Nat} (hk : k < 64) : lN n <<< ((nI k).toInt64 &&& 63) = lN (n * 2 ^ k) := by
  rw [wb_c k hk]
  apply wb_inj
  rw [Int64.toBitVec_shiftLeft, wb_tb, wb_tb, wb_tb, wb_sm k hk]
  apply BitVec.eq_of_toNat_eq
  rw [BitVec.shiftLeft_eq', BitVec.toNat_shiftLeft, BitVec.toNat_ofNat, BitVec.toNat_ofNat, BitVec.toNat_ofNat, Nat.mod_eq_of_lt (show k < 2 ^ 64 by omega), Nat.shiftLeft_eq, Nat.mul_mod, Nat.mod_mod, ← Nat.mul_mod]
theorem wb_and {a b : Nat} (ha : a < 2 ^ 64) (hb : b < 2 ^ 64) : lN a &&& lN b = lN (a &&& b) := by
  apply wb_inj
  rw [Int64.toBitVec_and, wb_tb, wb_tb, wb_tb]
  apply BitVec.eq_of_toNat_eq
  rw [BitVec.toNat_and, BitVec.toNat_ofNat, BitVec.toNat_ofNat, BitVec.toNat_ofNat, Nat.mod_eq_of_lt ha, Nat.mod_eq_of_lt hb, Nat.mod_eq_of_lt (Nat.and_lt_two_pow _ hb)]
theorem wb_or {a b : Nat} (ha : a < 2 ^ 64) (hb : b < 2 ^ 64) : lN a ||| lN b = lN (a ||| b) := by
  apply wb_inj
  rw [Int64.toBitVec_or, wb_tb, wb_tb, wb_tb]
  apply BitVec.eq_of_toNat_eq
  rw [BitVec.toNat_or, BitVec.toNat_ofNat, BitVec.toNat_ofNat, BitVec.toNat_ofNat, Nat.mod_eq_of_lt ha, Nat.mod_eq_of_lt hb, Nat.mod_eq_of_lt (Nat.or_lt_two_pow ha hb)]
theorem wb_mask {n k : Nat} (hn : n < 2 ^ 64) (hk : k < 64) : lN n &&& lN (2 ^ k - 1) = lN (n % 2 ^ k) := by
  rw [wb_and hn (by have := wb_lt2 hk; omega), Nat.and_two_pow_sub_one_eq_mod]
theorem wb_a1 {n : Nat} (hn : n < 2 ^ 64) : lN n &&& 1 = lN (n % 2) := wb_mask (k := 1) hn (by decide)
theorem wb_bit {n k : Nat} (hn : n < 2 ^ 64) (hk : k < 64) : ((lN n).toUInt64 >>> ((nI k).toInt64.toUInt64 &&& Int64.toUInt64 63)).toInt64 &&& 1 = lN (n / 2 ^ k % 2) := by
  rw [wb_shr hn hk, wb_a1 (Nat.lt_of_le_of_lt (Nat.div_le_self _ _) hn)]
theorem wb_xor {q k : Nat} (hk : k < 63) (h : 2 ^ k ≤ q) (h2 : q < 2 ^ (k + 1)) : lN q ^^^ lN (2 ^ k) = lN (q - 2 ^ k) := by
  obtain ⟨r, rfl⟩ : ∃ r, q = 2 ^ k + r := ⟨q - 2 ^ k, by omega⟩
  have hr : r < 2 ^ k := by rw [Nat.pow_succ] at h2; omega
  have hx : (2 ^ k + r) ^^^ 2 ^ k = r := by
    apply Nat.eq_of_testBit_eq
    intro i
    rw [Nat.testBit_xor, Nat.testBit_two_pow]
    rcases Nat.lt_trichotomy i k with h | h | h
    · rw [Nat.testBit_two_pow_add_gt h]
      simp [show ¬ k = i by omega]
    · subst h
      rw [Nat.testBit_two_pow_add_eq]
      simp
    · have a1 : 2 ^ (k + 1) ≤ 2 ^ i := Nat.pow_le_pow_right (by decide) h
      rw [Nat.testBit_lt_two_pow (show 2 ^ k + r < 2 ^ i by omega), Nat.testBit_lt_two_pow (show r < 2 ^ i by omega)]
      simp [show ¬ k = i by omega]
  have b1 := wb_lt2 (show k + 1 < 64 by omega)
  have b2 := wb_lt2 (show k < 64 by omega)
  apply wb_inj
  rw [Int64.toBitVec_xor, wb_tb, wb_tb, wb_tb]
  apply BitVec.eq_of_toNat_eq
  rw [BitVec.toNat_xor, BitVec.toNat_ofNat, BitVec.toNat_ofNat, BitVec.toNat_ofNat, Nat.mod_eq_of_lt (by omega : 2 ^ k + r < 2 ^ 64), Nat.mod_eq_of_lt b2, hx, Nat.add_sub_cancel_left, Nat.mod_eq_of_lt (by omega)]
/-! ===== lN: masks, 'or' of parts that don't overlap is a sum ===== -/
theorem u_tn {n : Nat} (h : n < 2 ^ 64) : (UInt64.ofNat n).toNat = n := Nat.mod_eq_of_lt h
theorem g_and {a b c : Nat} (ha : a < 2 ^ 64) (hb : b < 2 ^ 64) (hc : a &&& b = c) : lN a &&& lN b = lN c := by
  subst hc
  have h : UInt64.ofNat a &&& UInt64.ofNat b = UInt64.ofNat (a &&& b) := UInt64.toNat_inj.mp (by rw [UInt64.toNat_and, u_tn ha, u_tn hb, u_tn (Nat.and_lt_two_pow a hb)])
  have h2 := congrArg UInt64.toInt64 h
  exact h2
theorem g_and1 {a : Nat} (ha : a < 2 ^ 64) : lN a &&& 1 = lN (a % 2) := g_and (b := 1) ha (by decide) (Nat.and_two_pow_sub_one_eq_mod a 1)
theorem g_mask {a s p : Nat} (hp : 2 ^ s = p) (hs : s < 64) (ha : a < 2 ^ 64) : lN a &&& lN (p - 1) = lN (a % p) := by
  subst hp
  have := Nat.pow_lt_pow_right (show 1 < 2 by decide) hs
  exact g_and ha (by omega) (Nat.and_two_pow_sub_one_eq_mod a s)
theorem g_or {k p a b : Nat} (hp : 2 ^ k = p) (ha : a < p) (h : b * p + a < 2 ^ 64) : lN (b * p) ||| lN a = lN (b * p + a) := by
  subst hp
  have h1 : b * 2 ^ k ||| a = b * 2 ^ k + a := by rw [← Nat.shiftLeft_eq, Nat.shiftLeft_add_eq_or_of_lt ha]
  have h3 : UInt64.ofNat (b * 2 ^ k) ||| UInt64.ofNat a = UInt64.ofNat (b * 2 ^ k + a) := UInt64.toNat_inj.mp (by rw [UInt64.toNat_or, u_tn (by omega), u_tn (by omega), u_tn h, h1])
  have h2 := congrArg UInt64.toInt64 h3
  exact h2
theorem g_or' {k p a b : Nat} (hp : 2 ^ k = p) (ha : a < p) (h : a + b * p < 2 ^ 64) : lN a ||| lN (b * p) = lN (a + b * p) := by
  rw [Int64.or_comm, g_or hp ha (by omega), Nat.add_comm]
theorem g_ushr {a k p : Nat} {y : UInt64} (hy : y = UInt64.ofNat k) (hk : k < 64) (hp : 2 ^ k = p) (ha : a < 2 ^ 64) : ((lN a).toUInt64 >>> y).toInt64 = lN (a / p) := by
  subst hy hp
  have h : UInt64.ofNat a >>> UInt64.ofNat k = UInt64.ofNat (a / 2 ^ k) := UInt64.toNat_inj.mp (by rw [UInt64.toNat_shiftRight, u_tn ha, u_tn (by omega), u_tn (Nat.lt_of_le_of_lt (Nat.div_le_self _ _) ha), Nat.mod_eq_of_lt hk, Nat.shiftRight_eq_div_pow])
  have h2 := congrArg UInt64.toInt64 h
  exact h2
theorem g_shl {a k p : Nat} {y : Int64} (hy : y.toBitVec.smod 64 = BitVec.ofNat 64 k) (hk : k < 64) (hp : 2 ^ k = p) (ha : a < 2 ^ 64) : lN a <<< y = lN (a * p) := by
  subst hp
  apply Int64.toBitVec_inj.mp
  rw [Int64.toBitVec_shiftLeft, hy]
  apply BitVec.eq_of_toNat_eq
  have hb : (lN a).toBitVec.toNat = a := Nat.mod_eq_of_lt ha
  have hk' : (BitVec.ofNat 64 k).toNat = k := Nat.mod_eq_of_lt (by omega)
  have h : ((lN a).toBitVec <<< BitVec.ofNat 64 k).toNat = (a * 2 ^ k) % 2 ^ 64 := by simp only [BitVec.shiftLeft_eq', BitVec.toNat_shiftLeft, hb, hk', Nat.shiftLeft_eq]
  exact h
/-! ===== unsigned comparison by xor with the least ===== -/
theorem lN_bv (n : Nat) : (lN n).toBitVec = BitVec.ofNat 64 n := rfl
theorem lN_nat {n : Nat} (h : n < 2 ^ 64) : (lN n).toBitVec.toNat = n := by rw [lN_bv, BitVec.toNat_ofNat]; exact Nat.mod_eq_of_lt h
theorem lN_xor (a b : Nat) : lN a ^^^ lN b = lN (a ^^^ b) := by
  apply Int64.toBitVec_inj.mp; rw [Int64.toBitVec_xor, lN_bv, lN_bv, lN_bv]; apply BitVec.eq_of_getLsbD_eq; intro i hi; simp [BitVec.getLsbD_ofNat, Nat.testBit_xor, hi]
theorem lN_ti {m : Nat} (h : m < 2 ^ 64) : (lN m).toInt = if m < 2 ^ 63 then (m : Int) else (m : Int) - 2 ^ 64 := by
  have c := BitVec.toInt_eq_toNat_cond (lN m).toBitVec
  rw [lN_nat h] at c
  show (lN m).toBitVec.toInt = _
  rw [c]
  split <;> split <;> omega
theorem xor63 {x : Nat} (h : x < 2 ^ 63) : x ^^^ 2 ^ 63 = 2 ^ 63 + x := by
  apply Nat.eq_of_testBit_eq
  intro i
  rw [Nat.testBit_xor, Nat.testBit_two_pow]
  rcases Nat.lt_trichotomy i 63 with z | z | z
  · rw [Nat.testBit_two_pow_add_gt z, decide_eq_false (by omega)]; simp
  · subst z; rw [Nat.testBit_two_pow_add_eq]; simp
  · have hp : 2 ^ 64 ≤ 2 ^ i := Nat.pow_le_pow_right (by decide) z
    rw [Nat.testBit_lt_two_pow (show x < 2 ^ i by omega), Nat.testBit_lt_two_pow (show 2 ^ 63 + x < 2 ^ i by omega), decide_eq_false (by omega)]; rfl
theorem xorS {a : Nat} (h : a < 2 ^ 64) : (lN a ^^^ (-9223372036854775808)).toInt = (a : Int) - 2 ^ 63 := by
  rw [show (-9223372036854775808 : Int64) = lN (2 ^ 63) from by decide +kernel, lN_xor]
  rcases Nat.lt_or_ge a (2 ^ 63) with z | z
  · rw [xor63 z, lN_ti (by omega), if_neg (by omega)]; omega
  · obtain ⟨x, rfl⟩ : ∃ x, a = 2 ^ 63 + x := ⟨a - 2 ^ 63, by omega⟩
    rw [← xor63 (by omega), Nat.xor_assoc, Nat.xor_self, Nat.xor_zero, lN_ti (by omega), if_pos (by omega), xor63 (by omega)]; omega
theorem ultL {a b : Nat} (ha : a < 2 ^ 64) (hb : b < 2 ^ 64) : ((lN b ^^^ (-9223372036854775808)) ≤ (lN a ^^^ (-9223372036854775808))) ↔ b ≤ a := by
  rw [Int64.le_iff_toInt_le, xorS ha, xorS hb]; omega
end
section
/-! ===== worlds as blocks: N cells at the addresses T k, with the contents E k ===== -/
section Bw
def bw (N : Nat) (T : Nat → Nat) (E : Nat → va_E) : va_W := (List.range N).map (fun k => (T k, E k))
theorem bw_get {N k : Nat} {T : Nat → Nat} {E : Nat → va_E} (h : k < N) : (bw N T E)[k]? = some (T k, E k) := by
  simp [bw, h]
theorem bw_out {N k : Nat} {T : Nat → Nat} {E : Nat → va_E} (h : ¬ k < N) : (bw N T E)[k]? = none := by
  apply List.getElem?_eq_none
  simp [bw]
  omega
theorem bw_of {N k : Nat} {T : Nat → Nat} {E : Nat → va_E} {q : Nat × va_E} (h : (bw N T E)[k]? = some q) : k < N ∧ q = (T k, E k) := by
  by_cases hk : k < N
  · rw [bw_get hk] at h
    exact ⟨hk, (Option.some.inj h).symm⟩
  · rw [bw_out hk] at h
    cases h
theorem bw_set {N k : Nat} {T : Nat → Nat} {E : Nat → va_E} {e : va_E} (h : k < N) : (bw N T E).set k (T k, e) = bw N T (va_up E k e) := by
  apply List.ext_getElem?
  intro j
  rw [List.getElem?_set]
  by_cases hj : k = j
  · subst hj
    have hl : k < (bw N T E).length := by
      simp [bw]
      exact h
    rw [if_pos rfl, if_pos hl, bw_get h, va_up_self]
  · rw [if_neg hj]
    by_cases hN : j < N
    · rw [bw_get hN, bw_get hN, va_up_ne _ _ (fun q => hj q.symm)]
    · rw [bw_out hN, bw_out hN]
theorem bw_congr {N : Nat} {T : Nat → Nat} {E E' : Nat → va_E} (h : ∀ k, k < N → E k = E' k) : bw N T E = bw N T E' := by
  apply List.ext_getElem?
  intro j
  by_cases hN : j < N
  · rw [bw_get hN, bw_get hN, h j hN]
  · rw [bw_out hN, bw_out hN]
variable {D : va_G} {cl : List vw_C} {A A0 : Nat → Prop} {wc wr wd : va_W} {H H1 : Heap}
theorem nw_P1 (h : va_P D cl (wc ++ wr) H) : va_P D cl wc H := fun k q hk => h k q (by rw [List.getElem?_append_left (List.getElem?_eq_some_iff.mp hk).1]; exact hk)
theorem nw_P2 (h : va_P D cl (wc ++ wr) H) : va_P D cl wr H := fun k q hk => h (wc.length + k) q (by rw [List.getElem?_append_right (Nat.le_add_right _ _), Nat.add_sub_cancel_left]; exact hk)
theorem nw_D1 (h : va_D A (wc ++ wr)) : va_D A wc :=
  ⟨fun i j p q hi hj e => h.1 i j p q (by rw [List.getElem?_append_left (List.getElem?_eq_some_iff.mp hi).1]; exact hi) (by rw [List.getElem?_append_left (List.getElem?_eq_some_iff.mp hj).1]; exact hj) e,
   fun k q hk => h.2 k q (by rw [List.getElem?_append_left (List.getElem?_eq_some_iff.mp hk).1]; exact hk)⟩
theorem nw_D2 (h : va_D A (wc ++ wr)) : va_D A wr := by
  have g : ∀ (k : Nat) (q : Nat × va_E), wr[k]? = some q → (wc ++ wr)[wc.length + k]? = some q := fun k q hk => by
    rw [List.getElem?_append_right (Nat.le_add_right _ _), Nat.add_sub_cancel_left]; exact hk
  exact ⟨fun i j p q hi hj e => Nat.add_left_cancel (h.1 _ _ p q (g i p hi) (g j q hj) e), fun k q hk => h.2 _ q (g k q hk)⟩
/-- a cell of the one half is none of the other -/
theorem nw_ne (h : va_D A (wc ++ wr)) {i j : Nat} {p q : Nat × va_E} (hi : wc[i]? = some p) (hj : wr[j]? = some q) : p.1 ≠ q.1 := by
  intro e
  have hil : i < wc.length := (List.getElem?_eq_some_iff.mp hi).1
  have h1 : (wc ++ wr)[i]? = some p := by rw [List.getElem?_append_left hil]; exact hi
  have h2 : (wc ++ wr)[wc.length + j]? = some q := by rw [List.getElem?_append_right (Nat.le_add_right _ _), Nat.add_sub_cancel_left]; exact hj
  have := h.1 i (wc.length + j) p q h1 h2 e
  omega
theorem nw_free {H0 : Heap} {locs : List Loc} (hD : va_D A0 (wc ++ wr)) (hS : va_S A0 H0 H locs) (hA : ∀ q, H0.size ≤ q → A0 q) : ∀ q, va_A wc H.size q → A0 q := by
  intro q h
  rcases h with ⟨k, e, h⟩ | h
  · exact (nw_D1 hD).2 k (q, e) h
  · exact hA q (Nat.le_trans hS.1 h)
/-- behind a call that had the first half -/
theorem nw_join (hP : va_P D cl (wc ++ wr) H) (hD : va_D A0 (wc ++ wr)) (hk : ∀ q : Nat, q < H.size → ¬ va_A wc H.size q → H1[q]? = H[q]?) (hF : ∀ q, va_A wc H.size q → A0 q) (hP1 : va_P D cl wd H1) (hD1 : va_D (va_A wc H.size) wd) : va_P D cl (wd ++ wr) H1 ∧ va_D A0 (wd ++ wr) := by
  have apart : ∀ (k : Nat) (q : Nat × va_E), wr[k]? = some q → q.1 < H.size ∧ ¬ va_A wc H.size q.1 := by
    intro k q hq
    have hl := (nw_P2 hP k q hq).lt
    refine ⟨hl, fun h => ?_⟩
    rcases h with ⟨k2, e, h⟩ | h
    · exact nw_ne hD h hq rfl
    · omega
  refine ⟨va_P.app hP1 (fun k q hq => (nw_P2 hP k q hq).kept (hk q.1 (apart k q hq).1 (apart k q hq).2)), va_D.app (hD1.weaken (fun k q _ h => hF q.1 h)) (nw_D2 hD) (fun i j x y hx hy hxy => ?_)⟩
  exact (apart j y hy).2 (by rw [← hxy]; exact hD1.2 i x hx)
theorem nw_Psw (h : va_P D cl (wc ++ wr) H) : va_P D cl (wr ++ wc) H := va_P.app (nw_P2 h) (nw_P1 h)
theorem nw_Dsw (h : va_D A (wc ++ wr)) : va_D A (wr ++ wc) := va_D.app (nw_D2 h) (nw_D1 h) (fun i j p q hi hj e => nw_ne h hj hi e.symm)
end Bw
end
section
/-! ===== the values and words of the document, as numbers ===== -/
section Zp
def zLow (v : Nat) : Nat := if v = 2 ∨ v = 6 then 1 else 0
def zHigh (v : Nat) : Nat := if v = 3 ∨ v = 7 then 1 else 0
def zClear (v : Nat) : Nat := if v = 2 ∨ v = 6 ∨ v = 3 ∨ v = 7 then 1 else 0
def zDrive (p q : Nat) : Nat :=
  if p = 0 ∨ q = 0 then 0 else if p = 1 ∨ p = 8 ∨ q = 1 ∨ q = 8 then 1 else if p = 4 then q else if q = 4 then p
  else if (p = 2 ∧ q = 3) ∨ (p = 3 ∧ q = 2) then 1 else if p = 2 ∨ p = 3 then p else if q = 2 ∨ q = 3 then q else if p = q then p else 5
def zAnd (p q : Nat) : Nat := if zLow p = 1 ∨ zLow q = 1 then 2 else if p = 0 ∨ q = 0 then 0 else if zHigh p = 1 ∧ zHigh q = 1 then 3 else 1
def zOr (p q : Nat) : Nat := if zHigh p = 1 ∨ zHigh q = 1 then 3 else if p = 0 ∨ q = 0 then 0 else if zLow p = 1 ∧ zLow q = 1 then 2 else 1
def zXor (p q : Nat) : Nat := if p = 0 ∨ q = 0 then 0 else if zClear p = 0 ∨ zClear q = 0 then 1 else if zHigh p = zHigh q then 2 else 3
def zNot (v : Nat) : Nat := if v = 0 then 0 else if zLow v = 1 then 3 else if zHigh v = 1 then 2 else 1
def zJoin (o p q : Nat) : Nat :=
  if o = 0 then zDrive p q else if o = 1 then zAnd p q else if o = 2 then zOr p q else if o = 3 then zXor p q
  else if o = 4 then zNot (zAnd p q) else if o = 5 then zNot (zOr p q) else zNot (zXor p q)
def zStrip (o v : Nat) : Nat := if zLow v = 1 then 2 else if zHigh v = 1 then 3 else if o = 1 ∧ v = 4 then 4 else if o = 2 ∧ v = 0 then 0 else if o = 3 then 2 else 1
def zMatch (p q : Nat) : Nat := if p = 8 ∨ q = 8 ∨ (zLow p = 1 ∧ zLow q = 1) ∨ (zHigh p = 1 ∧ zHigh q = 1) then 1 else 0
theorem zDrive_lt : ∀ p, p < 9 → ∀ q, q < 9 → zDrive p q < 9 := by decide +kernel
theorem zAnd_lt : ∀ p, p < 9 → ∀ q, q < 9 → zAnd p q < 9 := by decide +kernel
theorem zOr_lt : ∀ p, p < 9 → ∀ q, q < 9 → zOr p q < 9 := by decide +kernel
theorem zXor_lt : ∀ p, p < 9 → ∀ q, q < 9 → zXor p q < 9 := by decide +kernel
theorem zNot_lt : ∀ p, p < 9 → zNot p < 9 := by decide +kernel
theorem zStrip_lt : ∀ o, o < 4 → ∀ p, p < 9 → zStrip o p < 9 := by decide +kernel
theorem zJoin_lt7 : ∀ o, o < 7 → ∀ p, p < 9 → ∀ q, q < 9 → zJoin o p q < 9 := by decide +kernel
/-- the places a .. a + k - 1 are f's, the others h's -/
def pov (f h : Nat → Nat) (a k : Nat) : Nat → Nat := fun j => if a ≤ j ∧ j < a + k then f j else h j
theorem pov_0 (f h : Nat → Nat) (a : Nat) : pov f h a 0 = h := by
  funext j
  unfold pov
  rw [if_neg (by omega)]
theorem pov_s (f h : Nat → Nat) (a k : Nat) : va_up (pov f h a k) (a + k) (f (a + k)) = pov f h a (k + 1) := by
  funext j
  unfold pov va_up
  by_cases hj : j = a + k
  · subst hj
    rw [if_pos rfl, if_pos (by omega)]
  · rw [if_neg hj]
    show (if a ≤ j ∧ j < a + k then f j else h j) = _
    by_cases hk : a ≤ j ∧ j < a + k
    · rw [if_pos hk, if_pos (by omega)]
    · rw [if_neg hk, if_neg (by omega)]
theorem pov_s0 (f h : Nat → Nat) (k : Nat) : va_up (pov f h 0 k) k (f k) = pov f h 0 (k + 1) := by
  have h1 := pov_s f h 0 k
  rw [Nat.zero_add] at h1
  exact h1
theorem pov_in {f h : Nat → Nat} {a k j : Nat} (h1 : a ≤ j) (h2 : j < a + k) : pov f h a k j = f j := if_pos ⟨h1, h2⟩
theorem pov_out {f h : Nat → Nat} {a k j : Nat} (h1 : j < a ∨ a + k ≤ j) : pov f h a k j = h j := if_neg (by omega)
theorem pov_lt {f h : Nat → Nat} {a k b : Nat} (hf : ∀ j, a ≤ j → j < a + k → f j < b) (hh : ∀ j, h j < b) : ∀ j, pov f h a k j < b := by
  intro j
  unfold pov
  by_cases hj : a ≤ j ∧ j < a + k
  · rw [if_pos hj]; exact hf j hj.1 hj.2
  · rw [if_neg hj]; exact hh j
/-- the number of the first N elements -/
def zNum (f : Nat → Nat) : Nat → Nat
  | 0 => 0
  | k + 1 => zNum f k + zHigh (f k) * 2 ^ k
theorem zHigh_le (v : Nat) : zHigh v ≤ 1 := by
  unfold zHigh
  split <;> omega
theorem zNum_lt (f : Nat → Nat) : ∀ k, zNum f k < 2 ^ k
  | 0 => by simp [zNum]
  | k + 1 => by
    have h1 := zNum_lt f k
    have h2 := zHigh_le (f k)
    have h3 : zHigh (f k) * 2 ^ k ≤ 1 * 2 ^ k := Nat.mul_le_mul_right _ h2
    rw [zNum, Nat.pow_succ]
    omega
theorem zNum_congr {f h : Nat → Nat} : ∀ {k : Nat}, (∀ j, j < k → f j = h j) → zNum f k = zNum h k
  | 0, _ => rfl
  | k + 1, e => by rw [zNum, zNum, zNum_congr (fun j hj => e j (by omega)), e k (by omega)]
/-- all of the first N are clear -/
def zAll (f : Nat → Nat) (N : Nat) : Nat := if ∀ k, k < N → zClear (f k) = 1 then 1 else 0
def zFold (o v : Nat) (f : Nat → Nat) : Nat → Nat
  | 0 => v
  | k + 1 => zJoin o (zFold o v f k) (f k)
theorem zFold_lt {o v : Nat} {f : Nat → Nat} (ho : o < 7) (hv : v < 9) (hf : ∀ k, f k < 9) : ∀ k, zFold o v f k < 9
  | 0 => hv
  | k + 1 => zJoin_lt7 o ho _ (zFold_lt ho hv hf k) _ (hf k)
/-- the last element, ZERO of an empty word -/
def zLast (f : Nat → Nat) (N : Nat) : Nat := if N = 0 then 2 else f (N - 1)
/-- a word's elements, its last one again and again beyond its end -/
def zExt (f : Nat → Nat) (N : Nat) : Nat → Nat := fun k => if k < N then f k else zLast f N
theorem zExt_in {f : Nat → Nat} {N k : Nat} (h : k < N) : zExt f N k = f k := if_pos h
theorem zExt_out {f : Nat → Nat} {N k : Nat} (h : N ≤ k) : zExt f N k = zLast f N := if_neg (by omega)
theorem zLast_lt {f : Nat → Nat} (hf : ∀ k, f k < 9) (N : Nat) : zLast f N < 9 := by
  unfold zLast
  by_cases h : N = 0
  · rw [if_pos h]; decide
  · rw [if_neg h]; exact hf _
/-- how many bits count: all 64 where it is signed -/
def zB (b N : Nat) : Nat := if b = 1 then 64 else N
theorem zB_le (b : Nat) {N : Nat} (h : N ≤ 64) : zB b N ≤ 64 := by
  unfold zB
  split <;> omega
/-- the 64 bits of a word's number; b = 1: signed -/
def zLong (b : Nat) (f : Nat → Nat) (N : Nat) : Nat := zNum (zExt f N) (zB b N)
theorem zLong_lt (b : Nat) (f : Nat → Nat) {N : Nat} (h : N ≤ 64) : zLong b f N < 2 ^ 64 :=
  Nat.lt_of_lt_of_le (zNum_lt _ _) (Nat.pow_le_pow_right (by decide) (zB_le b h))
theorem zNum_s0 {f : Nat → Nat} {k : Nat} (h : zHigh (f k) = 0) : zNum f (k + 1) = zNum f k := by
  rw [zNum, h, Nat.zero_mul, Nat.add_zero]
/-- it can be reckoned with -/
def zCnt (f : Nat → Nat) (N : Nat) : Nat := if 0 < N ∧ zAll f N = 1 then 1 else 0
theorem zAll_01 (f : Nat → Nat) (N : Nat) : zAll f N = 0 ∨ zAll f N = 1 := by
  unfold zAll
  split
  · exact Or.inr rfl
  · exact Or.inl rfl
theorem zCnt_0 {f : Nat → Nat} {N : Nat} (h : N ≤ 0) : (0 : Int32) = nI (zCnt f N) := by
  rw [show zCnt f N = 0 from if_neg (by omega)]; rfl
theorem zCnt_1 {f : Nat → Nat} {N : Nat} (h : 0 < N) (h2 : ¬ nI (zAll f N) = 0) : (1 : Int32) = nI (zCnt f N) := by
  rcases zAll_01 f N with q | q
  · exact absurd (by rw [q]; rfl) h2
  · rw [show zCnt f N = 1 from if_pos ⟨h, q⟩]; rfl
theorem zCnt_2 {f : Nat → Nat} {N : Nat} (h2 : nI (zAll f N) = 0) : (0 : Int32) = nI (zCnt f N) := by
  rcases zAll_01 f N with q | q
  · rw [show zCnt f N = 0 from if_neg (by omega)]; rfl
  · rw [q] at h2; exact absurd h2 (by decide)
theorem va_up_eta {α : Type} (f : Nat → α) (k : Nat) : va_up f k (f k) = f := by
  funext j
  unfold va_up
  by_cases h : j = k
  · rw [if_pos h, h]
  · rw [if_neg h]
theorem nv_step (g : Nat → Nat → Nat) (i : Nat) (f h : Nat → Nat) (k : Nat) : va_up (va_up g i (pov f h 0 k)) i (va_up ((va_up g i (pov f h 0 k)) i) k (f k)) = va_up g i (pov f h 0 (k + 1)) := by
  rw [va_up_self, bx_uu, pov_s0]
theorem nv_stepA (g : Nat → Nat → Nat) (i : Nat) (f h : Nat → Nat) (a k : Nat) : va_up (va_up g i (pov f h a k)) i (va_up ((va_up g i (pov f h a k)) i) (a + k) (f (a + k))) = va_up g i (pov f h a (k + 1)) := by
  rw [va_up_self, bx_uu, pov_s]
theorem zShl1 {k : Nat} (hk : k < 64) : (1 : Int64) <<< ((nI k).toInt64 &&& 63) = lN (2 ^ k) := by
  have h := wb_shl 1 hk
  rw [Nat.one_mul] at h
  exact h
theorem zNum_s1 {f : Nat → Nat} {k : Nat} (hk : k < 64) (h : zHigh (f k) = 1) : lN (zNum f k) ||| lN (2 ^ k) = lN (zNum f (k + 1)) := by
  have h1 := zNum_lt f k
  have h2 : (2 : Nat) ^ k * 2 ≤ 2 ^ 64 := by
    rw [← Nat.pow_succ]
    exact Nat.pow_le_pow_right (by decide) (by omega)
  have h3 := g_or' (k := k) (p := 2 ^ k) (a := zNum f k) (b := 1) rfl h1 (by omega)
  rw [Nat.one_mul] at h3
  rw [h3, zNum, h, Nat.one_mul]
/-- a number's bits as values -/
def zPut (v k : Nat) : Nat := if v / 2 ^ k % 2 = 0 then 2 else 3
theorem zPut_lt (v k : Nat) : zPut v k < 9 := by
  unfold zPut
  split <;> omega
end Zp
end
section
/-! ===== one list of words for all methods: the good ones of the tables; calls by it ===== -/
section Nz
def nzG : List Cond := lw_tbl.filter goodWord
theorem nzG_good : ∀ w ∈ nzG, goodWord w = true := fun w h => (List.mem_filter.mp h).2
theorem nzG_tbl : ∀ w ∈ nzG, w ∈ lw_tbl := fun w h => (List.mem_filter.mp h).1
theorem nz_pay {args : Array Value} {s : State} (h : ∀ w ∈ nzG, w.before args s = true) {w0 : Cond} (h0 : w0 ∈ nzG) : ∀ w ∈ w0 :: nzG, ∀ (a' : Array Value) (U : State), s.WarmedH U.vm → w.before a' U = true := fun w hw a' U hW => by
  rcases List.mem_cons.mp hw with e | e
  · rw [e]; exact word_at hW (good_of_word (nzG_good w0 h0)) (h w0 h0)
  · exact word_at hW (good_of_word (nzG_good w e)) (h w e)
/-- a static call, by its words -/
def nzS (own : String) (i : Nat) (y : MethodName) (b : ByteArray) (mL : Nat) (r : Option FieldType) (n : Nat) : Prop :=
  Cond.methodLink own i y ∈ nzG ∧ Cond.static y ∈ nzG ∧ Cond.initialized y.cls ∈ nzG ∧ Cond.code y b mL r ∈ nzG ∧ (y.cls ≠ "java/lang/invoke/MethodHandle" ∧ y.cls ≠ "java/lang/invoke/VarHandle") ∧ (parseMethodDescriptor y.desc).map (fun d => d.parameters.length) = some n
/-- a virtual call, by its words -/
def nzV (own : String) (i : Nat) (C : String) (y : MethodName) (b : ByteArray) (mL : Nat) (r : Option FieldType) (n : Nat) : Prop :=
  Cond.methodLink own i y ∈ nzG ∧ Cond.instanceMethod y ∈ nzG ∧ Cond.selects C y y ∈ nzG ∧ Cond.initialized y.cls ∈ nzG ∧ Cond.code y b mL r ∈ nzG ∧ (y.cls ≠ "java/lang/invoke/MethodHandle" ∧ y.cls ≠ "java/lang/invoke/VarHandle") ∧ (parseMethodDescriptor y.desc).map (fun d => d.parameters.length) = some n
variable {p : Program} {l : Launch} {e : Env} {R : Room} {s : State} {m : MethodId} {args : Array Value} {below : List Frame} {meth : Method} {c : Code} {H : Heap} {locs : List Loc} {cells slots : Nat} {Q : State → Prop}
variable {own C : String} {i : Nat} {y : MethodName} {b cc : ByteArray} {mL nL n mc ms pc : Nat} {r : Option FieldType} {rm : Room} {As rest st0 : List Value} {ls : Array Slot}
theorem nzS.cb (h : nzS own i y b mL r n) (hts : ∀ w ∈ nzG, w.before args s = true) (hrc : rm.cells = mc) (hrs : rm.slots = ms) (hR : rm.frames + 1 ≤ R.frames ∧ 8 + (mL + 11) + rm.locals ≤ R.locals) : CallB R s args own i y b mL r (Cond.code y b mL r :: nzG) rm mc ms n ∧ (Cond.static y).before args s = true := by
  obtain ⟨h1, h2, h3, h4, h5, h6⟩ := h
  refine ⟨⟨hrc, hrs, hR.1, hR.2, nz_pay hts h4, List.mem_cons_self, hts _ h4, hts _ h3, h5, fun sig hs => ?_, hts _ h1⟩, hts _ h2⟩
  rw [hs] at h6
  exact (Option.some.inj h6).symm
theorem nzV.cb (h : nzV own i C y b mL r n) (hts : ∀ w ∈ nzG, w.before args s = true) (hrc : rm.cells = mc) (hrs : rm.slots = ms) (hR : rm.frames + 1 ≤ R.frames ∧ 8 + (mL + 11) + rm.locals ≤ R.locals) : CallW R s args own C i y b mL r (Cond.code y b mL r :: nzG) rm mc ms n := by
  obtain ⟨h1, h2, h3, h4, h5, h6, h7⟩ := h
  refine ⟨⟨hrc, hrs, hR.1, hR.2, nz_pay hts h5, List.mem_cons_self, hts _ h5, hts _ h4, h6, fun sig hs => ?_, hts _ h1⟩, hts _ h2, hts _ h3⟩
  rw [hs] at h7
  exact (Option.some.inj h7).symm
/-- the callee's room fits mine -/
def nzR (rm R : Room) (mL k n : Nat) : Prop := rm.cells = k ∧ rm.slots = n ∧ rm.frames + 1 ≤ R.frames ∧ 8 + (mL + 11) + rm.locals ≤ R.locals
variable {Pre : State → Prop}
/-- a call of a static method that reads alone: an int comes back -/
theorem nz_si {post : Int32 → Prop} (S : CallFix p m c cc nL s args nzG own) (hM : Met l y (Cond.code y b mL r :: nzG) rm (va_Pc As Pre) (vp_Si post) 0 0 (fun _ => False)) (hw : nzS own i y b mL r n) (hR : nzR rm R mL 0 0) (hc : cells ≤ R.cells ∧ slots ≤ R.slots)
    (hbl : ∀ (a : Array Value) (U : State) (g : JFrame) (mk : MethodId), Pre U → Pre (U.calling g mk a)) (hpre : ∀ U : State, U.heap = H → s.WarmedH U.vm → Pre U)
    (hn : As.length = n) (hsz : ls.size = nL) (hst : st0 = As.reverse ++ rest) (hW : (rest.map fun v => v.category).sum ≤ 8) (hdg : decode cc pc = .ok (.invokestatic i, 3))
    (kk : ∀ r9 : Int32, post r9 → W p l e R s m args below meth c H locs cells slots Q (F0 m (pc + 3) ls (.int r9 :: rest))) : W p l e R s m args below meth c H locs cells slots Q (F0 m pc ls st0) :=
  vp_callSi (W.runS S hM (hw.cb S.2.2.2.2 hR.1 hR.2.1 hR.2.2) ⟨fun a U g mk q => ⟨q.1, hbl a U g mk q.2⟩, fun U hU hW => ⟨rfl, hpre U hU hW⟩⟩ rfl hn hsz hst (lv_room hW) hdg hc) kk
theorem nz_sl {post : Int64 → Prop} (S : CallFix p m c cc nL s args nzG own) (hM : Met l y (Cond.code y b mL r :: nzG) rm (va_Pc As Pre) (vp_Sl post) 0 0 (fun _ => False)) (hw : nzS own i y b mL r n) (hR : nzR rm R mL 0 0) (hc : cells ≤ R.cells ∧ slots ≤ R.slots)
    (hbl : ∀ (a : Array Value) (U : State) (g : JFrame) (mk : MethodId), Pre U → Pre (U.calling g mk a)) (hpre : ∀ U : State, U.heap = H → s.WarmedH U.vm → Pre U)
    (hn : As.length = n) (hsz : ls.size = nL) (hst : st0 = As.reverse ++ rest) (hW : (rest.map fun v => v.category).sum ≤ 8) (hdg : decode cc pc = .ok (.invokestatic i, 3))
    (kk : ∀ r9 : Int64, post r9 → W p l e R s m args below meth c H locs cells slots Q (F0 m (pc + 3) ls (.long r9 :: rest))) : W p l e R s m args below meth c H locs cells slots Q (F0 m pc ls st0) :=
  vp_callSl (W.runS S hM (hw.cb S.2.2.2.2 hR.1 hR.2.1 hR.2.2) ⟨fun a U g mk q => ⟨q.1, hbl a U g mk q.2⟩, fun U hU hW => ⟨rfl, hpre U hU hW⟩⟩ rfl hn hsz hst (lv_room hW) hdg hc) kk
/-- .. of a virtual one, on the object o -/
theorem nz_vi {post : Int32 → Prop} {o : Nat} (S : CallFix p m c cc nL s args nzG own) (hM : Met l y (Cond.code y b mL r :: nzG) rm (va_Pc (.ref o :: As) Pre) (vp_Si post) 0 0 (fun _ => False)) (hw : nzV own i C y b mL r n) (hR : nzR rm R mL 0 0) (hc : cells ≤ R.cells ∧ slots ≤ R.slots)
    (hbl : ∀ (a : Array Value) (U : State) (g : JFrame) (mk : MethodId), Pre U → Pre (U.calling g mk a)) (hob : ∃ cellB : Cell, H[o]? = some cellB ∧ cellB.vm.isStatics = false ∧ s.vm.findClass C = some cellB.cls) (hpre : ∀ U : State, U.heap = H → s.WarmedH U.vm → Pre U)
    (hn : As.length = n) (hsz : ls.size = nL) (hst : st0 = As.reverse ++ .ref o :: rest) (hW : (rest.map fun v => v.category).sum ≤ 8) (hdg : decode cc pc = .ok (.invokevirtual i, 3))
    (kk : ∀ r9 : Int32, post r9 → W p l e R s m args below meth c H locs cells slots Q (F0 m (pc + 3) ls (.int r9 :: rest))) : W p l e R s m args below meth c H locs cells slots Q (F0 m pc ls st0) :=
  vp_callSi (W.runV S hM (hw.cb S.2.2.2.2 hR.1 hR.2.1 hR.2.2) ⟨fun a U g mk q => ⟨q.1, hbl a U g mk q.2⟩, hob, fun U hU hW => ⟨rfl, hpre U hU hW⟩⟩ rfl hn hsz hst (lv_room hW) hdg hc) kk
theorem nz_vl {post : Int64 → Prop} {o : Nat} (S : CallFix p m c cc nL s args nzG own) (hM : Met l y (Cond.code y b mL r :: nzG) rm (va_Pc (.ref o :: As) Pre) (vp_Sl post) 0 0 (fun _ => False)) (hw : nzV own i C y b mL r n) (hR : nzR rm R mL 0 0) (hc : cells ≤ R.cells ∧ slots ≤ R.slots)
    (hbl : ∀ (a : Array Value) (U : State) (g : JFrame) (mk : MethodId), Pre U → Pre (U.calling g mk a)) (hob : ∃ cellB : Cell, H[o]? = some cellB ∧ cellB.vm.isStatics = false ∧ s.vm.findClass C = some cellB.cls) (hpre : ∀ U : State, U.heap = H → s.WarmedH U.vm → Pre U)
    (hn : As.length = n) (hsz : ls.size = nL) (hst : st0 = As.reverse ++ .ref o :: rest) (hW : (rest.map fun v => v.category).sum ≤ 8) (hdg : decode cc pc = .ok (.invokevirtual i, 3))
    (kk : ∀ r9 : Int64, post r9 → W p l e R s m args below meth c H locs cells slots Q (F0 m (pc + 3) ls (.long r9 :: rest))) : W p l e R s m args below meth c H locs cells slots Q (F0 m pc ls st0) :=
  vp_callSl (W.runV S hM (hw.cb S.2.2.2.2 hR.1 hR.2.1 hR.2.2) ⟨fun a U g mk q => ⟨q.1, hbl a U g mk q.2⟩, hob, fun U hU hW => ⟨rfl, hpre U hU hW⟩⟩ rfl hn hsz hst (lv_room hW) hdg hc) kk
theorem nz_eqi {x y : Int32} (h : x = y) (k : W p l e R s m args below meth c H locs cells slots Q (F0 m pc ls (.int y :: rest))) : W p l e R s m args below meth c H locs cells slots Q (F0 m pc ls (.int x :: rest)) := h ▸ k
theorem nz_eql {x y : Int64} (h : x = y) (k : W p l e R s m args below meth c H locs cells slots Q (F0 m pc ls (.long y :: rest))) : W p l e R s m args below meth c H locs cells slots Q (F0 m pc ls (.long x :: rest)) := h ▸ k
/-- a contract out of the walk of its body -/
theorem nz_of {Pc : Array Value → State → Prop} {Qc : Array Value → State → Outcome → State → Prop} {free : Addr → Prop} (hy : plainName y.cls = true) (ho : y.cls = own)
    (body : ∀ (p : Program) (e : Env) (s : State) (m : MethodId) (args : Array Value) (below : List Frame) (meth : Method) (c : Code), CallFix p m c b mL s args nzG own → meth.sig.returnType = r → meth.locks = false → meth.name = y.name → Pc args s →
      W p l e rm s m args below meth c s.heap [] 0 0 (MQ below Qc args s mc ms free) (entryFrame m args mL)) : Met l y (Cond.code y b mL r :: nzG) rm Pc Qc mc ms free := by
  refine Met.ofW (cc := b) (maxL := mL) (ret := r) hy rfl ?_
  intro p e s m args below meth c s₁ B hml hP
  exact body p e s m args below meth c ⟨B.exec, B.bytes, hml, by rw [← ho]; exact findClass_of_methodNamed B.named, fun w h => atoms_spec B.pre w (List.mem_cons_of_mem _ h)⟩ B.returns B.notSynchronized (name_of_methodNamed B.named B.method).1 hP
/-- .. of one that may throw -/
theorem nz_ofT {Pc : Array Value → State → Prop} {Qc : Array Value → State → Outcome → State → Prop} {free : Addr → Prop} {k0 n0 : Nat} (hy : plainName y.cls = true) (ho : y.cls = own)
    (body : ∀ (p : Program) (e : Env) (s : State) (m : MethodId) (args : Array Value) (below : List Frame) (meth : Method) (c : Code), CallFix p m c b mL s args nzG own → meth.sig.returnType = r → meth.locks = false → (∀ x ∈ c.exceptionTable.toList, ∀ pc, covers x pc = false) → Pc args s →
      W p l e rm s m args below meth c s.heap [] 0 0 (ny_MQ below Qc args s k0 n0 mc ms free) (entryFrame m args mL)) : ny_Met l y (Cond.code y b mL r :: nzG) rm Pc Qc k0 n0 mc ms free := by
  refine ny_ofW (cc := b) (maxL := mL) (ret := r) hy rfl ?_
  intro p e s m args below meth c s₁ B hml hno hP
  exact body p e s m args below meth c ⟨B.exec, B.bytes, hml, by rw [← ho]; exact findClass_of_methodNamed B.named, fun w h => atoms_spec B.pre w (List.mem_cons_of_mem _ h)⟩ B.returns B.notSynchronized hno hP
theorem nz_entry {vs : List Value} {lv : List (Nat × Value)} (h : (lg_sl vs).length ≤ n) (he : lv_args 0 vs = lv) (k : ∀ ls : Array Slot, lv_has ls n lv → W p l e R s m args below meth c H locs cells slots Q (F0 m 0 ls [])) : W p l e R s m args below meth c H locs cells slots Q (entryFrame m vs.toArray n) := by
  rw [lg_entry_eq]
  exact k _ (he ▸ lv_entry vs h)
end Nz
end
section
theorem nz_at {w : Cond} (i : Nat) (h : tables_1[i]? = some w) (hg : goodWord w = true) : w ∈ nzG := List.mem_filter.mpr ⟨List.mem_append_right _ (List.mem_of_getElem? h), hg⟩
theorem nz_pv {w : Cond} (i : Nat) (h : (k2_sels lw_privs)[i]? = some w) (hg : goodWord w = true := by rfl) : w ∈ nzG := List.mem_filter.mpr ⟨List.mem_append_left _ (List.mem_of_getElem? h), hg⟩
def nmSp (E : String) : List Cond := [.isRef (.static Bundle.tN "UNASSIGNED_STACK" Bundle.steD), .isRef (.static Bundle.tN "SUPPRESSED_SENTINEL" Bundle.listD), .laysStatic Bundle.tN "UNASSIGNED_STACK" Bundle.steD, .laysStatic Bundle.tN "SUPPRESSED_SENTINEL" Bundle.listD, .castable E E, .declares (Bundle.initS "java/lang/RuntimeException"), .declares (Bundle.initS "java/lang/Exception"), .declares (Bundle.initS Bundle.tN)]
theorem kat_of {L sp : List Cond} (ps : List Nat) (hp : L = ps.filterMap (fun i => (sp ++ tables_1)[i]?)) (hg : L.all (fun w => goodWord w || sp.any (fun x => decide (w = x))) = true) : ∀ w ∈ L, w ∈ sp ∨ w ∈ nzG := by
  intro w hw
  have h1 := List.all_eq_true.mp hg w hw
  rw [hp] at hw
  obtain ⟨i, -, hi⟩ := List.mem_filterMap.mp hw
  rcases List.mem_append.mp (List.mem_of_getElem? hi) with h | h
  · exact Or.inl h
  · rcases (Bool.or_eq_true _ _).mp h1 with g | g
    · exact Or.inr (List.mem_filter.mpr ⟨List.mem_append_right _ h, g⟩)
    · obtain ⟨x, hx, e⟩ := List.any_eq_true.mp g
      rw [of_decide_eq_true e]
      exact Or.inl hx
set_option maxRecDepth 100000 in
theorem in_W : ∀ w ∈ u_ws RW FW 2, w ∈ nzG := by decide +kernel
set_option maxRecDepth 100000 in
theorem in_N : ∀ w ∈ u_ws RN FN 2, w ∈ nzG := by decide +kernel
set_option maxRecDepth 100000 in
theorem in_M : ∀ w ∈ u_ws RM FM 5, w ∈ nzG := by decide +kernel
set_option maxRecDepth 100000 in
theorem kWire_9 : nzS RI 9 yWire_isLow bWire_isLow 1 (some .boolean) 1 := ⟨nz_at 205 (by decide +kernel) rfl, nz_at 206 (by decide +kernel) rfl, nz_at 9 (by decide +kernel) rfl, nz_at 207 (by decide +kernel) rfl, by decide, by decide +kernel⟩
set_option maxRecDepth 100000 in
theorem kWire_15 : nzS RI 15 yWire_isHigh bWire_isHigh 1 (some .boolean) 1 := ⟨nz_at 208 (by decide +kernel) rfl, nz_at 209 (by decide +kernel) rfl, nz_at 9 (by decide +kernel) rfl, nz_at 210 (by decide +kernel) rfl, by decide, by decide +kernel⟩
set_option maxRecDepth 100000 in
theorem kWire_18 : nzS RI 18 yWire_drive bWire_drive 4 (some .int) 2 := ⟨nz_at 253 (by decide +kernel) rfl, nz_at 254 (by decide +kernel) rfl, nz_at 9 (by decide +kernel) rfl, nz_at 255 (by decide +kernel) rfl, by decide, by decide +kernel⟩
set_option maxRecDepth 100000 in
theorem kWire_22 : nzS RI 22 yWire_and bWire_and 2 (some .int) 2 := ⟨nz_at 256 (by decide +kernel) rfl, nz_at 257 (by decide +kernel) rfl, nz_at 9 (by decide +kernel) rfl, nz_at 258 (by decide +kernel) rfl, by decide, by decide +kernel⟩
set_option maxRecDepth 100000 in
theorem kWire_25 : nzS RI 25 yWire_or bWire_or 2 (some .int) 2 := ⟨nz_at 259 (by decide +kernel) rfl, nz_at 260 (by decide +kernel) rfl, nz_at 9 (by decide +kernel) rfl, nz_at 261 (by decide +kernel) rfl, by decide, by decide +kernel⟩
set_option maxRecDepth 100000 in
theorem kWire_28 : nzS RI 28 yWire_xor bWire_xor 2 (some .int) 2 := ⟨nz_at 262 (by decide +kernel) rfl, nz_at 263 (by decide +kernel) rfl, nz_at 9 (by decide +kernel) rfl, nz_at 264 (by decide +kernel) rfl, by decide, by decide +kernel⟩
set_option maxRecDepth 100000 in
theorem kWire_31 : nzS RI 31 yWire_not bWire_not 1 (some .int) 1 := ⟨nz_at 266 (by decide +kernel) rfl, nz_at 267 (by decide +kernel) rfl, nz_at 9 (by decide +kernel) rfl, nz_at 268 (by decide +kernel) rfl, by decide, by decide +kernel⟩
set_option maxRecDepth 100000 in
theorem kWire_35 : nzS RI 35 yWire_isClear bWire_isClear 1 (some .boolean) 1 := ⟨nz_at 265 (by decide +kernel) rfl, nz_at 203 (by decide +kernel) rfl, nz_at 9 (by decide +kernel) rfl, nz_at 204 (by decide +kernel) rfl, by decide, by decide +kernel⟩
set_option maxRecDepth 100000 in
theorem kW_oi : Cond.methodLink RW 3 Lib.objectInit ∈ nzG ∧ Cond.instanceMethod Lib.objectInit ∈ nzG ∧ Cond.code Lib.objectInit ⟨#[0xb1]⟩ 1 none ∈ nzG := ⟨nz_at 27 (by decide +kernel) rfl, nz_at 19 (by decide +kernel) rfl, nz_at 20 (by decide +kernel) rfl⟩
abbrev fW_size : Nat := 9
set_option maxRecDepth 100000 in
theorem fl_W_size : Cond.fieldLink RW 9 "NineValues$Word" "size" "I" ∈ nzG := nz_at 28 (by decide +kernel) rfl
abbrev fW_elements : Nat := 15
set_option maxRecDepth 100000 in
theorem fl_W_elements : Cond.fieldLink RW 15 "NineValues$Word" "elements" "[I" ∈ nzG := nz_at 30 (by decide +kernel) rfl
set_option maxRecDepth 100000 in
theorem kWord_19 : nzV RW 19 RW yWord_lay bWord_lay 6 none 4 := ⟨nz_at 331 (by decide +kernel) rfl, nz_at 274 (by decide +kernel) rfl, nz_at 275 (by decide +kernel) rfl, nz_at 2 (by decide +kernel) rfl, nz_at 276 (by decide +kernel) rfl, by decide, by decide +kernel⟩
set_option maxRecDepth 100000 in
theorem kWord_23 : nzS RW 23 yWire_isClear bWire_isClear 1 (some .boolean) 1 := ⟨nz_at 202 (by decide +kernel) rfl, nz_at 203 (by decide +kernel) rfl, nz_at 9 (by decide +kernel) rfl, nz_at 204 (by decide +kernel) rfl, by decide, by decide +kernel⟩
set_option maxRecDepth 100000 in
theorem kWord_29 : nzV RW 29 RW yWord_isClear bWord_isClear 2 (some .boolean) 0 := ⟨nz_at 291 (by decide +kernel) rfl, nz_at 199 (by decide +kernel) rfl, nz_at 200 (by decide +kernel) rfl, nz_at 2 (by decide +kernel) rfl, nz_at 201 (by decide +kernel) rfl, by decide, by decide +kernel⟩
set_option maxRecDepth 100000 in
theorem kWord_32 : nzV RW 32 RW yWord_last bWord_last 1 (some .int) 0 := ⟨nz_at 231 (by decide +kernel) rfl, nz_at 232 (by decide +kernel) rfl, nz_at 233 (by decide +kernel) rfl, nz_at 2 (by decide +kernel) rfl, nz_at 234 (by decide +kernel) rfl, by decide, by decide +kernel⟩
set_option maxRecDepth 100000 in
theorem kWord_36 : nzS RW 36 yWire_isHigh bWire_isHigh 1 (some .boolean) 1 := ⟨nz_at 235 (by decide +kernel) rfl, nz_at 209 (by decide +kernel) rfl, nz_at 9 (by decide +kernel) rfl, nz_at 210 (by decide +kernel) rfl, by decide, by decide +kernel⟩
set_option maxRecDepth 100000 in
theorem kWord_39 : nzS RW 39 yWire_join bWire_join 3 (some .int) 3 := ⟨nz_at 419 (by decide +kernel) rfl, nz_at 251 (by decide +kernel) rfl, nz_at 9 (by decide +kernel) rfl, nz_at 252 (by decide +kernel) rfl, by decide, by decide +kernel⟩
set_option maxRecDepth 100000 in
theorem kN_oi : Cond.methodLink RN 1 Lib.objectInit ∈ nzG ∧ Cond.instanceMethod Lib.objectInit ∈ nzG ∧ Cond.code Lib.objectInit ⟨#[0xb1]⟩ 1 none ∈ nzG := ⟨nz_at 18 (by decide +kernel) rfl, nz_at 19 (by decide +kernel) rfl, nz_at 20 (by decide +kernel) rfl⟩
abbrev fN_places : Nat := 11
set_option maxRecDepth 100000 in
theorem fl_N_places : Cond.fieldLink RN 11 "NineValues" "places" "[LNineValues$Word;" ∈ nzG := nz_at 38 (by decide +kernel) rfl
abbrev nmK : Nat := 9
set_option maxRecDepth 100000 in
theorem kN_clW : Cond.classLink RN 9 RW ∈ nzG := nz_at 21 (by decide +kernel) rfl
abbrev nmI : Nat := 15
abbrev fN_answer : Nat := 16
set_option maxRecDepth 100000 in
theorem fl_N_answer : Cond.fieldLink RN 16 "NineValues" "answer" "LNineValues$Word;" ∈ nzG := nz_at 39 (by decide +kernel) rfl
set_option maxRecDepth 100000 in
theorem kN_20 : nzS RN 20 yN_requirePlace bN_requirePlace 1 none 1 := ⟨nz_at 54 (by decide +kernel) rfl, nz_at 55 (by decide +kernel) rfl, nz_at 1 (by decide +kernel) rfl, nz_at 56 (by decide +kernel) rfl, by decide, by decide +kernel⟩
set_option maxRecDepth 100000 in
theorem kN_24 : nzS RN 24 yN_requireLength bN_requireLength 1 none 1 := ⟨nz_at 126 (by decide +kernel) rfl, nz_at 127 (by decide +kernel) rfl, nz_at 1 (by decide +kernel) rfl, nz_at 128 (by decide +kernel) rfl, by decide, by decide +kernel⟩
set_option maxRecDepth 100000 in
theorem kN_27 : nzS RN 27 yN_requireValue bN_requireValue 1 none 1 := ⟨nz_at 145 (by decide +kernel) rfl, nz_at 146 (by decide +kernel) rfl, nz_at 1 (by decide +kernel) rfl, nz_at 147 (by decide +kernel) rfl, by decide, by decide +kernel⟩
set_option maxRecDepth 100000 in
theorem kN_30 : nzV RN 30 RW yWord_become bWord_become 4 none 2 := ⟨nz_at 149 (by decide +kernel) rfl, nz_at 150 (by decide +kernel) rfl, nz_at 151 (by decide +kernel) rfl, nz_at 2 (by decide +kernel) rfl, nz_at 152 (by decide +kernel) rfl, by decide, by decide +kernel⟩
set_option maxRecDepth 100000 in
theorem kN_34 : nzV RN 34 RN yN_requireElement bN_requireElement 3 none 2 := ⟨nz_at 160 (by decide +kernel) rfl, nz_at 162 (by decide +kernel) rfl, nz_pv 1 (by decide +kernel), nz_at 1 (by decide +kernel) rfl, nz_at 163 (by decide +kernel) rfl, by decide, by decide +kernel⟩
abbrev fN_elements : Nat := 37
abbrev fN_size : Nat := 41
set_option maxRecDepth 100000 in
theorem kN_45 : nzV RN 45 RW yWord_hold bWord_hold 5 none 2 := ⟨nz_at 186 (by decide +kernel) rfl, nz_at 187 (by decide +kernel) rfl, nz_at 188 (by decide +kernel) rfl, nz_at 2 (by decide +kernel) rfl, nz_at 189 (by decide +kernel) rfl, by decide, by decide +kernel⟩
set_option maxRecDepth 100000 in
theorem kN_49 : nzV RN 49 RW yWord_isClear bWord_isClear 2 (some .boolean) 0 := ⟨nz_at 198 (by decide +kernel) rfl, nz_at 199 (by decide +kernel) rfl, nz_at 200 (by decide +kernel) rfl, nz_at 2 (by decide +kernel) rfl, nz_at 201 (by decide +kernel) rfl, by decide, by decide +kernel⟩
set_option maxRecDepth 100000 in
theorem kcl_53 : Cond.classLink RN 53 "java/lang/IllegalStateException" ∈ nzG := nz_at 211 (by decide +kernel) rfl
set_option maxRecDepth 100000 in
theorem kin_eIS : Cond.initialized "java/lang/IllegalStateException" ∈ nzG := nz_at 10 (by decide +kernel) rfl
set_option maxRecDepth 100000 in
theorem kat_eIS : ∀ w ∈ Bundle.ownAtoms RN 57 "java/lang/IllegalStateException" ["java/lang/RuntimeException", "java/lang/Exception"], w ∈ nmSp "java/lang/IllegalStateException" ∨ w ∈ nzG := kat_of [12, 87, 96, 101, 104, 106, 88, 89, 27, 28, 90, 95, 102, 122, 77, 123, 79, 124, 81, 91, 2, 93, 3, 83, 118, 119, 121, 83, 230, 231, 232, 112, 5, 112, 113, 114, 115, 6, 115, 116, 117, 118, 7, 229, 220, 4, 222, 100, 223, 224, 225, 226, 0, 1, 86, 85, 227] (by decide +kernel) (by decide +kernel)
set_option maxRecDepth 100000 in
theorem kN_60 : nzV RN 60 RW yWord_asLong bWord_asLong 7 (some .long) 1 := ⟨nz_at 227 (by decide +kernel) rfl, nz_at 228 (by decide +kernel) rfl, nz_at 229 (by decide +kernel) rfl, nz_at 2 (by decide +kernel) rfl, nz_at 230 (by decide +kernel) rfl, by decide, by decide +kernel⟩
set_option maxRecDepth 100000 in
theorem kcl_64 : Cond.classLink RN 64 "java/lang/IllegalArgumentException" ∈ nzG := nz_at 129 (by decide +kernel) rfl
set_option maxRecDepth 100000 in
theorem kin_eIA : Cond.initialized "java/lang/IllegalArgumentException" ∈ nzG := nz_at 8 (by decide +kernel) rfl
set_option maxRecDepth 100000 in
theorem kat_eIA : ∀ w ∈ Bundle.ownAtoms RN 68 "java/lang/IllegalArgumentException" ["java/lang/RuntimeException", "java/lang/Exception"], w ∈ nmSp "java/lang/IllegalArgumentException" ∨ w ∈ nzG := kat_of [12, 87, 96, 101, 104, 106, 88, 89, 27, 28, 90, 95, 102, 122, 77, 123, 79, 124, 81, 91, 2, 93, 3, 83, 118, 119, 121, 83, 148, 149, 150, 112, 5, 112, 113, 114, 115, 6, 115, 116, 117, 118, 7, 147, 138, 4, 140, 99, 141, 142, 143, 144, 0, 1, 86, 85, 145] (by decide +kernel) (by decide +kernel)
set_option maxRecDepth 100000 in
theorem kN_69 : nzV RN 69 RN yN_joinElements bN_joinElements 5 none 3 := ⟨nz_at 245 (by decide +kernel) rfl, nz_at 247 (by decide +kernel) rfl, nz_pv 2 (by decide +kernel), nz_at 1 (by decide +kernel) rfl, nz_at 248 (by decide +kernel) rfl, by decide, by decide +kernel⟩
set_option maxRecDepth 100000 in
theorem kN_73 : nzV RN 73 RN yN_setBehind bN_setBehind 3 none 2 := ⟨nz_at 269 (by decide +kernel) rfl, nz_at 271 (by decide +kernel) rfl, nz_pv 3 (by decide +kernel), nz_at 1 (by decide +kernel) rfl, nz_at 272 (by decide +kernel) rfl, by decide, by decide +kernel⟩
set_option maxRecDepth 100000 in
theorem kN_77 : nzV RN 77 RN yN_calculate bN_calculate 10 none 4 := ⟨nz_at 277 (by decide +kernel) rfl, nz_at 279 (by decide +kernel) rfl, nz_pv 4 (by decide +kernel), nz_at 1 (by decide +kernel) rfl, nz_at 280 (by decide +kernel) rfl, by decide, by decide +kernel⟩
set_option maxRecDepth 100000 in
theorem kN_81 : nzV RN 81 RW yWord_copy bWord_copy 2 none 1 := ⟨nz_at 327 (by decide +kernel) rfl, nz_at 328 (by decide +kernel) rfl, nz_at 329 (by decide +kernel) rfl, nz_at 2 (by decide +kernel) rfl, nz_at 330 (by decide +kernel) rfl, by decide, by decide +kernel⟩
set_option maxRecDepth 100000 in
theorem kN_87 : nzV RN 87 RN yN_changeElements bN_changeElements 5 none 2 := ⟨nz_at 340 (by decide +kernel) rfl, nz_at 342 (by decide +kernel) rfl, nz_pv 5 (by decide +kernel), nz_at 1 (by decide +kernel) rfl, nz_at 343 (by decide +kernel) rfl, by decide, by decide +kernel⟩
set_option maxRecDepth 100000 in
theorem kN_91 : nzV RN 91 RN yN_changeNumber bN_changeNumber 5 none 2 := ⟨nz_at 348 (by decide +kernel) rfl, nz_at 350 (by decide +kernel) rfl, nz_pv 6 (by decide +kernel), nz_at 1 (by decide +kernel) rfl, nz_at 351 (by decide +kernel) rfl, by decide, by decide +kernel⟩
set_option maxRecDepth 100000 in
theorem kN_98 : nzV RN 98 RN yN_turnRound bN_turnRound 4 none 2 := ⟨nz_at 361 (by decide +kernel) rfl, nz_at 363 (by decide +kernel) rfl, nz_pv 7 (by decide +kernel), nz_at 1 (by decide +kernel) rfl, nz_at 364 (by decide +kernel) rfl, by decide, by decide +kernel⟩
set_option maxRecDepth 100000 in
theorem kN_101 : nzV RN 101 RW yWord_last bWord_last 1 (some .int) 0 := ⟨nz_at 368 (by decide +kernel) rfl, nz_at 232 (by decide +kernel) rfl, nz_at 233 (by decide +kernel) rfl, nz_at 2 (by decide +kernel) rfl, nz_at 234 (by decide +kernel) rfl, by decide, by decide +kernel⟩
set_option maxRecDepth 100000 in
theorem kN_105 : nzV RN 105 RN yN_move bN_move 6 none 3 := ⟨nz_at 369 (by decide +kernel) rfl, nz_at 371 (by decide +kernel) rfl, nz_pv 8 (by decide +kernel), nz_at 1 (by decide +kernel) rfl, nz_at 372 (by decide +kernel) rfl, by decide, by decide +kernel⟩
set_option maxRecDepth 100000 in
theorem kN_min : Cond.methodLink RN 109 Lib.Math.min.name ∈ nzG ∧ Cond.static Lib.Math.min.name ∈ nzG ∧ Cond.initialized "java/lang/Math" ∈ nzG ∧ Cond.code Lib.Math.min.name Lib.Math.min.code 2 (some .int) ∈ nzG := ⟨nz_at 380 (by decide +kernel) rfl, nz_at 381 (by decide +kernel) rfl, nz_at 11 (by decide +kernel) rfl, nz_at 382 (by decide +kernel) rfl⟩
set_option maxRecDepth 100000 in
theorem kN_115 : nzV RN 115 RW yWord_lay bWord_lay 6 none 4 := ⟨nz_at 273 (by decide +kernel) rfl, nz_at 274 (by decide +kernel) rfl, nz_at 275 (by decide +kernel) rfl, nz_at 2 (by decide +kernel) rfl, nz_at 276 (by decide +kernel) rfl, by decide, by decide +kernel⟩
set_option maxRecDepth 100000 in
theorem kcl_119 : Cond.classLink RN 119 "java/lang/IndexOutOfBoundsException" ∈ nzG := nz_at 57 (by decide +kernel) rfl
set_option maxRecDepth 100000 in
theorem kin_eIO : Cond.initialized "java/lang/IndexOutOfBoundsException" ∈ nzG := nz_at 7 (by decide +kernel) rfl
set_option maxRecDepth 100000 in
theorem kat_eIO : ∀ w ∈ Bundle.ownAtoms RN 123 "java/lang/IndexOutOfBoundsException" ["java/lang/RuntimeException", "java/lang/Exception"], w ∈ nmSp "java/lang/IndexOutOfBoundsException" ∨ w ∈ nzG := kat_of [12, 87, 96, 101, 104, 106, 88, 89, 27, 28, 90, 95, 102, 122, 77, 123, 79, 124, 81, 91, 2, 93, 3, 83, 118, 119, 121, 83, 109, 110, 111, 112, 5, 112, 113, 114, 115, 6, 115, 116, 117, 118, 7, 108, 66, 4, 74, 75, 76, 78, 80, 82, 0, 1, 86, 85, 84] (by decide +kernel) (by decide +kernel)
set_option maxRecDepth 100000 in
theorem kN_124 : nzV RN 124 RW yWord_counts bWord_counts 1 (some .boolean) 0 := ⟨nz_at 287 (by decide +kernel) rfl, nz_at 288 (by decide +kernel) rfl, nz_at 289 (by decide +kernel) rfl, nz_at 2 (by decide +kernel) rfl, nz_at 290 (by decide +kernel) rfl, by decide, by decide +kernel⟩
set_option maxRecDepth 100000 in
theorem kN_127 : nzS RN 127 yN_isBelowUnsigned bN_isBelowUnsigned 4 (some .boolean) 2 := ⟨nz_at 323 (by decide +kernel) rfl, nz_at 324 (by decide +kernel) rfl, nz_at 1 (by decide +kernel) rfl, nz_at 325 (by decide +kernel) rfl, by decide, by decide +kernel⟩
set_option maxRecDepth 100000 in
theorem kN_131 : nzS RN 131 yWire_goTogether bWire_goTogether 2 (some .boolean) 2 := ⟨nz_at 405 (by decide +kernel) rfl, nz_at 406 (by decide +kernel) rfl, nz_at 9 (by decide +kernel) rfl, nz_at 407 (by decide +kernel) rfl, by decide, by decide +kernel⟩
set_option maxRecDepth 100000 in
theorem kN_137 : nzV RN 137 RW yWord_joined bWord_joined 5 (some .int) 2 := ⟨nz_at 415 (by decide +kernel) rfl, nz_at 416 (by decide +kernel) rfl, nz_at 417 (by decide +kernel) rfl, nz_at 2 (by decide +kernel) rfl, nz_at 418 (by decide +kernel) rfl, by decide, by decide +kernel⟩
set_option maxRecDepth 100000 in
theorem kN_142 : nzS RN 142 yWire_isLow bWire_isLow 1 (some .boolean) 1 := ⟨nz_at 428 (by decide +kernel) rfl, nz_at 206 (by decide +kernel) rfl, nz_at 9 (by decide +kernel) rfl, nz_at 207 (by decide +kernel) rfl, by decide, by decide +kernel⟩
set_option maxRecDepth 100000 in
theorem kN_146 : nzS RN 146 yWire_isHigh bWire_isHigh 1 (some .boolean) 1 := ⟨nz_at 429 (by decide +kernel) rfl, nz_at 209 (by decide +kernel) rfl, nz_at 9 (by decide +kernel) rfl, nz_at 210 (by decide +kernel) rfl, by decide, by decide +kernel⟩
set_option maxRecDepth 100000 in
theorem kN_159 : nzS RN 159 yWire_join bWire_join 3 (some .int) 3 := ⟨nz_at 250 (by decide +kernel) rfl, nz_at 251 (by decide +kernel) rfl, nz_at 9 (by decide +kernel) rfl, nz_at 252 (by decide +kernel) rfl, by decide, by decide +kernel⟩
set_option maxRecDepth 100000 in
theorem kN_163 : nzS RN 163 yN_lengthOfResult bN_lengthOfResult 3 (some .int) 3 := ⟨nz_at 281 (by decide +kernel) rfl, nz_at 282 (by decide +kernel) rfl, nz_at 1 (by decide +kernel) rfl, nz_at 283 (by decide +kernel) rfl, by decide, by decide +kernel⟩
set_option maxRecDepth 100000 in
theorem kN_166 : nzS RN 166 yN_sumOrProduct bN_sumOrProduct 5 (some .long) 3 := ⟨nz_at 292 (by decide +kernel) rfl, nz_at 293 (by decide +kernel) rfl, nz_at 1 (by decide +kernel) rfl, nz_at 294 (by decide +kernel) rfl, by decide, by decide +kernel⟩
set_option maxRecDepth 100000 in
theorem kcl_170 : Cond.classLink RN 170 "java/lang/ArithmeticException" ∈ nzG := nz_at 295 (by decide +kernel) rfl
set_option maxRecDepth 100000 in
theorem kin_eAR : Cond.initialized "java/lang/ArithmeticException" ∈ nzG := nz_at 12 (by decide +kernel) rfl
set_option maxRecDepth 100000 in
theorem kat_eAR : ∀ w ∈ Bundle.ownAtoms RN 174 "java/lang/ArithmeticException" ["java/lang/RuntimeException", "java/lang/Exception"], w ∈ nmSp "java/lang/ArithmeticException" ∨ w ∈ nzG := kat_of [12, 87, 96, 101, 104, 106, 88, 89, 27, 28, 90, 95, 102, 122, 77, 123, 79, 124, 81, 91, 2, 93, 3, 83, 118, 119, 121, 83, 314, 315, 316, 112, 5, 112, 113, 114, 115, 6, 115, 116, 117, 118, 7, 313, 304, 4, 306, 98, 307, 308, 309, 310, 0, 1, 86, 85, 311] (by decide +kernel) (by decide +kernel)
set_option maxRecDepth 100000 in
theorem kN_175 : nzS RN 175 yN_divideSigned bN_divideSigned 5 (some .long) 3 := ⟨nz_at 311 (by decide +kernel) rfl, nz_at 312 (by decide +kernel) rfl, nz_at 1 (by decide +kernel) rfl, nz_at 313 (by decide +kernel) rfl, by decide, by decide +kernel⟩
set_option maxRecDepth 100000 in
theorem kN_178 : nzS RN 178 yN_divideUnsigned bN_divideUnsigned 7 (some .long) 3 := ⟨nz_at 317 (by decide +kernel) rfl, nz_at 318 (by decide +kernel) rfl, nz_at 1 (by decide +kernel) rfl, nz_at 319 (by decide +kernel) rfl, by decide, by decide +kernel⟩
set_option maxRecDepth 100000 in
theorem kN_max : Cond.methodLink RN 181 Lib.Math.max.name ∈ nzG ∧ Cond.static Lib.Math.max.name ∈ nzG ∧ Cond.initialized "java/lang/Math" ∈ nzG ∧ Cond.code Lib.Math.max.name Lib.Math.max.code 2 (some .int) ∈ nzG := ⟨nz_at 284 (by decide +kernel) rfl, nz_at 285 (by decide +kernel) rfl, nz_at 11 (by decide +kernel) rfl, nz_at 286 (by decide +kernel) rfl⟩
set_option maxRecDepth 100000 in
theorem kN_184 : nzS RN 184 yJ_floorModL bJ_floorModL 6 (some .long) 2 := ⟨nz_at 314 (by decide +kernel) rfl, nz_at 315 (by decide +kernel) rfl, nz_at 11 (by decide +kernel) rfl, nz_at 316 (by decide +kernel) rfl, by decide, by decide +kernel⟩
set_option maxRecDepth 100000 in
theorem kN_188 : nzS RN 188 yN_quotientUnsigned bN_quotientUnsigned 6 (some .long) 2 := ⟨nz_at 320 (by decide +kernel) rfl, nz_at 321 (by decide +kernel) rfl, nz_at 1 (by decide +kernel) rfl, nz_at 322 (by decide +kernel) rfl, by decide, by decide +kernel⟩
set_option maxRecDepth 100000 in
theorem kN_c191 : Cond.constantLong RN 191 (-9223372036854775808) ∈ nzG := nz_at 326 (by decide +kernel) rfl
set_option maxRecDepth 100000 in
theorem kN_193 : nzS RN 193 yWire_not bWire_not 1 (some .int) 1 := ⟨nz_at 344 (by decide +kernel) rfl, nz_at 267 (by decide +kernel) rfl, nz_at 9 (by decide +kernel) rfl, nz_at 268 (by decide +kernel) rfl, by decide, by decide +kernel⟩
set_option maxRecDepth 100000 in
theorem kN_197 : nzS RN 197 yWire_strip bWire_strip 2 (some .int) 2 := ⟨nz_at 345 (by decide +kernel) rfl, nz_at 346 (by decide +kernel) rfl, nz_at 9 (by decide +kernel) rfl, nz_at 347 (by decide +kernel) rfl, by decide, by decide +kernel⟩
set_option maxRecDepth 100000 in
theorem kN_200 : nzS RN 200 yJ_floorMod bJ_floorMod 3 (some .int) 2 := ⟨nz_at 365 (by decide +kernel) rfl, nz_at 366 (by decide +kernel) rfl, nz_at 11 (by decide +kernel) rfl, nz_at 367 (by decide +kernel) rfl, by decide, by decide +kernel⟩
set_option maxRecDepth 100000 in
theorem kM_oi : Cond.methodLink RM 1 Lib.objectInit ∈ nzG ∧ Cond.instanceMethod Lib.objectInit ∈ nzG ∧ Cond.code Lib.objectInit ⟨#[0xb1]⟩ 1 none ∈ nzG := ⟨nz_at 435 (by decide +kernel) rfl, nz_at 19 (by decide +kernel) rfl, nz_at 20 (by decide +kernel) rfl⟩
abbrev fM_cells : Nat := 7
set_option maxRecDepth 100000 in
theorem fl_M_cells : Cond.fieldLink RM 7 "NineValuesModel" "cells" "[I" ∈ nzG := nz_at 437 (by decide +kernel) rfl
abbrev fM_lengths : Nat := 13
set_option maxRecDepth 100000 in
theorem fl_M_lengths : Cond.fieldLink RM 13 "NineValuesModel" "lengths" "[I" ∈ nzG := nz_at 438 (by decide +kernel) rfl
abbrev fM_out : Nat := 16
set_option maxRecDepth 100000 in
theorem fl_M_out : Cond.fieldLink RM 16 "NineValuesModel" "out" "[I" ∈ nzG := nz_at 439 (by decide +kernel) rfl
abbrev fM_code : Nat := 19
set_option maxRecDepth 100000 in
theorem fl_M_code : Cond.fieldLink RM 19 "NineValuesModel" "code" "I" ∈ nzG := nz_at 436 (by decide +kernel) rfl
set_option maxRecDepth 100000 in
theorem kMo_23 : nzS RM 23 yMo_isLow bMo_isLow 1 (some .boolean) 1 := ⟨nz_at 502 (by decide +kernel) rfl, nz_at 503 (by decide +kernel) rfl, nz_at 3 (by decide +kernel) rfl, nz_at 504 (by decide +kernel) rfl, by decide, by decide +kernel⟩
set_option maxRecDepth 100000 in
theorem kMo_27 : nzS RM 27 yMo_isHigh bMo_isHigh 1 (some .boolean) 1 := ⟨nz_at 505 (by decide +kernel) rfl, nz_at 506 (by decide +kernel) rfl, nz_at 3 (by decide +kernel) rfl, nz_at 507 (by decide +kernel) rfl, by decide, by decide +kernel⟩
abbrev fM_count : Nat := 30
set_option maxRecDepth 100000 in
theorem fl_M_count : Cond.fieldLink RM 30 "NineValuesModel" "count" "I" ∈ nzG := nz_at 440 (by decide +kernel) rfl
set_option maxRecDepth 100000 in
theorem kMo_33 : nzS RM 33 yMo_none bMo_none 1 (some .boolean) 1 := ⟨nz_at 460 (by decide +kernel) rfl, nz_at 461 (by decide +kernel) rfl, nz_at 3 (by decide +kernel) rfl, nz_at 462 (by decide +kernel) rfl, by decide, by decide +kernel⟩
set_option maxRecDepth 100000 in
theorem kMo_36 : nzV RM 36 RM yMo_keep bMo_keep 3 none 1 := ⟨nz_at 463 (by decide +kernel) rfl, nz_at 465 (by decide +kernel) rfl, nz_pv 9 (by decide +kernel), nz_at 3 (by decide +kernel) rfl, nz_at 466 (by decide +kernel) rfl, by decide, by decide +kernel⟩
set_option maxRecDepth 100000 in
theorem kMo_40 : nzV RM 40 RM yMo_cell bMo_cell 3 (some .int) 2 := ⟨nz_at 475 (by decide +kernel) rfl, nz_at 477 (by decide +kernel) rfl, nz_pv 10 (by decide +kernel), nz_at 3 (by decide +kernel) rfl, nz_at 478 (by decide +kernel) rfl, by decide, by decide +kernel⟩
set_option maxRecDepth 100000 in
theorem kMo_44 : nzV RM 44 RM yMo_bits bMo_bits 5 none 2 := ⟨nz_at 487 (by decide +kernel) rfl, nz_at 489 (by decide +kernel) rfl, nz_pv 11 (by decide +kernel), nz_at 3 (by decide +kernel) rfl, nz_at 490 (by decide +kernel) rfl, by decide, by decide +kernel⟩
set_option maxRecDepth 100000 in
theorem kMo_48 : nzS RM 48 yMo_isClear bMo_isClear 1 (some .boolean) 1 := ⟨nz_at 499 (by decide +kernel) rfl, nz_at 500 (by decide +kernel) rfl, nz_at 3 (by decide +kernel) rfl, nz_at 501 (by decide +kernel) rfl, by decide, by decide +kernel⟩
set_option maxRecDepth 100000 in
theorem kMo_c51 : Cond.constantLong RM 51 (2) ∈ nzG := nz_at 512 (by decide +kernel) rfl
set_option maxRecDepth 100000 in
theorem kMo_53 : nzV RM 53 RM yMo_clear bMo_clear 4 (some .boolean) 1 := ⟨nz_at 495 (by decide +kernel) rfl, nz_at 497 (by decide +kernel) rfl, nz_pv 12 (by decide +kernel), nz_at 3 (by decide +kernel) rfl, nz_at 498 (by decide +kernel) rfl, by decide, by decide +kernel⟩
set_option maxRecDepth 100000 in
theorem kMo_56 : nzV RM 56 RM yMo_value bMo_value 9 (some .long) 2 := ⟨nz_at 508 (by decide +kernel) rfl, nz_at 510 (by decide +kernel) rfl, nz_pv 13 (by decide +kernel), nz_at 3 (by decide +kernel) rfl, nz_at 511 (by decide +kernel) rfl, by decide, by decide +kernel⟩
set_option maxRecDepth 100000 in
theorem kMo_60 : nzS RM 60 yMo_together bMo_together 2 (some .int) 2 := ⟨nz_at 520 (by decide +kernel) rfl, nz_at 521 (by decide +kernel) rfl, nz_at 3 (by decide +kernel) rfl, nz_at 522 (by decide +kernel) rfl, by decide, by decide +kernel⟩
set_option maxRecDepth 100000 in
theorem kMo_63 : nzS RM 63 yMo_and bMo_and 2 (some .int) 2 := ⟨nz_at 523 (by decide +kernel) rfl, nz_at 524 (by decide +kernel) rfl, nz_at 3 (by decide +kernel) rfl, nz_at 525 (by decide +kernel) rfl, by decide, by decide +kernel⟩
set_option maxRecDepth 100000 in
theorem kMo_66 : nzS RM 66 yMo_or bMo_or 2 (some .int) 2 := ⟨nz_at 526 (by decide +kernel) rfl, nz_at 527 (by decide +kernel) rfl, nz_at 3 (by decide +kernel) rfl, nz_at 528 (by decide +kernel) rfl, by decide, by decide +kernel⟩
set_option maxRecDepth 100000 in
theorem kMo_69 : nzS RM 69 yMo_xor bMo_xor 2 (some .int) 2 := ⟨nz_at 529 (by decide +kernel) rfl, nz_at 530 (by decide +kernel) rfl, nz_at 3 (by decide +kernel) rfl, nz_at 531 (by decide +kernel) rfl, by decide, by decide +kernel⟩
set_option maxRecDepth 100000 in
theorem kMo_72 : nzS RM 72 yMo_not bMo_not 1 (some .int) 1 := ⟨nz_at 532 (by decide +kernel) rfl, nz_at 533 (by decide +kernel) rfl, nz_at 3 (by decide +kernel) rfl, nz_at 534 (by decide +kernel) rfl, by decide, by decide +kernel⟩
set_option maxRecDepth 100000 in
theorem kMo_c78 : Cond.constantLong RM 78 (-9223372036854775808) ∈ nzG := nz_at 543 (by decide +kernel) rfl
set_option maxRecDepth 100000 in
theorem kMo_80 : nzV RM 80 RM yMo_divide bMo_divide 13 (some .long) 3 := ⟨nz_at 539 (by decide +kernel) rfl, nz_at 541 (by decide +kernel) rfl, nz_pv 15 (by decide +kernel), nz_at 3 (by decide +kernel) rfl, nz_at 542 (by decide +kernel) rfl, by decide, by decide +kernel⟩
set_option maxRecDepth 100000 in
theorem kMo_84 : nzS RM 84 yMo_byTable bMo_byTable 3 (some .int) 3 := ⟨nz_at 517 (by decide +kernel) rfl, nz_at 518 (by decide +kernel) rfl, nz_at 3 (by decide +kernel) rfl, nz_at 519 (by decide +kernel) rfl, by decide, by decide +kernel⟩
set_option maxRecDepth 100000 in
theorem kMo_88 : nzV RM 88 RM yMo_numbers bMo_numbers 20 none 5 := ⟨nz_at 535 (by decide +kernel) rfl, nz_at 537 (by decide +kernel) rfl, nz_pv 14 (by decide +kernel), nz_at 3 (by decide +kernel) rfl, nz_at 538 (by decide +kernel) rfl, by decide, by decide +kernel⟩
set_option maxRecDepth 100000 in
theorem kMo_92 : nzS RM 92 yMo_strip bMo_strip 2 (some .int) 2 := ⟨nz_at 548 (by decide +kernel) rfl, nz_at 549 (by decide +kernel) rfl, nz_at 3 (by decide +kernel) rfl, nz_at 550 (by decide +kernel) rfl, by decide, by decide +kernel⟩
set_option maxRecDepth 100000 in
theorem kMo_95 : nzV RM 95 RM yMo_bit bMo_bit 4 (some .int) 3 := ⟨nz_at 567 (by decide +kernel) rfl, nz_at 569 (by decide +kernel) rfl, nz_pv 16 (by decide +kernel), nz_at 3 (by decide +kernel) rfl, nz_at 570 (by decide +kernel) rfl, by decide, by decide +kernel⟩
set_option maxRecDepth 100000 in
theorem kMo_99 : nzS RM 99 yMo_goes bMo_goes 2 (some .boolean) 2 := ⟨nz_at 575 (by decide +kernel) rfl, nz_at 576 (by decide +kernel) rfl, nz_at 3 (by decide +kernel) rfl, nz_at 577 (by decide +kernel) rfl, by decide, by decide +kernel⟩
set_option maxRecDepth 100000 in
theorem kL_7 : nzV RL 7 RN yN_fill bN_fill 4 none 3 := ⟨nz_at 50 (by decide +kernel) rfl, nz_at 51 (by decide +kernel) rfl, nz_at 52 (by decide +kernel) rfl, nz_at 1 (by decide +kernel) rfl, nz_at 53 (by decide +kernel) rfl, by decide, by decide +kernel⟩
set_option maxRecDepth 100000 in
theorem kL_17 : nzV RL 17 RN yN_put bN_put 4 none 3 := ⟨nz_at 156 (by decide +kernel) rfl, nz_at 157 (by decide +kernel) rfl, nz_at 158 (by decide +kernel) rfl, nz_at 1 (by decide +kernel) rfl, nz_at 159 (by decide +kernel) rfl, by decide, by decide +kernel⟩
set_option maxRecDepth 100000 in
theorem kL_20 : nzV RL 20 RN yN_get bN_get 3 (some .int) 2 := ⟨nz_at 168 (by decide +kernel) rfl, nz_at 169 (by decide +kernel) rfl, nz_at 170 (by decide +kernel) rfl, nz_at 1 (by decide +kernel) rfl, nz_at 171 (by decide +kernel) rfl, by decide, by decide +kernel⟩
set_option maxRecDepth 100000 in
theorem kL_24 : nzV RL 24 RN yN_length bN_length 2 (some .int) 1 := ⟨nz_at 175 (by decide +kernel) rfl, nz_at 176 (by decide +kernel) rfl, nz_at 177 (by decide +kernel) rfl, nz_at 1 (by decide +kernel) rfl, nz_at 178 (by decide +kernel) rfl, by decide, by decide +kernel⟩
set_option maxRecDepth 100000 in
theorem kL_28 : nzV RL 28 RN yN_number bN_number 5 none 3 := ⟨nz_at 182 (by decide +kernel) rfl, nz_at 183 (by decide +kernel) rfl, nz_at 184 (by decide +kernel) rfl, nz_at 1 (by decide +kernel) rfl, nz_at 185 (by decide +kernel) rfl, by decide, by decide +kernel⟩
set_option maxRecDepth 100000 in
theorem kL_32 : nzV RL 32 RN yN_numberOf bN_numberOf 3 (some .long) 2 := ⟨nz_at 194 (by decide +kernel) rfl, nz_at 195 (by decide +kernel) rfl, nz_at 196 (by decide +kernel) rfl, nz_at 1 (by decide +kernel) rfl, nz_at 197 (by decide +kernel) rfl, by decide, by decide +kernel⟩
set_option maxRecDepth 100000 in
theorem kL_38 : nzV RL 38 RN yN_operate bN_operate 6 none 5 := ⟨nz_at 240 (by decide +kernel) rfl, nz_at 241 (by decide +kernel) rfl, nz_at 242 (by decide +kernel) rfl, nz_at 1 (by decide +kernel) rfl, nz_at 243 (by decide +kernel) rfl, by decide, by decide +kernel⟩
set_option maxRecDepth 100000 in
theorem kL_44 : nzV RL 44 RN yN_change bN_change 4 none 3 := ⟨nz_at 335 (by decide +kernel) rfl, nz_at 336 (by decide +kernel) rfl, nz_at 337 (by decide +kernel) rfl, nz_at 1 (by decide +kernel) rfl, nz_at 338 (by decide +kernel) rfl, by decide, by decide +kernel⟩
set_option maxRecDepth 100000 in
theorem kL_47 : nzV RL 47 RN yN_shift bN_shift 7 none 5 := ⟨nz_at 355 (by decide +kernel) rfl, nz_at 356 (by decide +kernel) rfl, nz_at 357 (by decide +kernel) rfl, nz_at 1 (by decide +kernel) rfl, nz_at 358 (by decide +kernel) rfl, by decide, by decide +kernel⟩
set_option maxRecDepth 100000 in
theorem kL_51 : nzV RL 51 RN yN_bring bN_bring 6 none 4 := ⟨nz_at 376 (by decide +kernel) rfl, nz_at 377 (by decide +kernel) rfl, nz_at 378 (by decide +kernel) rfl, nz_at 1 (by decide +kernel) rfl, nz_at 379 (by decide +kernel) rfl, by decide, by decide +kernel⟩
set_option maxRecDepth 100000 in
theorem kL_55 : nzV RL 55 RN yN_cut bN_cut 6 none 4 := ⟨nz_at 386 (by decide +kernel) rfl, nz_at 387 (by decide +kernel) rfl, nz_at 388 (by decide +kernel) rfl, nz_at 1 (by decide +kernel) rfl, nz_at 389 (by decide +kernel) rfl, by decide, by decide +kernel⟩
set_option maxRecDepth 100000 in
theorem kL_59 : nzV RL 59 RN yN_compare bN_compare 8 (some .int) 3 := ⟨nz_at 394 (by decide +kernel) rfl, nz_at 395 (by decide +kernel) rfl, nz_at 396 (by decide +kernel) rfl, nz_at 1 (by decide +kernel) rfl, nz_at 397 (by decide +kernel) rfl, by decide, by decide +kernel⟩
set_option maxRecDepth 100000 in
theorem kL_63 : nzV RL 63 RN yN_same bN_same 9 (some .boolean) 3 := ⟨nz_at 401 (by decide +kernel) rfl, nz_at 402 (by decide +kernel) rfl, nz_at 403 (by decide +kernel) rfl, nz_at 1 (by decide +kernel) rfl, nz_at 404 (by decide +kernel) rfl, by decide, by decide +kernel⟩
set_option maxRecDepth 100000 in
theorem kL_67 : nzV RL 67 RN yN_all bN_all 3 (some .int) 2 := ⟨nz_at 411 (by decide +kernel) rfl, nz_at 412 (by decide +kernel) rfl, nz_at 413 (by decide +kernel) rfl, nz_at 1 (by decide +kernel) rfl, nz_at 414 (by decide +kernel) rfl, by decide, by decide +kernel⟩
set_option maxRecDepth 100000 in
theorem kL_70 : nzV RL 70 RN yN_edge bN_edge 3 (some .int) 2 := ⟨nz_at 424 (by decide +kernel) rfl, nz_at 425 (by decide +kernel) rfl, nz_at 426 (by decide +kernel) rfl, nz_at 1 (by decide +kernel) rfl, nz_at 427 (by decide +kernel) rfl, by decide, by decide +kernel⟩
set_option maxRecDepth 100000 in
theorem kL_82 : nzV RL 82 RM yMo_fill bMo_fill 5 none 3 := ⟨nz_at 456 (by decide +kernel) rfl, nz_at 457 (by decide +kernel) rfl, nz_at 458 (by decide +kernel) rfl, nz_at 3 (by decide +kernel) rfl, nz_at 459 (by decide +kernel) rfl, by decide, by decide +kernel⟩
set_option maxRecDepth 100000 in
theorem kL_83 : nzV RL 83 RM yMo_thrown bMo_thrown 1 (some .int) 0 := ⟨nz_at 452 (by decide +kernel) rfl, nz_at 453 (by decide +kernel) rfl, nz_at 454 (by decide +kernel) rfl, nz_at 3 (by decide +kernel) rfl, nz_at 455 (by decide +kernel) rfl, by decide, by decide +kernel⟩
set_option maxRecDepth 100000 in
theorem kL_89 : nzV RL 89 RM yMo_put bMo_put 4 none 3 := ⟨nz_at 467 (by decide +kernel) rfl, nz_at 468 (by decide +kernel) rfl, nz_at 469 (by decide +kernel) rfl, nz_at 3 (by decide +kernel) rfl, nz_at 470 (by decide +kernel) rfl, by decide, by decide +kernel⟩
set_option maxRecDepth 100000 in
theorem kL_93 : nzV RL 93 RM yMo_get bMo_get 3 (some .int) 2 := ⟨nz_at 471 (by decide +kernel) rfl, nz_at 472 (by decide +kernel) rfl, nz_at 473 (by decide +kernel) rfl, nz_at 3 (by decide +kernel) rfl, nz_at 474 (by decide +kernel) rfl, by decide, by decide +kernel⟩
set_option maxRecDepth 100000 in
theorem kL_97 : nzV RL 97 RM yMo_length bMo_length 2 (some .int) 1 := ⟨nz_at 479 (by decide +kernel) rfl, nz_at 480 (by decide +kernel) rfl, nz_at 481 (by decide +kernel) rfl, nz_at 3 (by decide +kernel) rfl, nz_at 482 (by decide +kernel) rfl, by decide, by decide +kernel⟩
set_option maxRecDepth 100000 in
theorem kL_c98 : Cond.constantLong RL 98 (4294967295) ∈ nzG := nz_at 586 (by decide +kernel) rfl
set_option maxRecDepth 100000 in
theorem kL_103 : nzV RL 103 RM yMo_number bMo_number 5 none 3 := ⟨nz_at 483 (by decide +kernel) rfl, nz_at 484 (by decide +kernel) rfl, nz_at 485 (by decide +kernel) rfl, nz_at 3 (by decide +kernel) rfl, nz_at 486 (by decide +kernel) rfl, by decide, by decide +kernel⟩
set_option maxRecDepth 100000 in
theorem kL_107 : nzV RL 107 RM yMo_numberOf bMo_numberOf 3 (some .long) 2 := ⟨nz_at 491 (by decide +kernel) rfl, nz_at 492 (by decide +kernel) rfl, nz_at 493 (by decide +kernel) rfl, nz_at 3 (by decide +kernel) rfl, nz_at 494 (by decide +kernel) rfl, by decide, by decide +kernel⟩
set_option maxRecDepth 100000 in
theorem kL_111 : nzV RL 111 RM yMo_operate bMo_operate 10 none 5 := ⟨nz_at 513 (by decide +kernel) rfl, nz_at 514 (by decide +kernel) rfl, nz_at 515 (by decide +kernel) rfl, nz_at 3 (by decide +kernel) rfl, nz_at 516 (by decide +kernel) rfl, by decide, by decide +kernel⟩
set_option maxRecDepth 100000 in
theorem kL_114 : nzV RL 114 RM yMo_change bMo_change 6 none 3 := ⟨nz_at 544 (by decide +kernel) rfl, nz_at 545 (by decide +kernel) rfl, nz_at 546 (by decide +kernel) rfl, nz_at 3 (by decide +kernel) rfl, nz_at 547 (by decide +kernel) rfl, by decide, by decide +kernel⟩
set_option maxRecDepth 100000 in
theorem kL_118 : nzV RL 118 RM yMo_shift bMo_shift 12 none 5 := ⟨nz_at 551 (by decide +kernel) rfl, nz_at 552 (by decide +kernel) rfl, nz_at 553 (by decide +kernel) rfl, nz_at 3 (by decide +kernel) rfl, nz_at 554 (by decide +kernel) rfl, by decide, by decide +kernel⟩
set_option maxRecDepth 100000 in
theorem kL_122 : nzV RL 122 RM yMo_bring bMo_bring 8 none 4 := ⟨nz_at 555 (by decide +kernel) rfl, nz_at 556 (by decide +kernel) rfl, nz_at 557 (by decide +kernel) rfl, nz_at 3 (by decide +kernel) rfl, nz_at 558 (by decide +kernel) rfl, by decide, by decide +kernel⟩
set_option maxRecDepth 100000 in
theorem kL_126 : nzV RL 126 RM yMo_cut bMo_cut 6 none 4 := ⟨nz_at 559 (by decide +kernel) rfl, nz_at 560 (by decide +kernel) rfl, nz_at 561 (by decide +kernel) rfl, nz_at 3 (by decide +kernel) rfl, nz_at 562 (by decide +kernel) rfl, by decide, by decide +kernel⟩
set_option maxRecDepth 100000 in
theorem kL_130 : nzV RL 130 RM yMo_compare bMo_compare 9 (some .int) 3 := ⟨nz_at 563 (by decide +kernel) rfl, nz_at 564 (by decide +kernel) rfl, nz_at 565 (by decide +kernel) rfl, nz_at 3 (by decide +kernel) rfl, nz_at 566 (by decide +kernel) rfl, by decide, by decide +kernel⟩
set_option maxRecDepth 100000 in
theorem kL_133 : nzV RL 133 RM yMo_same bMo_same 6 (some .boolean) 3 := ⟨nz_at 571 (by decide +kernel) rfl, nz_at 572 (by decide +kernel) rfl, nz_at 573 (by decide +kernel) rfl, nz_at 3 (by decide +kernel) rfl, nz_at 574 (by decide +kernel) rfl, by decide, by decide +kernel⟩
set_option maxRecDepth 100000 in
theorem kL_136 : nzV RL 136 RM yMo_all bMo_all 5 (some .int) 2 := ⟨nz_at 578 (by decide +kernel) rfl, nz_at 579 (by decide +kernel) rfl, nz_at 580 (by decide +kernel) rfl, nz_at 3 (by decide +kernel) rfl, nz_at 581 (by decide +kernel) rfl, by decide, by decide +kernel⟩
set_option maxRecDepth 100000 in
theorem kL_139 : nzV RL 139 RM yMo_edge bMo_edge 3 (some .int) 2 := ⟨nz_at 582 (by decide +kernel) rfl, nz_at 583 (by decide +kernel) rfl, nz_at 584 (by decide +kernel) rfl, nz_at 3 (by decide +kernel) rfl, nz_at 585 (by decide +kernel) rfl, by decide, by decide +kernel⟩
set_option maxRecDepth 100000 in
theorem kN_instW : Cond.instantiable RW 2 ∈ nzG := nz_at 23 (by decide +kernel) rfl
set_option maxRecDepth 100000 in
theorem kN_iniW : Cond.initialized RW ∈ nzG := nz_at 2 (by decide +kernel) rfl
set_option maxRecDepth 100000 in
theorem kN_cdW : Cond.code yWord_init bWord_init 1 none ∈ nzG := nz_at 26 (by decide +kernel) rfl
set_option maxRecDepth 100000 in
theorem kN_imW : Cond.instanceMethod yWord_init ∈ nzG := nz_at 25 (by decide +kernel) rfl
set_option maxRecDepth 100000 in
theorem k_arrI : Cond.arrayClass (newarray.typeOf .int) ∈ nzG := by decide +kernel
def nmStr : List (Nat × String) := [(55, "the word is not clear"), (66, "no such operation"), (85, "no such kind of change"), (94, "no such kind of shift"), (96, "a shift goes by -1000 to 1000"), (121, "the word has no such elements"), (140, "no such kind of joining"), (149, "no such place"), (151, "no such element"), (153, "a length is 0 to 64"), (155, "no such value"), (157, "the words have not the same length"), (172, "division by zero")]
end
section
theorem dWire_isLow_0 : decode bWire_isLow 0 = .ok (.iload_n 0, 1) := by decide +kernel
theorem dWire_isLow_1 : decode bWire_isLow 1 = .ok (.iconst 2, 1) := by decide +kernel
theorem dWire_isLow_2 : decode bWire_isLow 2 = .ok (.if_icmp .eq 9, 3) := by decide +kernel
theorem dWire_isLow_5 : decode bWire_isLow 5 = .ok (.iload_n 0, 1) := by decide +kernel
theorem dWire_isLow_6 : decode bWire_isLow 6 = .ok (.bipush 6, 2) := by decide +kernel
theorem dWire_isLow_8 : decode bWire_isLow 8 = .ok (.if_icmp .ne 7, 3) := by decide +kernel
theorem dWire_isLow_11 : decode bWire_isLow 11 = .ok (.iconst 1, 1) := by decide +kernel
theorem dWire_isLow_12 : decode bWire_isLow 12 = .ok (.goto 4, 3) := by decide +kernel
theorem dWire_isLow_15 : decode bWire_isLow 15 = .ok (.iconst 0, 1) := by decide +kernel
theorem dWire_isLow_16 : decode bWire_isLow 16 = .ok (.ireturn, 1) := by decide +kernel
theorem dWire_isHigh_0 : decode bWire_isHigh 0 = .ok (.iload_n 0, 1) := by decide +kernel
theorem dWire_isHigh_1 : decode bWire_isHigh 1 = .ok (.iconst 3, 1) := by decide +kernel
theorem dWire_isHigh_2 : decode bWire_isHigh 2 = .ok (.if_icmp .eq 9, 3) := by decide +kernel
theorem dWire_isHigh_5 : decode bWire_isHigh 5 = .ok (.iload_n 0, 1) := by decide +kernel
theorem dWire_isHigh_6 : decode bWire_isHigh 6 = .ok (.bipush 7, 2) := by decide +kernel
theorem dWire_isHigh_8 : decode bWire_isHigh 8 = .ok (.if_icmp .ne 7, 3) := by decide +kernel
theorem dWire_isHigh_11 : decode bWire_isHigh 11 = .ok (.iconst 1, 1) := by decide +kernel
theorem dWire_isHigh_12 : decode bWire_isHigh 12 = .ok (.goto 4, 3) := by decide +kernel
theorem dWire_isHigh_15 : decode bWire_isHigh 15 = .ok (.iconst 0, 1) := by decide +kernel
theorem dWire_isHigh_16 : decode bWire_isHigh 16 = .ok (.ireturn, 1) := by decide +kernel
theorem dWire_isClear_0 : decode bWire_isClear 0 = .ok (.iload_n 0, 1) := by decide +kernel
theorem dWire_isClear_1 : decode bWire_isClear 1 = .ok (.invokestatic 9, 3) := by decide +kernel
theorem dWire_isClear_4 : decode bWire_isClear 4 = .ok (.ifCond .ne 10, 3) := by decide +kernel
theorem dWire_isClear_7 : decode bWire_isClear 7 = .ok (.iload_n 0, 1) := by decide +kernel
theorem dWire_isClear_8 : decode bWire_isClear 8 = .ok (.invokestatic 15, 3) := by decide +kernel
theorem dWire_isClear_11 : decode bWire_isClear 11 = .ok (.ifCond .eq 7, 3) := by decide +kernel
theorem dWire_isClear_14 : decode bWire_isClear 14 = .ok (.iconst 1, 1) := by decide +kernel
theorem dWire_isClear_15 : decode bWire_isClear 15 = .ok (.goto 4, 3) := by decide +kernel
theorem dWire_isClear_18 : decode bWire_isClear 18 = .ok (.iconst 0, 1) := by decide +kernel
theorem dWire_isClear_19 : decode bWire_isClear 19 = .ok (.ireturn, 1) := by decide +kernel
theorem dWire_join_0 : decode bWire_join 0 = .ok (.iload_n 0, 1) := by decide +kernel
theorem dWire_join_1 : decode bWire_join 1 = .ok (.tableswitch 81 0 5 #[39, 45, 51, 57, 63, 72], 39) := by decide +kernel
theorem dWire_join_40 : decode bWire_join 40 = .ok (.iload_n 1, 1) := by decide +kernel
theorem dWire_join_41 : decode bWire_join 41 = .ok (.iload_n 2, 1) := by decide +kernel
theorem dWire_join_42 : decode bWire_join 42 = .ok (.invokestatic 18, 3) := by decide +kernel
theorem dWire_join_45 : decode bWire_join 45 = .ok (.ireturn, 1) := by decide +kernel
theorem dWire_join_46 : decode bWire_join 46 = .ok (.iload_n 1, 1) := by decide +kernel
theorem dWire_join_47 : decode bWire_join 47 = .ok (.iload_n 2, 1) := by decide +kernel
theorem dWire_join_48 : decode bWire_join 48 = .ok (.invokestatic 22, 3) := by decide +kernel
theorem dWire_join_51 : decode bWire_join 51 = .ok (.ireturn, 1) := by decide +kernel
theorem dWire_join_52 : decode bWire_join 52 = .ok (.iload_n 1, 1) := by decide +kernel
theorem dWire_join_53 : decode bWire_join 53 = .ok (.iload_n 2, 1) := by decide +kernel
theorem dWire_join_54 : decode bWire_join 54 = .ok (.invokestatic 25, 3) := by decide +kernel
theorem dWire_join_57 : decode bWire_join 57 = .ok (.ireturn, 1) := by decide +kernel
theorem dWire_join_58 : decode bWire_join 58 = .ok (.iload_n 1, 1) := by decide +kernel
theorem dWire_join_59 : decode bWire_join 59 = .ok (.iload_n 2, 1) := by decide +kernel
theorem dWire_join_60 : decode bWire_join 60 = .ok (.invokestatic 28, 3) := by decide +kernel
theorem dWire_join_63 : decode bWire_join 63 = .ok (.ireturn, 1) := by decide +kernel
theorem dWire_join_64 : decode bWire_join 64 = .ok (.iload_n 1, 1) := by decide +kernel
theorem dWire_join_65 : decode bWire_join 65 = .ok (.iload_n 2, 1) := by decide +kernel
theorem dWire_join_66 : decode bWire_join 66 = .ok (.invokestatic 22, 3) := by decide +kernel
theorem dWire_join_69 : decode bWire_join 69 = .ok (.invokestatic 31, 3) := by decide +kernel
theorem dWire_join_72 : decode bWire_join 72 = .ok (.ireturn, 1) := by decide +kernel
theorem dWire_join_73 : decode bWire_join 73 = .ok (.iload_n 1, 1) := by decide +kernel
theorem dWire_join_74 : decode bWire_join 74 = .ok (.iload_n 2, 1) := by decide +kernel
theorem dWire_join_75 : decode bWire_join 75 = .ok (.invokestatic 25, 3) := by decide +kernel
theorem dWire_join_78 : decode bWire_join 78 = .ok (.invokestatic 31, 3) := by decide +kernel
theorem dWire_join_81 : decode bWire_join 81 = .ok (.ireturn, 1) := by decide +kernel
theorem dWire_join_82 : decode bWire_join 82 = .ok (.iload_n 1, 1) := by decide +kernel
theorem dWire_join_83 : decode bWire_join 83 = .ok (.iload_n 2, 1) := by decide +kernel
theorem dWire_join_84 : decode bWire_join 84 = .ok (.invokestatic 28, 3) := by decide +kernel
theorem dWire_join_87 : decode bWire_join 87 = .ok (.invokestatic 31, 3) := by decide +kernel
theorem dWire_join_90 : decode bWire_join 90 = .ok (.ireturn, 1) := by decide +kernel
theorem dWire_drive_0 : decode bWire_drive 0 = .ok (.iload_n 0, 1) := by decide +kernel
theorem dWire_drive_1 : decode bWire_drive 1 = .ok (.ifCond .eq 7, 3) := by decide +kernel
theorem dWire_drive_4 : decode bWire_drive 4 = .ok (.iload_n 1, 1) := by decide +kernel
theorem dWire_drive_5 : decode bWire_drive 5 = .ok (.ifCond .ne 5, 3) := by decide +kernel
theorem dWire_drive_8 : decode bWire_drive 8 = .ok (.iconst 0, 1) := by decide +kernel
theorem dWire_drive_9 : decode bWire_drive 9 = .ok (.ireturn, 1) := by decide +kernel
theorem dWire_drive_10 : decode bWire_drive 10 = .ok (.iload_n 0, 1) := by decide +kernel
theorem dWire_drive_11 : decode bWire_drive 11 = .ok (.iconst 1, 1) := by decide +kernel
theorem dWire_drive_12 : decode bWire_drive 12 = .ok (.if_icmp .eq 20, 3) := by decide +kernel
theorem dWire_drive_15 : decode bWire_drive 15 = .ok (.iload_n 0, 1) := by decide +kernel
theorem dWire_drive_16 : decode bWire_drive 16 = .ok (.bipush 8, 2) := by decide +kernel
theorem dWire_drive_18 : decode bWire_drive 18 = .ok (.if_icmp .eq 14, 3) := by decide +kernel
theorem dWire_drive_21 : decode bWire_drive 21 = .ok (.iload_n 1, 1) := by decide +kernel
theorem dWire_drive_22 : decode bWire_drive 22 = .ok (.iconst 1, 1) := by decide +kernel
theorem dWire_drive_23 : decode bWire_drive 23 = .ok (.if_icmp .eq 9, 3) := by decide +kernel
theorem dWire_drive_26 : decode bWire_drive 26 = .ok (.iload_n 1, 1) := by decide +kernel
theorem dWire_drive_27 : decode bWire_drive 27 = .ok (.bipush 8, 2) := by decide +kernel
theorem dWire_drive_29 : decode bWire_drive 29 = .ok (.if_icmp .ne 5, 3) := by decide +kernel
theorem dWire_drive_32 : decode bWire_drive 32 = .ok (.iconst 1, 1) := by decide +kernel
theorem dWire_drive_33 : decode bWire_drive 33 = .ok (.ireturn, 1) := by decide +kernel
theorem dWire_drive_34 : decode bWire_drive 34 = .ok (.iload_n 0, 1) := by decide +kernel
theorem dWire_drive_35 : decode bWire_drive 35 = .ok (.iconst 4, 1) := by decide +kernel
theorem dWire_drive_36 : decode bWire_drive 36 = .ok (.if_icmp .eq 8, 3) := by decide +kernel
theorem dWire_drive_39 : decode bWire_drive 39 = .ok (.iload_n 0, 1) := by decide +kernel
theorem dWire_drive_40 : decode bWire_drive 40 = .ok (.iload_n 1, 1) := by decide +kernel
theorem dWire_drive_41 : decode bWire_drive 41 = .ok (.if_icmp .ne 5, 3) := by decide +kernel
theorem dWire_drive_44 : decode bWire_drive 44 = .ok (.iload_n 1, 1) := by decide +kernel
theorem dWire_drive_45 : decode bWire_drive 45 = .ok (.ireturn, 1) := by decide +kernel
theorem dWire_drive_46 : decode bWire_drive 46 = .ok (.iload_n 1, 1) := by decide +kernel
theorem dWire_drive_47 : decode bWire_drive 47 = .ok (.iconst 4, 1) := by decide +kernel
theorem dWire_drive_48 : decode bWire_drive 48 = .ok (.if_icmp .ne 5, 3) := by decide +kernel
theorem dWire_drive_51 : decode bWire_drive 51 = .ok (.iload_n 0, 1) := by decide +kernel
theorem dWire_drive_52 : decode bWire_drive 52 = .ok (.ireturn, 1) := by decide +kernel
theorem dWire_drive_53 : decode bWire_drive 53 = .ok (.iload_n 0, 1) := by decide +kernel
theorem dWire_drive_54 : decode bWire_drive 54 = .ok (.iconst 2, 1) := by decide +kernel
theorem dWire_drive_55 : decode bWire_drive 55 = .ok (.if_icmp .eq 8, 3) := by decide +kernel
theorem dWire_drive_58 : decode bWire_drive 58 = .ok (.iload_n 0, 1) := by decide +kernel
theorem dWire_drive_59 : decode bWire_drive 59 = .ok (.iconst 3, 1) := by decide +kernel
theorem dWire_drive_60 : decode bWire_drive 60 = .ok (.if_icmp .ne 7, 3) := by decide +kernel
theorem dWire_drive_63 : decode bWire_drive 63 = .ok (.iconst 1, 1) := by decide +kernel
theorem dWire_drive_64 : decode bWire_drive 64 = .ok (.goto 4, 3) := by decide +kernel
theorem dWire_drive_67 : decode bWire_drive 67 = .ok (.iconst 0, 1) := by decide +kernel
theorem dWire_drive_68 : decode bWire_drive 68 = .ok (.istore_n 2, 1) := by decide +kernel
theorem dWire_drive_69 : decode bWire_drive 69 = .ok (.iload_n 1, 1) := by decide +kernel
theorem dWire_drive_70 : decode bWire_drive 70 = .ok (.iconst 2, 1) := by decide +kernel
theorem dWire_drive_71 : decode bWire_drive 71 = .ok (.if_icmp .eq 8, 3) := by decide +kernel
theorem dWire_drive_74 : decode bWire_drive 74 = .ok (.iload_n 1, 1) := by decide +kernel
theorem dWire_drive_75 : decode bWire_drive 75 = .ok (.iconst 3, 1) := by decide +kernel
theorem dWire_drive_76 : decode bWire_drive 76 = .ok (.if_icmp .ne 7, 3) := by decide +kernel
theorem dWire_drive_79 : decode bWire_drive 79 = .ok (.iconst 1, 1) := by decide +kernel
theorem dWire_drive_80 : decode bWire_drive 80 = .ok (.goto 4, 3) := by decide +kernel
theorem dWire_drive_83 : decode bWire_drive 83 = .ok (.iconst 0, 1) := by decide +kernel
theorem dWire_drive_84 : decode bWire_drive 84 = .ok (.istore_n 3, 1) := by decide +kernel
theorem dWire_drive_85 : decode bWire_drive 85 = .ok (.iload_n 2, 1) := by decide +kernel
theorem dWire_drive_86 : decode bWire_drive 86 = .ok (.ifCond .eq 9, 3) := by decide +kernel
theorem dWire_drive_89 : decode bWire_drive 89 = .ok (.iload_n 3, 1) := by decide +kernel
theorem dWire_drive_90 : decode bWire_drive 90 = .ok (.ifCond .eq 5, 3) := by decide +kernel
theorem dWire_drive_93 : decode bWire_drive 93 = .ok (.iconst 1, 1) := by decide +kernel
theorem dWire_drive_94 : decode bWire_drive 94 = .ok (.ireturn, 1) := by decide +kernel
theorem dWire_drive_95 : decode bWire_drive 95 = .ok (.iload_n 2, 1) := by decide +kernel
theorem dWire_drive_96 : decode bWire_drive 96 = .ok (.ifCond .eq 5, 3) := by decide +kernel
theorem dWire_drive_99 : decode bWire_drive 99 = .ok (.iload_n 0, 1) := by decide +kernel
theorem dWire_drive_100 : decode bWire_drive 100 = .ok (.ireturn, 1) := by decide +kernel
theorem dWire_drive_101 : decode bWire_drive 101 = .ok (.iload_n 3, 1) := by decide +kernel
theorem dWire_drive_102 : decode bWire_drive 102 = .ok (.ifCond .eq 7, 3) := by decide +kernel
theorem dWire_drive_105 : decode bWire_drive 105 = .ok (.iload_n 1, 1) := by decide +kernel
theorem dWire_drive_106 : decode bWire_drive 106 = .ok (.goto 4, 3) := by decide +kernel
theorem dWire_drive_109 : decode bWire_drive 109 = .ok (.iconst 5, 1) := by decide +kernel
theorem dWire_drive_110 : decode bWire_drive 110 = .ok (.ireturn, 1) := by decide +kernel
theorem dWire_and_0 : decode bWire_and 0 = .ok (.iload_n 0, 1) := by decide +kernel
theorem dWire_and_1 : decode bWire_and 1 = .ok (.invokestatic 9, 3) := by decide +kernel
theorem dWire_and_4 : decode bWire_and 4 = .ok (.ifCond .ne 10, 3) := by decide +kernel
theorem dWire_and_7 : decode bWire_and 7 = .ok (.iload_n 1, 1) := by decide +kernel
theorem dWire_and_8 : decode bWire_and 8 = .ok (.invokestatic 9, 3) := by decide +kernel
theorem dWire_and_11 : decode bWire_and 11 = .ok (.ifCond .eq 5, 3) := by decide +kernel
theorem dWire_and_14 : decode bWire_and 14 = .ok (.iconst 2, 1) := by decide +kernel
theorem dWire_and_15 : decode bWire_and 15 = .ok (.ireturn, 1) := by decide +kernel
theorem dWire_and_16 : decode bWire_and 16 = .ok (.iload_n 0, 1) := by decide +kernel
theorem dWire_and_17 : decode bWire_and 17 = .ok (.ifCond .eq 7, 3) := by decide +kernel
theorem dWire_and_20 : decode bWire_and 20 = .ok (.iload_n 1, 1) := by decide +kernel
theorem dWire_and_21 : decode bWire_and 21 = .ok (.ifCond .ne 5, 3) := by decide +kernel
theorem dWire_and_24 : decode bWire_and 24 = .ok (.iconst 0, 1) := by decide +kernel
theorem dWire_and_25 : decode bWire_and 25 = .ok (.ireturn, 1) := by decide +kernel
theorem dWire_and_26 : decode bWire_and 26 = .ok (.iload_n 0, 1) := by decide +kernel
theorem dWire_and_27 : decode bWire_and 27 = .ok (.invokestatic 15, 3) := by decide +kernel
theorem dWire_and_30 : decode bWire_and 30 = .ok (.ifCond .eq 14, 3) := by decide +kernel
theorem dWire_and_33 : decode bWire_and 33 = .ok (.iload_n 1, 1) := by decide +kernel
theorem dWire_and_34 : decode bWire_and 34 = .ok (.invokestatic 15, 3) := by decide +kernel
theorem dWire_and_37 : decode bWire_and 37 = .ok (.ifCond .eq 7, 3) := by decide +kernel
theorem dWire_and_40 : decode bWire_and 40 = .ok (.iconst 3, 1) := by decide +kernel
theorem dWire_and_41 : decode bWire_and 41 = .ok (.goto 4, 3) := by decide +kernel
theorem dWire_and_44 : decode bWire_and 44 = .ok (.iconst 1, 1) := by decide +kernel
theorem dWire_and_45 : decode bWire_and 45 = .ok (.ireturn, 1) := by decide +kernel
theorem dWire_or_0 : decode bWire_or 0 = .ok (.iload_n 0, 1) := by decide +kernel
theorem dWire_or_1 : decode bWire_or 1 = .ok (.invokestatic 15, 3) := by decide +kernel
theorem dWire_or_4 : decode bWire_or 4 = .ok (.ifCond .ne 10, 3) := by decide +kernel
theorem dWire_or_7 : decode bWire_or 7 = .ok (.iload_n 1, 1) := by decide +kernel
theorem dWire_or_8 : decode bWire_or 8 = .ok (.invokestatic 15, 3) := by decide +kernel
theorem dWire_or_11 : decode bWire_or 11 = .ok (.ifCond .eq 5, 3) := by decide +kernel
theorem dWire_or_14 : decode bWire_or 14 = .ok (.iconst 3, 1) := by decide +kernel
theorem dWire_or_15 : decode bWire_or 15 = .ok (.ireturn, 1) := by decide +kernel
theorem dWire_or_16 : decode bWire_or 16 = .ok (.iload_n 0, 1) := by decide +kernel
theorem dWire_or_17 : decode bWire_or 17 = .ok (.ifCond .eq 7, 3) := by decide +kernel
theorem dWire_or_20 : decode bWire_or 20 = .ok (.iload_n 1, 1) := by decide +kernel
theorem dWire_or_21 : decode bWire_or 21 = .ok (.ifCond .ne 5, 3) := by decide +kernel
theorem dWire_or_24 : decode bWire_or 24 = .ok (.iconst 0, 1) := by decide +kernel
theorem dWire_or_25 : decode bWire_or 25 = .ok (.ireturn, 1) := by decide +kernel
theorem dWire_or_26 : decode bWire_or 26 = .ok (.iload_n 0, 1) := by decide +kernel
theorem dWire_or_27 : decode bWire_or 27 = .ok (.invokestatic 9, 3) := by decide +kernel
theorem dWire_or_30 : decode bWire_or 30 = .ok (.ifCond .eq 14, 3) := by decide +kernel
theorem dWire_or_33 : decode bWire_or 33 = .ok (.iload_n 1, 1) := by decide +kernel
theorem dWire_or_34 : decode bWire_or 34 = .ok (.invokestatic 9, 3) := by decide +kernel
theorem dWire_or_37 : decode bWire_or 37 = .ok (.ifCond .eq 7, 3) := by decide +kernel
theorem dWire_or_40 : decode bWire_or 40 = .ok (.iconst 2, 1) := by decide +kernel
theorem dWire_or_41 : decode bWire_or 41 = .ok (.goto 4, 3) := by decide +kernel
theorem dWire_or_44 : decode bWire_or 44 = .ok (.iconst 1, 1) := by decide +kernel
theorem dWire_or_45 : decode bWire_or 45 = .ok (.ireturn, 1) := by decide +kernel
theorem dWire_xor_0 : decode bWire_xor 0 = .ok (.iload_n 0, 1) := by decide +kernel
theorem dWire_xor_1 : decode bWire_xor 1 = .ok (.ifCond .eq 7, 3) := by decide +kernel
theorem dWire_xor_4 : decode bWire_xor 4 = .ok (.iload_n 1, 1) := by decide +kernel
theorem dWire_xor_5 : decode bWire_xor 5 = .ok (.ifCond .ne 5, 3) := by decide +kernel
theorem dWire_xor_8 : decode bWire_xor 8 = .ok (.iconst 0, 1) := by decide +kernel
theorem dWire_xor_9 : decode bWire_xor 9 = .ok (.ireturn, 1) := by decide +kernel
theorem dWire_xor_10 : decode bWire_xor 10 = .ok (.iload_n 0, 1) := by decide +kernel
theorem dWire_xor_11 : decode bWire_xor 11 = .ok (.invokestatic 35, 3) := by decide +kernel
theorem dWire_xor_14 : decode bWire_xor 14 = .ok (.ifCond .eq 10, 3) := by decide +kernel
theorem dWire_xor_17 : decode bWire_xor 17 = .ok (.iload_n 1, 1) := by decide +kernel
theorem dWire_xor_18 : decode bWire_xor 18 = .ok (.invokestatic 35, 3) := by decide +kernel
theorem dWire_xor_21 : decode bWire_xor 21 = .ok (.ifCond .ne 5, 3) := by decide +kernel
theorem dWire_xor_24 : decode bWire_xor 24 = .ok (.iconst 1, 1) := by decide +kernel
theorem dWire_xor_25 : decode bWire_xor 25 = .ok (.ireturn, 1) := by decide +kernel
theorem dWire_xor_26 : decode bWire_xor 26 = .ok (.iload_n 0, 1) := by decide +kernel
theorem dWire_xor_27 : decode bWire_xor 27 = .ok (.invokestatic 15, 3) := by decide +kernel
theorem dWire_xor_30 : decode bWire_xor 30 = .ok (.iload_n 1, 1) := by decide +kernel
theorem dWire_xor_31 : decode bWire_xor 31 = .ok (.invokestatic 15, 3) := by decide +kernel
theorem dWire_xor_34 : decode bWire_xor 34 = .ok (.if_icmp .ne 7, 3) := by decide +kernel
theorem dWire_xor_37 : decode bWire_xor 37 = .ok (.iconst 2, 1) := by decide +kernel
theorem dWire_xor_38 : decode bWire_xor 38 = .ok (.goto 4, 3) := by decide +kernel
theorem dWire_xor_41 : decode bWire_xor 41 = .ok (.iconst 3, 1) := by decide +kernel
theorem dWire_xor_42 : decode bWire_xor 42 = .ok (.ireturn, 1) := by decide +kernel
theorem dWire_not_0 : decode bWire_not 0 = .ok (.iload_n 0, 1) := by decide +kernel
theorem dWire_not_1 : decode bWire_not 1 = .ok (.invokestatic 35, 3) := by decide +kernel
theorem dWire_not_4 : decode bWire_not 4 = .ok (.ifCond .eq 16, 3) := by decide +kernel
theorem dWire_not_7 : decode bWire_not 7 = .ok (.iload_n 0, 1) := by decide +kernel
theorem dWire_not_8 : decode bWire_not 8 = .ok (.invokestatic 9, 3) := by decide +kernel
theorem dWire_not_11 : decode bWire_not 11 = .ok (.ifCond .eq 7, 3) := by decide +kernel
theorem dWire_not_14 : decode bWire_not 14 = .ok (.iconst 3, 1) := by decide +kernel
theorem dWire_not_15 : decode bWire_not 15 = .ok (.goto 4, 3) := by decide +kernel
theorem dWire_not_18 : decode bWire_not 18 = .ok (.iconst 2, 1) := by decide +kernel
theorem dWire_not_19 : decode bWire_not 19 = .ok (.ireturn, 1) := by decide +kernel
theorem dWire_not_20 : decode bWire_not 20 = .ok (.iload_n 0, 1) := by decide +kernel
theorem dWire_not_21 : decode bWire_not 21 = .ok (.ifCond .ne 7, 3) := by decide +kernel
theorem dWire_not_24 : decode bWire_not 24 = .ok (.iconst 0, 1) := by decide +kernel
theorem dWire_not_25 : decode bWire_not 25 = .ok (.goto 4, 3) := by decide +kernel
theorem dWire_not_28 : decode bWire_not 28 = .ok (.iconst 1, 1) := by decide +kernel
theorem dWire_not_29 : decode bWire_not 29 = .ok (.ireturn, 1) := by decide +kernel
theorem dWire_strip_0 : decode bWire_strip 0 = .ok (.iload_n 1, 1) := by decide +kernel
theorem dWire_strip_1 : decode bWire_strip 1 = .ok (.invokestatic 35, 3) := by decide +kernel
theorem dWire_strip_4 : decode bWire_strip 4 = .ok (.ifCond .eq 16, 3) := by decide +kernel
theorem dWire_strip_7 : decode bWire_strip 7 = .ok (.iload_n 1, 1) := by decide +kernel
theorem dWire_strip_8 : decode bWire_strip 8 = .ok (.invokestatic 9, 3) := by decide +kernel
theorem dWire_strip_11 : decode bWire_strip 11 = .ok (.ifCond .eq 7, 3) := by decide +kernel
theorem dWire_strip_14 : decode bWire_strip 14 = .ok (.iconst 2, 1) := by decide +kernel
theorem dWire_strip_15 : decode bWire_strip 15 = .ok (.goto 4, 3) := by decide +kernel
theorem dWire_strip_18 : decode bWire_strip 18 = .ok (.iconst 3, 1) := by decide +kernel
theorem dWire_strip_19 : decode bWire_strip 19 = .ok (.ireturn, 1) := by decide +kernel
theorem dWire_strip_20 : decode bWire_strip 20 = .ok (.iload_n 0, 1) := by decide +kernel
theorem dWire_strip_21 : decode bWire_strip 21 = .ok (.iconst 1, 1) := by decide +kernel
theorem dWire_strip_22 : decode bWire_strip 22 = .ok (.if_icmp .ne 8, 3) := by decide +kernel
theorem dWire_strip_25 : decode bWire_strip 25 = .ok (.iload_n 1, 1) := by decide +kernel
theorem dWire_strip_26 : decode bWire_strip 26 = .ok (.iconst 4, 1) := by decide +kernel
theorem dWire_strip_27 : decode bWire_strip 27 = .ok (.if_icmp .eq 12, 3) := by decide +kernel
theorem dWire_strip_30 : decode bWire_strip 30 = .ok (.iload_n 0, 1) := by decide +kernel
theorem dWire_strip_31 : decode bWire_strip 31 = .ok (.iconst 2, 1) := by decide +kernel
theorem dWire_strip_32 : decode bWire_strip 32 = .ok (.if_icmp .ne 9, 3) := by decide +kernel
theorem dWire_strip_35 : decode bWire_strip 35 = .ok (.iload_n 1, 1) := by decide +kernel
theorem dWire_strip_36 : decode bWire_strip 36 = .ok (.ifCond .ne 5, 3) := by decide +kernel
theorem dWire_strip_39 : decode bWire_strip 39 = .ok (.iload_n 1, 1) := by decide +kernel
theorem dWire_strip_40 : decode bWire_strip 40 = .ok (.ireturn, 1) := by decide +kernel
theorem dWire_strip_41 : decode bWire_strip 41 = .ok (.iload_n 0, 1) := by decide +kernel
theorem dWire_strip_42 : decode bWire_strip 42 = .ok (.iconst 3, 1) := by decide +kernel
theorem dWire_strip_43 : decode bWire_strip 43 = .ok (.if_icmp .ne 7, 3) := by decide +kernel
theorem dWire_strip_46 : decode bWire_strip 46 = .ok (.iconst 2, 1) := by decide +kernel
theorem dWire_strip_47 : decode bWire_strip 47 = .ok (.goto 4, 3) := by decide +kernel
theorem dWire_strip_50 : decode bWire_strip 50 = .ok (.iconst 1, 1) := by decide +kernel
theorem dWire_strip_51 : decode bWire_strip 51 = .ok (.ireturn, 1) := by decide +kernel
theorem dWire_goTogether_0 : decode bWire_goTogether 0 = .ok (.iload_n 0, 1) := by decide +kernel
theorem dWire_goTogether_1 : decode bWire_goTogether 1 = .ok (.bipush 8, 2) := by decide +kernel
theorem dWire_goTogether_3 : decode bWire_goTogether 3 = .ok (.if_icmp .eq 37, 3) := by decide +kernel
theorem dWire_goTogether_6 : decode bWire_goTogether 6 = .ok (.iload_n 1, 1) := by decide +kernel
theorem dWire_goTogether_7 : decode bWire_goTogether 7 = .ok (.bipush 8, 2) := by decide +kernel
theorem dWire_goTogether_9 : decode bWire_goTogether 9 = .ok (.if_icmp .eq 31, 3) := by decide +kernel
theorem dWire_goTogether_12 : decode bWire_goTogether 12 = .ok (.iload_n 0, 1) := by decide +kernel
theorem dWire_goTogether_13 : decode bWire_goTogether 13 = .ok (.invokestatic 9, 3) := by decide +kernel
theorem dWire_goTogether_16 : decode bWire_goTogether 16 = .ok (.ifCond .eq 10, 3) := by decide +kernel
theorem dWire_goTogether_19 : decode bWire_goTogether 19 = .ok (.iload_n 1, 1) := by decide +kernel
theorem dWire_goTogether_20 : decode bWire_goTogether 20 = .ok (.invokestatic 9, 3) := by decide +kernel
theorem dWire_goTogether_23 : decode bWire_goTogether 23 = .ok (.ifCond .ne 17, 3) := by decide +kernel
theorem dWire_goTogether_26 : decode bWire_goTogether 26 = .ok (.iload_n 0, 1) := by decide +kernel
theorem dWire_goTogether_27 : decode bWire_goTogether 27 = .ok (.invokestatic 15, 3) := by decide +kernel
theorem dWire_goTogether_30 : decode bWire_goTogether 30 = .ok (.ifCond .eq 14, 3) := by decide +kernel
theorem dWire_goTogether_33 : decode bWire_goTogether 33 = .ok (.iload_n 1, 1) := by decide +kernel
theorem dWire_goTogether_34 : decode bWire_goTogether 34 = .ok (.invokestatic 15, 3) := by decide +kernel
theorem dWire_goTogether_37 : decode bWire_goTogether 37 = .ok (.ifCond .eq 7, 3) := by decide +kernel
theorem dWire_goTogether_40 : decode bWire_goTogether 40 = .ok (.iconst 1, 1) := by decide +kernel
theorem dWire_goTogether_41 : decode bWire_goTogether 41 = .ok (.goto 4, 3) := by decide +kernel
theorem dWire_goTogether_44 : decode bWire_goTogether 44 = .ok (.iconst 0, 1) := by decide +kernel
theorem dWire_goTogether_45 : decode bWire_goTogether 45 = .ok (.ireturn, 1) := by decide +kernel
theorem dWord_init_0 : decode bWord_init 0 = .ok (.aload_n 0, 1) := by decide +kernel
theorem dWord_init_1 : decode bWord_init 1 = .ok (.invokespecial 3, 3) := by decide +kernel
theorem dWord_init_4 : decode bWord_init 4 = .ok (.aload_n 0, 1) := by decide +kernel
theorem dWord_init_5 : decode bWord_init 5 = .ok (.iconst 0, 1) := by decide +kernel
theorem dWord_init_6 : decode bWord_init 6 = .ok (.putfield 9, 3) := by decide +kernel
theorem dWord_init_9 : decode bWord_init 9 = .ok (.aload_n 0, 1) := by decide +kernel
theorem dWord_init_10 : decode bWord_init 10 = .ok (.bipush 64, 2) := by decide +kernel
theorem dWord_init_12 : decode bWord_init 12 = .ok (.newarray .int, 2) := by decide +kernel
theorem dWord_init_14 : decode bWord_init 14 = .ok (.putfield 15, 3) := by decide +kernel
theorem dWord_init_17 : decode bWord_init 17 = .ok (.return_, 1) := by decide +kernel
theorem dWord_become_0 : decode bWord_become 0 = .ok (.aload_n 0, 1) := by decide +kernel
theorem dWord_become_1 : decode bWord_become 1 = .ok (.iload_n 1, 1) := by decide +kernel
theorem dWord_become_2 : decode bWord_become 2 = .ok (.putfield 9, 3) := by decide +kernel
theorem dWord_become_5 : decode bWord_become 5 = .ok (.iconst 0, 1) := by decide +kernel
theorem dWord_become_6 : decode bWord_become 6 = .ok (.istore_n 3, 1) := by decide +kernel
theorem dWord_become_7 : decode bWord_become 7 = .ok (.iload_n 3, 1) := by decide +kernel
theorem dWord_become_8 : decode bWord_become 8 = .ok (.iload_n 1, 1) := by decide +kernel
theorem dWord_become_9 : decode bWord_become 9 = .ok (.if_icmp .ge 16, 3) := by decide +kernel
theorem dWord_become_12 : decode bWord_become 12 = .ok (.aload_n 0, 1) := by decide +kernel
theorem dWord_become_13 : decode bWord_become 13 = .ok (.getfield 15, 3) := by decide +kernel
theorem dWord_become_16 : decode bWord_become 16 = .ok (.iload_n 3, 1) := by decide +kernel
theorem dWord_become_17 : decode bWord_become 17 = .ok (.iload_n 2, 1) := by decide +kernel
theorem dWord_become_18 : decode bWord_become 18 = .ok (.iastore, 1) := by decide +kernel
theorem dWord_become_19 : decode bWord_become 19 = .ok (.iinc 3 1, 3) := by decide +kernel
theorem dWord_become_22 : decode bWord_become 22 = .ok (.goto (-15), 3) := by decide +kernel
theorem dWord_become_25 : decode bWord_become 25 = .ok (.return_, 1) := by decide +kernel
theorem dWord_hold_0 : decode bWord_hold 0 = .ok (.aload_n 0, 1) := by decide +kernel
theorem dWord_hold_1 : decode bWord_hold 1 = .ok (.iload_n 1, 1) := by decide +kernel
theorem dWord_hold_2 : decode bWord_hold 2 = .ok (.putfield 9, 3) := by decide +kernel
theorem dWord_hold_5 : decode bWord_hold 5 = .ok (.iconst 0, 1) := by decide +kernel
theorem dWord_hold_6 : decode bWord_hold 6 = .ok (.istore 4, 2) := by decide +kernel
theorem dWord_hold_8 : decode bWord_hold 8 = .ok (.iload 4, 2) := by decide +kernel
theorem dWord_hold_10 : decode bWord_hold 10 = .ok (.iload_n 1, 1) := by decide +kernel
theorem dWord_hold_11 : decode bWord_hold 11 = .ok (.if_icmp .ge 32, 3) := by decide +kernel
theorem dWord_hold_14 : decode bWord_hold 14 = .ok (.aload_n 0, 1) := by decide +kernel
theorem dWord_hold_15 : decode bWord_hold 15 = .ok (.getfield 15, 3) := by decide +kernel
theorem dWord_hold_18 : decode bWord_hold 18 = .ok (.iload 4, 2) := by decide +kernel
theorem dWord_hold_20 : decode bWord_hold 20 = .ok (.lload_n 2, 1) := by decide +kernel
theorem dWord_hold_21 : decode bWord_hold 21 = .ok (.iload 4, 2) := by decide +kernel
theorem dWord_hold_23 : decode bWord_hold 23 = .ok (.lushr, 1) := by decide +kernel
theorem dWord_hold_24 : decode bWord_hold 24 = .ok (.lconst 1, 1) := by decide +kernel
theorem dWord_hold_25 : decode bWord_hold 25 = .ok (.land, 1) := by decide +kernel
theorem dWord_hold_26 : decode bWord_hold 26 = .ok (.lconst 0, 1) := by decide +kernel
theorem dWord_hold_27 : decode bWord_hold 27 = .ok (.lcmp, 1) := by decide +kernel
theorem dWord_hold_28 : decode bWord_hold 28 = .ok (.ifCond .ne 7, 3) := by decide +kernel
theorem dWord_hold_31 : decode bWord_hold 31 = .ok (.iconst 2, 1) := by decide +kernel
theorem dWord_hold_32 : decode bWord_hold 32 = .ok (.goto 4, 3) := by decide +kernel
theorem dWord_hold_35 : decode bWord_hold 35 = .ok (.iconst 3, 1) := by decide +kernel
theorem dWord_hold_36 : decode bWord_hold 36 = .ok (.iastore, 1) := by decide +kernel
theorem dWord_hold_37 : decode bWord_hold 37 = .ok (.iinc 4 1, 3) := by decide +kernel
theorem dWord_hold_40 : decode bWord_hold 40 = .ok (.goto (-32), 3) := by decide +kernel
theorem dWord_hold_43 : decode bWord_hold 43 = .ok (.return_, 1) := by decide +kernel
theorem dWord_copy_0 : decode bWord_copy 0 = .ok (.aload_n 0, 1) := by decide +kernel
theorem dWord_copy_1 : decode bWord_copy 1 = .ok (.aload_n 1, 1) := by decide +kernel
theorem dWord_copy_2 : decode bWord_copy 2 = .ok (.getfield 9, 3) := by decide +kernel
theorem dWord_copy_5 : decode bWord_copy 5 = .ok (.putfield 9, 3) := by decide +kernel
theorem dWord_copy_8 : decode bWord_copy 8 = .ok (.aload_n 0, 1) := by decide +kernel
theorem dWord_copy_9 : decode bWord_copy 9 = .ok (.aload_n 1, 1) := by decide +kernel
theorem dWord_copy_10 : decode bWord_copy 10 = .ok (.iconst 0, 1) := by decide +kernel
theorem dWord_copy_11 : decode bWord_copy 11 = .ok (.aload_n 1, 1) := by decide +kernel
theorem dWord_copy_12 : decode bWord_copy 12 = .ok (.getfield 9, 3) := by decide +kernel
theorem dWord_copy_15 : decode bWord_copy 15 = .ok (.iconst 0, 1) := by decide +kernel
theorem dWord_copy_16 : decode bWord_copy 16 = .ok (.invokevirtual 19, 3) := by decide +kernel
theorem dWord_copy_19 : decode bWord_copy 19 = .ok (.return_, 1) := by decide +kernel
theorem dWord_lay_0 : decode bWord_lay 0 = .ok (.iconst 0, 1) := by decide +kernel
theorem dWord_lay_1 : decode bWord_lay 1 = .ok (.istore 5, 2) := by decide +kernel
theorem dWord_lay_3 : decode bWord_lay 3 = .ok (.iload 5, 2) := by decide +kernel
theorem dWord_lay_5 : decode bWord_lay 5 = .ok (.iload_n 3, 1) := by decide +kernel
theorem dWord_lay_6 : decode bWord_lay 6 = .ok (.if_icmp .ge 28, 3) := by decide +kernel
theorem dWord_lay_9 : decode bWord_lay 9 = .ok (.aload_n 0, 1) := by decide +kernel
theorem dWord_lay_10 : decode bWord_lay 10 = .ok (.getfield 15, 3) := by decide +kernel
theorem dWord_lay_13 : decode bWord_lay 13 = .ok (.iload 4, 2) := by decide +kernel
theorem dWord_lay_15 : decode bWord_lay 15 = .ok (.iload 5, 2) := by decide +kernel
theorem dWord_lay_17 : decode bWord_lay 17 = .ok (.iadd, 1) := by decide +kernel
theorem dWord_lay_18 : decode bWord_lay 18 = .ok (.aload_n 1, 1) := by decide +kernel
theorem dWord_lay_19 : decode bWord_lay 19 = .ok (.getfield 15, 3) := by decide +kernel
theorem dWord_lay_22 : decode bWord_lay 22 = .ok (.iload_n 2, 1) := by decide +kernel
theorem dWord_lay_23 : decode bWord_lay 23 = .ok (.iload 5, 2) := by decide +kernel
theorem dWord_lay_25 : decode bWord_lay 25 = .ok (.iadd, 1) := by decide +kernel
theorem dWord_lay_26 : decode bWord_lay 26 = .ok (.iaload, 1) := by decide +kernel
theorem dWord_lay_27 : decode bWord_lay 27 = .ok (.iastore, 1) := by decide +kernel
theorem dWord_lay_28 : decode bWord_lay 28 = .ok (.iinc 5 1, 3) := by decide +kernel
theorem dWord_lay_31 : decode bWord_lay 31 = .ok (.goto (-28), 3) := by decide +kernel
theorem dWord_lay_34 : decode bWord_lay 34 = .ok (.return_, 1) := by decide +kernel
theorem dWord_last_0 : decode bWord_last 0 = .ok (.aload_n 0, 1) := by decide +kernel
theorem dWord_last_1 : decode bWord_last 1 = .ok (.getfield 9, 3) := by decide +kernel
theorem dWord_last_4 : decode bWord_last 4 = .ok (.ifCond .ne 7, 3) := by decide +kernel
theorem dWord_last_7 : decode bWord_last 7 = .ok (.iconst 2, 1) := by decide +kernel
theorem dWord_last_8 : decode bWord_last 8 = .ok (.goto 14, 3) := by decide +kernel
theorem dWord_last_11 : decode bWord_last 11 = .ok (.aload_n 0, 1) := by decide +kernel
theorem dWord_last_12 : decode bWord_last 12 = .ok (.getfield 15, 3) := by decide +kernel
theorem dWord_last_15 : decode bWord_last 15 = .ok (.aload_n 0, 1) := by decide +kernel
theorem dWord_last_16 : decode bWord_last 16 = .ok (.getfield 9, 3) := by decide +kernel
theorem dWord_last_19 : decode bWord_last 19 = .ok (.iconst 1, 1) := by decide +kernel
theorem dWord_last_20 : decode bWord_last 20 = .ok (.isub, 1) := by decide +kernel
theorem dWord_last_21 : decode bWord_last 21 = .ok (.iaload, 1) := by decide +kernel
theorem dWord_last_22 : decode bWord_last 22 = .ok (.ireturn, 1) := by decide +kernel
theorem dWord_isClear_0 : decode bWord_isClear 0 = .ok (.iconst 0, 1) := by decide +kernel
theorem dWord_isClear_1 : decode bWord_isClear 1 = .ok (.istore_n 1, 1) := by decide +kernel
theorem dWord_isClear_2 : decode bWord_isClear 2 = .ok (.iload_n 1, 1) := by decide +kernel
theorem dWord_isClear_3 : decode bWord_isClear 3 = .ok (.aload_n 0, 1) := by decide +kernel
theorem dWord_isClear_4 : decode bWord_isClear 4 = .ok (.getfield 9, 3) := by decide +kernel
theorem dWord_isClear_7 : decode bWord_isClear 7 = .ok (.if_icmp .ge 23, 3) := by decide +kernel
theorem dWord_isClear_10 : decode bWord_isClear 10 = .ok (.aload_n 0, 1) := by decide +kernel
theorem dWord_isClear_11 : decode bWord_isClear 11 = .ok (.getfield 15, 3) := by decide +kernel
theorem dWord_isClear_14 : decode bWord_isClear 14 = .ok (.iload_n 1, 1) := by decide +kernel
theorem dWord_isClear_15 : decode bWord_isClear 15 = .ok (.iaload, 1) := by decide +kernel
theorem dWord_isClear_16 : decode bWord_isClear 16 = .ok (.invokestatic 23, 3) := by decide +kernel
theorem dWord_isClear_19 : decode bWord_isClear 19 = .ok (.ifCond .ne 5, 3) := by decide +kernel
theorem dWord_isClear_22 : decode bWord_isClear 22 = .ok (.iconst 0, 1) := by decide +kernel
theorem dWord_isClear_23 : decode bWord_isClear 23 = .ok (.ireturn, 1) := by decide +kernel
theorem dWord_isClear_24 : decode bWord_isClear 24 = .ok (.iinc 1 1, 3) := by decide +kernel
theorem dWord_isClear_27 : decode bWord_isClear 27 = .ok (.goto (-25), 3) := by decide +kernel
theorem dWord_isClear_30 : decode bWord_isClear 30 = .ok (.iconst 1, 1) := by decide +kernel
theorem dWord_isClear_31 : decode bWord_isClear 31 = .ok (.ireturn, 1) := by decide +kernel
theorem dWord_counts_0 : decode bWord_counts 0 = .ok (.aload_n 0, 1) := by decide +kernel
theorem dWord_counts_1 : decode bWord_counts 1 = .ok (.getfield 9, 3) := by decide +kernel
theorem dWord_counts_4 : decode bWord_counts 4 = .ok (.ifCond .le 14, 3) := by decide +kernel
theorem dWord_counts_7 : decode bWord_counts 7 = .ok (.aload_n 0, 1) := by decide +kernel
theorem dWord_counts_8 : decode bWord_counts 8 = .ok (.invokevirtual 29, 3) := by decide +kernel
theorem dWord_counts_11 : decode bWord_counts 11 = .ok (.ifCond .eq 7, 3) := by decide +kernel
theorem dWord_counts_14 : decode bWord_counts 14 = .ok (.iconst 1, 1) := by decide +kernel
theorem dWord_counts_15 : decode bWord_counts 15 = .ok (.goto 4, 3) := by decide +kernel
theorem dWord_counts_18 : decode bWord_counts 18 = .ok (.iconst 0, 1) := by decide +kernel
theorem dWord_counts_19 : decode bWord_counts 19 = .ok (.ireturn, 1) := by decide +kernel
theorem dWord_asLong_0 : decode bWord_asLong 0 = .ok (.lconst 0, 1) := by decide +kernel
theorem dWord_asLong_1 : decode bWord_asLong 1 = .ok (.lstore_n 2, 1) := by decide +kernel
theorem dWord_asLong_2 : decode bWord_asLong 2 = .ok (.iload_n 1, 1) := by decide +kernel
theorem dWord_asLong_3 : decode bWord_asLong 3 = .ok (.ifCond .eq 8, 3) := by decide +kernel
theorem dWord_asLong_6 : decode bWord_asLong 6 = .ok (.bipush 64, 2) := by decide +kernel
theorem dWord_asLong_8 : decode bWord_asLong 8 = .ok (.goto 7, 3) := by decide +kernel
theorem dWord_asLong_11 : decode bWord_asLong 11 = .ok (.aload_n 0, 1) := by decide +kernel
theorem dWord_asLong_12 : decode bWord_asLong 12 = .ok (.getfield 9, 3) := by decide +kernel
theorem dWord_asLong_15 : decode bWord_asLong 15 = .ok (.istore 4, 2) := by decide +kernel
theorem dWord_asLong_17 : decode bWord_asLong 17 = .ok (.iconst 0, 1) := by decide +kernel
theorem dWord_asLong_18 : decode bWord_asLong 18 = .ok (.istore 5, 2) := by decide +kernel
theorem dWord_asLong_20 : decode bWord_asLong 20 = .ok (.iload 5, 2) := by decide +kernel
theorem dWord_asLong_22 : decode bWord_asLong 22 = .ok (.iload 4, 2) := by decide +kernel
theorem dWord_asLong_24 : decode bWord_asLong 24 = .ok (.if_icmp .ge 49, 3) := by decide +kernel
theorem dWord_asLong_27 : decode bWord_asLong 27 = .ok (.iload 5, 2) := by decide +kernel
theorem dWord_asLong_29 : decode bWord_asLong 29 = .ok (.aload_n 0, 1) := by decide +kernel
theorem dWord_asLong_30 : decode bWord_asLong 30 = .ok (.getfield 9, 3) := by decide +kernel
theorem dWord_asLong_33 : decode bWord_asLong 33 = .ok (.if_icmp .ge 13, 3) := by decide +kernel
theorem dWord_asLong_36 : decode bWord_asLong 36 = .ok (.aload_n 0, 1) := by decide +kernel
theorem dWord_asLong_37 : decode bWord_asLong 37 = .ok (.getfield 15, 3) := by decide +kernel
theorem dWord_asLong_40 : decode bWord_asLong 40 = .ok (.iload 5, 2) := by decide +kernel
theorem dWord_asLong_42 : decode bWord_asLong 42 = .ok (.iaload, 1) := by decide +kernel
theorem dWord_asLong_43 : decode bWord_asLong 43 = .ok (.goto 7, 3) := by decide +kernel
theorem dWord_asLong_46 : decode bWord_asLong 46 = .ok (.aload_n 0, 1) := by decide +kernel
theorem dWord_asLong_47 : decode bWord_asLong 47 = .ok (.invokevirtual 32, 3) := by decide +kernel
theorem dWord_asLong_50 : decode bWord_asLong 50 = .ok (.istore 6, 2) := by decide +kernel
theorem dWord_asLong_52 : decode bWord_asLong 52 = .ok (.iload 6, 2) := by decide +kernel
theorem dWord_asLong_54 : decode bWord_asLong 54 = .ok (.invokestatic 36, 3) := by decide +kernel
theorem dWord_asLong_57 : decode bWord_asLong 57 = .ok (.ifCond .eq 10, 3) := by decide +kernel
theorem dWord_asLong_60 : decode bWord_asLong 60 = .ok (.lload_n 2, 1) := by decide +kernel
theorem dWord_asLong_61 : decode bWord_asLong 61 = .ok (.lconst 1, 1) := by decide +kernel
theorem dWord_asLong_62 : decode bWord_asLong 62 = .ok (.iload 5, 2) := by decide +kernel
theorem dWord_asLong_64 : decode bWord_asLong 64 = .ok (.lshl, 1) := by decide +kernel
theorem dWord_asLong_65 : decode bWord_asLong 65 = .ok (.lor, 1) := by decide +kernel
theorem dWord_asLong_66 : decode bWord_asLong 66 = .ok (.lstore_n 2, 1) := by decide +kernel
theorem dWord_asLong_67 : decode bWord_asLong 67 = .ok (.iinc 5 1, 3) := by decide +kernel
theorem dWord_asLong_70 : decode bWord_asLong 70 = .ok (.goto (-50), 3) := by decide +kernel
theorem dWord_asLong_73 : decode bWord_asLong 73 = .ok (.lload_n 2, 1) := by decide +kernel
theorem dWord_asLong_74 : decode bWord_asLong 74 = .ok (.lreturn, 1) := by decide +kernel
theorem dWord_joined_0 : decode bWord_joined 0 = .ok (.iload_n 2, 1) := by decide +kernel
theorem dWord_joined_1 : decode bWord_joined 1 = .ok (.istore_n 3, 1) := by decide +kernel
theorem dWord_joined_2 : decode bWord_joined 2 = .ok (.iconst 0, 1) := by decide +kernel
theorem dWord_joined_3 : decode bWord_joined 3 = .ok (.istore 4, 2) := by decide +kernel
theorem dWord_joined_5 : decode bWord_joined 5 = .ok (.iload 4, 2) := by decide +kernel
theorem dWord_joined_7 : decode bWord_joined 7 = .ok (.aload_n 0, 1) := by decide +kernel
theorem dWord_joined_8 : decode bWord_joined 8 = .ok (.getfield 9, 3) := by decide +kernel
theorem dWord_joined_11 : decode bWord_joined 11 = .ok (.if_icmp .ge 22, 3) := by decide +kernel
theorem dWord_joined_14 : decode bWord_joined 14 = .ok (.iload_n 1, 1) := by decide +kernel
theorem dWord_joined_15 : decode bWord_joined 15 = .ok (.iload_n 3, 1) := by decide +kernel
theorem dWord_joined_16 : decode bWord_joined 16 = .ok (.aload_n 0, 1) := by decide +kernel
theorem dWord_joined_17 : decode bWord_joined 17 = .ok (.getfield 15, 3) := by decide +kernel
theorem dWord_joined_20 : decode bWord_joined 20 = .ok (.iload 4, 2) := by decide +kernel
theorem dWord_joined_22 : decode bWord_joined 22 = .ok (.iaload, 1) := by decide +kernel
theorem dWord_joined_23 : decode bWord_joined 23 = .ok (.invokestatic 39, 3) := by decide +kernel
theorem dWord_joined_26 : decode bWord_joined 26 = .ok (.istore_n 3, 1) := by decide +kernel
theorem dWord_joined_27 : decode bWord_joined 27 = .ok (.iinc 4 1, 3) := by decide +kernel
theorem dWord_joined_30 : decode bWord_joined 30 = .ok (.goto (-25), 3) := by decide +kernel
theorem dWord_joined_33 : decode bWord_joined 33 = .ok (.iload_n 3, 1) := by decide +kernel
theorem dWord_joined_34 : decode bWord_joined 34 = .ok (.ireturn, 1) := by decide +kernel
end
section
theorem dN_init_0 : decode bN_init 0 = .ok (.aload_n 0, 1) := by decide +kernel
theorem dN_init_1 : decode bN_init 1 = .ok (.invokespecial 1, 3) := by decide +kernel
theorem dN_init_4 : decode bN_init 4 = .ok (.aload_n 0, 1) := by decide +kernel
theorem dN_init_5 : decode bN_init 5 = .ok (.bipush 16, 2) := by decide +kernel
theorem dN_init_7 : decode bN_init 7 = .ok (.anewarray 9, 3) := by decide +kernel
theorem dN_init_10 : decode bN_init 10 = .ok (.putfield 11, 3) := by decide +kernel
theorem dN_init_13 : decode bN_init 13 = .ok (.aload_n 0, 1) := by decide +kernel
theorem dN_init_14 : decode bN_init 14 = .ok (.new 9, 3) := by decide +kernel
theorem dN_init_17 : decode bN_init 17 = .ok (.dup, 1) := by decide +kernel
theorem dN_init_18 : decode bN_init 18 = .ok (.invokespecial 15, 3) := by decide +kernel
theorem dN_init_21 : decode bN_init 21 = .ok (.putfield 16, 3) := by decide +kernel
theorem dN_init_24 : decode bN_init 24 = .ok (.iconst 0, 1) := by decide +kernel
theorem dN_init_25 : decode bN_init 25 = .ok (.istore_n 1, 1) := by decide +kernel
theorem dN_init_26 : decode bN_init 26 = .ok (.iload_n 1, 1) := by decide +kernel
theorem dN_init_27 : decode bN_init 27 = .ok (.bipush 16, 2) := by decide +kernel
theorem dN_init_29 : decode bN_init 29 = .ok (.if_icmp .ge 22, 3) := by decide +kernel
theorem dN_init_32 : decode bN_init 32 = .ok (.aload_n 0, 1) := by decide +kernel
theorem dN_init_33 : decode bN_init 33 = .ok (.getfield 11, 3) := by decide +kernel
theorem dN_init_36 : decode bN_init 36 = .ok (.iload_n 1, 1) := by decide +kernel
theorem dN_init_37 : decode bN_init 37 = .ok (.new 9, 3) := by decide +kernel
theorem dN_init_40 : decode bN_init 40 = .ok (.dup, 1) := by decide +kernel
theorem dN_init_41 : decode bN_init 41 = .ok (.invokespecial 15, 3) := by decide +kernel
theorem dN_init_44 : decode bN_init 44 = .ok (.aastore, 1) := by decide +kernel
theorem dN_init_45 : decode bN_init 45 = .ok (.iinc 1 1, 3) := by decide +kernel
theorem dN_init_48 : decode bN_init 48 = .ok (.goto (-22), 3) := by decide +kernel
theorem dN_init_51 : decode bN_init 51 = .ok (.return_, 1) := by decide +kernel
theorem dN_fill_0 : decode bN_fill 0 = .ok (.iload_n 1, 1) := by decide +kernel
theorem dN_fill_1 : decode bN_fill 1 = .ok (.invokestatic 20, 3) := by decide +kernel
theorem dN_fill_4 : decode bN_fill 4 = .ok (.iload_n 2, 1) := by decide +kernel
theorem dN_fill_5 : decode bN_fill 5 = .ok (.invokestatic 24, 3) := by decide +kernel
theorem dN_fill_8 : decode bN_fill 8 = .ok (.iload_n 3, 1) := by decide +kernel
theorem dN_fill_9 : decode bN_fill 9 = .ok (.invokestatic 27, 3) := by decide +kernel
theorem dN_fill_12 : decode bN_fill 12 = .ok (.aload_n 0, 1) := by decide +kernel
theorem dN_fill_13 : decode bN_fill 13 = .ok (.getfield 11, 3) := by decide +kernel
theorem dN_fill_16 : decode bN_fill 16 = .ok (.iload_n 1, 1) := by decide +kernel
theorem dN_fill_17 : decode bN_fill 17 = .ok (.aaload, 1) := by decide +kernel
theorem dN_fill_18 : decode bN_fill 18 = .ok (.iload_n 2, 1) := by decide +kernel
theorem dN_fill_19 : decode bN_fill 19 = .ok (.iload_n 3, 1) := by decide +kernel
theorem dN_fill_20 : decode bN_fill 20 = .ok (.invokevirtual 30, 3) := by decide +kernel
theorem dN_fill_23 : decode bN_fill 23 = .ok (.return_, 1) := by decide +kernel
theorem dN_put_0 : decode bN_put 0 = .ok (.aload_n 0, 1) := by decide +kernel
theorem dN_put_1 : decode bN_put 1 = .ok (.iload_n 1, 1) := by decide +kernel
theorem dN_put_2 : decode bN_put 2 = .ok (.iload_n 2, 1) := by decide +kernel
theorem dN_put_3 : decode bN_put 3 = .ok (.invokevirtual 34, 3) := by decide +kernel
theorem dN_put_6 : decode bN_put 6 = .ok (.iload_n 3, 1) := by decide +kernel
theorem dN_put_7 : decode bN_put 7 = .ok (.invokestatic 27, 3) := by decide +kernel
theorem dN_put_10 : decode bN_put 10 = .ok (.aload_n 0, 1) := by decide +kernel
theorem dN_put_11 : decode bN_put 11 = .ok (.getfield 11, 3) := by decide +kernel
theorem dN_put_14 : decode bN_put 14 = .ok (.iload_n 1, 1) := by decide +kernel
theorem dN_put_15 : decode bN_put 15 = .ok (.aaload, 1) := by decide +kernel
theorem dN_put_16 : decode bN_put 16 = .ok (.getfield 37, 3) := by decide +kernel
theorem dN_put_19 : decode bN_put 19 = .ok (.iload_n 2, 1) := by decide +kernel
theorem dN_put_20 : decode bN_put 20 = .ok (.iload_n 3, 1) := by decide +kernel
theorem dN_put_21 : decode bN_put 21 = .ok (.iastore, 1) := by decide +kernel
theorem dN_put_22 : decode bN_put 22 = .ok (.return_, 1) := by decide +kernel
theorem dN_get_0 : decode bN_get 0 = .ok (.aload_n 0, 1) := by decide +kernel
theorem dN_get_1 : decode bN_get 1 = .ok (.iload_n 1, 1) := by decide +kernel
theorem dN_get_2 : decode bN_get 2 = .ok (.iload_n 2, 1) := by decide +kernel
theorem dN_get_3 : decode bN_get 3 = .ok (.invokevirtual 34, 3) := by decide +kernel
theorem dN_get_6 : decode bN_get 6 = .ok (.aload_n 0, 1) := by decide +kernel
theorem dN_get_7 : decode bN_get 7 = .ok (.getfield 11, 3) := by decide +kernel
theorem dN_get_10 : decode bN_get 10 = .ok (.iload_n 1, 1) := by decide +kernel
theorem dN_get_11 : decode bN_get 11 = .ok (.aaload, 1) := by decide +kernel
theorem dN_get_12 : decode bN_get 12 = .ok (.getfield 37, 3) := by decide +kernel
theorem dN_get_15 : decode bN_get 15 = .ok (.iload_n 2, 1) := by decide +kernel
theorem dN_get_16 : decode bN_get 16 = .ok (.iaload, 1) := by decide +kernel
theorem dN_get_17 : decode bN_get 17 = .ok (.ireturn, 1) := by decide +kernel
theorem dN_length_0 : decode bN_length 0 = .ok (.iload_n 1, 1) := by decide +kernel
theorem dN_length_1 : decode bN_length 1 = .ok (.invokestatic 20, 3) := by decide +kernel
theorem dN_length_4 : decode bN_length 4 = .ok (.aload_n 0, 1) := by decide +kernel
theorem dN_length_5 : decode bN_length 5 = .ok (.getfield 11, 3) := by decide +kernel
theorem dN_length_8 : decode bN_length 8 = .ok (.iload_n 1, 1) := by decide +kernel
theorem dN_length_9 : decode bN_length 9 = .ok (.aaload, 1) := by decide +kernel
theorem dN_length_10 : decode bN_length 10 = .ok (.getfield 41, 3) := by decide +kernel
theorem dN_length_13 : decode bN_length 13 = .ok (.ireturn, 1) := by decide +kernel
theorem dN_number_0 : decode bN_number 0 = .ok (.iload_n 1, 1) := by decide +kernel
theorem dN_number_1 : decode bN_number 1 = .ok (.invokestatic 20, 3) := by decide +kernel
theorem dN_number_4 : decode bN_number 4 = .ok (.iload_n 2, 1) := by decide +kernel
theorem dN_number_5 : decode bN_number 5 = .ok (.invokestatic 24, 3) := by decide +kernel
theorem dN_number_8 : decode bN_number 8 = .ok (.aload_n 0, 1) := by decide +kernel
theorem dN_number_9 : decode bN_number 9 = .ok (.getfield 11, 3) := by decide +kernel
theorem dN_number_12 : decode bN_number 12 = .ok (.iload_n 1, 1) := by decide +kernel
theorem dN_number_13 : decode bN_number 13 = .ok (.aaload, 1) := by decide +kernel
theorem dN_number_14 : decode bN_number 14 = .ok (.iload_n 2, 1) := by decide +kernel
theorem dN_number_15 : decode bN_number 15 = .ok (.lload_n 3, 1) := by decide +kernel
theorem dN_number_16 : decode bN_number 16 = .ok (.invokevirtual 45, 3) := by decide +kernel
theorem dN_number_19 : decode bN_number 19 = .ok (.return_, 1) := by decide +kernel
theorem dN_numberOf_0 : decode bN_numberOf 0 = .ok (.iload_n 1, 1) := by decide +kernel
theorem dN_numberOf_1 : decode bN_numberOf 1 = .ok (.invokestatic 20, 3) := by decide +kernel
theorem dN_numberOf_4 : decode bN_numberOf 4 = .ok (.aload_n 0, 1) := by decide +kernel
theorem dN_numberOf_5 : decode bN_numberOf 5 = .ok (.getfield 11, 3) := by decide +kernel
theorem dN_numberOf_8 : decode bN_numberOf 8 = .ok (.iload_n 1, 1) := by decide +kernel
theorem dN_numberOf_9 : decode bN_numberOf 9 = .ok (.aaload, 1) := by decide +kernel
theorem dN_numberOf_10 : decode bN_numberOf 10 = .ok (.invokevirtual 49, 3) := by decide +kernel
theorem dN_numberOf_13 : decode bN_numberOf 13 = .ok (.ifCond .ne 13, 3) := by decide +kernel
theorem dN_numberOf_16 : decode bN_numberOf 16 = .ok (.new 53, 3) := by decide +kernel
theorem dN_numberOf_19 : decode bN_numberOf 19 = .ok (.dup, 1) := by decide +kernel
theorem dN_numberOf_20 : decode bN_numberOf 20 = .ok (.ldc 55, 2) := by decide +kernel
theorem dN_numberOf_22 : decode bN_numberOf 22 = .ok (.invokespecial 57, 3) := by decide +kernel
theorem dN_numberOf_25 : decode bN_numberOf 25 = .ok (.athrow, 1) := by decide +kernel
theorem dN_numberOf_26 : decode bN_numberOf 26 = .ok (.aload_n 0, 1) := by decide +kernel
theorem dN_numberOf_27 : decode bN_numberOf 27 = .ok (.getfield 11, 3) := by decide +kernel
theorem dN_numberOf_30 : decode bN_numberOf 30 = .ok (.iload_n 1, 1) := by decide +kernel
theorem dN_numberOf_31 : decode bN_numberOf 31 = .ok (.aaload, 1) := by decide +kernel
theorem dN_numberOf_32 : decode bN_numberOf 32 = .ok (.iload_n 2, 1) := by decide +kernel
theorem dN_numberOf_33 : decode bN_numberOf 33 = .ok (.invokevirtual 60, 3) := by decide +kernel
theorem dN_numberOf_36 : decode bN_numberOf 36 = .ok (.lreturn, 1) := by decide +kernel
theorem dN_operate_0 : decode bN_operate 0 = .ok (.iload_n 3, 1) := by decide +kernel
theorem dN_operate_1 : decode bN_operate 1 = .ok (.invokestatic 20, 3) := by decide +kernel
theorem dN_operate_4 : decode bN_operate 4 = .ok (.iload 4, 2) := by decide +kernel
theorem dN_operate_6 : decode bN_operate 6 = .ok (.invokestatic 20, 3) := by decide +kernel
theorem dN_operate_9 : decode bN_operate 9 = .ok (.iload 5, 2) := by decide +kernel
theorem dN_operate_11 : decode bN_operate 11 = .ok (.invokestatic 20, 3) := by decide +kernel
theorem dN_operate_14 : decode bN_operate 14 = .ok (.iload_n 1, 1) := by decide +kernel
theorem dN_operate_15 : decode bN_operate 15 = .ok (.ifCond .lt 9, 3) := by decide +kernel
theorem dN_operate_18 : decode bN_operate 18 = .ok (.iload_n 1, 1) := by decide +kernel
theorem dN_operate_19 : decode bN_operate 19 = .ok (.bipush 13, 2) := by decide +kernel
theorem dN_operate_21 : decode bN_operate 21 = .ok (.if_icmp .le 13, 3) := by decide +kernel
theorem dN_operate_24 : decode bN_operate 24 = .ok (.new 64, 3) := by decide +kernel
theorem dN_operate_27 : decode bN_operate 27 = .ok (.dup, 1) := by decide +kernel
theorem dN_operate_28 : decode bN_operate 28 = .ok (.ldc 66, 2) := by decide +kernel
theorem dN_operate_30 : decode bN_operate 30 = .ok (.invokespecial 68, 3) := by decide +kernel
theorem dN_operate_33 : decode bN_operate 33 = .ok (.athrow, 1) := by decide +kernel
theorem dN_operate_34 : decode bN_operate 34 = .ok (.iload_n 1, 1) := by decide +kernel
theorem dN_operate_35 : decode bN_operate 35 = .ok (.bipush 6, 2) := by decide +kernel
theorem dN_operate_37 : decode bN_operate 37 = .ok (.if_icmp .gt 24, 3) := by decide +kernel
theorem dN_operate_40 : decode bN_operate 40 = .ok (.aload_n 0, 1) := by decide +kernel
theorem dN_operate_41 : decode bN_operate 41 = .ok (.iload_n 1, 1) := by decide +kernel
theorem dN_operate_42 : decode bN_operate 42 = .ok (.aload_n 0, 1) := by decide +kernel
theorem dN_operate_43 : decode bN_operate 43 = .ok (.getfield 11, 3) := by decide +kernel
theorem dN_operate_46 : decode bN_operate 46 = .ok (.iload_n 3, 1) := by decide +kernel
theorem dN_operate_47 : decode bN_operate 47 = .ok (.aaload, 1) := by decide +kernel
theorem dN_operate_48 : decode bN_operate 48 = .ok (.aload_n 0, 1) := by decide +kernel
theorem dN_operate_49 : decode bN_operate 49 = .ok (.getfield 11, 3) := by decide +kernel
theorem dN_operate_52 : decode bN_operate 52 = .ok (.iload 4, 2) := by decide +kernel
theorem dN_operate_54 : decode bN_operate 54 = .ok (.aaload, 1) := by decide +kernel
theorem dN_operate_55 : decode bN_operate 55 = .ok (.invokevirtual 69, 3) := by decide +kernel
theorem dN_operate_58 : decode bN_operate 58 = .ok (.goto 48, 3) := by decide +kernel
theorem dN_operate_61 : decode bN_operate 61 = .ok (.iload_n 1, 1) := by decide +kernel
theorem dN_operate_62 : decode bN_operate 62 = .ok (.bipush 13, 2) := by decide +kernel
theorem dN_operate_64 : decode bN_operate 64 = .ok (.if_icmp .ne 23, 3) := by decide +kernel
theorem dN_operate_67 : decode bN_operate 67 = .ok (.aload_n 0, 1) := by decide +kernel
theorem dN_operate_68 : decode bN_operate 68 = .ok (.aload_n 0, 1) := by decide +kernel
theorem dN_operate_69 : decode bN_operate 69 = .ok (.getfield 11, 3) := by decide +kernel
theorem dN_operate_72 : decode bN_operate 72 = .ok (.iload_n 3, 1) := by decide +kernel
theorem dN_operate_73 : decode bN_operate 73 = .ok (.aaload, 1) := by decide +kernel
theorem dN_operate_74 : decode bN_operate 74 = .ok (.aload_n 0, 1) := by decide +kernel
theorem dN_operate_75 : decode bN_operate 75 = .ok (.getfield 11, 3) := by decide +kernel
theorem dN_operate_78 : decode bN_operate 78 = .ok (.iload 4, 2) := by decide +kernel
theorem dN_operate_80 : decode bN_operate 80 = .ok (.aaload, 1) := by decide +kernel
theorem dN_operate_81 : decode bN_operate 81 = .ok (.invokevirtual 73, 3) := by decide +kernel
theorem dN_operate_84 : decode bN_operate 84 = .ok (.goto 22, 3) := by decide +kernel
theorem dN_operate_87 : decode bN_operate 87 = .ok (.aload_n 0, 1) := by decide +kernel
theorem dN_operate_88 : decode bN_operate 88 = .ok (.iload_n 1, 1) := by decide +kernel
theorem dN_operate_89 : decode bN_operate 89 = .ok (.iload_n 2, 1) := by decide +kernel
theorem dN_operate_90 : decode bN_operate 90 = .ok (.aload_n 0, 1) := by decide +kernel
theorem dN_operate_91 : decode bN_operate 91 = .ok (.getfield 11, 3) := by decide +kernel
theorem dN_operate_94 : decode bN_operate 94 = .ok (.iload_n 3, 1) := by decide +kernel
theorem dN_operate_95 : decode bN_operate 95 = .ok (.aaload, 1) := by decide +kernel
theorem dN_operate_96 : decode bN_operate 96 = .ok (.aload_n 0, 1) := by decide +kernel
theorem dN_operate_97 : decode bN_operate 97 = .ok (.getfield 11, 3) := by decide +kernel
theorem dN_operate_100 : decode bN_operate 100 = .ok (.iload 4, 2) := by decide +kernel
theorem dN_operate_102 : decode bN_operate 102 = .ok (.aaload, 1) := by decide +kernel
theorem dN_operate_103 : decode bN_operate 103 = .ok (.invokevirtual 77, 3) := by decide +kernel
theorem dN_operate_106 : decode bN_operate 106 = .ok (.aload_n 0, 1) := by decide +kernel
theorem dN_operate_107 : decode bN_operate 107 = .ok (.getfield 11, 3) := by decide +kernel
theorem dN_operate_110 : decode bN_operate 110 = .ok (.iload 5, 2) := by decide +kernel
theorem dN_operate_112 : decode bN_operate 112 = .ok (.aaload, 1) := by decide +kernel
theorem dN_operate_113 : decode bN_operate 113 = .ok (.aload_n 0, 1) := by decide +kernel
theorem dN_operate_114 : decode bN_operate 114 = .ok (.getfield 16, 3) := by decide +kernel
theorem dN_operate_117 : decode bN_operate 117 = .ok (.invokevirtual 81, 3) := by decide +kernel
theorem dN_operate_120 : decode bN_operate 120 = .ok (.return_, 1) := by decide +kernel
theorem dN_change_0 : decode bN_change 0 = .ok (.iload_n 2, 1) := by decide +kernel
theorem dN_change_1 : decode bN_change 1 = .ok (.invokestatic 20, 3) := by decide +kernel
theorem dN_change_4 : decode bN_change 4 = .ok (.iload_n 3, 1) := by decide +kernel
theorem dN_change_5 : decode bN_change 5 = .ok (.invokestatic 20, 3) := by decide +kernel
theorem dN_change_8 : decode bN_change 8 = .ok (.iload_n 1, 1) := by decide +kernel
theorem dN_change_9 : decode bN_change 9 = .ok (.ifCond .lt 9, 3) := by decide +kernel
theorem dN_change_12 : decode bN_change 12 = .ok (.iload_n 1, 1) := by decide +kernel
theorem dN_change_13 : decode bN_change 13 = .ok (.bipush 6, 2) := by decide +kernel
theorem dN_change_15 : decode bN_change 15 = .ok (.if_icmp .le 13, 3) := by decide +kernel
theorem dN_change_18 : decode bN_change 18 = .ok (.new 64, 3) := by decide +kernel
theorem dN_change_21 : decode bN_change 21 = .ok (.dup, 1) := by decide +kernel
theorem dN_change_22 : decode bN_change 22 = .ok (.ldc 85, 2) := by decide +kernel
theorem dN_change_24 : decode bN_change 24 = .ok (.invokespecial 68, 3) := by decide +kernel
theorem dN_change_27 : decode bN_change 27 = .ok (.athrow, 1) := by decide +kernel
theorem dN_change_28 : decode bN_change 28 = .ok (.iload_n 1, 1) := by decide +kernel
theorem dN_change_29 : decode bN_change 29 = .ok (.iconst 4, 1) := by decide +kernel
theorem dN_change_30 : decode bN_change 30 = .ok (.if_icmp .gt 17, 3) := by decide +kernel
theorem dN_change_33 : decode bN_change 33 = .ok (.aload_n 0, 1) := by decide +kernel
theorem dN_change_34 : decode bN_change 34 = .ok (.iload_n 1, 1) := by decide +kernel
theorem dN_change_35 : decode bN_change 35 = .ok (.aload_n 0, 1) := by decide +kernel
theorem dN_change_36 : decode bN_change 36 = .ok (.getfield 11, 3) := by decide +kernel
theorem dN_change_39 : decode bN_change 39 = .ok (.iload_n 2, 1) := by decide +kernel
theorem dN_change_40 : decode bN_change 40 = .ok (.aaload, 1) := by decide +kernel
theorem dN_change_41 : decode bN_change 41 = .ok (.invokevirtual 87, 3) := by decide +kernel
theorem dN_change_44 : decode bN_change 44 = .ok (.goto 14, 3) := by decide +kernel
theorem dN_change_47 : decode bN_change 47 = .ok (.aload_n 0, 1) := by decide +kernel
theorem dN_change_48 : decode bN_change 48 = .ok (.iload_n 1, 1) := by decide +kernel
theorem dN_change_49 : decode bN_change 49 = .ok (.aload_n 0, 1) := by decide +kernel
theorem dN_change_50 : decode bN_change 50 = .ok (.getfield 11, 3) := by decide +kernel
theorem dN_change_53 : decode bN_change 53 = .ok (.iload_n 2, 1) := by decide +kernel
theorem dN_change_54 : decode bN_change 54 = .ok (.aaload, 1) := by decide +kernel
theorem dN_change_55 : decode bN_change 55 = .ok (.invokevirtual 91, 3) := by decide +kernel
theorem dN_change_58 : decode bN_change 58 = .ok (.aload_n 0, 1) := by decide +kernel
theorem dN_change_59 : decode bN_change 59 = .ok (.getfield 11, 3) := by decide +kernel
theorem dN_change_62 : decode bN_change 62 = .ok (.iload_n 3, 1) := by decide +kernel
theorem dN_change_63 : decode bN_change 63 = .ok (.aaload, 1) := by decide +kernel
theorem dN_change_64 : decode bN_change 64 = .ok (.aload_n 0, 1) := by decide +kernel
theorem dN_change_65 : decode bN_change 65 = .ok (.getfield 16, 3) := by decide +kernel
theorem dN_change_68 : decode bN_change 68 = .ok (.invokevirtual 81, 3) := by decide +kernel
theorem dN_change_71 : decode bN_change 71 = .ok (.return_, 1) := by decide +kernel
theorem dN_shift_0 : decode bN_shift 0 = .ok (.iload 4, 2) := by decide +kernel
theorem dN_shift_2 : decode bN_shift 2 = .ok (.invokestatic 20, 3) := by decide +kernel
theorem dN_shift_5 : decode bN_shift 5 = .ok (.iload 5, 2) := by decide +kernel
theorem dN_shift_7 : decode bN_shift 7 = .ok (.invokestatic 20, 3) := by decide +kernel
theorem dN_shift_10 : decode bN_shift 10 = .ok (.iload_n 3, 1) := by decide +kernel
theorem dN_shift_11 : decode bN_shift 11 = .ok (.invokestatic 27, 3) := by decide +kernel
theorem dN_shift_14 : decode bN_shift 14 = .ok (.iload_n 1, 1) := by decide +kernel
theorem dN_shift_15 : decode bN_shift 15 = .ok (.ifCond .lt 8, 3) := by decide +kernel
theorem dN_shift_18 : decode bN_shift 18 = .ok (.iload_n 1, 1) := by decide +kernel
theorem dN_shift_19 : decode bN_shift 19 = .ok (.iconst 4, 1) := by decide +kernel
theorem dN_shift_20 : decode bN_shift 20 = .ok (.if_icmp .le 13, 3) := by decide +kernel
theorem dN_shift_23 : decode bN_shift 23 = .ok (.new 64, 3) := by decide +kernel
theorem dN_shift_26 : decode bN_shift 26 = .ok (.dup, 1) := by decide +kernel
theorem dN_shift_27 : decode bN_shift 27 = .ok (.ldc 94, 2) := by decide +kernel
theorem dN_shift_29 : decode bN_shift 29 = .ok (.invokespecial 68, 3) := by decide +kernel
theorem dN_shift_32 : decode bN_shift 32 = .ok (.athrow, 1) := by decide +kernel
theorem dN_shift_33 : decode bN_shift 33 = .ok (.iload_n 2, 1) := by decide +kernel
theorem dN_shift_34 : decode bN_shift 34 = .ok (.sipush (-1000), 3) := by decide +kernel
theorem dN_shift_37 : decode bN_shift 37 = .ok (.if_icmp .lt 10, 3) := by decide +kernel
theorem dN_shift_40 : decode bN_shift 40 = .ok (.iload_n 2, 1) := by decide +kernel
theorem dN_shift_41 : decode bN_shift 41 = .ok (.sipush 1000, 3) := by decide +kernel
theorem dN_shift_44 : decode bN_shift 44 = .ok (.if_icmp .le 13, 3) := by decide +kernel
theorem dN_shift_47 : decode bN_shift 47 = .ok (.new 64, 3) := by decide +kernel
theorem dN_shift_50 : decode bN_shift 50 = .ok (.dup, 1) := by decide +kernel
theorem dN_shift_51 : decode bN_shift 51 = .ok (.ldc 96, 2) := by decide +kernel
theorem dN_shift_53 : decode bN_shift 53 = .ok (.invokespecial 68, 3) := by decide +kernel
theorem dN_shift_56 : decode bN_shift 56 = .ok (.athrow, 1) := by decide +kernel
theorem dN_shift_57 : decode bN_shift 57 = .ok (.iload_n 1, 1) := by decide +kernel
theorem dN_shift_58 : decode bN_shift 58 = .ok (.ifCond .eq 8, 3) := by decide +kernel
theorem dN_shift_61 : decode bN_shift 61 = .ok (.iload_n 1, 1) := by decide +kernel
theorem dN_shift_62 : decode bN_shift 62 = .ok (.iconst 3, 1) := by decide +kernel
theorem dN_shift_63 : decode bN_shift 63 = .ok (.if_icmp .ne 7, 3) := by decide +kernel
theorem dN_shift_66 : decode bN_shift 66 = .ok (.iload_n 2, 1) := by decide +kernel
theorem dN_shift_67 : decode bN_shift 67 = .ok (.goto 5, 3) := by decide +kernel
theorem dN_shift_70 : decode bN_shift 70 = .ok (.iload_n 2, 1) := by decide +kernel
theorem dN_shift_71 : decode bN_shift 71 = .ok (.ineg, 1) := by decide +kernel
theorem dN_shift_72 : decode bN_shift 72 = .ok (.istore 6, 2) := by decide +kernel
theorem dN_shift_74 : decode bN_shift 74 = .ok (.iload_n 1, 1) := by decide +kernel
theorem dN_shift_75 : decode bN_shift 75 = .ok (.iconst 3, 1) := by decide +kernel
theorem dN_shift_76 : decode bN_shift 76 = .ok (.if_icmp .eq 8, 3) := by decide +kernel
theorem dN_shift_79 : decode bN_shift 79 = .ok (.iload_n 1, 1) := by decide +kernel
theorem dN_shift_80 : decode bN_shift 80 = .ok (.iconst 4, 1) := by decide +kernel
theorem dN_shift_81 : decode bN_shift 81 = .ok (.if_icmp .ne 19, 3) := by decide +kernel
theorem dN_shift_84 : decode bN_shift 84 = .ok (.aload_n 0, 1) := by decide +kernel
theorem dN_shift_85 : decode bN_shift 85 = .ok (.iload 6, 2) := by decide +kernel
theorem dN_shift_87 : decode bN_shift 87 = .ok (.aload_n 0, 1) := by decide +kernel
theorem dN_shift_88 : decode bN_shift 88 = .ok (.getfield 11, 3) := by decide +kernel
theorem dN_shift_91 : decode bN_shift 91 = .ok (.iload 4, 2) := by decide +kernel
theorem dN_shift_93 : decode bN_shift 93 = .ok (.aaload, 1) := by decide +kernel
theorem dN_shift_94 : decode bN_shift 94 = .ok (.invokevirtual 98, 3) := by decide +kernel
theorem dN_shift_97 : decode bN_shift 97 = .ok (.goto 56, 3) := by decide +kernel
theorem dN_shift_100 : decode bN_shift 100 = .ok (.iload_n 1, 1) := by decide +kernel
theorem dN_shift_101 : decode bN_shift 101 = .ok (.iconst 2, 1) := by decide +kernel
theorem dN_shift_102 : decode bN_shift 102 = .ok (.if_icmp .ne 37, 3) := by decide +kernel
theorem dN_shift_105 : decode bN_shift 105 = .ok (.aload_n 0, 1) := by decide +kernel
theorem dN_shift_106 : decode bN_shift 106 = .ok (.iload 6, 2) := by decide +kernel
theorem dN_shift_108 : decode bN_shift 108 = .ok (.iload_n 2, 1) := by decide +kernel
theorem dN_shift_109 : decode bN_shift 109 = .ok (.ifCond .ge 7, 3) := by decide +kernel
theorem dN_shift_112 : decode bN_shift 112 = .ok (.iconst 2, 1) := by decide +kernel
theorem dN_shift_113 : decode bN_shift 113 = .ok (.goto 13, 3) := by decide +kernel
theorem dN_shift_116 : decode bN_shift 116 = .ok (.aload_n 0, 1) := by decide +kernel
theorem dN_shift_117 : decode bN_shift 117 = .ok (.getfield 11, 3) := by decide +kernel
theorem dN_shift_120 : decode bN_shift 120 = .ok (.iload 4, 2) := by decide +kernel
theorem dN_shift_122 : decode bN_shift 122 = .ok (.aaload, 1) := by decide +kernel
theorem dN_shift_123 : decode bN_shift 123 = .ok (.invokevirtual 101, 3) := by decide +kernel
theorem dN_shift_126 : decode bN_shift 126 = .ok (.aload_n 0, 1) := by decide +kernel
theorem dN_shift_127 : decode bN_shift 127 = .ok (.getfield 11, 3) := by decide +kernel
theorem dN_shift_130 : decode bN_shift 130 = .ok (.iload 4, 2) := by decide +kernel
theorem dN_shift_132 : decode bN_shift 132 = .ok (.aaload, 1) := by decide +kernel
theorem dN_shift_133 : decode bN_shift 133 = .ok (.invokevirtual 105, 3) := by decide +kernel
theorem dN_shift_136 : decode bN_shift 136 = .ok (.goto 17, 3) := by decide +kernel
theorem dN_shift_139 : decode bN_shift 139 = .ok (.aload_n 0, 1) := by decide +kernel
theorem dN_shift_140 : decode bN_shift 140 = .ok (.iload 6, 2) := by decide +kernel
theorem dN_shift_142 : decode bN_shift 142 = .ok (.iload_n 3, 1) := by decide +kernel
theorem dN_shift_143 : decode bN_shift 143 = .ok (.aload_n 0, 1) := by decide +kernel
theorem dN_shift_144 : decode bN_shift 144 = .ok (.getfield 11, 3) := by decide +kernel
theorem dN_shift_147 : decode bN_shift 147 = .ok (.iload 4, 2) := by decide +kernel
theorem dN_shift_149 : decode bN_shift 149 = .ok (.aaload, 1) := by decide +kernel
theorem dN_shift_150 : decode bN_shift 150 = .ok (.invokevirtual 105, 3) := by decide +kernel
theorem dN_shift_153 : decode bN_shift 153 = .ok (.aload_n 0, 1) := by decide +kernel
theorem dN_shift_154 : decode bN_shift 154 = .ok (.getfield 11, 3) := by decide +kernel
theorem dN_shift_157 : decode bN_shift 157 = .ok (.iload 5, 2) := by decide +kernel
theorem dN_shift_159 : decode bN_shift 159 = .ok (.aaload, 1) := by decide +kernel
theorem dN_shift_160 : decode bN_shift 160 = .ok (.aload_n 0, 1) := by decide +kernel
theorem dN_shift_161 : decode bN_shift 161 = .ok (.getfield 16, 3) := by decide +kernel
theorem dN_shift_164 : decode bN_shift 164 = .ok (.invokevirtual 81, 3) := by decide +kernel
theorem dN_shift_167 : decode bN_shift 167 = .ok (.return_, 1) := by decide +kernel
theorem dN_bring_0 : decode bN_bring 0 = .ok (.iload_n 3, 1) := by decide +kernel
theorem dN_bring_1 : decode bN_bring 1 = .ok (.invokestatic 20, 3) := by decide +kernel
theorem dN_bring_4 : decode bN_bring 4 = .ok (.iload 4, 2) := by decide +kernel
theorem dN_bring_6 : decode bN_bring 6 = .ok (.invokestatic 20, 3) := by decide +kernel
theorem dN_bring_9 : decode bN_bring 9 = .ok (.iload_n 2, 1) := by decide +kernel
theorem dN_bring_10 : decode bN_bring 10 = .ok (.invokestatic 24, 3) := by decide +kernel
theorem dN_bring_13 : decode bN_bring 13 = .ok (.aload_n 0, 1) := by decide +kernel
theorem dN_bring_14 : decode bN_bring 14 = .ok (.getfield 11, 3) := by decide +kernel
theorem dN_bring_17 : decode bN_bring 17 = .ok (.iload_n 3, 1) := by decide +kernel
theorem dN_bring_18 : decode bN_bring 18 = .ok (.aaload, 1) := by decide +kernel
theorem dN_bring_19 : decode bN_bring 19 = .ok (.astore 5, 2) := by decide +kernel
theorem dN_bring_21 : decode bN_bring 21 = .ok (.aload_n 0, 1) := by decide +kernel
theorem dN_bring_22 : decode bN_bring 22 = .ok (.getfield 16, 3) := by decide +kernel
theorem dN_bring_25 : decode bN_bring 25 = .ok (.iload_n 2, 1) := by decide +kernel
theorem dN_bring_26 : decode bN_bring 26 = .ok (.iload_n 1, 1) := by decide +kernel
theorem dN_bring_27 : decode bN_bring 27 = .ok (.ifCond .eq 11, 3) := by decide +kernel
theorem dN_bring_30 : decode bN_bring 30 = .ok (.aload 5, 2) := by decide +kernel
theorem dN_bring_32 : decode bN_bring 32 = .ok (.invokevirtual 101, 3) := by decide +kernel
theorem dN_bring_35 : decode bN_bring 35 = .ok (.goto 4, 3) := by decide +kernel
theorem dN_bring_38 : decode bN_bring 38 = .ok (.iconst 2, 1) := by decide +kernel
theorem dN_bring_39 : decode bN_bring 39 = .ok (.invokevirtual 30, 3) := by decide +kernel
theorem dN_bring_42 : decode bN_bring 42 = .ok (.aload_n 0, 1) := by decide +kernel
theorem dN_bring_43 : decode bN_bring 43 = .ok (.getfield 16, 3) := by decide +kernel
theorem dN_bring_46 : decode bN_bring 46 = .ok (.aload 5, 2) := by decide +kernel
theorem dN_bring_48 : decode bN_bring 48 = .ok (.iconst 0, 1) := by decide +kernel
theorem dN_bring_49 : decode bN_bring 49 = .ok (.iload_n 2, 1) := by decide +kernel
theorem dN_bring_50 : decode bN_bring 50 = .ok (.aload 5, 2) := by decide +kernel
theorem dN_bring_52 : decode bN_bring 52 = .ok (.getfield 41, 3) := by decide +kernel
theorem dN_bring_55 : decode bN_bring 55 = .ok (.invokestatic 109, 3) := by decide +kernel
theorem dN_bring_58 : decode bN_bring 58 = .ok (.iconst 0, 1) := by decide +kernel
theorem dN_bring_59 : decode bN_bring 59 = .ok (.invokevirtual 115, 3) := by decide +kernel
theorem dN_bring_62 : decode bN_bring 62 = .ok (.aload_n 0, 1) := by decide +kernel
theorem dN_bring_63 : decode bN_bring 63 = .ok (.getfield 11, 3) := by decide +kernel
theorem dN_bring_66 : decode bN_bring 66 = .ok (.iload 4, 2) := by decide +kernel
theorem dN_bring_68 : decode bN_bring 68 = .ok (.aaload, 1) := by decide +kernel
theorem dN_bring_69 : decode bN_bring 69 = .ok (.aload_n 0, 1) := by decide +kernel
theorem dN_bring_70 : decode bN_bring 70 = .ok (.getfield 16, 3) := by decide +kernel
theorem dN_bring_73 : decode bN_bring 73 = .ok (.invokevirtual 81, 3) := by decide +kernel
theorem dN_bring_76 : decode bN_bring 76 = .ok (.return_, 1) := by decide +kernel
theorem dN_cut_0 : decode bN_cut 0 = .ok (.iload_n 3, 1) := by decide +kernel
theorem dN_cut_1 : decode bN_cut 1 = .ok (.invokestatic 20, 3) := by decide +kernel
theorem dN_cut_4 : decode bN_cut 4 = .ok (.iload 4, 2) := by decide +kernel
theorem dN_cut_6 : decode bN_cut 6 = .ok (.invokestatic 20, 3) := by decide +kernel
theorem dN_cut_9 : decode bN_cut 9 = .ok (.aload_n 0, 1) := by decide +kernel
theorem dN_cut_10 : decode bN_cut 10 = .ok (.getfield 11, 3) := by decide +kernel
theorem dN_cut_13 : decode bN_cut 13 = .ok (.iload_n 3, 1) := by decide +kernel
theorem dN_cut_14 : decode bN_cut 14 = .ok (.aaload, 1) := by decide +kernel
theorem dN_cut_15 : decode bN_cut 15 = .ok (.astore 5, 2) := by decide +kernel
theorem dN_cut_17 : decode bN_cut 17 = .ok (.iload_n 1, 1) := by decide +kernel
theorem dN_cut_18 : decode bN_cut 18 = .ok (.ifCond .lt 27, 3) := by decide +kernel
theorem dN_cut_21 : decode bN_cut 21 = .ok (.iload_n 1, 1) := by decide +kernel
theorem dN_cut_22 : decode bN_cut 22 = .ok (.aload 5, 2) := by decide +kernel
theorem dN_cut_24 : decode bN_cut 24 = .ok (.getfield 41, 3) := by decide +kernel
theorem dN_cut_27 : decode bN_cut 27 = .ok (.if_icmp .gt 18, 3) := by decide +kernel
theorem dN_cut_30 : decode bN_cut 30 = .ok (.iload_n 2, 1) := by decide +kernel
theorem dN_cut_31 : decode bN_cut 31 = .ok (.ifCond .lt 14, 3) := by decide +kernel
theorem dN_cut_34 : decode bN_cut 34 = .ok (.iload_n 2, 1) := by decide +kernel
theorem dN_cut_35 : decode bN_cut 35 = .ok (.aload 5, 2) := by decide +kernel
theorem dN_cut_37 : decode bN_cut 37 = .ok (.getfield 41, 3) := by decide +kernel
theorem dN_cut_40 : decode bN_cut 40 = .ok (.iload_n 1, 1) := by decide +kernel
theorem dN_cut_41 : decode bN_cut 41 = .ok (.isub, 1) := by decide +kernel
theorem dN_cut_42 : decode bN_cut 42 = .ok (.if_icmp .le 13, 3) := by decide +kernel
theorem dN_cut_45 : decode bN_cut 45 = .ok (.new 119, 3) := by decide +kernel
theorem dN_cut_48 : decode bN_cut 48 = .ok (.dup, 1) := by decide +kernel
theorem dN_cut_49 : decode bN_cut 49 = .ok (.ldc 121, 2) := by decide +kernel
theorem dN_cut_51 : decode bN_cut 51 = .ok (.invokespecial 123, 3) := by decide +kernel
theorem dN_cut_54 : decode bN_cut 54 = .ok (.athrow, 1) := by decide +kernel
theorem dN_cut_55 : decode bN_cut 55 = .ok (.aload_n 0, 1) := by decide +kernel
theorem dN_cut_56 : decode bN_cut 56 = .ok (.getfield 16, 3) := by decide +kernel
theorem dN_cut_59 : decode bN_cut 59 = .ok (.iload_n 2, 1) := by decide +kernel
theorem dN_cut_60 : decode bN_cut 60 = .ok (.putfield 41, 3) := by decide +kernel
theorem dN_cut_63 : decode bN_cut 63 = .ok (.aload_n 0, 1) := by decide +kernel
theorem dN_cut_64 : decode bN_cut 64 = .ok (.getfield 16, 3) := by decide +kernel
theorem dN_cut_67 : decode bN_cut 67 = .ok (.aload 5, 2) := by decide +kernel
theorem dN_cut_69 : decode bN_cut 69 = .ok (.iload_n 1, 1) := by decide +kernel
theorem dN_cut_70 : decode bN_cut 70 = .ok (.iload_n 2, 1) := by decide +kernel
theorem dN_cut_71 : decode bN_cut 71 = .ok (.iconst 0, 1) := by decide +kernel
theorem dN_cut_72 : decode bN_cut 72 = .ok (.invokevirtual 115, 3) := by decide +kernel
theorem dN_cut_75 : decode bN_cut 75 = .ok (.aload_n 0, 1) := by decide +kernel
theorem dN_cut_76 : decode bN_cut 76 = .ok (.getfield 11, 3) := by decide +kernel
theorem dN_cut_79 : decode bN_cut 79 = .ok (.iload 4, 2) := by decide +kernel
theorem dN_cut_81 : decode bN_cut 81 = .ok (.aaload, 1) := by decide +kernel
theorem dN_cut_82 : decode bN_cut 82 = .ok (.aload_n 0, 1) := by decide +kernel
theorem dN_cut_83 : decode bN_cut 83 = .ok (.getfield 16, 3) := by decide +kernel
theorem dN_cut_86 : decode bN_cut 86 = .ok (.invokevirtual 81, 3) := by decide +kernel
theorem dN_cut_89 : decode bN_cut 89 = .ok (.return_, 1) := by decide +kernel
theorem dN_compare_0 : decode bN_compare 0 = .ok (.iload_n 2, 1) := by decide +kernel
theorem dN_compare_1 : decode bN_compare 1 = .ok (.invokestatic 20, 3) := by decide +kernel
theorem dN_compare_4 : decode bN_compare 4 = .ok (.iload_n 3, 1) := by decide +kernel
theorem dN_compare_5 : decode bN_compare 5 = .ok (.invokestatic 20, 3) := by decide +kernel
theorem dN_compare_8 : decode bN_compare 8 = .ok (.aload_n 0, 1) := by decide +kernel
theorem dN_compare_9 : decode bN_compare 9 = .ok (.getfield 11, 3) := by decide +kernel
theorem dN_compare_12 : decode bN_compare 12 = .ok (.iload_n 2, 1) := by decide +kernel
theorem dN_compare_13 : decode bN_compare 13 = .ok (.aaload, 1) := by decide +kernel
theorem dN_compare_14 : decode bN_compare 14 = .ok (.invokevirtual 124, 3) := by decide +kernel
theorem dN_compare_17 : decode bN_compare 17 = .ok (.ifCond .eq 15, 3) := by decide +kernel
theorem dN_compare_20 : decode bN_compare 20 = .ok (.aload_n 0, 1) := by decide +kernel
theorem dN_compare_21 : decode bN_compare 21 = .ok (.getfield 11, 3) := by decide +kernel
theorem dN_compare_24 : decode bN_compare 24 = .ok (.iload_n 3, 1) := by decide +kernel
theorem dN_compare_25 : decode bN_compare 25 = .ok (.aaload, 1) := by decide +kernel
theorem dN_compare_26 : decode bN_compare 26 = .ok (.invokevirtual 124, 3) := by decide +kernel
theorem dN_compare_29 : decode bN_compare 29 = .ok (.ifCond .ne 5, 3) := by decide +kernel
theorem dN_compare_32 : decode bN_compare 32 = .ok (.iconst 2, 1) := by decide +kernel
theorem dN_compare_33 : decode bN_compare 33 = .ok (.ireturn, 1) := by decide +kernel
theorem dN_compare_34 : decode bN_compare 34 = .ok (.aload_n 0, 1) := by decide +kernel
theorem dN_compare_35 : decode bN_compare 35 = .ok (.getfield 11, 3) := by decide +kernel
theorem dN_compare_38 : decode bN_compare 38 = .ok (.iload_n 2, 1) := by decide +kernel
theorem dN_compare_39 : decode bN_compare 39 = .ok (.aaload, 1) := by decide +kernel
theorem dN_compare_40 : decode bN_compare 40 = .ok (.iload_n 1, 1) := by decide +kernel
theorem dN_compare_41 : decode bN_compare 41 = .ok (.invokevirtual 60, 3) := by decide +kernel
theorem dN_compare_44 : decode bN_compare 44 = .ok (.lstore 4, 2) := by decide +kernel
theorem dN_compare_46 : decode bN_compare 46 = .ok (.aload_n 0, 1) := by decide +kernel
theorem dN_compare_47 : decode bN_compare 47 = .ok (.getfield 11, 3) := by decide +kernel
theorem dN_compare_50 : decode bN_compare 50 = .ok (.iload_n 3, 1) := by decide +kernel
theorem dN_compare_51 : decode bN_compare 51 = .ok (.aaload, 1) := by decide +kernel
theorem dN_compare_52 : decode bN_compare 52 = .ok (.iload_n 1, 1) := by decide +kernel
theorem dN_compare_53 : decode bN_compare 53 = .ok (.invokevirtual 60, 3) := by decide +kernel
theorem dN_compare_56 : decode bN_compare 56 = .ok (.lstore 6, 2) := by decide +kernel
theorem dN_compare_58 : decode bN_compare 58 = .ok (.lload 4, 2) := by decide +kernel
theorem dN_compare_60 : decode bN_compare 60 = .ok (.lload 6, 2) := by decide +kernel
theorem dN_compare_62 : decode bN_compare 62 = .ok (.lcmp, 1) := by decide +kernel
theorem dN_compare_63 : decode bN_compare 63 = .ok (.ifCond .ne 5, 3) := by decide +kernel
theorem dN_compare_66 : decode bN_compare 66 = .ok (.iconst 0, 1) := by decide +kernel
theorem dN_compare_67 : decode bN_compare 67 = .ok (.ireturn, 1) := by decide +kernel
theorem dN_compare_68 : decode bN_compare 68 = .ok (.iload_n 1, 1) := by decide +kernel
theorem dN_compare_69 : decode bN_compare 69 = .ok (.ifCond .eq 14, 3) := by decide +kernel
theorem dN_compare_72 : decode bN_compare 72 = .ok (.lload 4, 2) := by decide +kernel
theorem dN_compare_74 : decode bN_compare 74 = .ok (.lload 6, 2) := by decide +kernel
theorem dN_compare_76 : decode bN_compare 76 = .ok (.lcmp, 1) := by decide +kernel
theorem dN_compare_77 : decode bN_compare 77 = .ok (.ifCond .ge 20, 3) := by decide +kernel
theorem dN_compare_80 : decode bN_compare 80 = .ok (.goto 13, 3) := by decide +kernel
theorem dN_compare_83 : decode bN_compare 83 = .ok (.lload 4, 2) := by decide +kernel
theorem dN_compare_85 : decode bN_compare 85 = .ok (.lload 6, 2) := by decide +kernel
theorem dN_compare_87 : decode bN_compare 87 = .ok (.invokestatic 127, 3) := by decide +kernel
theorem dN_compare_90 : decode bN_compare 90 = .ok (.ifCond .eq 7, 3) := by decide +kernel
theorem dN_compare_93 : decode bN_compare 93 = .ok (.iconst (-1), 1) := by decide +kernel
theorem dN_compare_94 : decode bN_compare 94 = .ok (.goto 4, 3) := by decide +kernel
theorem dN_compare_97 : decode bN_compare 97 = .ok (.iconst 1, 1) := by decide +kernel
theorem dN_compare_98 : decode bN_compare 98 = .ok (.ireturn, 1) := by decide +kernel
theorem dN_same_0 : decode bN_same 0 = .ok (.iload_n 2, 1) := by decide +kernel
theorem dN_same_1 : decode bN_same 1 = .ok (.invokestatic 20, 3) := by decide +kernel
theorem dN_same_4 : decode bN_same 4 = .ok (.iload_n 3, 1) := by decide +kernel
theorem dN_same_5 : decode bN_same 5 = .ok (.invokestatic 20, 3) := by decide +kernel
theorem dN_same_8 : decode bN_same 8 = .ok (.aload_n 0, 1) := by decide +kernel
theorem dN_same_9 : decode bN_same 9 = .ok (.getfield 11, 3) := by decide +kernel
theorem dN_same_12 : decode bN_same 12 = .ok (.iload_n 2, 1) := by decide +kernel
theorem dN_same_13 : decode bN_same 13 = .ok (.aaload, 1) := by decide +kernel
theorem dN_same_14 : decode bN_same 14 = .ok (.astore 4, 2) := by decide +kernel
theorem dN_same_16 : decode bN_same 16 = .ok (.aload_n 0, 1) := by decide +kernel
theorem dN_same_17 : decode bN_same 17 = .ok (.getfield 11, 3) := by decide +kernel
theorem dN_same_20 : decode bN_same 20 = .ok (.iload_n 3, 1) := by decide +kernel
theorem dN_same_21 : decode bN_same 21 = .ok (.aaload, 1) := by decide +kernel
theorem dN_same_22 : decode bN_same 22 = .ok (.astore 5, 2) := by decide +kernel
theorem dN_same_24 : decode bN_same 24 = .ok (.aload 4, 2) := by decide +kernel
theorem dN_same_26 : decode bN_same 26 = .ok (.getfield 41, 3) := by decide +kernel
theorem dN_same_29 : decode bN_same 29 = .ok (.aload 5, 2) := by decide +kernel
theorem dN_same_31 : decode bN_same 31 = .ok (.getfield 41, 3) := by decide +kernel
theorem dN_same_34 : decode bN_same 34 = .ok (.if_icmp .eq 5, 3) := by decide +kernel
theorem dN_same_37 : decode bN_same 37 = .ok (.iconst 0, 1) := by decide +kernel
theorem dN_same_38 : decode bN_same 38 = .ok (.ireturn, 1) := by decide +kernel
theorem dN_same_39 : decode bN_same 39 = .ok (.iconst 0, 1) := by decide +kernel
theorem dN_same_40 : decode bN_same 40 = .ok (.istore 6, 2) := by decide +kernel
theorem dN_same_42 : decode bN_same 42 = .ok (.iload 6, 2) := by decide +kernel
theorem dN_same_44 : decode bN_same 44 = .ok (.aload 4, 2) := by decide +kernel
theorem dN_same_46 : decode bN_same 46 = .ok (.getfield 41, 3) := by decide +kernel
theorem dN_same_49 : decode bN_same 49 = .ok (.if_icmp .ge 55, 3) := by decide +kernel
theorem dN_same_52 : decode bN_same 52 = .ok (.aload 4, 2) := by decide +kernel
theorem dN_same_54 : decode bN_same 54 = .ok (.getfield 37, 3) := by decide +kernel
theorem dN_same_57 : decode bN_same 57 = .ok (.iload 6, 2) := by decide +kernel
theorem dN_same_59 : decode bN_same 59 = .ok (.iaload, 1) := by decide +kernel
theorem dN_same_60 : decode bN_same 60 = .ok (.istore 7, 2) := by decide +kernel
theorem dN_same_62 : decode bN_same 62 = .ok (.aload 5, 2) := by decide +kernel
theorem dN_same_64 : decode bN_same 64 = .ok (.getfield 37, 3) := by decide +kernel
theorem dN_same_67 : decode bN_same 67 = .ok (.iload 6, 2) := by decide +kernel
theorem dN_same_69 : decode bN_same 69 = .ok (.iaload, 1) := by decide +kernel
theorem dN_same_70 : decode bN_same 70 = .ok (.istore 8, 2) := by decide +kernel
theorem dN_same_72 : decode bN_same 72 = .ok (.iload_n 1, 1) := by decide +kernel
theorem dN_same_73 : decode bN_same 73 = .ok (.ifCond .eq 16, 3) := by decide +kernel
theorem dN_same_76 : decode bN_same 76 = .ok (.iload 7, 2) := by decide +kernel
theorem dN_same_78 : decode bN_same 78 = .ok (.iload 8, 2) := by decide +kernel
theorem dN_same_80 : decode bN_same 80 = .ok (.invokestatic 131, 3) := by decide +kernel
theorem dN_same_83 : decode bN_same 83 = .ok (.ifCond .ne 15, 3) := by decide +kernel
theorem dN_same_86 : decode bN_same 86 = .ok (.goto 10, 3) := by decide +kernel
theorem dN_same_89 : decode bN_same 89 = .ok (.iload 7, 2) := by decide +kernel
theorem dN_same_91 : decode bN_same 91 = .ok (.iload 8, 2) := by decide +kernel
theorem dN_same_93 : decode bN_same 93 = .ok (.if_icmp .eq 5, 3) := by decide +kernel
theorem dN_same_96 : decode bN_same 96 = .ok (.iconst 0, 1) := by decide +kernel
theorem dN_same_97 : decode bN_same 97 = .ok (.ireturn, 1) := by decide +kernel
theorem dN_same_98 : decode bN_same 98 = .ok (.iinc 6 1, 3) := by decide +kernel
theorem dN_same_101 : decode bN_same 101 = .ok (.goto (-59), 3) := by decide +kernel
theorem dN_same_104 : decode bN_same 104 = .ok (.iconst 1, 1) := by decide +kernel
theorem dN_same_105 : decode bN_same 105 = .ok (.ireturn, 1) := by decide +kernel
theorem dN_all_0 : decode bN_all 0 = .ok (.iload_n 2, 1) := by decide +kernel
theorem dN_all_1 : decode bN_all 1 = .ok (.invokestatic 20, 3) := by decide +kernel
theorem dN_all_4 : decode bN_all 4 = .ok (.iload_n 1, 1) := by decide +kernel
theorem dN_all_5 : decode bN_all 5 = .ok (.tableswitch 79 0 3 #[31, 43, 55, 67], 31) := by decide +kernel
theorem dN_all_36 : decode bN_all 36 = .ok (.aload_n 0, 1) := by decide +kernel
theorem dN_all_37 : decode bN_all 37 = .ok (.getfield 11, 3) := by decide +kernel
theorem dN_all_40 : decode bN_all 40 = .ok (.iload_n 2, 1) := by decide +kernel
theorem dN_all_41 : decode bN_all 41 = .ok (.aaload, 1) := by decide +kernel
theorem dN_all_42 : decode bN_all 42 = .ok (.iconst 1, 1) := by decide +kernel
theorem dN_all_43 : decode bN_all 43 = .ok (.iconst 3, 1) := by decide +kernel
theorem dN_all_44 : decode bN_all 44 = .ok (.invokevirtual 137, 3) := by decide +kernel
theorem dN_all_47 : decode bN_all 47 = .ok (.ireturn, 1) := by decide +kernel
theorem dN_all_48 : decode bN_all 48 = .ok (.aload_n 0, 1) := by decide +kernel
theorem dN_all_49 : decode bN_all 49 = .ok (.getfield 11, 3) := by decide +kernel
theorem dN_all_52 : decode bN_all 52 = .ok (.iload_n 2, 1) := by decide +kernel
theorem dN_all_53 : decode bN_all 53 = .ok (.aaload, 1) := by decide +kernel
theorem dN_all_54 : decode bN_all 54 = .ok (.iconst 2, 1) := by decide +kernel
theorem dN_all_55 : decode bN_all 55 = .ok (.iconst 2, 1) := by decide +kernel
theorem dN_all_56 : decode bN_all 56 = .ok (.invokevirtual 137, 3) := by decide +kernel
theorem dN_all_59 : decode bN_all 59 = .ok (.ireturn, 1) := by decide +kernel
theorem dN_all_60 : decode bN_all 60 = .ok (.aload_n 0, 1) := by decide +kernel
theorem dN_all_61 : decode bN_all 61 = .ok (.getfield 11, 3) := by decide +kernel
theorem dN_all_64 : decode bN_all 64 = .ok (.iload_n 2, 1) := by decide +kernel
theorem dN_all_65 : decode bN_all 65 = .ok (.aaload, 1) := by decide +kernel
theorem dN_all_66 : decode bN_all 66 = .ok (.iconst 3, 1) := by decide +kernel
theorem dN_all_67 : decode bN_all 67 = .ok (.iconst 2, 1) := by decide +kernel
theorem dN_all_68 : decode bN_all 68 = .ok (.invokevirtual 137, 3) := by decide +kernel
theorem dN_all_71 : decode bN_all 71 = .ok (.ireturn, 1) := by decide +kernel
theorem dN_all_72 : decode bN_all 72 = .ok (.aload_n 0, 1) := by decide +kernel
theorem dN_all_73 : decode bN_all 73 = .ok (.getfield 11, 3) := by decide +kernel
theorem dN_all_76 : decode bN_all 76 = .ok (.iload_n 2, 1) := by decide +kernel
theorem dN_all_77 : decode bN_all 77 = .ok (.aaload, 1) := by decide +kernel
theorem dN_all_78 : decode bN_all 78 = .ok (.iconst 0, 1) := by decide +kernel
theorem dN_all_79 : decode bN_all 79 = .ok (.iconst 4, 1) := by decide +kernel
theorem dN_all_80 : decode bN_all 80 = .ok (.invokevirtual 137, 3) := by decide +kernel
theorem dN_all_83 : decode bN_all 83 = .ok (.ireturn, 1) := by decide +kernel
theorem dN_all_84 : decode bN_all 84 = .ok (.new 64, 3) := by decide +kernel
theorem dN_all_87 : decode bN_all 87 = .ok (.dup, 1) := by decide +kernel
theorem dN_all_88 : decode bN_all 88 = .ok (.ldc 140, 2) := by decide +kernel
theorem dN_all_90 : decode bN_all 90 = .ok (.invokespecial 68, 3) := by decide +kernel
theorem dN_all_93 : decode bN_all 93 = .ok (.athrow, 1) := by decide +kernel
theorem dN_edge_0 : decode bN_edge 0 = .ok (.iload_n 1, 1) := by decide +kernel
theorem dN_edge_1 : decode bN_edge 1 = .ok (.invokestatic 27, 3) := by decide +kernel
theorem dN_edge_4 : decode bN_edge 4 = .ok (.iload_n 2, 1) := by decide +kernel
theorem dN_edge_5 : decode bN_edge 5 = .ok (.invokestatic 27, 3) := by decide +kernel
theorem dN_edge_8 : decode bN_edge 8 = .ok (.iload_n 1, 1) := by decide +kernel
theorem dN_edge_9 : decode bN_edge 9 = .ok (.invokestatic 142, 3) := by decide +kernel
theorem dN_edge_12 : decode bN_edge 12 = .ok (.ifCond .eq 12, 3) := by decide +kernel
theorem dN_edge_15 : decode bN_edge 15 = .ok (.iload_n 2, 1) := by decide +kernel
theorem dN_edge_16 : decode bN_edge 16 = .ok (.invokestatic 146, 3) := by decide +kernel
theorem dN_edge_19 : decode bN_edge 19 = .ok (.ifCond .eq 5, 3) := by decide +kernel
theorem dN_edge_22 : decode bN_edge 22 = .ok (.iconst 1, 1) := by decide +kernel
theorem dN_edge_23 : decode bN_edge 23 = .ok (.ireturn, 1) := by decide +kernel
theorem dN_edge_24 : decode bN_edge 24 = .ok (.iload_n 1, 1) := by decide +kernel
theorem dN_edge_25 : decode bN_edge 25 = .ok (.invokestatic 146, 3) := by decide +kernel
theorem dN_edge_28 : decode bN_edge 28 = .ok (.ifCond .eq 14, 3) := by decide +kernel
theorem dN_edge_31 : decode bN_edge 31 = .ok (.iload_n 2, 1) := by decide +kernel
theorem dN_edge_32 : decode bN_edge 32 = .ok (.invokestatic 142, 3) := by decide +kernel
theorem dN_edge_35 : decode bN_edge 35 = .ok (.ifCond .eq 7, 3) := by decide +kernel
theorem dN_edge_38 : decode bN_edge 38 = .ok (.iconst (-1), 1) := by decide +kernel
theorem dN_edge_39 : decode bN_edge 39 = .ok (.goto 4, 3) := by decide +kernel
theorem dN_edge_42 : decode bN_edge 42 = .ok (.iconst 0, 1) := by decide +kernel
theorem dN_edge_43 : decode bN_edge 43 = .ok (.ireturn, 1) := by decide +kernel
theorem dN_requirePlace_0 : decode bN_requirePlace 0 = .ok (.iload_n 0, 1) := by decide +kernel
theorem dN_requirePlace_1 : decode bN_requirePlace 1 = .ok (.ifCond .lt 9, 3) := by decide +kernel
theorem dN_requirePlace_4 : decode bN_requirePlace 4 = .ok (.iload_n 0, 1) := by decide +kernel
theorem dN_requirePlace_5 : decode bN_requirePlace 5 = .ok (.bipush 16, 2) := by decide +kernel
theorem dN_requirePlace_7 : decode bN_requirePlace 7 = .ok (.if_icmp .lt 13, 3) := by decide +kernel
theorem dN_requirePlace_10 : decode bN_requirePlace 10 = .ok (.new 119, 3) := by decide +kernel
theorem dN_requirePlace_13 : decode bN_requirePlace 13 = .ok (.dup, 1) := by decide +kernel
theorem dN_requirePlace_14 : decode bN_requirePlace 14 = .ok (.ldc 149, 2) := by decide +kernel
theorem dN_requirePlace_16 : decode bN_requirePlace 16 = .ok (.invokespecial 123, 3) := by decide +kernel
theorem dN_requirePlace_19 : decode bN_requirePlace 19 = .ok (.athrow, 1) := by decide +kernel
theorem dN_requirePlace_20 : decode bN_requirePlace 20 = .ok (.return_, 1) := by decide +kernel
theorem dN_requireElement_0 : decode bN_requireElement 0 = .ok (.iload_n 1, 1) := by decide +kernel
theorem dN_requireElement_1 : decode bN_requireElement 1 = .ok (.invokestatic 20, 3) := by decide +kernel
theorem dN_requireElement_4 : decode bN_requireElement 4 = .ok (.iload_n 2, 1) := by decide +kernel
theorem dN_requireElement_5 : decode bN_requireElement 5 = .ok (.ifCond .lt 16, 3) := by decide +kernel
theorem dN_requireElement_8 : decode bN_requireElement 8 = .ok (.iload_n 2, 1) := by decide +kernel
theorem dN_requireElement_9 : decode bN_requireElement 9 = .ok (.aload_n 0, 1) := by decide +kernel
theorem dN_requireElement_10 : decode bN_requireElement 10 = .ok (.getfield 11, 3) := by decide +kernel
theorem dN_requireElement_13 : decode bN_requireElement 13 = .ok (.iload_n 1, 1) := by decide +kernel
theorem dN_requireElement_14 : decode bN_requireElement 14 = .ok (.aaload, 1) := by decide +kernel
theorem dN_requireElement_15 : decode bN_requireElement 15 = .ok (.getfield 41, 3) := by decide +kernel
theorem dN_requireElement_18 : decode bN_requireElement 18 = .ok (.if_icmp .lt 13, 3) := by decide +kernel
theorem dN_requireElement_21 : decode bN_requireElement 21 = .ok (.new 119, 3) := by decide +kernel
theorem dN_requireElement_24 : decode bN_requireElement 24 = .ok (.dup, 1) := by decide +kernel
theorem dN_requireElement_25 : decode bN_requireElement 25 = .ok (.ldc 151, 2) := by decide +kernel
theorem dN_requireElement_27 : decode bN_requireElement 27 = .ok (.invokespecial 123, 3) := by decide +kernel
theorem dN_requireElement_30 : decode bN_requireElement 30 = .ok (.athrow, 1) := by decide +kernel
theorem dN_requireElement_31 : decode bN_requireElement 31 = .ok (.return_, 1) := by decide +kernel
theorem dN_requireLength_0 : decode bN_requireLength 0 = .ok (.iload_n 0, 1) := by decide +kernel
theorem dN_requireLength_1 : decode bN_requireLength 1 = .ok (.ifCond .lt 9, 3) := by decide +kernel
theorem dN_requireLength_4 : decode bN_requireLength 4 = .ok (.iload_n 0, 1) := by decide +kernel
theorem dN_requireLength_5 : decode bN_requireLength 5 = .ok (.bipush 64, 2) := by decide +kernel
theorem dN_requireLength_7 : decode bN_requireLength 7 = .ok (.if_icmp .le 13, 3) := by decide +kernel
theorem dN_requireLength_10 : decode bN_requireLength 10 = .ok (.new 64, 3) := by decide +kernel
theorem dN_requireLength_13 : decode bN_requireLength 13 = .ok (.dup, 1) := by decide +kernel
theorem dN_requireLength_14 : decode bN_requireLength 14 = .ok (.ldc 153, 2) := by decide +kernel
theorem dN_requireLength_16 : decode bN_requireLength 16 = .ok (.invokespecial 68, 3) := by decide +kernel
theorem dN_requireLength_19 : decode bN_requireLength 19 = .ok (.athrow, 1) := by decide +kernel
theorem dN_requireLength_20 : decode bN_requireLength 20 = .ok (.return_, 1) := by decide +kernel
theorem dN_requireValue_0 : decode bN_requireValue 0 = .ok (.iload_n 0, 1) := by decide +kernel
theorem dN_requireValue_1 : decode bN_requireValue 1 = .ok (.ifCond .lt 9, 3) := by decide +kernel
theorem dN_requireValue_4 : decode bN_requireValue 4 = .ok (.iload_n 0, 1) := by decide +kernel
theorem dN_requireValue_5 : decode bN_requireValue 5 = .ok (.bipush 8, 2) := by decide +kernel
theorem dN_requireValue_7 : decode bN_requireValue 7 = .ok (.if_icmp .le 13, 3) := by decide +kernel
theorem dN_requireValue_10 : decode bN_requireValue 10 = .ok (.new 64, 3) := by decide +kernel
theorem dN_requireValue_13 : decode bN_requireValue 13 = .ok (.dup, 1) := by decide +kernel
theorem dN_requireValue_14 : decode bN_requireValue 14 = .ok (.ldc 155, 2) := by decide +kernel
theorem dN_requireValue_16 : decode bN_requireValue 16 = .ok (.invokespecial 68, 3) := by decide +kernel
theorem dN_requireValue_19 : decode bN_requireValue 19 = .ok (.athrow, 1) := by decide +kernel
theorem dN_requireValue_20 : decode bN_requireValue 20 = .ok (.return_, 1) := by decide +kernel
theorem dN_joinElements_0 : decode bN_joinElements 0 = .ok (.aload_n 2, 1) := by decide +kernel
theorem dN_joinElements_1 : decode bN_joinElements 1 = .ok (.getfield 41, 3) := by decide +kernel
theorem dN_joinElements_4 : decode bN_joinElements 4 = .ok (.aload_n 3, 1) := by decide +kernel
theorem dN_joinElements_5 : decode bN_joinElements 5 = .ok (.getfield 41, 3) := by decide +kernel
theorem dN_joinElements_8 : decode bN_joinElements 8 = .ok (.if_icmp .eq 13, 3) := by decide +kernel
theorem dN_joinElements_11 : decode bN_joinElements 11 = .ok (.new 64, 3) := by decide +kernel
theorem dN_joinElements_14 : decode bN_joinElements 14 = .ok (.dup, 1) := by decide +kernel
theorem dN_joinElements_15 : decode bN_joinElements 15 = .ok (.ldc 157, 2) := by decide +kernel
theorem dN_joinElements_17 : decode bN_joinElements 17 = .ok (.invokespecial 68, 3) := by decide +kernel
theorem dN_joinElements_20 : decode bN_joinElements 20 = .ok (.athrow, 1) := by decide +kernel
theorem dN_joinElements_21 : decode bN_joinElements 21 = .ok (.aload_n 0, 1) := by decide +kernel
theorem dN_joinElements_22 : decode bN_joinElements 22 = .ok (.getfield 16, 3) := by decide +kernel
theorem dN_joinElements_25 : decode bN_joinElements 25 = .ok (.aload_n 2, 1) := by decide +kernel
theorem dN_joinElements_26 : decode bN_joinElements 26 = .ok (.getfield 41, 3) := by decide +kernel
theorem dN_joinElements_29 : decode bN_joinElements 29 = .ok (.putfield 41, 3) := by decide +kernel
theorem dN_joinElements_32 : decode bN_joinElements 32 = .ok (.iconst 0, 1) := by decide +kernel
theorem dN_joinElements_33 : decode bN_joinElements 33 = .ok (.istore 4, 2) := by decide +kernel
theorem dN_joinElements_35 : decode bN_joinElements 35 = .ok (.iload 4, 2) := by decide +kernel
theorem dN_joinElements_37 : decode bN_joinElements 37 = .ok (.aload_n 2, 1) := by decide +kernel
theorem dN_joinElements_38 : decode bN_joinElements 38 = .ok (.getfield 41, 3) := by decide +kernel
theorem dN_joinElements_41 : decode bN_joinElements 41 = .ok (.if_icmp .ge 37, 3) := by decide +kernel
theorem dN_joinElements_44 : decode bN_joinElements 44 = .ok (.aload_n 0, 1) := by decide +kernel
theorem dN_joinElements_45 : decode bN_joinElements 45 = .ok (.getfield 16, 3) := by decide +kernel
theorem dN_joinElements_48 : decode bN_joinElements 48 = .ok (.getfield 37, 3) := by decide +kernel
theorem dN_joinElements_51 : decode bN_joinElements 51 = .ok (.iload 4, 2) := by decide +kernel
theorem dN_joinElements_53 : decode bN_joinElements 53 = .ok (.iload_n 1, 1) := by decide +kernel
theorem dN_joinElements_54 : decode bN_joinElements 54 = .ok (.aload_n 2, 1) := by decide +kernel
theorem dN_joinElements_55 : decode bN_joinElements 55 = .ok (.getfield 37, 3) := by decide +kernel
theorem dN_joinElements_58 : decode bN_joinElements 58 = .ok (.iload 4, 2) := by decide +kernel
theorem dN_joinElements_60 : decode bN_joinElements 60 = .ok (.iaload, 1) := by decide +kernel
theorem dN_joinElements_61 : decode bN_joinElements 61 = .ok (.aload_n 3, 1) := by decide +kernel
theorem dN_joinElements_62 : decode bN_joinElements 62 = .ok (.getfield 37, 3) := by decide +kernel
theorem dN_joinElements_65 : decode bN_joinElements 65 = .ok (.iload 4, 2) := by decide +kernel
theorem dN_joinElements_67 : decode bN_joinElements 67 = .ok (.iaload, 1) := by decide +kernel
theorem dN_joinElements_68 : decode bN_joinElements 68 = .ok (.invokestatic 159, 3) := by decide +kernel
theorem dN_joinElements_71 : decode bN_joinElements 71 = .ok (.iastore, 1) := by decide +kernel
theorem dN_joinElements_72 : decode bN_joinElements 72 = .ok (.iinc 4 1, 3) := by decide +kernel
theorem dN_joinElements_75 : decode bN_joinElements 75 = .ok (.goto (-40), 3) := by decide +kernel
theorem dN_joinElements_78 : decode bN_joinElements 78 = .ok (.return_, 1) := by decide +kernel
theorem dN_setBehind_0 : decode bN_setBehind 0 = .ok (.aload_n 1, 1) := by decide +kernel
theorem dN_setBehind_1 : decode bN_setBehind 1 = .ok (.getfield 41, 3) := by decide +kernel
theorem dN_setBehind_4 : decode bN_setBehind 4 = .ok (.aload_n 2, 1) := by decide +kernel
theorem dN_setBehind_5 : decode bN_setBehind 5 = .ok (.getfield 41, 3) := by decide +kernel
theorem dN_setBehind_8 : decode bN_setBehind 8 = .ok (.iadd, 1) := by decide +kernel
theorem dN_setBehind_9 : decode bN_setBehind 9 = .ok (.invokestatic 24, 3) := by decide +kernel
theorem dN_setBehind_12 : decode bN_setBehind 12 = .ok (.aload_n 0, 1) := by decide +kernel
theorem dN_setBehind_13 : decode bN_setBehind 13 = .ok (.getfield 16, 3) := by decide +kernel
theorem dN_setBehind_16 : decode bN_setBehind 16 = .ok (.aload_n 1, 1) := by decide +kernel
theorem dN_setBehind_17 : decode bN_setBehind 17 = .ok (.getfield 41, 3) := by decide +kernel
theorem dN_setBehind_20 : decode bN_setBehind 20 = .ok (.aload_n 2, 1) := by decide +kernel
theorem dN_setBehind_21 : decode bN_setBehind 21 = .ok (.getfield 41, 3) := by decide +kernel
theorem dN_setBehind_24 : decode bN_setBehind 24 = .ok (.iadd, 1) := by decide +kernel
theorem dN_setBehind_25 : decode bN_setBehind 25 = .ok (.putfield 41, 3) := by decide +kernel
theorem dN_setBehind_28 : decode bN_setBehind 28 = .ok (.aload_n 0, 1) := by decide +kernel
theorem dN_setBehind_29 : decode bN_setBehind 29 = .ok (.getfield 16, 3) := by decide +kernel
theorem dN_setBehind_32 : decode bN_setBehind 32 = .ok (.aload_n 2, 1) := by decide +kernel
theorem dN_setBehind_33 : decode bN_setBehind 33 = .ok (.iconst 0, 1) := by decide +kernel
theorem dN_setBehind_34 : decode bN_setBehind 34 = .ok (.aload_n 2, 1) := by decide +kernel
theorem dN_setBehind_35 : decode bN_setBehind 35 = .ok (.getfield 41, 3) := by decide +kernel
theorem dN_setBehind_38 : decode bN_setBehind 38 = .ok (.iconst 0, 1) := by decide +kernel
theorem dN_setBehind_39 : decode bN_setBehind 39 = .ok (.invokevirtual 115, 3) := by decide +kernel
theorem dN_setBehind_42 : decode bN_setBehind 42 = .ok (.aload_n 0, 1) := by decide +kernel
theorem dN_setBehind_43 : decode bN_setBehind 43 = .ok (.getfield 16, 3) := by decide +kernel
theorem dN_setBehind_46 : decode bN_setBehind 46 = .ok (.aload_n 1, 1) := by decide +kernel
theorem dN_setBehind_47 : decode bN_setBehind 47 = .ok (.iconst 0, 1) := by decide +kernel
theorem dN_setBehind_48 : decode bN_setBehind 48 = .ok (.aload_n 1, 1) := by decide +kernel
theorem dN_setBehind_49 : decode bN_setBehind 49 = .ok (.getfield 41, 3) := by decide +kernel
theorem dN_setBehind_52 : decode bN_setBehind 52 = .ok (.aload_n 2, 1) := by decide +kernel
theorem dN_setBehind_53 : decode bN_setBehind 53 = .ok (.getfield 41, 3) := by decide +kernel
theorem dN_setBehind_56 : decode bN_setBehind 56 = .ok (.invokevirtual 115, 3) := by decide +kernel
theorem dN_setBehind_59 : decode bN_setBehind 59 = .ok (.return_, 1) := by decide +kernel
theorem dN_calculate_0 : decode bN_calculate 0 = .ok (.iload_n 1, 1) := by decide +kernel
theorem dN_calculate_1 : decode bN_calculate 1 = .ok (.aload_n 3, 1) := by decide +kernel
theorem dN_calculate_2 : decode bN_calculate 2 = .ok (.getfield 41, 3) := by decide +kernel
theorem dN_calculate_5 : decode bN_calculate 5 = .ok (.aload 4, 2) := by decide +kernel
theorem dN_calculate_7 : decode bN_calculate 7 = .ok (.getfield 41, 3) := by decide +kernel
theorem dN_calculate_10 : decode bN_calculate 10 = .ok (.invokestatic 163, 3) := by decide +kernel
theorem dN_calculate_13 : decode bN_calculate 13 = .ok (.istore 5, 2) := by decide +kernel
theorem dN_calculate_15 : decode bN_calculate 15 = .ok (.iload 5, 2) := by decide +kernel
theorem dN_calculate_17 : decode bN_calculate 17 = .ok (.invokestatic 24, 3) := by decide +kernel
theorem dN_calculate_20 : decode bN_calculate 20 = .ok (.aload_n 3, 1) := by decide +kernel
theorem dN_calculate_21 : decode bN_calculate 21 = .ok (.invokevirtual 124, 3) := by decide +kernel
theorem dN_calculate_24 : decode bN_calculate 24 = .ok (.ifCond .eq 11, 3) := by decide +kernel
theorem dN_calculate_27 : decode bN_calculate 27 = .ok (.aload 4, 2) := by decide +kernel
theorem dN_calculate_29 : decode bN_calculate 29 = .ok (.invokevirtual 124, 3) := by decide +kernel
theorem dN_calculate_32 : decode bN_calculate 32 = .ok (.ifCond .ne 33, 3) := by decide +kernel
theorem dN_calculate_35 : decode bN_calculate 35 = .ok (.aload_n 0, 1) := by decide +kernel
theorem dN_calculate_36 : decode bN_calculate 36 = .ok (.getfield 16, 3) := by decide +kernel
theorem dN_calculate_39 : decode bN_calculate 39 = .ok (.aload_n 3, 1) := by decide +kernel
theorem dN_calculate_40 : decode bN_calculate 40 = .ok (.getfield 41, 3) := by decide +kernel
theorem dN_calculate_43 : decode bN_calculate 43 = .ok (.ifCond .eq 11, 3) := by decide +kernel
theorem dN_calculate_46 : decode bN_calculate 46 = .ok (.aload 4, 2) := by decide +kernel
theorem dN_calculate_48 : decode bN_calculate 48 = .ok (.getfield 41, 3) := by decide +kernel
theorem dN_calculate_51 : decode bN_calculate 51 = .ok (.ifCond .ne 7, 3) := by decide +kernel
theorem dN_calculate_54 : decode bN_calculate 54 = .ok (.iconst 0, 1) := by decide +kernel
theorem dN_calculate_55 : decode bN_calculate 55 = .ok (.goto 5, 3) := by decide +kernel
theorem dN_calculate_58 : decode bN_calculate 58 = .ok (.iload 5, 2) := by decide +kernel
theorem dN_calculate_60 : decode bN_calculate 60 = .ok (.iconst 1, 1) := by decide +kernel
theorem dN_calculate_61 : decode bN_calculate 61 = .ok (.invokevirtual 30, 3) := by decide +kernel
theorem dN_calculate_64 : decode bN_calculate 64 = .ok (.return_, 1) := by decide +kernel
theorem dN_calculate_65 : decode bN_calculate 65 = .ok (.aload_n 3, 1) := by decide +kernel
theorem dN_calculate_66 : decode bN_calculate 66 = .ok (.iload_n 2, 1) := by decide +kernel
theorem dN_calculate_67 : decode bN_calculate 67 = .ok (.invokevirtual 60, 3) := by decide +kernel
theorem dN_calculate_70 : decode bN_calculate 70 = .ok (.lstore 6, 2) := by decide +kernel
theorem dN_calculate_72 : decode bN_calculate 72 = .ok (.aload 4, 2) := by decide +kernel
theorem dN_calculate_74 : decode bN_calculate 74 = .ok (.iload_n 2, 1) := by decide +kernel
theorem dN_calculate_75 : decode bN_calculate 75 = .ok (.invokevirtual 60, 3) := by decide +kernel
theorem dN_calculate_78 : decode bN_calculate 78 = .ok (.lstore 8, 2) := by decide +kernel
theorem dN_calculate_80 : decode bN_calculate 80 = .ok (.iload_n 1, 1) := by decide +kernel
theorem dN_calculate_81 : decode bN_calculate 81 = .ok (.bipush 10, 2) := by decide +kernel
theorem dN_calculate_83 : decode bN_calculate 83 = .ok (.if_icmp .ge 21, 3) := by decide +kernel
theorem dN_calculate_86 : decode bN_calculate 86 = .ok (.aload_n 0, 1) := by decide +kernel
theorem dN_calculate_87 : decode bN_calculate 87 = .ok (.getfield 16, 3) := by decide +kernel
theorem dN_calculate_90 : decode bN_calculate 90 = .ok (.iload 5, 2) := by decide +kernel
theorem dN_calculate_92 : decode bN_calculate 92 = .ok (.iload_n 1, 1) := by decide +kernel
theorem dN_calculate_93 : decode bN_calculate 93 = .ok (.lload 6, 2) := by decide +kernel
theorem dN_calculate_95 : decode bN_calculate 95 = .ok (.lload 8, 2) := by decide +kernel
theorem dN_calculate_97 : decode bN_calculate 97 = .ok (.invokestatic 166, 3) := by decide +kernel
theorem dN_calculate_100 : decode bN_calculate 100 = .ok (.invokevirtual 45, 3) := by decide +kernel
theorem dN_calculate_103 : decode bN_calculate 103 = .ok (.return_, 1) := by decide +kernel
theorem dN_calculate_104 : decode bN_calculate 104 = .ok (.lload 8, 2) := by decide +kernel
theorem dN_calculate_106 : decode bN_calculate 106 = .ok (.lconst 0, 1) := by decide +kernel
theorem dN_calculate_107 : decode bN_calculate 107 = .ok (.lcmp, 1) := by decide +kernel
theorem dN_calculate_108 : decode bN_calculate 108 = .ok (.ifCond .ne 13, 3) := by decide +kernel
theorem dN_calculate_111 : decode bN_calculate 111 = .ok (.new 170, 3) := by decide +kernel
theorem dN_calculate_114 : decode bN_calculate 114 = .ok (.dup, 1) := by decide +kernel
theorem dN_calculate_115 : decode bN_calculate 115 = .ok (.ldc 172, 2) := by decide +kernel
theorem dN_calculate_117 : decode bN_calculate 117 = .ok (.invokespecial 174, 3) := by decide +kernel
theorem dN_calculate_120 : decode bN_calculate 120 = .ok (.athrow, 1) := by decide +kernel
theorem dN_calculate_121 : decode bN_calculate 121 = .ok (.aload_n 0, 1) := by decide +kernel
theorem dN_calculate_122 : decode bN_calculate 122 = .ok (.getfield 16, 3) := by decide +kernel
theorem dN_calculate_125 : decode bN_calculate 125 = .ok (.iload 5, 2) := by decide +kernel
theorem dN_calculate_127 : decode bN_calculate 127 = .ok (.iload_n 2, 1) := by decide +kernel
theorem dN_calculate_128 : decode bN_calculate 128 = .ok (.ifCond .eq 14, 3) := by decide +kernel
theorem dN_calculate_131 : decode bN_calculate 131 = .ok (.iload_n 1, 1) := by decide +kernel
theorem dN_calculate_132 : decode bN_calculate 132 = .ok (.lload 6, 2) := by decide +kernel
theorem dN_calculate_134 : decode bN_calculate 134 = .ok (.lload 8, 2) := by decide +kernel
theorem dN_calculate_136 : decode bN_calculate 136 = .ok (.invokestatic 175, 3) := by decide +kernel
theorem dN_calculate_139 : decode bN_calculate 139 = .ok (.goto 11, 3) := by decide +kernel
theorem dN_calculate_142 : decode bN_calculate 142 = .ok (.iload_n 1, 1) := by decide +kernel
theorem dN_calculate_143 : decode bN_calculate 143 = .ok (.lload 6, 2) := by decide +kernel
theorem dN_calculate_145 : decode bN_calculate 145 = .ok (.lload 8, 2) := by decide +kernel
theorem dN_calculate_147 : decode bN_calculate 147 = .ok (.invokestatic 178, 3) := by decide +kernel
theorem dN_calculate_150 : decode bN_calculate 150 = .ok (.invokevirtual 45, 3) := by decide +kernel
theorem dN_calculate_153 : decode bN_calculate 153 = .ok (.return_, 1) := by decide +kernel
theorem dN_lengthOfResult_0 : decode bN_lengthOfResult 0 = .ok (.iload_n 0, 1) := by decide +kernel
theorem dN_lengthOfResult_1 : decode bN_lengthOfResult 1 = .ok (.tableswitch 43 7 10 #[31, 31, 37, 41], 31) := by decide +kernel
theorem dN_lengthOfResult_32 : decode bN_lengthOfResult 32 = .ok (.iload_n 1, 1) := by decide +kernel
theorem dN_lengthOfResult_33 : decode bN_lengthOfResult 33 = .ok (.iload_n 2, 1) := by decide +kernel
theorem dN_lengthOfResult_34 : decode bN_lengthOfResult 34 = .ok (.invokestatic 181, 3) := by decide +kernel
theorem dN_lengthOfResult_37 : decode bN_lengthOfResult 37 = .ok (.ireturn, 1) := by decide +kernel
theorem dN_lengthOfResult_38 : decode bN_lengthOfResult 38 = .ok (.iload_n 1, 1) := by decide +kernel
theorem dN_lengthOfResult_39 : decode bN_lengthOfResult 39 = .ok (.iload_n 2, 1) := by decide +kernel
theorem dN_lengthOfResult_40 : decode bN_lengthOfResult 40 = .ok (.iadd, 1) := by decide +kernel
theorem dN_lengthOfResult_41 : decode bN_lengthOfResult 41 = .ok (.ireturn, 1) := by decide +kernel
theorem dN_lengthOfResult_42 : decode bN_lengthOfResult 42 = .ok (.iload_n 1, 1) := by decide +kernel
theorem dN_lengthOfResult_43 : decode bN_lengthOfResult 43 = .ok (.ireturn, 1) := by decide +kernel
theorem dN_lengthOfResult_44 : decode bN_lengthOfResult 44 = .ok (.iload_n 2, 1) := by decide +kernel
theorem dN_lengthOfResult_45 : decode bN_lengthOfResult 45 = .ok (.ireturn, 1) := by decide +kernel
theorem dN_sumOrProduct_0 : decode bN_sumOrProduct 0 = .ok (.iload_n 0, 1) := by decide +kernel
theorem dN_sumOrProduct_1 : decode bN_sumOrProduct 1 = .ok (.lookupswitch 35 #[(7, 27), (8, 31)], 27) := by decide +kernel
theorem dN_sumOrProduct_28 : decode bN_sumOrProduct 28 = .ok (.lload_n 1, 1) := by decide +kernel
theorem dN_sumOrProduct_29 : decode bN_sumOrProduct 29 = .ok (.lload_n 3, 1) := by decide +kernel
theorem dN_sumOrProduct_30 : decode bN_sumOrProduct 30 = .ok (.ladd, 1) := by decide +kernel
theorem dN_sumOrProduct_31 : decode bN_sumOrProduct 31 = .ok (.lreturn, 1) := by decide +kernel
theorem dN_sumOrProduct_32 : decode bN_sumOrProduct 32 = .ok (.lload_n 1, 1) := by decide +kernel
theorem dN_sumOrProduct_33 : decode bN_sumOrProduct 33 = .ok (.lload_n 3, 1) := by decide +kernel
theorem dN_sumOrProduct_34 : decode bN_sumOrProduct 34 = .ok (.lsub, 1) := by decide +kernel
theorem dN_sumOrProduct_35 : decode bN_sumOrProduct 35 = .ok (.lreturn, 1) := by decide +kernel
theorem dN_sumOrProduct_36 : decode bN_sumOrProduct 36 = .ok (.lload_n 1, 1) := by decide +kernel
theorem dN_sumOrProduct_37 : decode bN_sumOrProduct 37 = .ok (.lload_n 3, 1) := by decide +kernel
theorem dN_sumOrProduct_38 : decode bN_sumOrProduct 38 = .ok (.lmul, 1) := by decide +kernel
theorem dN_sumOrProduct_39 : decode bN_sumOrProduct 39 = .ok (.lreturn, 1) := by decide +kernel
theorem dN_divideSigned_0 : decode bN_divideSigned 0 = .ok (.iload_n 0, 1) := by decide +kernel
theorem dN_divideSigned_1 : decode bN_divideSigned 1 = .ok (.lookupswitch 35 #[(10, 27), (11, 31)], 27) := by decide +kernel
theorem dN_divideSigned_28 : decode bN_divideSigned 28 = .ok (.lload_n 1, 1) := by decide +kernel
theorem dN_divideSigned_29 : decode bN_divideSigned 29 = .ok (.lload_n 3, 1) := by decide +kernel
theorem dN_divideSigned_30 : decode bN_divideSigned 30 = .ok (.ldiv, 1) := by decide +kernel
theorem dN_divideSigned_31 : decode bN_divideSigned 31 = .ok (.lreturn, 1) := by decide +kernel
theorem dN_divideSigned_32 : decode bN_divideSigned 32 = .ok (.lload_n 1, 1) := by decide +kernel
theorem dN_divideSigned_33 : decode bN_divideSigned 33 = .ok (.lload_n 3, 1) := by decide +kernel
theorem dN_divideSigned_34 : decode bN_divideSigned 34 = .ok (.lrem, 1) := by decide +kernel
theorem dN_divideSigned_35 : decode bN_divideSigned 35 = .ok (.lreturn, 1) := by decide +kernel
theorem dN_divideSigned_36 : decode bN_divideSigned 36 = .ok (.lload_n 1, 1) := by decide +kernel
theorem dN_divideSigned_37 : decode bN_divideSigned 37 = .ok (.lload_n 3, 1) := by decide +kernel
theorem dN_divideSigned_38 : decode bN_divideSigned 38 = .ok (.invokestatic 184, 3) := by decide +kernel
theorem dN_divideSigned_41 : decode bN_divideSigned 41 = .ok (.lreturn, 1) := by decide +kernel
theorem dN_divideUnsigned_0 : decode bN_divideUnsigned 0 = .ok (.lload_n 1, 1) := by decide +kernel
theorem dN_divideUnsigned_1 : decode bN_divideUnsigned 1 = .ok (.lload_n 3, 1) := by decide +kernel
theorem dN_divideUnsigned_2 : decode bN_divideUnsigned 2 = .ok (.invokestatic 188, 3) := by decide +kernel
theorem dN_divideUnsigned_5 : decode bN_divideUnsigned 5 = .ok (.lstore 5, 2) := by decide +kernel
theorem dN_divideUnsigned_7 : decode bN_divideUnsigned 7 = .ok (.iload_n 0, 1) := by decide +kernel
theorem dN_divideUnsigned_8 : decode bN_divideUnsigned 8 = .ok (.bipush 10, 2) := by decide +kernel
theorem dN_divideUnsigned_10 : decode bN_divideUnsigned 10 = .ok (.if_icmp .ne 8, 3) := by decide +kernel
theorem dN_divideUnsigned_13 : decode bN_divideUnsigned 13 = .ok (.lload 5, 2) := by decide +kernel
theorem dN_divideUnsigned_15 : decode bN_divideUnsigned 15 = .ok (.goto 9, 3) := by decide +kernel
theorem dN_divideUnsigned_18 : decode bN_divideUnsigned 18 = .ok (.lload_n 1, 1) := by decide +kernel
theorem dN_divideUnsigned_19 : decode bN_divideUnsigned 19 = .ok (.lload 5, 2) := by decide +kernel
theorem dN_divideUnsigned_21 : decode bN_divideUnsigned 21 = .ok (.lload_n 3, 1) := by decide +kernel
theorem dN_divideUnsigned_22 : decode bN_divideUnsigned 22 = .ok (.lmul, 1) := by decide +kernel
theorem dN_divideUnsigned_23 : decode bN_divideUnsigned 23 = .ok (.lsub, 1) := by decide +kernel
theorem dN_divideUnsigned_24 : decode bN_divideUnsigned 24 = .ok (.lreturn, 1) := by decide +kernel
theorem dN_quotientUnsigned_0 : decode bN_quotientUnsigned 0 = .ok (.lload_n 2, 1) := by decide +kernel
theorem dN_quotientUnsigned_1 : decode bN_quotientUnsigned 1 = .ok (.lconst 0, 1) := by decide +kernel
theorem dN_quotientUnsigned_2 : decode bN_quotientUnsigned 2 = .ok (.lcmp, 1) := by decide +kernel
theorem dN_quotientUnsigned_3 : decode bN_quotientUnsigned 3 = .ok (.ifCond .gt 17, 3) := by decide +kernel
theorem dN_quotientUnsigned_6 : decode bN_quotientUnsigned 6 = .ok (.lload_n 0, 1) := by decide +kernel
theorem dN_quotientUnsigned_7 : decode bN_quotientUnsigned 7 = .ok (.lload_n 2, 1) := by decide +kernel
theorem dN_quotientUnsigned_8 : decode bN_quotientUnsigned 8 = .ok (.invokestatic 127, 3) := by decide +kernel
theorem dN_quotientUnsigned_11 : decode bN_quotientUnsigned 11 = .ok (.ifCond .eq 7, 3) := by decide +kernel
theorem dN_quotientUnsigned_14 : decode bN_quotientUnsigned 14 = .ok (.lconst 0, 1) := by decide +kernel
theorem dN_quotientUnsigned_15 : decode bN_quotientUnsigned 15 = .ok (.goto 4, 3) := by decide +kernel
theorem dN_quotientUnsigned_18 : decode bN_quotientUnsigned 18 = .ok (.lconst 1, 1) := by decide +kernel
theorem dN_quotientUnsigned_19 : decode bN_quotientUnsigned 19 = .ok (.lreturn, 1) := by decide +kernel
theorem dN_quotientUnsigned_20 : decode bN_quotientUnsigned 20 = .ok (.lload_n 0, 1) := by decide +kernel
theorem dN_quotientUnsigned_21 : decode bN_quotientUnsigned 21 = .ok (.iconst 1, 1) := by decide +kernel
theorem dN_quotientUnsigned_22 : decode bN_quotientUnsigned 22 = .ok (.lushr, 1) := by decide +kernel
theorem dN_quotientUnsigned_23 : decode bN_quotientUnsigned 23 = .ok (.lload_n 2, 1) := by decide +kernel
theorem dN_quotientUnsigned_24 : decode bN_quotientUnsigned 24 = .ok (.ldiv, 1) := by decide +kernel
theorem dN_quotientUnsigned_25 : decode bN_quotientUnsigned 25 = .ok (.iconst 1, 1) := by decide +kernel
theorem dN_quotientUnsigned_26 : decode bN_quotientUnsigned 26 = .ok (.lshl, 1) := by decide +kernel
theorem dN_quotientUnsigned_27 : decode bN_quotientUnsigned 27 = .ok (.lstore 4, 2) := by decide +kernel
theorem dN_quotientUnsigned_29 : decode bN_quotientUnsigned 29 = .ok (.lload_n 0, 1) := by decide +kernel
theorem dN_quotientUnsigned_30 : decode bN_quotientUnsigned 30 = .ok (.lload 4, 2) := by decide +kernel
theorem dN_quotientUnsigned_32 : decode bN_quotientUnsigned 32 = .ok (.lload_n 2, 1) := by decide +kernel
theorem dN_quotientUnsigned_33 : decode bN_quotientUnsigned 33 = .ok (.lmul, 1) := by decide +kernel
theorem dN_quotientUnsigned_34 : decode bN_quotientUnsigned 34 = .ok (.lsub, 1) := by decide +kernel
theorem dN_quotientUnsigned_35 : decode bN_quotientUnsigned 35 = .ok (.lload_n 2, 1) := by decide +kernel
theorem dN_quotientUnsigned_36 : decode bN_quotientUnsigned 36 = .ok (.invokestatic 127, 3) := by decide +kernel
theorem dN_quotientUnsigned_39 : decode bN_quotientUnsigned 39 = .ok (.ifCond .eq 8, 3) := by decide +kernel
theorem dN_quotientUnsigned_42 : decode bN_quotientUnsigned 42 = .ok (.lload 4, 2) := by decide +kernel
theorem dN_quotientUnsigned_44 : decode bN_quotientUnsigned 44 = .ok (.goto 7, 3) := by decide +kernel
theorem dN_quotientUnsigned_47 : decode bN_quotientUnsigned 47 = .ok (.lload 4, 2) := by decide +kernel
theorem dN_quotientUnsigned_49 : decode bN_quotientUnsigned 49 = .ok (.lconst 1, 1) := by decide +kernel
theorem dN_quotientUnsigned_50 : decode bN_quotientUnsigned 50 = .ok (.ladd, 1) := by decide +kernel
theorem dN_quotientUnsigned_51 : decode bN_quotientUnsigned 51 = .ok (.lreturn, 1) := by decide +kernel
theorem dN_isBelowUnsigned_0 : decode bN_isBelowUnsigned 0 = .ok (.lload_n 0, 1) := by decide +kernel
theorem dN_isBelowUnsigned_1 : decode bN_isBelowUnsigned 1 = .ok (.ldc2_w 191, 3) := by decide +kernel
theorem dN_isBelowUnsigned_4 : decode bN_isBelowUnsigned 4 = .ok (.lxor, 1) := by decide +kernel
theorem dN_isBelowUnsigned_5 : decode bN_isBelowUnsigned 5 = .ok (.lload_n 2, 1) := by decide +kernel
theorem dN_isBelowUnsigned_6 : decode bN_isBelowUnsigned 6 = .ok (.ldc2_w 191, 3) := by decide +kernel
theorem dN_isBelowUnsigned_9 : decode bN_isBelowUnsigned 9 = .ok (.lxor, 1) := by decide +kernel
theorem dN_isBelowUnsigned_10 : decode bN_isBelowUnsigned 10 = .ok (.lcmp, 1) := by decide +kernel
theorem dN_isBelowUnsigned_11 : decode bN_isBelowUnsigned 11 = .ok (.ifCond .ge 7, 3) := by decide +kernel
theorem dN_isBelowUnsigned_14 : decode bN_isBelowUnsigned 14 = .ok (.iconst 1, 1) := by decide +kernel
theorem dN_isBelowUnsigned_15 : decode bN_isBelowUnsigned 15 = .ok (.goto 4, 3) := by decide +kernel
theorem dN_isBelowUnsigned_18 : decode bN_isBelowUnsigned 18 = .ok (.iconst 0, 1) := by decide +kernel
theorem dN_isBelowUnsigned_19 : decode bN_isBelowUnsigned 19 = .ok (.ireturn, 1) := by decide +kernel
theorem dN_changeElements_0 : decode bN_changeElements 0 = .ok (.aload_n 0, 1) := by decide +kernel
theorem dN_changeElements_1 : decode bN_changeElements 1 = .ok (.getfield 16, 3) := by decide +kernel
theorem dN_changeElements_4 : decode bN_changeElements 4 = .ok (.aload_n 2, 1) := by decide +kernel
theorem dN_changeElements_5 : decode bN_changeElements 5 = .ok (.getfield 41, 3) := by decide +kernel
theorem dN_changeElements_8 : decode bN_changeElements 8 = .ok (.putfield 41, 3) := by decide +kernel
theorem dN_changeElements_11 : decode bN_changeElements 11 = .ok (.iconst 0, 1) := by decide +kernel
theorem dN_changeElements_12 : decode bN_changeElements 12 = .ok (.istore_n 3, 1) := by decide +kernel
theorem dN_changeElements_13 : decode bN_changeElements 13 = .ok (.iload_n 3, 1) := by decide +kernel
theorem dN_changeElements_14 : decode bN_changeElements 14 = .ok (.aload_n 2, 1) := by decide +kernel
theorem dN_changeElements_15 : decode bN_changeElements 15 = .ok (.getfield 41, 3) := by decide +kernel
theorem dN_changeElements_18 : decode bN_changeElements 18 = .ok (.if_icmp .ge 45, 3) := by decide +kernel
theorem dN_changeElements_21 : decode bN_changeElements 21 = .ok (.aload_n 2, 1) := by decide +kernel
theorem dN_changeElements_22 : decode bN_changeElements 22 = .ok (.getfield 37, 3) := by decide +kernel
theorem dN_changeElements_25 : decode bN_changeElements 25 = .ok (.iload_n 3, 1) := by decide +kernel
theorem dN_changeElements_26 : decode bN_changeElements 26 = .ok (.iaload, 1) := by decide +kernel
theorem dN_changeElements_27 : decode bN_changeElements 27 = .ok (.istore 4, 2) := by decide +kernel
theorem dN_changeElements_29 : decode bN_changeElements 29 = .ok (.aload_n 0, 1) := by decide +kernel
theorem dN_changeElements_30 : decode bN_changeElements 30 = .ok (.getfield 16, 3) := by decide +kernel
theorem dN_changeElements_33 : decode bN_changeElements 33 = .ok (.getfield 37, 3) := by decide +kernel
theorem dN_changeElements_36 : decode bN_changeElements 36 = .ok (.iload_n 3, 1) := by decide +kernel
theorem dN_changeElements_37 : decode bN_changeElements 37 = .ok (.iload_n 1, 1) := by decide +kernel
theorem dN_changeElements_38 : decode bN_changeElements 38 = .ok (.iconst 4, 1) := by decide +kernel
theorem dN_changeElements_39 : decode bN_changeElements 39 = .ok (.if_icmp .ne 11, 3) := by decide +kernel
theorem dN_changeElements_42 : decode bN_changeElements 42 = .ok (.iload 4, 2) := by decide +kernel
theorem dN_changeElements_44 : decode bN_changeElements 44 = .ok (.invokestatic 193, 3) := by decide +kernel
theorem dN_changeElements_47 : decode bN_changeElements 47 = .ok (.goto 9, 3) := by decide +kernel
theorem dN_changeElements_50 : decode bN_changeElements 50 = .ok (.iload_n 1, 1) := by decide +kernel
theorem dN_changeElements_51 : decode bN_changeElements 51 = .ok (.iload 4, 2) := by decide +kernel
theorem dN_changeElements_53 : decode bN_changeElements 53 = .ok (.invokestatic 197, 3) := by decide +kernel
theorem dN_changeElements_56 : decode bN_changeElements 56 = .ok (.iastore, 1) := by decide +kernel
theorem dN_changeElements_57 : decode bN_changeElements 57 = .ok (.iinc 3 1, 3) := by decide +kernel
theorem dN_changeElements_60 : decode bN_changeElements 60 = .ok (.goto (-47), 3) := by decide +kernel
theorem dN_changeElements_63 : decode bN_changeElements 63 = .ok (.return_, 1) := by decide +kernel
theorem dN_changeNumber_0 : decode bN_changeNumber 0 = .ok (.aload_n 2, 1) := by decide +kernel
theorem dN_changeNumber_1 : decode bN_changeNumber 1 = .ok (.invokevirtual 49, 3) := by decide +kernel
theorem dN_changeNumber_4 : decode bN_changeNumber 4 = .ok (.ifCond .ne 16, 3) := by decide +kernel
theorem dN_changeNumber_7 : decode bN_changeNumber 7 = .ok (.aload_n 0, 1) := by decide +kernel
theorem dN_changeNumber_8 : decode bN_changeNumber 8 = .ok (.getfield 16, 3) := by decide +kernel
theorem dN_changeNumber_11 : decode bN_changeNumber 11 = .ok (.aload_n 2, 1) := by decide +kernel
theorem dN_changeNumber_12 : decode bN_changeNumber 12 = .ok (.getfield 41, 3) := by decide +kernel
theorem dN_changeNumber_15 : decode bN_changeNumber 15 = .ok (.iconst 1, 1) := by decide +kernel
theorem dN_changeNumber_16 : decode bN_changeNumber 16 = .ok (.invokevirtual 30, 3) := by decide +kernel
theorem dN_changeNumber_19 : decode bN_changeNumber 19 = .ok (.return_, 1) := by decide +kernel
theorem dN_changeNumber_20 : decode bN_changeNumber 20 = .ok (.aload_n 2, 1) := by decide +kernel
theorem dN_changeNumber_21 : decode bN_changeNumber 21 = .ok (.iconst 1, 1) := by decide +kernel
theorem dN_changeNumber_22 : decode bN_changeNumber 22 = .ok (.invokevirtual 60, 3) := by decide +kernel
theorem dN_changeNumber_25 : decode bN_changeNumber 25 = .ok (.lstore_n 3, 1) := by decide +kernel
theorem dN_changeNumber_26 : decode bN_changeNumber 26 = .ok (.aload_n 0, 1) := by decide +kernel
theorem dN_changeNumber_27 : decode bN_changeNumber 27 = .ok (.getfield 16, 3) := by decide +kernel
theorem dN_changeNumber_30 : decode bN_changeNumber 30 = .ok (.aload_n 2, 1) := by decide +kernel
theorem dN_changeNumber_31 : decode bN_changeNumber 31 = .ok (.getfield 41, 3) := by decide +kernel
theorem dN_changeNumber_34 : decode bN_changeNumber 34 = .ok (.iload_n 1, 1) := by decide +kernel
theorem dN_changeNumber_35 : decode bN_changeNumber 35 = .ok (.iconst 5, 1) := by decide +kernel
theorem dN_changeNumber_36 : decode bN_changeNumber 36 = .ok (.if_icmp .eq 9, 3) := by decide +kernel
theorem dN_changeNumber_39 : decode bN_changeNumber 39 = .ok (.lload_n 3, 1) := by decide +kernel
theorem dN_changeNumber_40 : decode bN_changeNumber 40 = .ok (.lconst 0, 1) := by decide +kernel
theorem dN_changeNumber_41 : decode bN_changeNumber 41 = .ok (.lcmp, 1) := by decide +kernel
theorem dN_changeNumber_42 : decode bN_changeNumber 42 = .ok (.ifCond .ge 8, 3) := by decide +kernel
theorem dN_changeNumber_45 : decode bN_changeNumber 45 = .ok (.lload_n 3, 1) := by decide +kernel
theorem dN_changeNumber_46 : decode bN_changeNumber 46 = .ok (.lneg, 1) := by decide +kernel
theorem dN_changeNumber_47 : decode bN_changeNumber 47 = .ok (.goto 4, 3) := by decide +kernel
theorem dN_changeNumber_50 : decode bN_changeNumber 50 = .ok (.lload_n 3, 1) := by decide +kernel
theorem dN_changeNumber_51 : decode bN_changeNumber 51 = .ok (.invokevirtual 45, 3) := by decide +kernel
theorem dN_changeNumber_54 : decode bN_changeNumber 54 = .ok (.return_, 1) := by decide +kernel
theorem dN_move_0 : decode bN_move 0 = .ok (.aload_n 0, 1) := by decide +kernel
theorem dN_move_1 : decode bN_move 1 = .ok (.getfield 16, 3) := by decide +kernel
theorem dN_move_4 : decode bN_move 4 = .ok (.aload_n 3, 1) := by decide +kernel
theorem dN_move_5 : decode bN_move 5 = .ok (.getfield 41, 3) := by decide +kernel
theorem dN_move_8 : decode bN_move 8 = .ok (.iload_n 2, 1) := by decide +kernel
theorem dN_move_9 : decode bN_move 9 = .ok (.invokevirtual 30, 3) := by decide +kernel
theorem dN_move_12 : decode bN_move 12 = .ok (.iconst 0, 1) := by decide +kernel
theorem dN_move_13 : decode bN_move 13 = .ok (.istore 4, 2) := by decide +kernel
theorem dN_move_15 : decode bN_move 15 = .ok (.iload 4, 2) := by decide +kernel
theorem dN_move_17 : decode bN_move 17 = .ok (.aload_n 3, 1) := by decide +kernel
theorem dN_move_18 : decode bN_move 18 = .ok (.getfield 41, 3) := by decide +kernel
theorem dN_move_21 : decode bN_move 21 = .ok (.if_icmp .ge 46, 3) := by decide +kernel
theorem dN_move_24 : decode bN_move 24 = .ok (.iload 4, 2) := by decide +kernel
theorem dN_move_26 : decode bN_move 26 = .ok (.iload_n 1, 1) := by decide +kernel
theorem dN_move_27 : decode bN_move 27 = .ok (.isub, 1) := by decide +kernel
theorem dN_move_28 : decode bN_move 28 = .ok (.istore 5, 2) := by decide +kernel
theorem dN_move_30 : decode bN_move 30 = .ok (.iload 5, 2) := by decide +kernel
theorem dN_move_32 : decode bN_move 32 = .ok (.ifCond .lt 29, 3) := by decide +kernel
theorem dN_move_35 : decode bN_move 35 = .ok (.iload 5, 2) := by decide +kernel
theorem dN_move_37 : decode bN_move 37 = .ok (.aload_n 3, 1) := by decide +kernel
theorem dN_move_38 : decode bN_move 38 = .ok (.getfield 41, 3) := by decide +kernel
theorem dN_move_41 : decode bN_move 41 = .ok (.if_icmp .ge 20, 3) := by decide +kernel
theorem dN_move_44 : decode bN_move 44 = .ok (.aload_n 0, 1) := by decide +kernel
theorem dN_move_45 : decode bN_move 45 = .ok (.getfield 16, 3) := by decide +kernel
theorem dN_move_48 : decode bN_move 48 = .ok (.getfield 37, 3) := by decide +kernel
theorem dN_move_51 : decode bN_move 51 = .ok (.iload 4, 2) := by decide +kernel
theorem dN_move_53 : decode bN_move 53 = .ok (.aload_n 3, 1) := by decide +kernel
theorem dN_move_54 : decode bN_move 54 = .ok (.getfield 37, 3) := by decide +kernel
theorem dN_move_57 : decode bN_move 57 = .ok (.iload 5, 2) := by decide +kernel
theorem dN_move_59 : decode bN_move 59 = .ok (.iaload, 1) := by decide +kernel
theorem dN_move_60 : decode bN_move 60 = .ok (.iastore, 1) := by decide +kernel
theorem dN_move_61 : decode bN_move 61 = .ok (.iinc 4 1, 3) := by decide +kernel
theorem dN_move_64 : decode bN_move 64 = .ok (.goto (-49), 3) := by decide +kernel
theorem dN_move_67 : decode bN_move 67 = .ok (.return_, 1) := by decide +kernel
theorem dN_turnRound_0 : decode bN_turnRound 0 = .ok (.aload_n 0, 1) := by decide +kernel
theorem dN_turnRound_1 : decode bN_turnRound 1 = .ok (.getfield 16, 3) := by decide +kernel
theorem dN_turnRound_4 : decode bN_turnRound 4 = .ok (.aload_n 2, 1) := by decide +kernel
theorem dN_turnRound_5 : decode bN_turnRound 5 = .ok (.getfield 41, 3) := by decide +kernel
theorem dN_turnRound_8 : decode bN_turnRound 8 = .ok (.putfield 41, 3) := by decide +kernel
theorem dN_turnRound_11 : decode bN_turnRound 11 = .ok (.iconst 0, 1) := by decide +kernel
theorem dN_turnRound_12 : decode bN_turnRound 12 = .ok (.istore_n 3, 1) := by decide +kernel
theorem dN_turnRound_13 : decode bN_turnRound 13 = .ok (.iload_n 3, 1) := by decide +kernel
theorem dN_turnRound_14 : decode bN_turnRound 14 = .ok (.aload_n 2, 1) := by decide +kernel
theorem dN_turnRound_15 : decode bN_turnRound 15 = .ok (.getfield 41, 3) := by decide +kernel
theorem dN_turnRound_18 : decode bN_turnRound 18 = .ok (.if_icmp .ge 33, 3) := by decide +kernel
theorem dN_turnRound_21 : decode bN_turnRound 21 = .ok (.aload_n 0, 1) := by decide +kernel
theorem dN_turnRound_22 : decode bN_turnRound 22 = .ok (.getfield 16, 3) := by decide +kernel
theorem dN_turnRound_25 : decode bN_turnRound 25 = .ok (.getfield 37, 3) := by decide +kernel
theorem dN_turnRound_28 : decode bN_turnRound 28 = .ok (.iload_n 3, 1) := by decide +kernel
theorem dN_turnRound_29 : decode bN_turnRound 29 = .ok (.aload_n 2, 1) := by decide +kernel
theorem dN_turnRound_30 : decode bN_turnRound 30 = .ok (.getfield 37, 3) := by decide +kernel
theorem dN_turnRound_33 : decode bN_turnRound 33 = .ok (.iload_n 3, 1) := by decide +kernel
theorem dN_turnRound_34 : decode bN_turnRound 34 = .ok (.iload_n 1, 1) := by decide +kernel
theorem dN_turnRound_35 : decode bN_turnRound 35 = .ok (.isub, 1) := by decide +kernel
theorem dN_turnRound_36 : decode bN_turnRound 36 = .ok (.aload_n 2, 1) := by decide +kernel
theorem dN_turnRound_37 : decode bN_turnRound 37 = .ok (.getfield 41, 3) := by decide +kernel
theorem dN_turnRound_40 : decode bN_turnRound 40 = .ok (.invokestatic 200, 3) := by decide +kernel
theorem dN_turnRound_43 : decode bN_turnRound 43 = .ok (.iaload, 1) := by decide +kernel
theorem dN_turnRound_44 : decode bN_turnRound 44 = .ok (.iastore, 1) := by decide +kernel
theorem dN_turnRound_45 : decode bN_turnRound 45 = .ok (.iinc 3 1, 3) := by decide +kernel
theorem dN_turnRound_48 : decode bN_turnRound 48 = .ok (.goto (-35), 3) := by decide +kernel
theorem dN_turnRound_51 : decode bN_turnRound 51 = .ok (.return_, 1) := by decide +kernel
end
