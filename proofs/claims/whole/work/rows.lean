section
/-- a private method of a class that the tables say can be made, by its rows of tables_1 -/
def lw_okq (q : MethodName × Nat) : Prop := (q.1.cls ≠ "java/lang/invoke/MethodHandle" ∧ q.1.cls ≠ "java/lang/invoke/VarHandle") ∧ Cond.instantiable q.1.cls q.2 ∈ tables_1 ∧ Cond.privateMethod q.1 ∈ tables_1 ∧ Cond.instanceMethod q.1 ∈ tables_1
theorem lw_p0 : lw_okq (⟨"java/lang/Throwable", "fillInStackTrace", "(I)Ljava/lang/Throwable;"⟩, 6) := ⟨⟨by decide +kernel, by decide +kernel⟩, List.mem_of_getElem? (i := 97) (by decide +kernel), List.mem_of_getElem? (i := 95) (by decide +kernel), List.mem_of_getElem? (i := 96) (by decide +kernel)⟩
theorem lw_p1 : lw_okq (⟨"NineValues", "requireElement", "(II)V"⟩, 2) := ⟨⟨by decide +kernel, by decide +kernel⟩, List.mem_of_getElem? (i := 14) (by decide +kernel), List.mem_of_getElem? (i := 161) (by decide +kernel), List.mem_of_getElem? (i := 162) (by decide +kernel)⟩
theorem lw_p2 : lw_okq (⟨"NineValues", "joinElements", "(ILNineValues$Word;LNineValues$Word;)V"⟩, 2) := ⟨⟨by decide +kernel, by decide +kernel⟩, List.mem_of_getElem? (i := 14) (by decide +kernel), List.mem_of_getElem? (i := 246) (by decide +kernel), List.mem_of_getElem? (i := 247) (by decide +kernel)⟩
theorem lw_p3 : lw_okq (⟨"NineValues", "setBehind", "(LNineValues$Word;LNineValues$Word;)V"⟩, 2) := ⟨⟨by decide +kernel, by decide +kernel⟩, List.mem_of_getElem? (i := 14) (by decide +kernel), List.mem_of_getElem? (i := 270) (by decide +kernel), List.mem_of_getElem? (i := 271) (by decide +kernel)⟩
theorem lw_p4 : lw_okq (⟨"NineValues", "calculate", "(IZLNineValues$Word;LNineValues$Word;)V"⟩, 2) := ⟨⟨by decide +kernel, by decide +kernel⟩, List.mem_of_getElem? (i := 14) (by decide +kernel), List.mem_of_getElem? (i := 278) (by decide +kernel), List.mem_of_getElem? (i := 279) (by decide +kernel)⟩
theorem lw_p5 : lw_okq (⟨"NineValues", "changeElements", "(ILNineValues$Word;)V"⟩, 2) := ⟨⟨by decide +kernel, by decide +kernel⟩, List.mem_of_getElem? (i := 14) (by decide +kernel), List.mem_of_getElem? (i := 341) (by decide +kernel), List.mem_of_getElem? (i := 342) (by decide +kernel)⟩
theorem lw_p6 : lw_okq (⟨"NineValues", "changeNumber", "(ILNineValues$Word;)V"⟩, 2) := ⟨⟨by decide +kernel, by decide +kernel⟩, List.mem_of_getElem? (i := 14) (by decide +kernel), List.mem_of_getElem? (i := 349) (by decide +kernel), List.mem_of_getElem? (i := 350) (by decide +kernel)⟩
theorem lw_p7 : lw_okq (⟨"NineValues", "turnRound", "(ILNineValues$Word;)V"⟩, 2) := ⟨⟨by decide +kernel, by decide +kernel⟩, List.mem_of_getElem? (i := 14) (by decide +kernel), List.mem_of_getElem? (i := 362) (by decide +kernel), List.mem_of_getElem? (i := 363) (by decide +kernel)⟩
theorem lw_p8 : lw_okq (⟨"NineValues", "move", "(IILNineValues$Word;)V"⟩, 2) := ⟨⟨by decide +kernel, by decide +kernel⟩, List.mem_of_getElem? (i := 14) (by decide +kernel), List.mem_of_getElem? (i := 370) (by decide +kernel), List.mem_of_getElem? (i := 371) (by decide +kernel)⟩
theorem lw_p9 : lw_okq (⟨"NineValuesModel", "keep", "(I)V"⟩, 5) := ⟨⟨by decide +kernel, by decide +kernel⟩, List.mem_of_getElem? (i := 431) (by decide +kernel), List.mem_of_getElem? (i := 464) (by decide +kernel), List.mem_of_getElem? (i := 465) (by decide +kernel)⟩
theorem lw_p10 : lw_okq (⟨"NineValuesModel", "cell", "(II)I"⟩, 5) := ⟨⟨by decide +kernel, by decide +kernel⟩, List.mem_of_getElem? (i := 431) (by decide +kernel), List.mem_of_getElem? (i := 476) (by decide +kernel), List.mem_of_getElem? (i := 477) (by decide +kernel)⟩
theorem lw_p11 : lw_okq (⟨"NineValuesModel", "bits", "(IJ)V"⟩, 5) := ⟨⟨by decide +kernel, by decide +kernel⟩, List.mem_of_getElem? (i := 431) (by decide +kernel), List.mem_of_getElem? (i := 488) (by decide +kernel), List.mem_of_getElem? (i := 489) (by decide +kernel)⟩
theorem lw_p12 : lw_okq (⟨"NineValuesModel", "clear", "(I)Z"⟩, 5) := ⟨⟨by decide +kernel, by decide +kernel⟩, List.mem_of_getElem? (i := 431) (by decide +kernel), List.mem_of_getElem? (i := 496) (by decide +kernel), List.mem_of_getElem? (i := 497) (by decide +kernel)⟩
theorem lw_p13 : lw_okq (⟨"NineValuesModel", "value", "(IZ)J"⟩, 5) := ⟨⟨by decide +kernel, by decide +kernel⟩, List.mem_of_getElem? (i := 431) (by decide +kernel), List.mem_of_getElem? (i := 509) (by decide +kernel), List.mem_of_getElem? (i := 510) (by decide +kernel)⟩
theorem lw_p14 : lw_okq (⟨"NineValuesModel", "numbers", "(IZIII)V"⟩, 5) := ⟨⟨by decide +kernel, by decide +kernel⟩, List.mem_of_getElem? (i := 431) (by decide +kernel), List.mem_of_getElem? (i := 536) (by decide +kernel), List.mem_of_getElem? (i := 537) (by decide +kernel)⟩
theorem lw_p15 : lw_okq (⟨"NineValuesModel", "divide", "(JJZ)J"⟩, 5) := ⟨⟨by decide +kernel, by decide +kernel⟩, List.mem_of_getElem? (i := 431) (by decide +kernel), List.mem_of_getElem? (i := 540) (by decide +kernel), List.mem_of_getElem? (i := 541) (by decide +kernel)⟩
def lw_privs_1 : List (MethodName × Nat) := [(⟨"java/lang/Throwable", "fillInStackTrace", "(I)Ljava/lang/Throwable;"⟩, 6), (⟨"NineValues", "requireElement", "(II)V"⟩, 2), (⟨"NineValues", "joinElements", "(ILNineValues$Word;LNineValues$Word;)V"⟩, 2), (⟨"NineValues", "setBehind", "(LNineValues$Word;LNineValues$Word;)V"⟩, 2), (⟨"NineValues", "calculate", "(IZLNineValues$Word;LNineValues$Word;)V"⟩, 2), (⟨"NineValues", "changeElements", "(ILNineValues$Word;)V"⟩, 2), (⟨"NineValues", "changeNumber", "(ILNineValues$Word;)V"⟩, 2), (⟨"NineValues", "turnRound", "(ILNineValues$Word;)V"⟩, 2), (⟨"NineValues", "move", "(IILNineValues$Word;)V"⟩, 2), (⟨"NineValuesModel", "keep", "(I)V"⟩, 5), (⟨"NineValuesModel", "cell", "(II)I"⟩, 5), (⟨"NineValuesModel", "bits", "(IJ)V"⟩, 5), (⟨"NineValuesModel", "clear", "(I)Z"⟩, 5), (⟨"NineValuesModel", "value", "(IZ)J"⟩, 5), (⟨"NineValuesModel", "numbers", "(IZIII)V"⟩, 5), (⟨"NineValuesModel", "divide", "(JJZ)J"⟩, 5)]
theorem lw_r1 : ∀ q ∈ lw_privs_1, lw_okq q := List.forall_mem_cons.mpr ⟨lw_p0, List.forall_mem_cons.mpr ⟨lw_p1, List.forall_mem_cons.mpr ⟨lw_p2, List.forall_mem_cons.mpr ⟨lw_p3, List.forall_mem_cons.mpr ⟨lw_p4, List.forall_mem_cons.mpr ⟨lw_p5, List.forall_mem_cons.mpr ⟨lw_p6, List.forall_mem_cons.mpr ⟨lw_p7, List.forall_mem_cons.mpr ⟨lw_p8, List.forall_mem_cons.mpr ⟨lw_p9, List.forall_mem_cons.mpr ⟨lw_p10, List.forall_mem_cons.mpr ⟨lw_p11, List.forall_mem_cons.mpr ⟨lw_p12, List.forall_mem_cons.mpr ⟨lw_p13, List.forall_mem_cons.mpr ⟨lw_p14, List.forall_mem_cons.mpr ⟨lw_p15, fun _ h => absurd h List.not_mem_nil⟩⟩⟩⟩⟩⟩⟩⟩⟩⟩⟩⟩⟩⟩⟩⟩
theorem lw_p16 : lw_okq (⟨"NineValuesModel", "bit", "(IIZ)I"⟩, 5) := ⟨⟨by decide +kernel, by decide +kernel⟩, List.mem_of_getElem? (i := 431) (by decide +kernel), List.mem_of_getElem? (i := 568) (by decide +kernel), List.mem_of_getElem? (i := 569) (by decide +kernel)⟩
def lw_privs_2 : List (MethodName × Nat) := [(⟨"NineValuesModel", "bit", "(IIZ)I"⟩, 5)]
theorem lw_r2 : ∀ q ∈ lw_privs_2, lw_okq q := List.forall_mem_cons.mpr ⟨lw_p16, fun _ h => absurd h List.not_mem_nil⟩
def lw_privs : List (MethodName × Nat) := lw_privs_1 ++ (lw_privs_2)
def lw_tbl : List Cond := k2_sels lw_privs ++ tables_1
theorem lw_privs_ok : ∀ q ∈ lw_privs, lw_okq q := by
  show ∀ q ∈ lw_privs_1 ++ (lw_privs_2), lw_okq q
  exact List.forall_mem_append.mpr ⟨lw_r1, lw_r2⟩
def RI : String := "NineValues$Wire"
abbrev bWire_isLow : ByteArray := prog_2_method_2_code
def yWire_isLow : MethodName := ⟨RI, "isLow", "(I)Z"⟩
abbrev bWire_isHigh : ByteArray := prog_2_method_3_code
def yWire_isHigh : MethodName := ⟨RI, "isHigh", "(I)Z"⟩
abbrev bWire_isClear : ByteArray := prog_2_method_4_code
def yWire_isClear : MethodName := ⟨RI, "isClear", "(I)Z"⟩
abbrev bWire_join : ByteArray := prog_2_method_5_code
def yWire_join : MethodName := ⟨RI, "join", "(III)I"⟩
abbrev bWire_drive : ByteArray := prog_2_method_6_code
def yWire_drive : MethodName := ⟨RI, "drive", "(II)I"⟩
abbrev bWire_and : ByteArray := prog_2_method_7_code
def yWire_and : MethodName := ⟨RI, "and", "(II)I"⟩
abbrev bWire_or : ByteArray := prog_2_method_8_code
def yWire_or : MethodName := ⟨RI, "or", "(II)I"⟩
abbrev bWire_xor : ByteArray := prog_2_method_9_code
def yWire_xor : MethodName := ⟨RI, "xor", "(II)I"⟩
abbrev bWire_not : ByteArray := prog_2_method_10_code
def yWire_not : MethodName := ⟨RI, "not", "(I)I"⟩
abbrev bWire_strip : ByteArray := prog_2_method_11_code
def yWire_strip : MethodName := ⟨RI, "strip", "(II)I"⟩
abbrev bWire_goTogether : ByteArray := prog_2_method_12_code
def yWire_goTogether : MethodName := ⟨RI, "goTogether", "(II)Z"⟩
def RW : String := "NineValues$Word"
abbrev bWord_init : ByteArray := prog_3_method_1_code
def yWord_init : MethodName := ⟨RW, "<init>", "()V"⟩
abbrev bWord_become : ByteArray := prog_3_method_2_code
def yWord_become : MethodName := ⟨RW, "become", "(II)V"⟩
abbrev bWord_hold : ByteArray := prog_3_method_3_code
def yWord_hold : MethodName := ⟨RW, "hold", "(IJ)V"⟩
abbrev bWord_copy : ByteArray := prog_3_method_4_code
def yWord_copy : MethodName := ⟨RW, "copy", "(LNineValues$Word;)V"⟩
abbrev bWord_lay : ByteArray := prog_3_method_5_code
def yWord_lay : MethodName := ⟨RW, "lay", "(LNineValues$Word;III)V"⟩
abbrev bWord_last : ByteArray := prog_3_method_6_code
def yWord_last : MethodName := ⟨RW, "last", "()I"⟩
abbrev bWord_isClear : ByteArray := prog_3_method_7_code
def yWord_isClear : MethodName := ⟨RW, "isClear", "()Z"⟩
abbrev bWord_counts : ByteArray := prog_3_method_8_code
def yWord_counts : MethodName := ⟨RW, "counts", "()Z"⟩
abbrev bWord_asLong : ByteArray := prog_3_method_9_code
def yWord_asLong : MethodName := ⟨RW, "asLong", "(Z)J"⟩
abbrev bWord_joined : ByteArray := prog_3_method_10_code
def yWord_joined : MethodName := ⟨RW, "joined", "(II)I"⟩
def RN : String := "NineValues"
abbrev bN_init : ByteArray := prog_1_method_1_code
def yN_init : MethodName := ⟨RN, "<init>", "()V"⟩
abbrev bN_fill : ByteArray := prog_1_method_2_code
def yN_fill : MethodName := ⟨RN, "fill", "(III)V"⟩
abbrev bN_put : ByteArray := prog_1_method_3_code
def yN_put : MethodName := ⟨RN, "put", "(III)V"⟩
abbrev bN_get : ByteArray := prog_1_method_4_code
def yN_get : MethodName := ⟨RN, "get", "(II)I"⟩
abbrev bN_length : ByteArray := prog_1_method_5_code
def yN_length : MethodName := ⟨RN, "length", "(I)I"⟩
abbrev bN_number : ByteArray := prog_1_method_6_code
def yN_number : MethodName := ⟨RN, "number", "(IIJ)V"⟩
abbrev bN_numberOf : ByteArray := prog_1_method_7_code
def yN_numberOf : MethodName := ⟨RN, "numberOf", "(IZ)J"⟩
abbrev bN_operate : ByteArray := prog_1_method_8_code
def yN_operate : MethodName := ⟨RN, "operate", "(IZIII)V"⟩
abbrev bN_change : ByteArray := prog_1_method_9_code
def yN_change : MethodName := ⟨RN, "change", "(III)V"⟩
abbrev bN_shift : ByteArray := prog_1_method_10_code
def yN_shift : MethodName := ⟨RN, "shift", "(IIIII)V"⟩
abbrev bN_bring : ByteArray := prog_1_method_11_code
def yN_bring : MethodName := ⟨RN, "bring", "(ZIII)V"⟩
abbrev bN_cut : ByteArray := prog_1_method_12_code
def yN_cut : MethodName := ⟨RN, "cut", "(IIII)V"⟩
abbrev bN_compare : ByteArray := prog_1_method_13_code
def yN_compare : MethodName := ⟨RN, "compare", "(ZII)I"⟩
abbrev bN_same : ByteArray := prog_1_method_14_code
def yN_same : MethodName := ⟨RN, "same", "(ZII)Z"⟩
abbrev bN_all : ByteArray := prog_1_method_15_code
def yN_all : MethodName := ⟨RN, "all", "(II)I"⟩
abbrev bN_edge : ByteArray := prog_1_method_16_code
def yN_edge : MethodName := ⟨RN, "edge", "(II)I"⟩
abbrev bN_requirePlace : ByteArray := prog_1_method_17_code
def yN_requirePlace : MethodName := ⟨RN, "requirePlace", "(I)V"⟩
abbrev bN_requireElement : ByteArray := prog_1_method_18_code
def yN_requireElement : MethodName := ⟨RN, "requireElement", "(II)V"⟩
abbrev bN_requireLength : ByteArray := prog_1_method_19_code
def yN_requireLength : MethodName := ⟨RN, "requireLength", "(I)V"⟩
abbrev bN_requireValue : ByteArray := prog_1_method_20_code
def yN_requireValue : MethodName := ⟨RN, "requireValue", "(I)V"⟩
abbrev bN_joinElements : ByteArray := prog_1_method_21_code
def yN_joinElements : MethodName := ⟨RN, "joinElements", "(ILNineValues$Word;LNineValues$Word;)V"⟩
abbrev bN_setBehind : ByteArray := prog_1_method_22_code
def yN_setBehind : MethodName := ⟨RN, "setBehind", "(LNineValues$Word;LNineValues$Word;)V"⟩
abbrev bN_calculate : ByteArray := prog_1_method_23_code
def yN_calculate : MethodName := ⟨RN, "calculate", "(IZLNineValues$Word;LNineValues$Word;)V"⟩
abbrev bN_lengthOfResult : ByteArray := prog_1_method_24_code
def yN_lengthOfResult : MethodName := ⟨RN, "lengthOfResult", "(III)I"⟩
abbrev bN_sumOrProduct : ByteArray := prog_1_method_25_code
def yN_sumOrProduct : MethodName := ⟨RN, "sumOrProduct", "(IJJ)J"⟩
abbrev bN_divideSigned : ByteArray := prog_1_method_26_code
def yN_divideSigned : MethodName := ⟨RN, "divideSigned", "(IJJ)J"⟩
abbrev bN_divideUnsigned : ByteArray := prog_1_method_27_code
def yN_divideUnsigned : MethodName := ⟨RN, "divideUnsigned", "(IJJ)J"⟩
abbrev bN_quotientUnsigned : ByteArray := prog_1_method_28_code
def yN_quotientUnsigned : MethodName := ⟨RN, "quotientUnsigned", "(JJ)J"⟩
abbrev bN_isBelowUnsigned : ByteArray := prog_1_method_29_code
def yN_isBelowUnsigned : MethodName := ⟨RN, "isBelowUnsigned", "(JJ)Z"⟩
abbrev bN_changeElements : ByteArray := prog_1_method_30_code
def yN_changeElements : MethodName := ⟨RN, "changeElements", "(ILNineValues$Word;)V"⟩
abbrev bN_changeNumber : ByteArray := prog_1_method_31_code
def yN_changeNumber : MethodName := ⟨RN, "changeNumber", "(ILNineValues$Word;)V"⟩
abbrev bN_move : ByteArray := prog_1_method_32_code
def yN_move : MethodName := ⟨RN, "move", "(IILNineValues$Word;)V"⟩
abbrev bN_turnRound : ByteArray := prog_1_method_33_code
def yN_turnRound : MethodName := ⟨RN, "turnRound", "(ILNineValues$Word;)V"⟩
def RM : String := "NineValuesModel"
abbrev bMo_init : ByteArray := prog_5_method_1_code
def yMo_init : MethodName := ⟨RM, "<init>", "()V"⟩
abbrev bMo_thrown : ByteArray := prog_5_method_2_code
def yMo_thrown : MethodName := ⟨RM, "thrown", "()I"⟩
abbrev bMo_none : ByteArray := prog_5_method_3_code
def yMo_none : MethodName := ⟨RM, "none", "(I)Z"⟩
abbrev bMo_isLow : ByteArray := prog_5_method_4_code
def yMo_isLow : MethodName := ⟨RM, "isLow", "(I)Z"⟩
abbrev bMo_isHigh : ByteArray := prog_5_method_5_code
def yMo_isHigh : MethodName := ⟨RM, "isHigh", "(I)Z"⟩
abbrev bMo_isClear : ByteArray := prog_5_method_6_code
def yMo_isClear : MethodName := ⟨RM, "isClear", "(I)Z"⟩
abbrev bMo_cell : ByteArray := prog_5_method_7_code
def yMo_cell : MethodName := ⟨RM, "cell", "(II)I"⟩
abbrev bMo_keep : ByteArray := prog_5_method_8_code
def yMo_keep : MethodName := ⟨RM, "keep", "(I)V"⟩
abbrev bMo_fill : ByteArray := prog_5_method_9_code
def yMo_fill : MethodName := ⟨RM, "fill", "(III)V"⟩
abbrev bMo_put : ByteArray := prog_5_method_10_code
def yMo_put : MethodName := ⟨RM, "put", "(III)V"⟩
abbrev bMo_get : ByteArray := prog_5_method_11_code
def yMo_get : MethodName := ⟨RM, "get", "(II)I"⟩
abbrev bMo_length : ByteArray := prog_5_method_12_code
def yMo_length : MethodName := ⟨RM, "length", "(I)I"⟩
abbrev bMo_bits : ByteArray := prog_5_method_13_code
def yMo_bits : MethodName := ⟨RM, "bits", "(IJ)V"⟩
abbrev bMo_number : ByteArray := prog_5_method_14_code
def yMo_number : MethodName := ⟨RM, "number", "(IIJ)V"⟩
abbrev bMo_clear : ByteArray := prog_5_method_15_code
def yMo_clear : MethodName := ⟨RM, "clear", "(I)Z"⟩
abbrev bMo_value : ByteArray := prog_5_method_16_code
def yMo_value : MethodName := ⟨RM, "value", "(IZ)J"⟩
abbrev bMo_numberOf : ByteArray := prog_5_method_17_code
def yMo_numberOf : MethodName := ⟨RM, "numberOf", "(IZ)J"⟩
abbrev bMo_together : ByteArray := prog_5_method_18_code
def yMo_together : MethodName := ⟨RM, "together", "(II)I"⟩
abbrev bMo_and : ByteArray := prog_5_method_19_code
def yMo_and : MethodName := ⟨RM, "and", "(II)I"⟩
abbrev bMo_or : ByteArray := prog_5_method_20_code
def yMo_or : MethodName := ⟨RM, "or", "(II)I"⟩
abbrev bMo_xor : ByteArray := prog_5_method_21_code
def yMo_xor : MethodName := ⟨RM, "xor", "(II)I"⟩
abbrev bMo_not : ByteArray := prog_5_method_22_code
def yMo_not : MethodName := ⟨RM, "not", "(I)I"⟩
abbrev bMo_strip : ByteArray := prog_5_method_23_code
def yMo_strip : MethodName := ⟨RM, "strip", "(II)I"⟩
abbrev bMo_byTable : ByteArray := prog_5_method_24_code
def yMo_byTable : MethodName := ⟨RM, "byTable", "(III)I"⟩
abbrev bMo_divide : ByteArray := prog_5_method_25_code
def yMo_divide : MethodName := ⟨RM, "divide", "(JJZ)J"⟩
abbrev bMo_numbers : ByteArray := prog_5_method_26_code
def yMo_numbers : MethodName := ⟨RM, "numbers", "(IZIII)V"⟩
abbrev bMo_operate : ByteArray := prog_5_method_27_code
def yMo_operate : MethodName := ⟨RM, "operate", "(IZIII)V"⟩
abbrev bMo_change : ByteArray := prog_5_method_28_code
def yMo_change : MethodName := ⟨RM, "change", "(III)V"⟩
abbrev bMo_shift : ByteArray := prog_5_method_29_code
def yMo_shift : MethodName := ⟨RM, "shift", "(IIIII)V"⟩
abbrev bMo_bring : ByteArray := prog_5_method_30_code
def yMo_bring : MethodName := ⟨RM, "bring", "(ZIII)V"⟩
abbrev bMo_cut : ByteArray := prog_5_method_31_code
def yMo_cut : MethodName := ⟨RM, "cut", "(IIII)V"⟩
abbrev bMo_bit : ByteArray := prog_5_method_32_code
def yMo_bit : MethodName := ⟨RM, "bit", "(IIZ)I"⟩
abbrev bMo_compare : ByteArray := prog_5_method_33_code
def yMo_compare : MethodName := ⟨RM, "compare", "(ZII)I"⟩
abbrev bMo_goes : ByteArray := prog_5_method_34_code
def yMo_goes : MethodName := ⟨RM, "goes", "(II)Z"⟩
abbrev bMo_same : ByteArray := prog_5_method_35_code
def yMo_same : MethodName := ⟨RM, "same", "(ZII)Z"⟩
abbrev bMo_all : ByteArray := prog_5_method_36_code
def yMo_all : MethodName := ⟨RM, "all", "(II)I"⟩
abbrev bMo_edge : ByteArray := prog_5_method_37_code
def yMo_edge : MethodName := ⟨RM, "edge", "(II)I"⟩
def RL : String := "NineValuesLaw"
abbrev bL_fill : ByteArray := method_3_code
def yL_fill : MethodName := ⟨RL, "fill", "(LNineValues;III)I"⟩
abbrev bL_put : ByteArray := method_4_code
def yL_put : MethodName := ⟨RL, "put", "(LNineValues;III)I"⟩
abbrev bL_get : ByteArray := method_5_code
def yL_get : MethodName := ⟨RL, "get", "(LNineValues;II[J)I"⟩
abbrev bL_length : ByteArray := method_6_code
def yL_length : MethodName := ⟨RL, "length", "(LNineValues;I[J)I"⟩
abbrev bL_number : ByteArray := method_7_code
def yL_number : MethodName := ⟨RL, "number", "(LNineValues;IIJ)I"⟩
abbrev bL_numberOf : ByteArray := method_8_code
def yL_numberOf : MethodName := ⟨RL, "numberOf", "(LNineValues;IZ[J)I"⟩
abbrev bL_operate : ByteArray := method_9_code
def yL_operate : MethodName := ⟨RL, "operate", "(LNineValues;IZIII)I"⟩
abbrev bL_change : ByteArray := method_10_code
def yL_change : MethodName := ⟨RL, "change", "(LNineValues;III)I"⟩
abbrev bL_shift : ByteArray := method_11_code
def yL_shift : MethodName := ⟨RL, "shift", "(LNineValues;IIIII)I"⟩
abbrev bL_bring : ByteArray := method_12_code
def yL_bring : MethodName := ⟨RL, "bring", "(LNineValues;ZIII)I"⟩
abbrev bL_cut : ByteArray := method_13_code
def yL_cut : MethodName := ⟨RL, "cut", "(LNineValues;IIII)I"⟩
abbrev bL_compare : ByteArray := method_14_code
def yL_compare : MethodName := ⟨RL, "compare", "(LNineValues;ZII[J)I"⟩
abbrev bL_same : ByteArray := method_15_code
def yL_same : MethodName := ⟨RL, "same", "(LNineValues;ZII[J)I"⟩
abbrev bL_all : ByteArray := method_16_code
def yL_all : MethodName := ⟨RL, "all", "(LNineValues;II[J)I"⟩
abbrev bL_edge : ByteArray := method_17_code
def yL_edge : MethodName := ⟨RL, "edge", "(LNineValues;II[J)I"⟩
abbrev bL_law : ByteArray := code
def yL_law : MethodName := ⟨RL, "law", "([I)Z"⟩
def FW : u_T := fun k => match k with
  | 0 => ("NineValues$Word", "size", "I", false)
  | _ => ("NineValues$Word", "elements", "[I", true)
def tyW : Nat → FieldType := fun k => match k with
  | 0 => .int
  | _ => .array .int
def FN : u_T := fun k => match k with
  | 0 => ("NineValues", "places", "[LNineValues$Word;", true)
  | _ => ("NineValues", "answer", "LNineValues$Word;", true)
def tyN : Nat → FieldType := fun k => match k with
  | 0 => .array (.object "NineValues$Word")
  | _ => .object "NineValues$Word"
def FM : u_T := fun k => match k with
  | 0 => ("NineValuesModel", "code", "I", false)
  | 1 => ("NineValuesModel", "cells", "[I", true)
  | 2 => ("NineValuesModel", "lengths", "[I", true)
  | 3 => ("NineValuesModel", "out", "[I", true)
  | _ => ("NineValuesModel", "count", "I", false)
def tyM : Nat → FieldType := fun k => match k with
  | 0 => .int
  | 1 => .array .int
  | 2 => .array .int
  | 3 => .array .int
  | _ => .int
theorem nmW : ∀ a, a < 2 → ∀ b, b < 2 → a ≠ b → (FW a).2.1 ≠ (FW b).2.1 := by decide +kernel
theorem tyW_ok : ∀ k, k < 2 → parseFieldDescriptor (FW k).2.2.1 = some (tyW k) := by decide +kernel
theorem nmN : ∀ a, a < 2 → ∀ b, b < 2 → a ≠ b → (FN a).2.1 ≠ (FN b).2.1 := by decide +kernel
theorem tyN_ok : ∀ k, k < 2 → parseFieldDescriptor (FN k).2.2.1 = some (tyN k) := by decide +kernel
theorem nmM : ∀ a, a < 5 → ∀ b, b < 5 → a ≠ b → (FM a).2.1 ≠ (FM b).2.1 := by decide +kernel
theorem tyM_ok : ∀ k, k < 5 → parseFieldDescriptor (FM k).2.2.1 = some (tyM k) := by decide +kernel
abbrev vwCl : List vw_C := [(RW, FW, 2), (RN, FN, 2), (RM, FM, 5)]
abbrev ciW : Nat := 0
abbrev ciN : Nat := 1
abbrev ciM : Nat := 2
abbrev nmHost : String := "NineValues"
abbrev bJ_floorMod : ByteArray := prog_11_method_50_code
def yJ_floorMod : MethodName := ⟨"java/lang/Math", "floorMod", "(II)I"⟩
abbrev bJ_floorModL : ByteArray := prog_11_method_52_code
def yJ_floorModL : MethodName := ⟨"java/lang/Math", "floorMod", "(JJ)J"⟩
end
section
/-! ===== what a method of ours leaves behind when it may throw; calls of such methods; catching; throwing ===== -/
section NyA
/-- what has moved since the method's start, however it ended -/
def ny_End (st t : State) (L : List Loc) (k n : Nat) : Prop := st.WarmedH t.vm ∧ st.sameButNew ({ t with vm := st.vm } : State) L k n
/-- its cells and slots: where it returns, k0 and n0 at most; where it throws, k1 and n1 -/
def ny_mk (k0 k1 : Nat) : Outcome → Nat
  | .returned _ => k0
  | .threw _ => k1
/-- a contract of a method that returns or throws: Qc speaks of either outcome -/
def ny_Met (l : Launch) (y : MethodName) (ws : List Cond) (rm : Room) (Pc : Array Value → State → Prop) (Qc : Array Value → State → Outcome → State → Prop) (k0 n0 k1 n1 : Nat) (free : Addr → Prop) : Prop :=
  MetFree l y (headSpec ws rm) Pc (fun _ _ _ _ _ => True) (fun a st o t => Qc a st o t ∧ ∃ L, ny_End st t L (ny_mk k0 k1 o) (ny_mk n0 n1 o) ∧ ∀ q ∈ L, free q.base)
/-- the caller's frame behind the callee's end: the answer on its stack, or the thrown object over it -/
def ny_on (U : State) (g : JFrame) (len : Nat) : Outcome → State
  | .returned v => U.setTop { g with pc := g.pc + len, stack := v.toList ++ g.stack }
  | .threw q => (U.setTop g).pushFrame (.throwing q)
section NyB
variable {l : Launch} {R : Room} {p : Program} {e : Env} {below : List Frame} {s : State} {sargs : Array Value} {y : MethodName} {len W9 : Nat}
theorem ny_back {ws : List Cond} {rm : Room} {Pc : Array Value → State → Prop} {Qc : Array Value → State → Outcome → State → Prop} {k0 n0 mc ms maxL : Nat} {free : Addr → Prop}
    (hM : ny_Met l y ws rm Pc Qc k0 n0 mc ms free) (hblind : FrameBlind Pc) (hrc : rm.cells = mc) (hrs : rm.slots = ms) (hframes : rm.frames + 1 ≤ R.frames) (hlocals : W9 + (maxL + 11) + rm.locals ≤ R.locals)
    (hws : ∀ w ∈ ws, ∀ (a' : Array Value) (U : State), s.WarmedH U.vm → w.before a' U = true) (hini : ∀ (a' : Array Value) (U : State), s.WarmedH U.vm → (Cond.initialized y.cls).before a' U = true)
    {m : MethodId} {meth : Method} {c : Code} {T : State} {locs : List Loc} {cells slots : Nat} (X : Stand p l e R s m sargs below meth c T locs cells slots)
    {g : JFrame} {ig : Instr} {mk : MethodId} {a : Array Value} (hg : g.method = m) (hsize : g.locals.size = c.maxLocals) (hdg : decode c.code g.pc = .ok (ig, len))
    (hW : 2 * g.monitorRoom + (g.stack.map fun v => v.category).sum ≤ W9) (hn : T.methodNamed? y = some mk)
    (hcd : ∃ (methY : Method) (cY : Code), T.vm.method? mk = some methY ∧ methY.code = some cY ∧ cY.maxLocals = maxL)
    (hc : cells + mc ≤ R.cells) (hs : slots + ms ≤ R.slots) (hP : Pc a T) :
    ∃ (o : Outcome) (t T' : State) (L : List Loc), T'.heap = t.heap ∧ T'.vm = t.vm ∧ Stand p l e R s m sargs below meth c T' (locs ++ L) (cells + ny_mk k0 mc o) (slots + ny_mk n0 ms o) ∧ (∀ q ∈ L, free q.base) ∧ Qc a (T.calling g mk a) o t ∧
      Steps p.tables e below (doInvoke e (T.setTop g) [] mk a).1 (ny_on T' g len o) := by
  have h1 : (headSpec ws rm).pre.before a T = true := atoms_intro fun w hw => hws w hw _ _ X.warmed
  obtain ⟨methY, cY, hmY, hcY, hlY⟩ := hcd
  obtain ⟨kY, hkY, -⟩ := className_of_methodNamed hn
  have hinitY : kY.init = .initialized := Cond.initialized_spec (findClass_of_methodNamed hn) hkY (hini a T X.warmed)
  have h : At T g.method c below := by rw [hg]; exact X.here
  have hr1 : (headSpec ws rm).room.frames + 1 ≤ R.frames := hframes
  have hr2 : 2 * g.monitorRoom + (g.stack.map fun v => v.category).sum + (cY.maxLocals + 11) + (headSpec ws rm).room.locals ≤ R.locals := by
    have h9 : (headSpec ws rm).room.locals = rm.locals := rfl
    rw [hlY, h9]; omega
  have hr3 : cells + (headSpec ws rm).room.cells ≤ R.cells := by
    have h9 : (headSpec ws rm).room.cells = rm.cells := rfl
    rw [h9, hrc]; exact hc
  have hr4 : slots + (headSpec ws rm).room.slots ≤ R.slots := by
    have h9 : (headSpec ws rm).room.slots = rm.slots := rfl
    rw [h9, hrs]; exact hs
  have happ : (headSpec ws rm).appliesLoose y e.platform (T.calling g mk a) = true :=
    Spec.appliesLoose_calling (g := g) h hdg hn hkY hinitY (X.room_calling (g := g) (R' := (headSpec ws rm).room) hsize hmY hcY hr1 hr2 hr3 hr4) h1
  obtain ⟨mid, hmid⟩ := h.above
  have hfr : (T.setTop g).frames = (.java g :: mid) ++ below := by rw [State.frames_setTop' g h.top, hmid]; rfl
  obtain ⟨o, t, hsteps, -, hend, hq⟩ := Steps.callFree hM p X.admits X.cas X.clock (acts := []) hfr happ (hblind _ _ _ _ hP) trivial
  have hq' : Qc a (T.calling g mk a) o t ∧ ∃ L, ny_End (T.calling g mk a) t L (ny_mk k0 mc o) (ny_mk n0 ms o) ∧ ∀ q ∈ L, free q.base := hq
  obtain ⟨hqc, L, ⟨hWt, hsm⟩, hL⟩ := hq'
  rw [State.frames_setTop' g h.top] at hend
  obtain ⟨g₀, hg0⟩ := Option.isSome_iff_exists.mp h.top
  obtain ⟨r, hr⟩ := State.topJava?_eq_some.mp hg0
  have hr' : (({ T with heap := t.heap, slotsUsed := t.slotsUsed } : State).setVm t.vm).frames = .java g₀ :: r := hr
  obtain ⟨e2, q2, q3, q4, q5, q6⟩ := id hsm
  have e3 : t = ({ (T.calling g mk a).setFrames t.frames with heap := t.heap, slotsUsed := t.slotsUsed } : State).setVm t.vm := by
    have h9 : t = ({ t with vm := (T.calling g mk a).vm } : State).setVm t.vm := rfl
    rw [e2] at h9
    exact h9
  have hW' : T.WarmedH t.vm := hWt
  have hsame : T.sameButNew ({ T with heap := t.heap, slotsUsed := t.slotsUsed } : State) L (ny_mk k0 mc o) (ny_mk n0 ms o) := by
    refine ⟨?_, q2, q3, q4, q5, q6⟩
    obtain ⟨t9, ht9, -⟩ := State.frames_cons hr
    show ({ T with heap := t.heap, slotsUsed := t.slotsUsed } : State) = { T.setFrames T.frames with heap := t.heap, slotsUsed := t.slotsUsed }
    rw [State.setFrames_self ht9]
  subst hg
  refine ⟨o, t, ({ T with heap := t.heap, slotsUsed := t.slotsUsed } : State).setVm t.vm, L, rfl, rfl,
    ⟨X.admits, X.cas, X.clock, X.frames, X.room, X.hears, X.method, X.code, (X.here.setHeapUsed t.heap t.slotsUsed).setVm hW'.alike, X.tail, State.WarmedH.trans X.warmed hW', X.limits, X.bytes, X.same.trans (hsame.setVm s.vm)⟩, hL, hqc, ?_⟩
  cases o with
  | returned v =>
    obtain ⟨c₂, i₂, len₂, hc₂, hd₂, hf₂⟩ := hend
    have hcc : c₂ = c := by
      have h9 : t.code? g.method = T.code? g.method := by rw [State.code?_eq, State.code?_eq, hW'.alike.method?]
      exact Option.some.inj (hc₂.symm.trans (h9.trans h.code))
    subst hcc
    have hlen : len₂ = len := by rw [hdg] at hd₂; cases hd₂; rfl
    subst hlen
    have hs₂ : t = (({ T with heap := t.heap, slotsUsed := t.slotsUsed } : State).setVm t.vm).setTop { g with pc := g.pc + len₂, stack := v.toList ++ g.stack } := by
      refine e3.trans ?_
      rw [hf₂, State.calling_eq h.top, State.setFrames_setFrames, State.setTop_of_frames _ hr', hr]
      rfl
    show Steps p.tables e below _ ((({ T with heap := t.heap, slotsUsed := t.slotsUsed } : State).setVm t.vm).setTop { g with pc := g.pc + len₂, stack := v.toList ++ g.stack })
    rw [← hs₂]
    exact hsteps
  | threw q =>
    have hf₂ : t.frames = .throwing q :: .java g :: T.frames.tail := hend
    have hs₂ : t = ((({ T with heap := t.heap, slotsUsed := t.slotsUsed } : State).setVm t.vm).setTop g).pushFrame (.throwing q) := by
      refine e3.trans ?_
      rw [hf₂, State.calling_eq h.top, State.setFrames_setFrames, State.pushFrame, State.frames_setTop _ hr', State.setTop_of_frames _ hr', State.setFrames_setFrames, hr]
      rfl
    show Steps p.tables e below _ (((({ T with heap := t.heap, slotsUsed := t.slotsUsed } : State).setVm t.vm).setTop g).pushFrame (.throwing q))
    rw [← hs₂]
    exact hsteps
end NyB
/-- the method's frame g with q thrown over it -/
def ny_W (p : Program) (l : Launch) (e : Env) (R : Room) (s : State) (m : MethodId) (args : Array Value) (below : List Frame) (meth : Method) (c : Code) (H : Heap) (locs : List Loc) (cells slots : Nat) (Q : State → Prop) (g : JFrame) (q : Addr) : Prop :=
  ∀ T : State, T.heap = H → Stand p l e R s m args below meth c T locs cells slots → ∃ t, Steps p.tables e below ((T.setTop g).pushFrame (.throwing q)) t ∧ Q t
/-- a call of a method that returns or throws -/
def ny_Run (p : Program) (l : Launch) (e : Env) (R : Room) (s : State) (m : MethodId) (args : Array Value) (below : List Frame) (meth : Method) (c : Code) (H : Heap) (locs : List Loc) (cells slots k0 n0 mc ms : Nat) (g : JFrame) (rest : List Value) (Qa : State → Outcome → State → Prop) (free : Addr → Prop) : Prop :=
  ∀ T : State, T.heap = H → Stand p l e R s m args below meth c T locs cells slots → ∃ (o : Outcome) (st₀ t T' : State) (L : List Loc), st₀.heap = H ∧ s.WarmedH st₀.vm ∧ Stand p l e R s m args below meth c T' (locs ++ L) (cells + ny_mk k0 mc o) (slots + ny_mk n0 ms o) ∧ (∀ q ∈ L, free q.base) ∧ T'.heap = t.heap ∧ T'.vm = t.vm ∧ Qa st₀ o t ∧
    ∀ target, Steps p.tables e below (ny_on T' { g with stack := rest } 3 o) target → Steps p.tables e below (T.setTop g) target
section NyC
variable {p : Program} {l : Launch} {e : Env} {R : Room} {s : State} {m : MethodId} {args : Array Value} {below : List Frame} {meth : Method} {c : Code} {H : Heap} {locs : List Loc} {cells slots : Nat}
variable {y : MethodName} {bytes cc : ByteArray} {maxL nL k0 n0 mc ms n index : Nat} {ret : Option FieldType} {ws : List Cond} {rm : Room} {Pc : Array Value → State → Prop} {Qc : Array Value → State → Outcome → State → Prop} {free : Addr → Prop} {Ts : List Cond} {own C : String} {b : Addr} {As rest : List Value} {g : JFrame}
theorem ny_runV (S : CallFix p m c cc nL s args Ts own) (hM : ny_Met l y ws rm Pc Qc k0 n0 mc ms free) (cw : CallW R s args own C index y bytes maxL ret ws rm mc ms n) (hp : PreV s H C b Pc As)
    (hg : g.method = m) (hn : As.length = n) (hsize : g.locals.size = nL) (hstack : g.stack = As.reverse ++ .ref b :: rest) (hW : 2 * g.monitorRoom + (rest.map fun v => v.category).sum ≤ 8) (hdg : decode cc g.pc = .ok (.invokevirtual index, 3)) (hf : cells + mc ≤ R.cells ∧ slots + ms ≤ R.slots) :
    ny_Run p l e R s m args below meth c H locs cells slots k0 n0 mc ms g rest (Qc (Value.ref b :: As).toArray) free := by
  obtain ⟨⟨hrc, hrs, hfr, hlo, hws, hcw, hcode, hini, hy, hlen, hl⟩, hinst, hsel⟩ := cw
  obtain ⟨hx, hb, hml, hown, -⟩ := S
  obtain ⟨hbl, ⟨cellB, hcB, hoB, hclB⟩, hPc⟩ := hp
  intro T hT X
  obtain ⟨mk, methM, hnamed, hmethM, hstM, habM⟩ := Cond.instanceMethod_spec hinst
  obtain ⟨methM', cM, hmethM', hcM, -, hlM, -, -, -, hsigM⟩ := Cond.code_spec hnamed hcode
  cases hmethM.symm.trans hmethM'
  obtain ⟨c2, r2, m2, q1, q2, q3, q4, kP, hkP, hkPi⟩ := Cond.selects_spec hsel
  cases hclB.symm.trans q1
  cases (State.methodFound?_of_named hnamed hy).symm.trans q2
  cases hnamed.symm.trans q3
  have hselP : selectMethod e.platform s.vm cellB.cls mk = .method mk := by rw [Launch.admits_selectMethod X.admits]; exact q4
  obtain ⟨vm₁, X₁, hstep₁⟩ := X.invokevirtual hx hown hl hnamed hmethM hstM hkP hkPi hy (a := b) (cell := cellB) (by rw [hT]; exact hcB)
    (fun z h => by rw [h] at hoB; cases hoB) hselP hmethM habM hkP hkPi (g := g) hg (argsL := As) (rest := rest) (hn.trans (hlen _ hsigM)) hstack (by rw [hb]; exact hdg)
  have hcd : ∃ (methY : Method) (cY : Code), (T.setVm vm₁).vm.method? mk = some methY ∧ methY.code = some cY ∧ cY.maxLocals = maxL := ⟨methM, cM, by rw [X₁.warmed.alike.method?]; exact hmethM, hcM, hlM⟩
  obtain ⟨o, t, T', L, e1, e2, X', hL, hq, hst⟩ := ny_back (g := { g with stack := rest }) (ig := .invokevirtual index) (len := 3) (W9 := 8) hM hbl hrc hrs hfr hlo hws (fun a' U hW => word_at hW (Or.inl (by first | rfl | simp [Cond.onTables, Cond.keeps, Cond.steady])) hini)
    X₁ hg (hsize.trans hml.symm) (by rw [hb]; exact hdg) hW (X₁.named hnamed) hcd hf.1 hf.2 (hPc (T.setVm vm₁) hT X₁.warmed)
  exact ⟨o, (T.setVm vm₁).calling { g with stack := rest } mk (Value.ref b :: As).toArray, t, T', L, hT, X₁.warmed, X', hL, e1, e2, hq, fun target h => hstep₁ _ fun acts => by rw [doInvoke_state]; exact hst.trans h⟩
theorem ny_runS (S : CallFix p m c cc nL s args Ts own) (hM : ny_Met l y ws rm Pc Qc k0 n0 mc ms free) (cw : CallB R s args own index y bytes maxL ret ws rm mc ms n ∧ (Cond.static y).before args s = true) (hp : PreS s H Pc As)
    (hg : g.method = m) (hn : As.length = n) (hsize : g.locals.size = nL) (hstack : g.stack = As.reverse ++ rest) (hW : 2 * g.monitorRoom + (rest.map fun v => v.category).sum ≤ 8) (hdg : decode cc g.pc = .ok (.invokestatic index, 3)) (hf : cells + mc ≤ R.cells ∧ slots + ms ≤ R.slots) :
    ny_Run p l e R s m args below meth c H locs cells slots k0 n0 mc ms g rest (Qc As.toArray) free := by
  obtain ⟨⟨hrc, hrs, hfr, hlo, hws, hcw, hcode, hini, hy, hlen, hl⟩, hstt⟩ := cw
  obtain ⟨hx, hb, hml, hown, -⟩ := S
  intro T hT X
  obtain ⟨mk, hnamed⟩ := Cond.code_named hcode
  obtain ⟨methM, cM, hmethM, hcM, -, hlM, -, -, -, hsigM⟩ := Cond.code_spec hnamed hcode
  have hstatic : methM.isStatic = true := Cond.static_spec hnamed hmethM hstt
  obtain ⟨kP, hkP, -⟩ := className_of_methodNamed hnamed
  have hinitP : kP.init = .initialized := Cond.initialized_spec (findClass_of_methodNamed hnamed) hkP hini
  obtain ⟨vm₁, X₁, hstep₁⟩ := X.invokestatic hx hown hl hnamed hmethM hstatic hkP hinitP hy (g := g) hg (argsL := As) (rest := rest) (hn.trans (hlen _ hsigM)) hstack (by rw [hb]; exact hdg)
  have hcd : ∃ (methY : Method) (cY : Code), (T.setVm vm₁).vm.method? mk = some methY ∧ methY.code = some cY ∧ cY.maxLocals = maxL := ⟨methM, cM, by rw [X₁.warmed.alike.method?]; exact hmethM, hcM, hlM⟩
  obtain ⟨o, t, T', L, e1, e2, X', hL, hq, hst⟩ := ny_back (g := { g with stack := rest }) (ig := .invokestatic index) (len := 3) (W9 := 8) hM hp.1 hrc hrs hfr hlo hws (fun a' U hW => word_at hW (Or.inl (by first | rfl | simp [Cond.onTables, Cond.keeps, Cond.steady])) hini)
    X₁ hg (hsize.trans hml.symm) (by rw [hb]; exact hdg) hW (X₁.named hnamed) hcd hf.1 hf.2 (hp.2 (T.setVm vm₁) hT X₁.warmed)
  exact ⟨o, (T.setVm vm₁).calling { g with stack := rest } mk As.toArray, t, T', L, hT, X₁.warmed, X', hL, e1, e2, hq, fun target h => hstep₁ _ fun acts => by rw [doInvoke_state]; exact hst.trans h⟩
/-- a static method with a table of its own (it catches), called by the law; it always returns -/
theorem ny_runSW {hh : List (Nat × Nat × Nat × Nat)} (S : CallFix p m c cc nL s args Ts own) (hM : Met l y ws rm Pc Qc mc ms free)
    (hrc : rm.cells = mc) (hrs : rm.slots = ms) (hfr : rm.frames + 1 ≤ R.frames) (hlo : 8 + (maxL + 11) + rm.locals ≤ R.locals) (hws : ∀ w ∈ ws, ∀ (a' : Array Value) (U : State), s.WarmedH U.vm → w.before a' U = true)
    (hcode : (Cond.codeWith y bytes maxL ret hh).before args s = true) (hini : (Cond.initialized y.cls).before args s = true) (hy : y.cls ≠ "java/lang/invoke/MethodHandle" ∧ y.cls ≠ "java/lang/invoke/VarHandle")
    (hlen : ∀ sig, parseMethodDescriptor y.desc = some sig → n = sig.parameters.length) (hl : (Cond.methodLink own index y).before args s = true) (hstt : (Cond.static y).before args s = true) (hp : PreS s H Pc As)
    (hg : g.method = m) (hn : As.length = n) (hsize : g.locals.size = nL) (hstack : g.stack = As.reverse ++ rest) (hW : 2 * g.monitorRoom + (rest.map fun v => v.category).sum ≤ 8) (hdg : decode cc g.pc = .ok (.invokestatic index, 3)) (hf : cells + mc ≤ R.cells ∧ slots + ms ≤ R.slots) :
    va_Run p l e R s m args below meth c H locs cells slots mc ms g rest (Qc As.toArray) free := by
  obtain ⟨hx, hb, hml, hown, -⟩ := S
  have hM' : ny_Met l y ws rm Pc (fun a st o t => (∃ v, o = .returned v) ∧ Qc a st o t) mc ms mc ms free := by
    intro p e ha hc hk s m args below hf happ hP _
    obtain ⟨n9, o, h1, h2, h3, hq, L, ⟨hv, hW9, hs9⟩, hL⟩ := hM p e ha hc hk s m args below hf happ hP trivial
    obtain ⟨v, rfl⟩ := hv
    exact ⟨n9, _, h1, h2, h3, ⟨⟨v, rfl⟩, hq⟩, L, ⟨hW9, hs9⟩, hL⟩
  intro T hT X
  obtain ⟨mk, methM, cM, hnamed, hmethM, hcM, -, hlM, -, -, -, hsigM⟩ := Cond.codeWith_spec hcode
  have hstatic : methM.isStatic = true := Cond.static_spec hnamed hmethM hstt
  obtain ⟨kP, hkP, -⟩ := className_of_methodNamed hnamed
  have hinitP : kP.init = .initialized := Cond.initialized_spec (findClass_of_methodNamed hnamed) hkP hini
  obtain ⟨vm₁, X₁, hstep₁⟩ := X.invokestatic hx hown hl hnamed hmethM hstatic hkP hinitP hy (g := g) hg (argsL := As) (rest := rest) (hn.trans (hlen _ hsigM)) hstack (by rw [hb]; exact hdg)
  have hcd : ∃ (methY : Method) (cY : Code), (T.setVm vm₁).vm.method? mk = some methY ∧ methY.code = some cY ∧ cY.maxLocals = maxL := ⟨methM, cM, by rw [X₁.warmed.alike.method?]; exact hmethM, hcM, hlM⟩
  obtain ⟨o, t, T', L, e1, e2, X', hL, ⟨⟨v, hv⟩, hq⟩, hst⟩ := ny_back (g := { g with stack := rest }) (ig := .invokestatic index) (len := 3) (W9 := 8) hM' hp.1 hrc hrs hfr hlo hws (fun a' U hW => word_at hW (Or.inl (by first | rfl | simp [Cond.onTables, Cond.keeps, Cond.steady])) hini)
    X₁ hg (hsize.trans hml.symm) (by rw [hb]; exact hdg) hW (X₁.named hnamed) hcd hf.1 hf.2 (hp.2 (T.setVm vm₁) hT X₁.warmed)
  subst hv
  exact ⟨v, (T.setVm vm₁).calling { g with stack := rest } mk As.toArray, t, T', L, hT, X', hL, e1, e2, hq, fun target h => hstep₁ _ fun acts => by rw [doInvoke_state]; exact hst.trans h⟩
end NyC
section NyD
variable {p : Program} {l : Launch} {e : Env} {R : Room} {s : State} {m : MethodId} {args : Array Value} {below : List Frame} {meth : Method} {c : Code} {H : Heap} {locs : List Loc} {cells slots : Nat} {Q : State → Prop}
variable {k0 n0 mc ms pc : Nat} {free : Addr → Prop} {ls : Array Slot} {st0 rest : List Value} {Qa : State → Outcome → State → Prop}
/-- behind such a call -/
theorem ny_call (hr : ny_Run p l e R s m args below meth c H locs cells slots k0 n0 mc ms (F0 m pc ls st0) rest Qa free)
    (kr : ∀ (v : Option Value) (st₀ t : State) (H1 : Heap) (L : List Loc), st₀.heap = H → s.WarmedH st₀.vm → t.heap = H1 → s.WarmedH t.vm → (∀ q ∈ L, free q.base) → Qa st₀ (.returned v) t → W p l e R s m args below meth c H1 (locs ++ L) (cells + k0) (slots + n0) Q (F0 m (pc + 3) ls (v.toList ++ rest)))
    (kx : ∀ (q : Addr) (st₀ t : State) (H1 : Heap) (L : List Loc), st₀.heap = H → s.WarmedH st₀.vm → t.heap = H1 → s.WarmedH t.vm → (∀ q ∈ L, free q.base) → Qa st₀ (.threw q) t → ny_W p l e R s m args below meth c H1 (locs ++ L) (cells + mc) (slots + ms) Q (F0 m pc ls rest) q) :
    W p l e R s m args below meth c H locs cells slots Q (F0 m pc ls st0) := by
  intro T hT X
  obtain ⟨o, st₀, t, T', L, h0, h1, X', hL, e1, e2, hq, st⟩ := hr T hT X
  cases o with
  | returned v =>
    obtain ⟨t2, a1, b1⟩ := kr v st₀ t T'.heap L h0 h1 e1.symm (by rw [← e2]; exact X'.warmed) hL hq T' rfl X'
    exact ⟨t2, st t2 a1, b1⟩
  | threw q =>
    obtain ⟨t2, a1, b1⟩ := kx q st₀ t T'.heap L h0 h1 e1.symm (by rw [← e2]; exact X'.warmed) hL hq T' rfl X'
    exact ⟨t2, st t2 a1, b1⟩
end NyD
end NyA
section NyF
/-- a row of the table whose class takes the object -/
theorem ny_goYes {Q : Handler → Pre} {E : CtlPost} {e : Env} {d : Bool} {acts : List Action} {s : State} {f : JFrame} {a : Addr} {x : ExceptionTableEntry} {t : List ExceptionTableEntry} {c : ClassId} {cell : Cell} (hx : covers x f.pc = true) (h0 : x.catchType ≠ 0)
    (hl : s.vm.ClassLinks e.platform f.method.cls x.catchType c) (hcell : s.heap[a]? = some cell) (hobj : ∀ k, cell.vm ≠ .statics k)
    (hk : ∃ k, s.vm.classes[cell.cls]? = some k) (hc : ∃ k, s.vm.classes[c]? = some k) (hfit : s.vm.assignable cell.cls c = true) :
    wp (findHandler.go f a (x :: t)) Q E e d acts s ↔ Q (.found x.handlerPc) d acts (s.setVm (s.vm.noted f.method.cls x.catchType (.cls c))) := by
  simp only [covers] at hx
  obtain ⟨ha, ht⟩ := (resolveClass_links e.toSetting hl).op (op := VmOp.resolveClass f.method.cls x.catchType) rfl
  have hal : s.vm.Alike (s.vm.noted f.method.cls x.catchType (.cls c)) := (Vm.Alike.refl s.vm).noted _ _ _
  obtain ⟨k1, hk1⟩ := hk
  obtain ⟨k2, hk2⟩ := hc
  obtain ⟨k3, hk3, -⟩ := hal.2.2 _ _ hk1
  obtain ⟨k4, hk4, -⟩ := hal.2.2 _ _ hk2
  have hf : (s.vm.noted f.method.cls x.catchType (.cls c)).assignable cell.cls c = true := by rw [hal.assignable]; exact hfit
  simp [findHandler.go, hx, h0, ha, ht, hcell, hobj, hk3, hk4, hf, VmOp.dirties, VmOp.acts]
/-- a row of the table whose class doesn't -/
theorem ny_goNo {Q : Handler → Pre} {E : CtlPost} {e : Env} {d : Bool} {acts : List Action} {s : State} {f : JFrame} {a : Addr} {x : ExceptionTableEntry} {t : List ExceptionTableEntry} {c : ClassId} {cell : Cell} (hx : covers x f.pc = true) (h0 : x.catchType ≠ 0)
    (hl : s.vm.ClassLinks e.platform f.method.cls x.catchType c) (hcell : s.heap[a]? = some cell) (hobj : ∀ k, cell.vm ≠ .statics k)
    (hk : ∃ k, s.vm.classes[cell.cls]? = some k) (hc : ∃ k, s.vm.classes[c]? = some k) (hfit : s.vm.assignable cell.cls c = false) :
    wp (findHandler.go f a (x :: t)) Q E e d acts s ↔ wp (findHandler.go f a t) Q E e d acts (s.setVm (s.vm.noted f.method.cls x.catchType (.cls c))) := by
  simp only [covers] at hx
  obtain ⟨ha, ht⟩ := (resolveClass_links e.toSetting hl).op (op := VmOp.resolveClass f.method.cls x.catchType) rfl
  have hal : s.vm.Alike (s.vm.noted f.method.cls x.catchType (.cls c)) := (Vm.Alike.refl s.vm).noted _ _ _
  obtain ⟨k1, hk1⟩ := hk
  obtain ⟨k2, hk2⟩ := hc
  obtain ⟨k3, hk3, -⟩ := hal.2.2 _ _ hk1
  obtain ⟨k4, hk4, -⟩ := hal.2.2 _ _ hk2
  have hf : (s.vm.noted f.method.cls x.catchType (.cls c)).assignable cell.cls c = false := by rw [hal.assignable]; exact hfit
  simp [findHandler.go, hx, h0, ha, ht, hcell, hobj, hk3, hk4, hf, VmOp.dirties, VmOp.acts]
/-- the search through the rows ahead of the one that takes it -/
theorem ny_find {e : Env} {s₀ : State} {f : JFrame} {a : Addr} {cell : Cell} {x : ExceptionTableEntry} {suf : List ExceptionTableEntry} {c : ClassId} (hobj : ∀ k, cell.vm ≠ .statics k) (hk0 : ∃ k, s₀.vm.classes[cell.cls]? = some k)
    (hx : covers x f.pc = true) (h0 : x.catchType ≠ 0) (hl : s₀.vm.ClassLinks e.platform f.method.cls x.catchType c) (hfit : s₀.vm.assignable cell.cls c = true) :
    ∀ (pre : List ExceptionTableEntry) (S : State), s₀.WarmedH S.vm → S.heap[a]? = some cell →
      (∀ y ∈ pre, covers y f.pc = true ∧ y.catchType ≠ 0 ∧ ∃ c', s₀.vm.ClassLinks e.platform f.method.cls y.catchType c' ∧ s₀.vm.assignable cell.cls c' = false) →
      ∃ vm', s₀.WarmedH vm' ∧ ∀ (Q : Handler → Pre) (E : CtlPost) (d : Bool) (acts : List Action), wp (findHandler.go f a (pre ++ x :: suf)) Q E e d acts S ↔ Q (.found x.handlerPc) d acts (S.setVm vm') := by
  obtain ⟨k0, hk0⟩ := hk0
  intro pre
  induction pre with
  | nil =>
    intro S hW hcell _
    obtain ⟨k1, hk1, -⟩ := hW.alike.2.2 _ _ hk0
    obtain ⟨dk, _, _, kt, hd, _, _, _, _, hkt, _, hopen⟩ := hl.here
    obtain ⟨kt1, hkt1, -⟩ := hW.alike.2.2 _ _ hkt
    exact ⟨_, hW.noted hd hopen (State.rightAt_cls hl), fun Q E d acts => ny_goYes hx h0 (hW.classLinks hl) hcell hobj ⟨k1, hk1⟩ ⟨kt1, hkt1⟩ (by rw [hW.alike.assignable]; exact hfit)⟩
  | cons y ys ih =>
    intro S hW hcell hpass
    obtain ⟨k1, hk1, -⟩ := hW.alike.2.2 _ _ hk0
    obtain ⟨hy, hy0, c', hly, hno⟩ := hpass y List.mem_cons_self
    obtain ⟨dk, _, _, kt, hd, _, _, _, _, hkt, _, hopen⟩ := hly.here
    obtain ⟨kt1, hkt1, -⟩ := hW.alike.2.2 _ _ hkt
    obtain ⟨vm', hW', hq⟩ := ih (S.setVm (S.vm.noted f.method.cls y.catchType (.cls c'))) (hW.noted hd hopen (State.rightAt_cls hly)) hcell (fun z hz => hpass z (List.mem_cons_of_mem _ hz))
    exact ⟨vm', hW', fun Q E d acts => (ny_goNo hy hy0 (hW.classLinks hly) hcell hobj ⟨k1, hk1⟩ ⟨kt1, hkt1⟩ (by rw [hW.alike.assignable]; exact hno)).trans (hq Q E d acts)⟩
/-- one step: from the thrown object to the handler -/
theorem ny_caught {tb : Tables} {e : Env} {s target : State} {g : JFrame} {c : Code} {below : List Frame} {a : Addr} (h : At s g.method c below) {pc : Nat} {vm' : Vm}
    (hfind : ∀ (Q : Handler → Pre) (E : CtlPost) (d : Bool) (acts : List Action), wp (findHandler g a) Q E e d acts ((s.setTop g).pushFrame (.throwing a)) ↔ Q (.found pc) d acts (((s.setTop g).pushFrame (.throwing a)).setVm vm'))
    (hrest : Steps tb e below ((s.setVm vm').setTop { g with pc := pc, stack := [.ref a] }) target) : Steps tb e below ((s.setTop g).pushFrame (.throwing a)) target := by
  have hstep : ∀ (S : State) (r : List Frame), (∀ (Q : Handler → Pre) (E : CtlPost) (d : Bool) (acts : List Action), wp (findHandler g a) Q E e d acts S ↔ Q (.found pc) d acts (S.setVm vm')) → (stepThrowing e S a (.java g :: r)).Is ((S.setVm vm').setFrames (.java { g with pc := pc, stack := [.ref a] } :: r)) [] := by
    intro S r hf
    simp only [stepThrowing, searchFrame, vmDo]
    generalize hr : Sem.go _ e false [] S = res
    obtain ⟨as, rfl, ha⟩ := Sem.eq_ok_of hr (a := Handler.found pc) (s' := S.setVm vm') (acts' := []) (by simp [hf _ _ _ _])
    exact ⟨rfl, ha⟩
  have hset : ∀ (u : State) (F G : List Frame), ((u.setFrames F).setVm vm').setFrames G = (u.setVm vm').setFrames G := by
    intro u F G
    have h1 : (u.setFrames F).setVm vm' = (u.setVm vm').setFrames F := rfl
    rw [h1, State.setFrames_setFrames]
  obtain ⟨hgo, hw⟩ := h.throwing a
  refine Steps.head hgo hw ?_
  rw [stepThread_throwing (frames_entered h.top _), (hstep ((s.setTop g).pushFrame (.throwing a)) _ hfind).1]
  obtain ⟨g₀, hg⟩ := Option.isSome_iff_exists.mp h.top
  obtain ⟨r, hr⟩ := State.topJava?_eq_some.mp hg
  have hr' : (s.setVm vm').frames = .java g₀ :: r := hr
  rw [State.setTop_of_frames _ hr'] at hrest
  rw [hr, List.tail_cons, State.pushFrame, hset, State.setTop_of_frames _ hr, hset]
  exact hrest
end NyF
section NyG
variable {p : Program} {l : Launch} {e : Env} {R : Room} {s : State} {m : MethodId} {args : Array Value} {below : List Frame} {meth : Method} {c : Code} {H : Heap} {locs : List Loc} {cells slots : Nat} {Q : State → Prop}
variable {k0 n0 mc ms pc : Nat} {free : Addr → Prop} {ls : Array Slot} {rest : List Value} {Qc : Array Value → State → Outcome → State → Prop}
/-- the row x of this method's table takes it; those ahead don't -/
theorem ny_catch {own name E : String} {ce : Cell} {q : Addr} (hown : s.vm.findClass own = some m.cls) (pre : List ExceptionTableEntry) (x : ExceptionTableEntry) (suf : List ExceptionTableEntry) (hsplit : c.exceptionTable.toList = pre ++ x :: suf)
    (hpass : ∀ z ∈ pre, covers z pc = true ∧ z.catchType ≠ 0 ∧ ∃ nm : String, (Cond.classLink own z.catchType nm).before args s = true ∧ va_Nc E nm s) (hx : covers x pc = true) (h0 : x.catchType ≠ 0)
    (hlink : (Cond.classLink own x.catchType name).before args s = true) (hcast : (Cond.castable E name).before args s = true) (hcell : H[q]? = some ce) (hv : ce.vm = .none) (hcl : s.vm.findClass E = some ce.cls)
    (kk : W p l e R s m args below meth c H locs cells slots Q (F0 m x.handlerPc ls [.ref q])) : ny_W p l e R s m args below meth c H locs cells slots Q (F0 m pc ls rest) q := by
  intro T hT X
  have hpl : e.platform.magicAccessors = ({} : Platform).magicAccessors := by rw [X.admits.platform]
  obtain ⟨c3, c4, hc3, hc4, hasg⟩ := Cond.castable_spec hcast
  cases Option.some.inj (hc3.symm.trans hcl)
  obtain ⟨c5, hc5, hcl5⟩ := Cond.classLink_spec hown hlink e.platform hpl
  cases Option.some.inj (hc4.symm.trans hc5)
  obtain ⟨k9, hk9, -⟩ := Vm.findClass_spec hcl
  have hcell' : ((T.setTop (F0 m pc ls rest)).pushFrame (.throwing q)).heap[q]? = some ce := by
    rw [Stand.throwing_heap, hT]; exact hcell
  have hwm : s.WarmedH ((T.setTop (F0 m pc ls rest)).pushFrame (.throwing q)).vm := by
    rw [Stand.throwing_vm]; exact X.warmed
  obtain ⟨vm', hW', hf⟩ := ny_find (e := e) (s₀ := s) (f := F0 m pc ls rest) (a := q) (cell := ce) (x := x) (suf := suf) (c := c4) (by rw [hv]; intro k h; cases h) ⟨k9, hk9⟩ hx h0 hcl5 hasg pre _ hwm hcell'
    (fun z hz => by
      obtain ⟨hz1, hz0, nm, hl1, a8, b8, h1, h2, h3⟩ := hpass z hz
      obtain ⟨c6, hc6, hcl6⟩ := Cond.classLink_spec hown hl1 e.platform hpl
      cases Option.some.inj (h1.symm.trans hcl)
      cases Option.some.inj (h2.symm.trans hc6)
      exact ⟨hz1, hz0, _, hcl6, h3⟩)
  obtain ⟨t, a1, b1⟩ := kk (T.setVm vm') hT (X.noted hW')
  refine ⟨t, ny_caught (g := F0 m pc ls rest) (c := c) X.here (pc := x.handlerPc) (vm' := vm') (fun Q E d acts => ?_) a1, b1⟩
  rw [Jvm.W.findHandler_eq (meth := meth) (code := c) (by rw [Stand.throwing_vm]; exact X.method') X.code, hsplit]
  exact hf Q E d acts
/-- what a body that may throw owes at its end -/
def ny_MQ (below : List Frame) (Qc : Array Value → State → Outcome → State → Prop) (a : Array Value) (s : State) (k0 n0 k1 n1 : Nat) (free : Addr → Prop) : State → Prop := fun t =>
  ∃ o, t.status = .running ∧ Ended t below o ∧ Qc a s o t ∧ ∃ L, ny_End s t L (ny_mk k0 k1 o) (ny_mk n0 n1 o) ∧ ∀ q ∈ L, free q.base
/-- where it returns: the kit's own ends -/
theorem ny_ret {g : JFrame} (k : W p l e R s m args below meth c H locs cells slots (MQ below Qc args s k0 n0 free) g) : W p l e R s m args below meth c H locs cells slots (ny_MQ below Qc args s k0 n0 mc ms free) g := by
  intro T hT X
  obtain ⟨t, a1, o, b1, b2, b3, L, ⟨⟨v, rfl⟩, hW, hs⟩, hL⟩ := k T hT X
  exact ⟨t, a1, _, b1, b2, b3, L, ⟨hW, hs⟩, hL⟩
/-- where it throws on what a callee has thrown -/
theorem ny_out {q : Addr} (hout : ∀ x ∈ c.exceptionTable.toList, covers x pc = false) (hlocks : meth.locks = false) (hx : ∀ t : State, t.heap = H → s.WarmedH t.vm → Qc args s (.threw q) t) (hf : ∀ z ∈ locs, free z.base) (hc : cells ≤ mc) (hs : slots ≤ ms) :
    ny_W p l e R s m args below meth c H locs cells slots (ny_MQ below Qc args s k0 n0 mc ms free) (F0 m pc ls rest) q := by
  intro T hT X
  obtain ⟨st1, hrun, hend, hW, hsm⟩ := X.leaveThrown q (g := F0 m pc ls rest) rfl rfl rfl hout hlocks
  exact ⟨_, st1, .threw q, hrun, hend, hx _ hT hW, locs, ⟨hW, hsm.mono hc hs⟩, hf⟩
theorem ny_widen {g : JFrame} {q : Addr} {k n : Nat} (h1 : cells ≤ k) (h2 : slots ≤ n) (kk : ny_W p l e R s m args below meth c H locs k n Q g q) : ny_W p l e R s m args below meth c H locs cells slots Q g q := fun T hT X => kk T hT (stand_widen X h1 h2)
/-- the contract out of the walk -/
theorem ny_ofW {y : MethodName} {ws ws' : List Cond} {rm : Room} {Pc : Array Value → State → Prop} {cc : ByteArray} {maxL : Nat} {ret : Option FieldType}
    (hy : plainName y.cls = true) (hw : ws = Cond.code y cc maxL ret :: ws')
    (body : ∀ p e s m args below meth c s₁, BodyLoose p l y (headSpec ws rm) cc maxL ret e s m args below meth c s₁ → c.maxLocals = maxL → (∀ x ∈ c.exceptionTable.toList, ∀ pc, covers x pc = false) → Pc args s →
      W p l e (headSpec ws rm).room s m args below meth c s.heap [] 0 0 (ny_MQ below Qc args s k0 n0 mc ms free) (entryFrame m args maxL)) : ny_Met l y ws rm Pc Qc k0 n0 mc ms free := by
  refine MetFree.of_bodyS (code := cc) (maxLocals := maxL) (ret := ret) hy ?_ ?_
  · intro args s m h hn
    obtain ⟨meth, c, h1, h2, h3, h4, h5, h6, -, -⟩ := Cond.code_spec hn (atoms_spec (ws := ws) h _ (by rw [hw]; exact List.mem_cons_self))
    exact ⟨meth, c, h1, h2, h3, h4, h5, h6⟩
  · intro p e s m args below meth c s₁ B hml hP _
    have hh0 : s₁.heap = s.heap := by rw [B.state]; rfl
    have X := Stand.of_body B
    have hno : ∀ x ∈ c.exceptionTable.toList, ∀ pc, covers x pc = false := by
      obtain ⟨meth', c', h1, h2, -, -, -, -, h7, -⟩ := Cond.code_spec B.named (atoms_spec (ws := ws) B.pre _ (by rw [hw]; exact List.mem_cons_self))
      cases B.method.symm.trans h1
      cases X.code.symm.trans h2
      intro x hx
      have h8 : c.exceptionTable.toList = [] := by
        have h9 : c.exceptionTable = #[] := by simpa using h7
        rw [h9]
      rw [h8] at hx
      cases hx
    obtain ⟨t, a1, o, b1, b2, b3, b4⟩ := body p e s m args below meth c s₁ B hml hno hP s₁ hh0 X
    exact ⟨t, o, a1, b1, b2, b3, b4⟩
end NyG
section NyH
/-- where a static of a class lies, and that its cell is in the heap -/
def ny_L (C n d : String) (U : State) : Prop := ∃ (c : ClassId) (k : Class) (i : Nat) (f : Field) (a : Nat) (cell : Cell), U.vm.findClass C = some c ∧ U.fieldFound? C n d = some (c, k, i, f) ∧ f.isStatic = true ∧ k.statics = some a ∧ U.heap[a]? = some cell ∧ cell.vm.isStatics = true ∧ cell.cls = c ∧ f.slot < cell.slots.size ∧ k.staticTypes[f.slot]? = some f.type
theorem ny_L.to {C n d : String} {u U : State} (hvm : u.vm.Alike U.vm) (hh : ∀ q, q < u.heap.size → U.heap[q]? = u.heap[q]?) (h : ny_L C n d u) : ny_L C n d U := by
  obtain ⟨c, k, i, f, a, cell, h1, h2, h3, h4, h5, h6, h7, h8, h9⟩ := h
  obtain ⟨k', hi', he⟩ := State.fieldFound?_setVm hvm h2
  exact ⟨c, k', i, f, a, cell, by rw [hvm.findClass]; exact h1, hi', h3, by rw [he]; exact h4, by rw [hh a (Array.getElem?_eq_some_iff.mp h5).1]; exact h5, h6, h7, h8, by rw [he]; exact h9⟩
theorem ny_L.word {C n d : String} {s : State} {args : Array Value} (h : ny_L C n d s) : (Cond.laysStatic C n d).before args s = true := by
  obtain ⟨c, k, i, f, a, cell, h1, h2, h3, h4, h5, h6, h7, h8, h9⟩ := h
  show (Cond.laysStatic C n d).holds args s none s [] = true
  exact Cond.laysStatic_of h1 h2 h3 h4 h5 h6 h7 h8 h9
theorem ny_L.of {C n d : String} {s : State} {args : Array Value} (h : (Cond.laysStatic C n d).before args s = true) : ny_L C n d s := Cond.laysStatic_spec h
theorem ny_isRef {C n d : String} {v : Value} {A : Nat → Prop} {s : State} {args : Array Value} (h : va_Z C n d v A s s.heap) (hv : v.isRef = true) : (Cond.isRef (.static C n d)).before args s = true := by
  obtain ⟨cf, kf, fi, f, a, cell, h1, h2, h3, h4, h5, h6, h7, -⟩ := h
  have he : (Term.static C n d).eval args s none [] s = some v := by
    simp [Term.eval, State.fieldNamed?, h1, h2, h4, h5, h6, h7]
  simp only [Cond.before, Cond.holds, Cond.value, he]
  cases v <;> simp_all [Value.isRef]
/-- what a throw asks of the heap: the two statics of Throwable -/
def ny_J (U : State) : Prop := va_Zq Bundle.tN "UNASSIGNED_STACK" Bundle.steD (fun _ => False) U U.heap ∧ va_Zq Bundle.tN "SUPPRESSED_SENTINEL" Bundle.listD (fun _ => False) U U.heap ∧ ny_L Bundle.tN "UNASSIGNED_STACK" Bundle.steD U ∧ ny_L Bundle.tN "SUPPRESSED_SENTINEL" Bundle.listD U
theorem ny_J.to {u U : State} (hvm : u.vm.Alike U.vm) (hh : ∀ q, q < u.heap.size → U.heap[q]? = u.heap[q]?) (h : ny_J u) : ny_J U :=
  ⟨(va_Zq.moved hvm h.1).kept (fun a h1 _ => hh a h1), (va_Zq.moved hvm h.2.1).kept (fun a h1 _ => hh a h1), h.2.2.1.to hvm hh, h.2.2.2.to hvm hh⟩
theorem ny_J.words {s : State} {args : Array Value} (h : ny_J s) : (Cond.isRef (.static Bundle.tN "UNASSIGNED_STACK" Bundle.steD)).before args s = true ∧ (Cond.isRef (.static Bundle.tN "SUPPRESSED_SENTINEL" Bundle.listD)).before args s = true ∧ (Cond.laysStatic Bundle.tN "UNASSIGNED_STACK" Bundle.steD).before args s = true ∧ (Cond.laysStatic Bundle.tN "SUPPRESSED_SENTINEL" Bundle.listD).before args s = true := by
  refine ⟨?_, ?_, h.2.2.1.word, h.2.2.2.word⟩
  · rcases h.1 with g | ⟨t, g⟩
    · exact ny_isRef g rfl
    · exact ny_isRef g rfl
  · rcases h.2.1 with g | ⟨t, g⟩
    · exact ny_isRef g rfl
    · exact ny_isRef g rfl
theorem ny_J.of {s : State} {args : Array Value} (hi : (Cond.initialized Bundle.tN).before args s = true) (h1 : (Cond.isRef (.static Bundle.tN "UNASSIGNED_STACK" Bundle.steD)).before args s = true) (h2 : (Cond.isRef (.static Bundle.tN "SUPPRESSED_SENTINEL" Bundle.listD)).before args s = true)
    (h3 : (Cond.laysStatic Bundle.tN "UNASSIGNED_STACK" Bundle.steD).before args s = true) (h4 : (Cond.laysStatic Bundle.tN "SUPPRESSED_SENTINEL" Bundle.listD).before args s = true) : ny_J s :=
  ⟨va_Zqof h3 hi h1 (fun _ _ h => h), va_Zqof h4 hi h2 (fun _ _ h => h), ny_L.of h3, ny_L.of h4⟩
/-- all words of a throw out of those that the tables decide and the four -/
theorem ny_own {args : Array Value} {s : State} {L : List Cond} (hJ : ny_J s)
    (h : ∀ w ∈ L, w = .isRef (.static Bundle.tN "UNASSIGNED_STACK" Bundle.steD) ∨ w = .isRef (.static Bundle.tN "SUPPRESSED_SENTINEL" Bundle.listD) ∨ w = .laysStatic Bundle.tN "UNASSIGNED_STACK" Bundle.steD ∨ w = .laysStatic Bundle.tN "SUPPRESSED_SENTINEL" Bundle.listD ∨ w.before args s = true) : ∀ w ∈ L, w.before args s = true := by
  intro w hw
  obtain ⟨g1, g2, g3, g4⟩ := hJ.words (args := args)
  rcases h w hw with e | e | e | e | e
  · rw [e]; exact g1
  · rw [e]; exact g2
  · rw [e]; exact g3
  · rw [e]; exact g4
  · exact e
/-- q is a new object of the class E, thrown; all that was there is as it was -/
def ny_Thr (E : String) (st : State) (q : Addr) (t : State) : Prop := ∃ ce : Cell, t.heap[q]? = some ce ∧ ce.vm = .none ∧ st.vm.findClass E = some ce.cls ∧ st.heap.size ≤ t.heap.size ∧ ∀ z : Nat, z < st.heap.size → t.heap[z]? = st.heap[z]?
variable {p : Program} {l : Launch} {e : Env} {R : Room} {s : State} {m : MethodId} {args : Array Value} {below : List Frame} {meth : Method} {c : Code} {free : Addr → Prop} {ls : Array Slot} {rest : List Value} {Qc : Array Value → State → Outcome → State → Prop}
/-- throw new E("text"), before anything has been written -/
theorem ny_throw {cc : ByteArray} {pc k0 n0 : Nat} (hexec : p.tables.exec = Jvm.exec) (hb : c.code = cc) (hfl : l.flags = pinnedFlags ++ [noTraceFlag]) {own cls text : String} {names : List String} {ik is ic sa : Nat}
    (hown : s.vm.findClass own = some m.cls) (hcls : Bundle.fit cls = true) (hnames : ∀ n ∈ names, Bundle.fit n = true)
    (hk : (Cond.classLink own ik cls).before args s = true) (hini : (Cond.initialized cls).before args s = true) (hstr : vk_R own is text sa s) (hat : ∀ w ∈ Bundle.ownAtoms own ic cls names, w.before args s = true) (hsize : ls.size = c.maxLocals)
    (d0 : decode cc pc = .ok (.new ik, 3)) (d3 : decode cc (pc + 3) = .ok (.dup, 1)) (d4 : decode cc (pc + 4) = .ok (.ldc is, 2)) (d6 : decode cc (pc + 6) = .ok (.invokespecial ic, 3)) (d9 : decode cc (pc + 9) = .ok (.athrow, 1))
    (hout : ∀ x ∈ c.exceptionTable.toList, ∀ pc, covers x pc = false)
    (hRframes : names.length + 3 < R.frames) (hRlocals : (rest.map fun v => v.category).sum + (13 * (names.length + 1) + 43) ≤ R.locals) (hRcells : 1 ≤ R.cells) (hRslots : 6 ≤ R.slots) (hlocks : meth.locks = false)
    (hx : ∀ (t : State) (q : Addr), s.WarmedH t.vm → ny_Thr cls s q t → Qc args s (.threw q) t) :
    W p l e R s m args below meth c s.heap [] 0 0 (ny_MQ below Qc args s k0 n0 1 6 free) (F0 m pc ls rest) := by
  intro T hT X
  have htr : e.platform.stackTraces = false := Launch.traces_off hfl X.admits
  have hins : (Cond.instantiable cls 6).before args s = true := hat _ (by simp [Bundle.ownAtoms])
  obtain ⟨vm₁, cX, kX, hfX, hkX, -, -, X₁, st1⟩ := X.newCold hexec (own := own) (C := cls) (index := ik) (n := 6) hown hk hins hini
    (g := F0 m pc ls rest) rfl (by rw [hb]; exact d0) (by omega) (by omega)
  generalize hT1 : (T.setVm vm₁).pushCell { cls := cX, slots := kX.instanceTypes.map defaultValue, vm := .none } = T1 at X₁ st1
  have hcat : (Value.ref T.heap.size).category = 1 := rfl
  have hcellA : T1.heap[T.heap.size]? = some (freshCell cX kX) := by rw [← hT1]; exact State.heap_pushCell_size _ _
  have d3' : decode c.code (pc + 3) = .ok (.dup, 1) := by rw [hb]; exact d3
  have d4' : decode c.code (pc + 4) = .ok (.ldc is, 2) := by rw [hb]; exact d4
  obtain ⟨U, hsteps, hrun, hend, hW, hsame, ce, hce, hO⟩ := X₁.ctorThrowS hexec htr (own := own) (cls := cls) (names := names) (ic := ic) hown hcls hnames hat (fun x hx => nomatch hx) hfX hkX hcellA (by rw [hT]; exact Nat.le_refl _) (msg := .ref sa) rfl
    (g := { method := m, pc := pc + 6, locals := ls, stack := .ref sa :: .ref T.heap.size :: .ref T.heap.size :: rest, locked := none }) rfl hsize rfl rfl (rest := rest) rfl
    (by rw [hb]; exact d6) (by rw [hb]; exact d9) (fun x hx => hout x hx _) hRframes (by
      show 2 * 0 + ((Value.ref T.heap.size :: rest).map fun v => v.category).sum + (13 * (names.length + 1) + 42) ≤ R.locals
      simp only [List.map_cons, List.sum_cons, hcat]; omega) hlocks
  have hthr : ny_Thr cls s T.heap.size U := by
    obtain ⟨-, h2, -, -, -, h6⟩ := id hsame
    refine ⟨ce, hce, hO.vm, hO.cls, h2, fun z hz => ?_⟩
    obtain ⟨c9, g1, g2, g3, g4⟩ := h6 z _ (Array.getElem?_eq_getElem hz)
    have hs : c9.slots = (s.heap[z]).slots := Array.ext_getElem? fun i => g4 i (fun hm => nomatch hm)
    have h9 : c9 = s.heap[z] := by
      rw [hs] at g2
      exact g2
    have g5 : U.heap[z]? = some c9 := g1
    rw [g5, h9, Array.getElem?_eq_getElem hz]
  refine ⟨U, ?_, .threw T.heap.size, hrun, hend, hx U _ hW hthr, [], ⟨hW, hsame⟩, fun q hq => nomatch hq⟩
  refine st1 _ ?_
  show Steps p.tables e below (T1.setTop { method := m, pc := pc + 3, locals := ls, stack := .ref T.heap.size :: rest, locked := none }) _
  jvm_step X₁.here [X₁.here.top, hexec, d3', Value.category]
  exact X₁.ldcString hexec (own := own) (text := text) (index := is) (a := sa) hown hstr.1 hstr.2
    (g := { method := m, pc := pc + 4, locals := ls, stack := .ref T.heap.size :: .ref T.heap.size :: rest, locked := none }) rfl d4' _ hsteps
end NyH
end
section
/-! ===== lN n to 2^64: shifts, and, or, masks, one bit ===== -/
theorem wb_tb (n : Nat) : (lN n).toBitVec = BitVec.ofNat 64 n := rfl
theorem wb_inj {a b : Int64} (h : a.toBitVec = b.toBitVec) : a = b := Int64.toBitVec_inj.mp h
theorem wb_tn {n : Nat} (h : n < 2 ^ 64) : (lN n).toBitVec.toNat = n := by rw [wb_tb, BitVec.toNat_ofNat, Nat.mod_eq_of_lt h]
theorem wb_of (x : Int64) : ∃ n, n < 2 ^ 64 ∧ x = lN n := ⟨x.toBitVec.toNat, x.toBitVec.isLt, wb_inj (by rw [wb_tb]; simp)⟩
theorem wb_of32 (x : Int32) : ∃ n, n < 2 ^ 32 ∧ x = nI n := ⟨x.toBitVec.toNat, x.toBitVec.isLt, Int32.toBitVec_inj.mp (by show _ = BitVec.ofNat 32 _; simp)⟩
theorem wb_c : ∀ k, k < 64 → ((nI k).toInt64 &&& 63) = lN k := by decide +kernel
theorem wb_cu : ∀ k, k < 64 → ((nI k).toInt64.toUInt64 &&& Int64.toUInt64 63) = UInt64.ofNat k := by decide +kernel
theorem wb_sm : ∀ k, k < 64 → (BitVec.ofNat 64 k).smod 64 = BitVec.ofNat 64 k := by decide +kernel
theorem wb_pw {a b : Nat} (h : a ≤ b) : 2 ^ b = 2 ^ a * 2 ^ (b - a) := by rw [← Nat.pow_add]; congr 1; omega
theorem wb_lt2 {a b : Nat} (h : a < b) : 2 ^ a < 2 ^ b := Nat.pow_lt_pow_right (by decide) h
theorem wb_mod (n : Nat) : lN n = lN (n % 2 ^ 64) := wb_inj (by rw [wb_tb, wb_tb]; apply BitVec.eq_of_toNat_eq; rw [BitVec.toNat_ofNat, BitVec.toNat_ofNat, Nat.mod_mod])
theorem wb_shr {n k : Nat} (hn : n < 2 ^ 64) (hk : k < 64) : ((lN n).toUInt64 >>> ((nI k).toInt64.toUInt64 &&& Int64.toUInt64 63)).toInt64 = lN (n / 2 ^ k) := by
  rw [wb_cu k hk]
  apply wb_inj
  apply BitVec.eq_of_toNat_eq
  show ((lN n).toUInt64 >>> UInt64.ofNat k).toNat = (BitVec.ofNat 64 _).toNat
  have h1 : (UInt64.ofNat k).toNat = k := by
    show (BitVec.ofNat 64 k).toNat = k
    rw [BitVec.toNat_ofNat, Nat.mod_eq_of_lt (by omega)]
  have h2 : (lN n).toUInt64.toNat = n := wb_tn hn
  rw [UInt64.toNat_shiftRight, h1, h2, Nat.mod_eq_of_lt hk, Nat.shiftRight_eq_div_pow, BitVec.toNat_ofNat, Nat.mod_eq_of_lt (Nat.lt_of_le_of_lt (Nat.div_le_self _ _) hn)]
theorem wb_shl (n : Nat) {k : Nat} (hk : k < 64) : lN n <<< ((nI k).toInt64 &&& 63) = lN (n * 2 ^ k) := by
  rw [wb_c k hk]
  apply wb_inj
  rw [Int64.toBitVec_shiftLeft, wb_tb, wb_tb, wb_tb, wb_sm k hk]
  apply BitVec.eq_of_toNat_eq
  rw [BitVec.shiftLeft_eq', BitVec.toNat_shiftLeft, BitVec.toNat_ofNat, BitVec.toNat_ofNat, BitVec.toNat_ofNat, Nat.mod_eq_of_lt (show k < 2 ^ 64 by omega), Nat.shiftLeft_eq, Nat.mul_mod, Nat.mod_mod, ← Nat.mul_mod]
theorem wb_and {a b : Nat} (ha : a < 2 ^ 64) (hb : b < 2 ^ 64) : lN a &&& lN b = lN (a &&& b) := by
  apply wb_inj
  rw [Int64.toBitVec_and, wb_tb, wb_tb, wb_tb]
  apply BitVec.eq_of_toNat_eq
  rw [BitVec.toNat_and, BitVec.toNat_ofNat, BitVec.toNat_ofNat, BitVec.toNat_ofNat, Nat.mod_eq_of_lt ha, Nat.mod_eq_of_lt hb, Nat.mod_eq_of_lt (Nat.and_lt_two_pow _ hb)]
theorem wb_or {a b : Nat} (ha : a < 2 ^ 64) (hb : b < 2 ^ 64) : lN a ||| lN b = lN (a ||| b) := by
  apply wb_inj
  rw [Int64.toBitVec_or, wb_tb, wb_tb, wb_tb]
  apply BitVec.eq_of_toNat_eq
  rw [BitVec.toNat_or, BitVec.toNat_ofNat, BitVec.toNat_ofNat, BitVec.toNat_ofNat, Nat.mod_eq_of_lt ha, Nat.mod_eq_of_lt hb, Nat.mod_eq_of_lt (Nat.or_lt_two_pow ha hb)]
theorem wb_mask {n k : Nat} (hn : n < 2 ^ 64) (hk : k < 64) : lN n &&& lN (2 ^ k - 1) = lN (n % 2 ^ k) := by
  rw [wb_and hn (by have := wb_lt2 hk; omega), Nat.and_two_pow_sub_one_eq_mod]
theorem wb_a1 {n : Nat} (hn : n < 2 ^ 64) : lN n &&& 1 = lN (n % 2) := wb_mask (k := 1) hn (by decide)
theorem wb_bit {n k : Nat} (hn : n < 2 ^ 64) (hk : k < 64) : ((lN n).toUInt64 >>> ((nI k).toInt64.toUInt64 &&& Int64.toUInt64 63)).toInt64 &&& 1 = lN (n / 2 ^ k % 2) := by
  rw [wb_shr hn hk, wb_a1 (Nat.lt_of_le_of_lt (Nat.div_le_self _ _) hn)]
theorem wb_xor {q k : Nat} (hk : k < 63) (h : 2 ^ k ≤ q) (h2 : q < 2 ^ (k + 1)) : lN q ^^^ lN (2 ^ k) = lN (q - 2 ^ k) := by
  obtain ⟨r, rfl⟩ : ∃ r, q = 2 ^ k + r := ⟨q - 2 ^ k, by omega⟩
  have hr : r < 2 ^ k := by rw [Nat.pow_succ] at h2; omega
  have hx : (2 ^ k + r) ^^^ 2 ^ k = r := by
    apply Nat.eq_of_testBit_eq
    intro i
    rw [Nat.testBit_xor, Nat.testBit_two_pow]
    rcases Nat.lt_trichotomy i k with h | h | h
    · rw [Nat.testBit_two_pow_add_gt h]
      simp [show ¬ k = i by omega]
    · subst h
      rw [Nat.testBit_two_pow_add_eq]
      simp
    · have a1 : 2 ^ (k + 1) ≤ 2 ^ i := Nat.pow_le_pow_right (by decide) h
      rw [Nat.testBit_lt_two_pow (show 2 ^ k + r < 2 ^ i by omega), Nat.testBit_lt_two_pow (show r < 2 ^ i by omega)]
      simp [show ¬ k = i by omega]
  have b1 := wb_lt2 (show k + 1 < 64 by omega)
  have b2 := wb_lt2 (show k < 64 by omega)
  apply wb_inj
  rw [Int64.toBitVec_xor, wb_tb, wb_tb, wb_tb]
  apply BitVec.eq_of_toNat_eq
  rw [BitVec.toNat_xor, BitVec.toNat_ofNat, BitVec.toNat_ofNat, BitVec.toNat_ofNat, Nat.mod_eq_of_lt (by omega : 2 ^ k + r < 2 ^ 64), Nat.mod_eq_of_lt b2, hx, Nat.add_sub_cancel_left, Nat.mod_eq_of_lt (by omega)]
/-! ===== lN: masks, 'or' of parts that don't overlap is a sum ===== -/
theorem u_tn {n : Nat} (h : n < 2 ^ 64) : (UInt64.ofNat n).toNat = n := Nat.mod_eq_of_lt h
theorem g_and {a b c : Nat} (ha : a < 2 ^ 64) (hb : b < 2 ^ 64) (hc : a &&& b = c) : lN a &&& lN b = lN c := by
  subst hc
  have h : UInt64.ofNat a &&& UInt64.ofNat b = UInt64.ofNat (a &&& b) := UInt64.toNat_inj.mp (by rw [UInt64.toNat_and, u_tn ha, u_tn hb, u_tn (Nat.and_lt_two_pow a hb)])
  have h2 := congrArg UInt64.toInt64 h
  exact h2
theorem g_and1 {a : Nat} (ha : a < 2 ^ 64) : lN a &&& 1 = lN (a % 2) := g_and (b := 1) ha (by decide) (Nat.and_two_pow_sub_one_eq_mod a 1)
theorem g_mask {a s p : Nat} (hp : 2 ^ s = p) (hs : s < 64) (ha : a < 2 ^ 64) : lN a &&& lN (p - 1) = lN (a % p) := by
  subst hp
  have := Nat.pow_lt_pow_right (show 1 < 2 by decide) hs
  exact g_and ha (by omega) (Nat.and_two_pow_sub_one_eq_mod a s)
theorem g_or {k p a b : Nat} (hp : 2 ^ k = p) (ha : a < p) (h : b * p + a < 2 ^ 64) : lN (b * p) ||| lN a = lN (b * p + a) := by
  subst hp
  have h1 : b * 2 ^ k ||| a = b * 2 ^ k + a := by rw [← Nat.shiftLeft_eq, Nat.shiftLeft_add_eq_or_of_lt ha]
  have h3 : UInt64.ofNat (b * 2 ^ k) ||| UInt64.ofNat a = UInt64.ofNat (b * 2 ^ k + a) := UInt64.toNat_inj.mp (by rw [UInt64.toNat_or, u_tn (by omega), u_tn (by omega), u_tn h, h1])
  have h2 := congrArg UInt64.toInt64 h3
  exact h2
theorem g_or' {k p a b : Nat} (hp : 2 ^ k = p) (ha : a < p) (h : a + b * p < 2 ^ 64) : lN a ||| lN (b * p) = lN (a + b * p) := by
  rw [Int64.or_comm, g_or hp ha (by omega), Nat.add_comm]
theorem g_ushr {a k p : Nat} {y : UInt64} (hy : y = UInt64.ofNat k) (hk : k < 64) (hp : 2 ^ k = p) (ha : a < 2 ^ 64) : ((lN a).toUInt64 >>> y).toInt64 = lN (a / p) := by
  subst hy hp
  have h : UInt64.ofNat a >>> UInt64.ofNat k = UInt64.ofNat (a / 2 ^ k) := UInt64.toNat_inj.mp (by rw [UInt64.toNat_shiftRight, u_tn ha, u_tn (by omega), u_tn (Nat.lt_of_le_of_lt (Nat.div_le_self _ _) ha), Nat.mod_eq_of_lt hk, Nat.shiftRight_eq_div_pow])
  have h2 := congrArg UInt64.toInt64 h
  exact h2
theorem g_shl {a k p : Nat} {y : Int64} (hy : y.toBitVec.smod 64 = BitVec.ofNat 64 k) (hk : k < 64) (hp : 2 ^ k = p) (ha : a < 2 ^ 64) : lN a <<< y = lN (a * p) := by
  subst hp
  apply Int64.toBitVec_inj.mp
  rw [Int64.toBitVec_shiftLeft, hy]
  apply BitVec.eq_of_toNat_eq
  have hb : (lN a).toBitVec.toNat = a := Nat.mod_eq_of_lt ha
  have hk' : (BitVec.ofNat 64 k).toNat = k := Nat.mod_eq_of_lt (by omega)
  have h : ((lN a).toBitVec <<< BitVec.ofNat 64 k).toNat = (a * 2 ^ k) % 2 ^ 64 := by simp only [BitVec.shiftLeft_eq', BitVec.toNat_shiftLeft, hb, hk', Nat.shiftLeft_eq]
  exact h
/-! ===== unsigned comparison by xor with the least ===== -/
theorem lN_bv (n : Nat) : (lN n).toBitVec = BitVec.ofNat 64 n := rfl
theorem lN_nat {n : Nat} (h : n < 2 ^ 64) : (lN n).toBitVec.toNat = n := by rw [lN_bv, BitVec.toNat_ofNat]; exact Nat.mod_eq_of_lt h
theorem lN_xor (a b : Nat) : lN a ^^^ lN b = lN (a ^^^ b) := by
  apply Int64.toBitVec_inj.mp; rw [Int64.toBitVec_xor, lN_bv, lN_bv, lN_bv]; apply BitVec.eq_of_getLsbD_eq; intro i hi; simp [BitVec.getLsbD_ofNat, Nat.testBit_xor, hi]
theorem lN_ti {m : Nat} (h : m < 2 ^ 64) : (lN m).toInt = if m < 2 ^ 63 then (m : Int) else (m : Int) - 2 ^ 64 := by
  have c := BitVec.toInt_eq_toNat_cond (lN m).toBitVec
  rw [lN_nat h] at c
  show (lN m).toBitVec.toInt = _
  rw [c]
  split <;> split <;> omega
theorem xor63 {x : Nat} (h : x < 2 ^ 63) : x ^^^ 2 ^ 63 = 2 ^ 63 + x := by
  apply Nat.eq_of_testBit_eq
  intro i
  rw [Nat.testBit_xor, Nat.testBit_two_pow]
  rcases Nat.lt_trichotomy i 63 with z | z | z
  · rw [Nat.testBit_two_pow_add_gt z, decide_eq_false (by omega)]; simp
  · subst z; rw [Nat.testBit_two_pow_add_eq]; simp
  · have hp : 2 ^ 64 ≤ 2 ^ i := Nat.pow_le_pow_right (by decide) z
    rw [Nat.testBit_lt_two_pow (show x < 2 ^ i by omega), Nat.testBit_lt_two_pow (show 2 ^ 63 + x < 2 ^ i by omega), decide_eq_false (by omega)]; rfl
theorem xorS {a : Nat} (h : a < 2 ^ 64) : (lN a ^^^ (-9223372036854775808)).toInt = (a : Int) - 2 ^ 63 := by
  rw [show (-9223372036854775808 : Int64) = lN (2 ^ 63) from by decide +kernel, lN_xor]
  rcases Nat.lt_or_ge a (2 ^ 63) with z | z
  · rw [xor63 z, lN_ti (by omega), if_neg (by omega)]; omega
  · obtain ⟨x, rfl⟩ : ∃ x, a = 2 ^ 63 + x := ⟨a - 2 ^ 63, by omega⟩
    rw [← xor63 (by omega), Nat.xor_assoc, Nat.xor_self, Nat.xor_zero, lN_ti (by omega), if_pos (by omega), xor63 (by omega)]; omega
theorem ultL {a b : Nat} (ha : a < 2 ^ 64) (hb : b < 2 ^ 64) : ((lN b ^^^ (-9223372036854775808)) ≤ (lN a ^^^ (-9223372036854775808))) ↔ b ≤ a := by
  rw [Int64.le_iff_toInt_le, xorS ha, xorS hb]; omega
end
section
/-! ===== worlds as blocks: N cells at the addresses T k, with the contents E k ===== -/
section Bw
def bw (N : Nat) (T : Nat → Nat) (E : Nat → va_E) : va_W := (List.range N).map (fun k => (T k, E k))
theorem bw_get {N k : Nat} {T : Nat → Nat} {E : Nat → va_E} (h : k < N) : (bw N T E)[k]? = some (T k, E k) := by
  simp [bw, h]
theorem bw_out {N k : Nat} {T : Nat → Nat} {E : Nat → va_E} (h : ¬ k < N) : (bw N T E)[k]? = none := by
  apply List.getElem?_eq_none
  simp [bw]
  omega
theorem bw_of {N k : Nat} {T : Nat → Nat} {E : Nat → va_E} {q : Nat × va_E} (h : (bw N T E)[k]? = some q) : k < N ∧ q = (T k, E k) := by
  by_cases hk : k < N
  · rw [bw_get hk] at h
    exact ⟨hk, (Option.some.inj h).symm⟩
  · rw [bw_out hk] at h
    cases h
theorem bw_set {N k : Nat} {T : Nat → Nat} {E : Nat → va_E} {e : va_E} (h : k < N) : (bw N T E).set k (T k, e) = bw N T (va_up E k e) := by
  apply List.ext_getElem?
  intro j
  rw [List.getElem?_set]
  by_cases hj : k = j
  · subst hj
    have hl : k < (bw N T E).length := by
      simp [bw]
      exact h
    rw [if_pos rfl, if_pos hl, bw_get h, va_up_self]
  · rw [if_neg hj]
    by_cases hN : j < N
    · rw [bw_get hN, bw_get hN, va_up_ne _ _ (fun q => hj q.symm)]
    · rw [bw_out hN, bw_out hN]
theorem bw_congr {N : Nat} {T : Nat → Nat} {E E' : Nat → va_E} (h : ∀ k, k < N → E k = E' k) : bw N T E = bw N T E' := by
  apply List.ext_getElem?
  intro j
  by_cases hN : j < N
  · rw [bw_get hN, bw_get hN, h j hN]
  · rw [bw_out hN, bw_out hN]
variable {D : va_G} {cl : List vw_C} {A A0 : Nat → Prop} {wc wr wd : va_W} {H H1 : Heap}
theorem nw_P1 (h : va_P D cl (wc ++ wr) H) : va_P D cl wc H := fun k q hk => h k q (by rw [List.getElem?_append_left (List.getElem?_eq_some_iff.mp hk).1]; exact hk)
theorem nw_P2 (h : va_P D cl (wc ++ wr) H) : va_P D cl wr H := fun k q hk => h (wc.length + k) q (by rw [List.getElem?_append_right (Nat.le_add_right _ _), Nat.add_sub_cancel_left]; exact hk)
theorem nw_D1 (h : va_D A (wc ++ wr)) : va_D A wc :=
  ⟨fun i j p q hi hj e => h.1 i j p q (by rw [List.getElem?_append_left (List.getElem?_eq_some_iff.mp hi).1]; exact hi) (by rw [List.getElem?_append_left (List.getElem?_eq_some_iff.mp hj).1]; exact hj) e,
   fun k q hk => h.2 k q (by rw [List.getElem?_append_left (List.getElem?_eq_some_iff.mp hk).1]; exact hk)⟩
theorem nw_D2 (h : va_D A (wc ++ wr)) : va_D A wr := by
  have g : ∀ (k : Nat) (q : Nat × va_E), wr[k]? = some q → (wc ++ wr)[wc.length + k]? = some q := fun k q hk => by
    rw [List.getElem?_append_right (Nat.le_add_right _ _), Nat.add_sub_cancel_left]; exact hk
  exact ⟨fun i j p q hi hj e => Nat.add_left_cancel (h.1 _ _ p q (g i p hi) (g j q hj) e), fun k q hk => h.2 _ q (g k q hk)⟩
/-- a cell of the one half is none of the other -/
theorem nw_ne (h : va_D A (wc ++ wr)) {i j : Nat} {p q : Nat × va_E} (hi : wc[i]? = some p) (hj : wr[j]? = some q) : p.1 ≠ q.1 := by
  intro e
  have hil : i < wc.length := (List.getElem?_eq_some_iff.mp hi).1
  have h1 : (wc ++ wr)[i]? = some p := by rw [List.getElem?_append_left hil]; exact hi
  have h2 : (wc ++ wr)[wc.length + j]? = some q := by rw [List.getElem?_append_right (Nat.le_add_right _ _), Nat.add_sub_cancel_left]; exact hj
  have := h.1 i (wc.length + j) p q h1 h2 e
  omega
theorem nw_free {H0 : Heap} {locs : List Loc} (hD : va_D A0 (wc ++ wr)) (hS : va_S A0 H0 H locs) (hA : ∀ q, H0.size ≤ q → A0 q) : ∀ q, va_A wc H.size q → A0 q := by
  intro q h
  rcases h with ⟨k, e, h⟩ | h
  · exact (nw_D1 hD).2 k (q, e) h
  · exact hA q (Nat.le_trans hS.1 h)
/-- behind a call that had the first half -/
theorem nw_join (hP : va_P D cl (wc ++ wr) H) (hD : va_D A0 (wc ++ wr)) (hk : ∀ q : Nat, q < H.size → ¬ va_A wc H.size q → H1[q]? = H[q]?) (hF : ∀ q, va_A wc H.size q → A0 q) (hP1 : va_P D cl wd H1) (hD1 : va_D (va_A wc H.size) wd) : va_P D cl (wd ++ wr) H1 ∧ va_D A0 (wd ++ wr) := by
  have apart : ∀ (k : Nat) (q : Nat × va_E), wr[k]? = some q → q.1 < H.size ∧ ¬ va_A wc H.size q.1 := by
    intro k q hq
    have hl := (nw_P2 hP k q hq).lt
    refine ⟨hl, fun h => ?_⟩
    rcases h with ⟨k2, e, h⟩ | h
    · exact nw_ne hD h hq rfl
    · omega
  refine ⟨va_P.app hP1 (fun k q hq => (nw_P2 hP k q hq).kept (hk q.1 (apart k q hq).1 (apart k q hq).2)), va_D.app (hD1.weaken (fun k q _ h => hF q.1 h)) (nw_D2 hD) (fun i j x y hx hy hxy => ?_)⟩
  exact (apart j y hy).2 (by rw [← hxy]; exact hD1.2 i x hx)
theorem nw_Psw (h : va_P D cl (wc ++ wr) H) : va_P D cl (wr ++ wc) H := va_P.app (nw_P2 h) (nw_P1 h)
theorem nw_Dsw (h : va_D A (wc ++ wr)) : va_D A (wr ++ wc) := va_D.app (nw_D2 h) (nw_D1 h) (fun i j p q hi hj e => nw_ne h hj hi e.symm)
end Bw
end
section
/-! ===== one list of words for all methods: the good ones of the tables; calls by it ===== -/
section Nz
def nzG : List Cond := lw_tbl.filter goodWord
theorem nzG_good : ∀ w ∈ nzG, goodWord w = true := fun w h => (List.mem_filter.mp h).2
theorem nzG_tbl : ∀ w ∈ nzG, w ∈ lw_tbl := fun w h => (List.mem_filter.mp h).1
theorem nz_pay {args : Array Value} {s : State} (h : ∀ w ∈ nzG, w.before args s = true) {w0 : Cond} (h0 : w0 ∈ nzG) : ∀ w ∈ w0 :: nzG, ∀ (a' : Array Value) (U : State), s.WarmedH U.vm → w.before a' U = true := fun w hw a' U hW => by
  rcases List.mem_cons.mp hw with e | e
  · rw [e]; exact word_at hW (good_of_word (nzG_good w0 h0)) (h w0 h0)
  · exact word_at hW (good_of_word (nzG_good w e)) (h w e)
/-- a static call, by its words -/
def nzS (own : String) (i : Nat) (y : MethodName) (b : ByteArray) (mL : Nat) (r : Option FieldType) (n : Nat) : Prop :=
  Cond.methodLink own i y ∈ nzG ∧ Cond.static y ∈ nzG ∧ Cond.initialized y.cls ∈ nzG ∧ Cond.code y b mL r ∈ nzG ∧ (y.cls ≠ "java/lang/invoke/MethodHandle" ∧ y.cls ≠ "java/lang/invoke/VarHandle") ∧ (parseMethodDescriptor y.desc).map (fun d => d.parameters.length) = some n
/-- a virtual call, by its words -/
def nzV (own : String) (i : Nat) (C : String) (y : MethodName) (b : ByteArray) (mL : Nat) (r : Option FieldType) (n : Nat) : Prop :=
  Cond.methodLink own i y ∈ nzG ∧ Cond.instanceMethod y ∈ nzG ∧ Cond.selects C y y ∈ nzG ∧ Cond.initialized y.cls ∈ nzG ∧ Cond.code y b mL r ∈ nzG ∧ (y.cls ≠ "java/lang/invoke/MethodHandle" ∧ y.cls ≠ "java/lang/invoke/VarHandle") ∧ (parseMethodDescriptor y.desc).map (fun d => d.parameters.length) = some n
variable {p : Program} {l : Launch} {e : Env} {R : Room} {s : State} {m : MethodId} {args : Array Value} {below : List Frame} {meth : Method} {c : Code} {H : Heap} {locs : List Loc} {cells slots : Nat} {Q : State → Prop}
variable {own C : String} {i : Nat} {y : MethodName} {b cc : ByteArray} {mL nL n mc ms pc : Nat} {r : Option FieldType} {rm : Room} {As rest st0 : List Value} {ls : Array Slot}
theorem nzS.cb (h : nzS own i y b mL r n) (hts : ∀ w ∈ nzG, w.before args s = true) (hrc : rm.cells = mc) (hrs : rm.slots = ms) (hR : rm.frames + 1 ≤ R.frames ∧ 8 + (mL + 11) + rm.locals ≤ R.locals) : CallB R s args own i y b mL r (Cond.code y b mL r :: nzG) rm mc ms n ∧ (Cond.static y).before args s = true := by
  obtain ⟨h1, h2, h3, h4, h5, h6⟩ := h
  refine ⟨⟨hrc, hrs, hR.1, hR.2, nz_pay hts h4, List.mem_cons_self, hts _ h4, hts _ h3, h5, fun sig hs => ?_, hts _ h1⟩, hts _ h2⟩
  rw [hs] at h6
  exact (Option.some.inj h6).symm
theorem nzV.cb (h : nzV own i C y b mL r n) (hts : ∀ w ∈ nzG, w.before args s = true) (hrc : rm.cells = mc) (hrs : rm.slots = ms) (hR : rm.frames + 1 ≤ R.frames ∧ 8 + (mL + 11) + rm.locals ≤ R.locals) : CallW R s args own C i y b mL r (Cond.code y b mL r :: nzG) rm mc ms n := by
  obtain ⟨h1, h2, h3, h4, h5, h6, h7⟩ := h
  refine ⟨⟨hrc, hrs, hR.1, hR.2, nz_pay hts h5, List.mem_cons_self, hts _ h5, hts _ h4, h6, fun sig hs => ?_, hts _ h1⟩, hts _ h2, hts _ h3⟩
  rw [hs] at h7
  exact (Option.some.inj h7).symm
/-- the callee's room fits mine -/
def nzR (rm R : Room) (mL k n : Nat) : Prop := rm.cells = k ∧ rm.slots = n ∧ rm.frames + 1 ≤ R.frames ∧ 8 + (mL + 11) + rm.locals ≤ R.locals
variable {Pre : State → Prop}
/-- a call of a static method that reads alone: an int comes back -/
theorem nz_si {post : Int32 → Prop} (S : CallFix p m c cc nL s args nzG own) (hM : Met l y (Cond.code y b mL r :: nzG) rm (va_Pc As Pre) (vp_Si post) 0 0 (fun _ => False)) (hw : nzS own i y b mL r n) (hR : nzR rm R mL 0 0) (hc : cells ≤ R.cells ∧ slots ≤ R.slots)
    (hbl : ∀ (a : Array Value) (U : State) (g : JFrame) (mk : MethodId), Pre U → Pre (U.calling g mk a)) (hpre : ∀ U : State, U.heap = H → s.WarmedH U.vm → Pre U)
    (hn : As.length = n) (hsz : ls.size = nL) (hst : st0 = As.reverse ++ rest) (hW : (rest.map fun v => v.category).sum ≤ 8) (hdg : decode cc pc = .ok (.invokestatic i, 3))
    (kk : ∀ r9 : Int32, post r9 → W p l e R s m args below meth c H locs cells slots Q (F0 m (pc + 3) ls (.int r9 :: rest))) : W p l e R s m args below meth c H locs cells slots Q (F0 m pc ls st0) :=
  vp_callSi (W.runS S hM (hw.cb S.2.2.2.2 hR.1 hR.2.1 hR.2.2) ⟨fun a U g mk q => ⟨q.1, hbl a U g mk q.2⟩, fun U hU hW => ⟨rfl, hpre U hU hW⟩⟩ rfl hn hsz hst (lv_room hW) hdg hc) kk
theorem nz_sl {post : Int64 → Prop} (S : CallFix p m c cc nL s args nzG own) (hM : Met l y (Cond.code y b mL r :: nzG) rm (va_Pc As Pre) (vp_Sl post) 0 0 (fun _ => False)) (hw : nzS own i y b mL r n) (hR : nzR rm R mL 0 0) (hc : cells ≤ R.cells ∧ slots ≤ R.slots)
    (hbl : ∀ (a : Array Value) (U : State) (g : JFrame) (mk : MethodId), Pre U → Pre (U.calling g mk a)) (hpre : ∀ U : State, U.heap = H → s.WarmedH U.vm → Pre U)
    (hn : As.length = n) (hsz : ls.size = nL) (hst : st0 = As.reverse ++ rest) (hW : (rest.map fun v => v.category).sum ≤ 8) (hdg : decode cc pc = .ok (.invokestatic i, 3))
    (kk : ∀ r9 : Int64, post r9 → W p l e R s m args below meth c H locs cells slots Q (F0 m (pc + 3) ls (.long r9 :: rest))) : W p l e R s m args below meth c H locs cells slots Q (F0 m pc ls st0) :=
  vp_callSl (W.runS S hM (hw.cb S.2.2.2.2 hR.1 hR.2.1 hR.2.2) ⟨fun a U g mk q => ⟨q.1, hbl a U g mk q.2⟩, fun U hU hW => ⟨rfl, hpre U hU hW⟩⟩ rfl hn hsz hst (lv_room hW) hdg hc) kk
/-- .. of a virtual one, on the object o -/
theorem nz_vi {post : Int32 → Prop} {o : Nat} (S : CallFix p m c cc nL s args nzG own) (hM : Met l y (Cond.code y b mL r :: nzG) rm (va_Pc (.ref o :: As) Pre) (vp_Si post) 0 0 (fun _ => False)) (hw : nzV own i C y b mL r n) (hR : nzR rm R mL 0 0) (hc : cells ≤ R.cells ∧ slots ≤ R.slots)
    (hbl : ∀ (a : Array Value) (U : State) (g : JFrame) (mk : MethodId), Pre U → Pre (U.calling g mk a)) (hob : ∃ cellB : Cell, H[o]? = some cellB ∧ cellB.vm.isStatics = false ∧ s.vm.findClass C = some cellB.cls) (hpre : ∀ U : State, U.heap = H → s.WarmedH U.vm → Pre U)
    (hn : As.length = n) (hsz : ls.size = nL) (hst : st0 = As.reverse ++ .ref o :: rest) (hW : (rest.map fun v => v.category).sum ≤ 8) (hdg : decode cc pc = .ok (.invokevirtual i, 3))
    (kk : ∀ r9 : Int32, post r9 → W p l e R s m args below meth c H locs cells slots Q (F0 m (pc + 3) ls (.int r9 :: rest))) : W p l e R s m args below meth c H locs cells slots Q (F0 m pc ls st0) :=
  vp_callSi (W.runV S hM (hw.cb S.2.2.2.2 hR.1 hR.2.1 hR.2.2) ⟨fun a U g mk q => ⟨q.1, hbl a U g mk q.2⟩, hob, fun U hU hW => ⟨rfl, hpre U hU hW⟩⟩ rfl hn hsz hst (lv_room hW) hdg hc) kk
theorem nz_vl {post : Int64 → Prop} {o : Nat} (S : CallFix p m c cc nL s args nzG own) (hM : Met l y (Cond.code y b mL r :: nzG) rm (va_Pc (.ref o :: As) Pre) (vp_Sl post) 0 0 (fun _ => False)) (hw : nzV own i C y b mL r n) (hR : nzR rm R mL 0 0) (hc : cells ≤ R.cells ∧ slots ≤ R.slots)
    (hbl : ∀ (a : Array Value) (U : State) (g : JFrame) (mk : MethodId), Pre U → Pre (U.calling g mk a)) (hob : ∃ cellB : Cell, H[o]? = some cellB ∧ cellB.vm.isStatics = false ∧ s.vm.findClass C = some cellB.cls) (hpre : ∀ U : State, U.heap = H → s.WarmedH U.vm → Pre U)
    (hn : As.length = n) (hsz : ls.size = nL) (hst : st0 = As.reverse ++ .ref o :: rest) (hW : (rest.map fun v => v.category).sum ≤ 8) (hdg : decode cc pc = .ok (.invokevirtual i, 3))
    (kk : ∀ r9 : Int64, post r9 → W p l e R s m args below meth c H locs cells slots Q (F0 m (pc + 3) ls (.long r9 :: rest))) : W p l e R s m args below meth c H locs cells slots Q (F0 m pc ls st0) :=
  vp_callSl (W.runV S hM (hw.cb S.2.2.2.2 hR.1 hR.2.1 hR.2.2) ⟨fun a U g mk q => ⟨q.1, hbl a U g mk q.2⟩, hob, fun U hU hW => ⟨rfl, hpre U hU hW⟩⟩ rfl hn hsz hst (lv_room hW) hdg hc) kk
theorem nz_eqi {x y : Int32} (h : x = y) (k : W p l e R s m args below meth c H locs cells slots Q (F0 m pc ls (.int y :: rest))) : W p l e R s m args below meth c H locs cells slots Q (F0 m pc ls (.int x :: rest)) := h ▸ k
theorem nz_eql {x y : Int64} (h : x = y) (k : W p l e R s m args below meth c H locs cells slots Q (F0 m pc ls (.long y :: rest))) : W p l e R s m args below meth c H locs cells slots Q (F0 m pc ls (.long x :: rest)) := h ▸ k
/-- a contract out of the walk of its body -/
theorem nz_of {Pc : Array Value → State → Prop} {Qc : Array Value → State → Outcome → State → Prop} {free : Addr → Prop} (hy : plainName y.cls = true) (ho : y.cls = own)
    (body : ∀ (p : Program) (e : Env) (s : State) (m : MethodId) (args : Array Value) (below : List Frame) (meth : Method) (c : Code), CallFix p m c b mL s args nzG own → meth.sig.returnType = r → meth.locks = false → meth.name = y.name → Pc args s →
      W p l e rm s m args below meth c s.heap [] 0 0 (MQ below Qc args s mc ms free) (entryFrame m args mL)) : Met l y (Cond.code y b mL r :: nzG) rm Pc Qc mc ms free := by
  refine Met.ofW (cc := b) (maxL := mL) (ret := r) hy rfl ?_
  intro p e s m args below meth c s₁ B hml hP
  exact body p e s m args below meth c ⟨B.exec, B.bytes, hml, by rw [← ho]; exact findClass_of_methodNamed B.named, fun w h => atoms_spec B.pre w (List.mem_cons_of_mem _ h)⟩ B.returns B.notSynchronized (name_of_methodNamed B.named B.method).1 hP
/-- .. of one that may throw -/
theorem nz_ofT {Pc : Array Value → State → Prop} {Qc : Array Value → State → Outcome → State → Prop} {free : Addr → Prop} {k0 n0 : Nat} (hy : plainName y.cls = true) (ho : y.cls = own)
    (body : ∀ (p : Program) (e : Env) (s : State) (m : MethodId) (args : Array Value) (below : List Frame) (meth : Method) (c : Code), CallFix p m c b mL s args nzG own → meth.sig.returnType = r → meth.locks = false → (∀ x ∈ c.exceptionTable.toList, ∀ pc, covers x pc = false) → Pc args s →
      W p l e rm s m args below meth c s.heap [] 0 0 (ny_MQ below Qc args s k0 n0 mc ms free) (entryFrame m args mL)) : ny_Met l y (Cond.code y b mL r :: nzG) rm Pc Qc k0 n0 mc ms free := by
  refine ny_ofW (cc := b) (maxL := mL) (ret := r) hy rfl ?_
  intro p e s m args below meth c s₁ B hml hno hP
  exact body p e s m args below meth c ⟨B.exec, B.bytes, hml, by rw [← ho]; exact findClass_of_methodNamed B.named, fun w h => atoms_spec B.pre w (List.mem_cons_of_mem _ h)⟩ B.returns B.notSynchronized hno hP
theorem nz_entry {vs : List Value} {lv : List (Nat × Value)} (h : (lg_sl vs).length ≤ n) (he : lv_args 0 vs = lv) (k : ∀ ls : Array Slot, lv_has ls n lv → W p l e R s m args below meth c H locs cells slots Q (F0 m 0 ls [])) : W p l e R s m args below meth c H locs cells slots Q (entryFrame m vs.toArray n) := by
  rw [lg_entry_eq]
  exact k _ (he ▸ lv_entry vs h)
end Nz
end
section
theorem nz_at {w : Cond} (i : Nat) (h : tables_1[i]? = some w) (hg : goodWord w = true) : w ∈ nzG := List.mem_filter.mpr ⟨List.mem_append_right _ (List.mem_of_getElem? h), hg⟩
theorem nz_pv {w : Cond} (i : Nat) (h : (k2_sels lw_privs)[i]? = some w) (hg : goodWord w = true := by rfl) : w ∈ nzG := List.mem_filter.mpr ⟨List.mem_append_left _ (List.mem_of_getElem? h), hg⟩
def nmSp (E : String) : List Cond := [.isRef (.static Bundle.tN "UNASSIGNED_STACK" Bundle.steD), .isRef (.static Bundle.tN "SUPPRESSED_SENTINEL" Bundle.listD), .laysStatic Bundle.tN "UNASSIGNED_STACK" Bundle.steD, .laysStatic Bundle.tN "SUPPRESSED_SENTINEL" Bundle.listD, .castable E E, .declares (Bundle.initS "java/lang/RuntimeException"), .declares (Bundle.initS "java/lang/Exception"), .declares (Bundle.initS Bundle.tN)]
theorem kat_of {L sp : List Cond} (ps : List Nat) (hp : L = ps.filterMap (fun i => (sp ++ tables_1)[i]?)) (hg : L.all (fun w => goodWord w || sp.any (fun x => decide (w = x))) = true) : ∀ w ∈ L, w ∈ sp ∨ w ∈ nzG := by
  intro w hw
  have h1 := List.all_eq_true.mp hg w hw
  rw [hp] at hw
  obtain ⟨i, -, hi⟩ := List.mem_filterMap.mp hw
  rcases List.mem_append.mp (List.mem_of_getElem? hi) with h | h
  · exact Or.inl h
  · rcases (Bool.or_eq_true _ _).mp h1 with g | g
    · exact Or.inr (List.mem_filter.mpr ⟨List.mem_append_right _ h, g⟩)
    · obtain ⟨x, hx, e⟩ := List.any_eq_true.mp g
      rw [of_decide_eq_true e]
      exact Or.inl hx
set_option maxRecDepth 100000 in
theorem in_W : ∀ w ∈ u_ws RW FW 2, w ∈ nzG := by decide +kernel
set_option maxRecDepth 100000 in
theorem in_N : ∀ w ∈ u_ws RN FN 2, w ∈ nzG := by decide +kernel
set_option maxRecDepth 100000 in
theorem in_M : ∀ w ∈ u_ws RM FM 5, w ∈ nzG := by decide +kernel
set_option maxRecDepth 100000 in
theorem kWire_9 : nzS RI 9 yWire_isLow bWire_isLow 1 (some .boolean) 1 := ⟨nz_at 205 (by decide +kernel) rfl, nz_at 206 (by decide +kernel) rfl, nz_at 9 (by decide +kernel) rfl, nz_at 207 (by decide +kernel) rfl, by decide, by decide +kernel⟩
set_option maxRecDepth 100000 in
theorem kWire_15 : nzS RI 15 yWire_isHigh bWire_isHigh 1 (some .boolean) 1 := ⟨nz_at 208 (by decide +kernel) rfl, nz_at 209 (by decide +kernel) rfl, nz_at 9 (by decide +kernel) rfl, nz_at 210 (by decide +kernel) rfl, by decide, by decide +kernel⟩
set_option maxRecDepth 100000 in
theorem kWire_18 : nzS RI 18 yWire_drive bWire_drive 4 (some .int) 2 := ⟨nz_at 253 (by decide +kernel) rfl, nz_at 254 (by decide +kernel) rfl, nz_at 9 (by decide +kernel) rfl, nz_at 255 (by decide +kernel) rfl, by decide, by decide +kernel⟩
set_option maxRecDepth 100000 in
theorem kWire_22 : nzS RI 22 yWire_and bWire_and 2 (some .int) 2 := ⟨nz_at 256 (by decide +kernel) rfl, nz_at 257 (by decide +kernel) rfl, nz_at 9 (by decide +kernel) rfl, nz_at 258 (by decide +kernel) rfl, by decide, by decide +kernel⟩
set_option maxRecDepth 100000 in
theorem kWire_25 : nzS RI 25 yWire_or bWire_or 2 (some .int) 2 := ⟨nz_at 259 (by decide +kernel) rfl, nz_at 260 (by decide +kernel) rfl, nz_at 9 (by decide +kernel) rfl, nz_at 261 (by decide +kernel) rfl, by decide, by decide +kernel⟩
set_option maxRecDepth 100000 in
theorem kWire_28 : nzS RI 28 yWire_xor bWire_xor 2 (some .int) 2 := ⟨nz_at 262 (by decide +kernel) rfl, nz_at 263 (by decide +kernel) rfl, nz_at 9 (by decide +kernel) rfl, nz_at 264 (by decide +kernel) rfl, by decide, by decide +kernel⟩
set_option maxRecDepth 100000 in
theorem kWire_31 : nzS RI 31 yWire_not bWire_not 1 (some .int) 1 := ⟨nz_at 266 (by decide +kernel) rfl, nz_at 267 (by decide +kernel) rfl, nz_at 9 (by decide +kernel) rfl, nz_at 268 (by decide +kernel) rfl, by decide, by decide +kernel⟩
set_option maxRecDepth 100000 in
theorem kWire_35 : nzS RI 35 yWire_isClear bWire_isClear 1 (some .boolean) 1 := ⟨nz_at 265 (by decide +kernel) rfl, nz_at 203 (by decide +kernel) rfl, nz_at 9 (by decide +kernel) rfl, nz_at 204 (by decide +kernel) rfl, by decide, by decide +kernel⟩
set_option maxRecDepth 100000 in
theorem kW_oi : Cond.methodLink RW 3 Lib.objectInit ∈ nzG ∧ Cond.instanceMethod Lib.objectInit ∈ nzG ∧ Cond.code Lib.objectInit ⟨#[0xb1]⟩ 1 none ∈ nzG := ⟨nz_at 27 (by decide +kernel) rfl, nz_at 19 (by decide +kernel) rfl, nz_at 20 (by decide +kernel) rfl⟩
abbrev fW_size : Nat := 9
set_option maxRecDepth 100000 in
theorem fl_W_size : Cond.fieldLink RW 9 "NineValues$Word" "size" "I" ∈ nzG := nz_at 28 (by decide +kernel) rfl
abbrev fW_elements : Nat := 15
set_option maxRecDepth 100000 in
theorem fl_W_elements : Cond.fieldLink RW 15 "NineValues$Word" "elements" "[I" ∈ nzG := nz_at 30 (by decide +kernel) rfl
set_option maxRecDepth 100000 in
theorem kWord_19 : nzV RW 19 RW yWord_lay bWord_lay 6 none 4 := ⟨nz_at 331 (by decide +kernel) rfl, nz_at 274 (by decide +kernel) rfl, nz_at 275 (by decide +kernel) rfl, nz_at 2 (by decide +kernel) rfl, nz_at 276 (by decide +kernel) rfl, by decide, by decide +kernel⟩
set_option maxRecDepth 100000 in
theorem kWord_23 : nzS RW 23 yWire_isClear bWire_isClear 1 (some .boolean) 1 := ⟨nz_at 202 (by decide +kernel) rfl, nz_at 203 (by decide +kernel) rfl, nz_at 9 (by decide +kernel) rfl, nz_at 204 (by decide +kernel) rfl, by decide, by decide +kernel⟩
set_option maxRecDepth 100000 in
theorem kWord_29 : nzV RW 29 RW yWord_isClear bWord_isClear 2 (some .boolean) 0 := ⟨nz_at 291 (by decide +kernel) rfl, nz_at 199 (by decide +kernel) rfl, nz_at 200 (by decide +kernel) rfl, nz_at 2 (by decide +kernel) rfl, nz_at 201 (by decide +kernel) rfl, by decide, by decide +kernel⟩
set_option maxRecDepth 100000 in
theorem kWord_32 : nzV RW 32 RW yWord_last bWord_last 1 (some .int) 0 := ⟨nz_at 231 (by decide +kernel) rfl, nz_at 232 (by decide +kernel) rfl, nz_at 233 (by decide +kernel) rfl, nz_at 2 (by decide +kernel) rfl, nz_at 234 (by decide +kernel) rfl, by decide, by decide +kernel⟩
set_option maxRecDepth 100000 in
theorem kWord_36 : nzS RW 36 yWire_isHigh bWire_isHigh 1 (some .boolean) 1 := ⟨nz_at 235 (by decide +kernel) rfl, nz_at 209 (by decide +kernel) rfl, nz_at 9 (by decide +kernel) rfl, nz_at 210 (by decide +kernel) rfl, by decide, by decide +kernel⟩
set_option maxRecDepth 100000 in
theorem kWord_39 : nzS RW 39 yWire_join bWire_join 3 (some .int) 3 := ⟨nz_at 419 (by decide +kernel) rfl, nz_at 251 (by decide +kernel) rfl, nz_at 9 (by decide +kernel) rfl, nz_at 252 (by decide +kernel) rfl, by decide, by decide +kernel⟩
set_option maxRecDepth 100000 in
theorem kN_oi : Cond.methodLink RN 1 Lib.objectInit ∈ nzG ∧ Cond.instanceMethod Lib.objectInit ∈ nzG ∧ Cond.code Lib.objectInit ⟨#[0xb1]⟩ 1 none ∈ nzG := ⟨nz_at 18 (by decide +kernel) rfl, nz_at 19 (by decide +kernel) rfl, nz_at 20 (by decide +kernel) rfl⟩
abbrev fN_places : Nat := 11
set_option maxRecDepth 100000 in
theorem fl_N_places : Cond.fieldLink RN 11 "NineValues" "places" "[LNineValues$Word;" ∈ nzG := nz_at 38 (by decide +kernel) rfl
abbrev nmK : Nat := 9
set_option maxRecDepth 100000 in
theorem kN_clW : Cond.classLink RN 9 RW ∈ nzG := nz_at 21 (by decide +kernel) rfl
abbrev nmI : Nat := 15
abbrev fN_answer : Nat := 16
set_option maxRecDepth 100000 in
theorem fl_N_answer : Cond.fieldLink RN 16 "NineValues" "answer" "LNineValues$Word;" ∈ nzG := nz_at 39 (by decide +kernel) rfl
set_option maxRecDepth 100000 in
theorem kN_20 : nzS RN 20 yN_requirePlace bN_requirePlace 1 none 1 := ⟨nz_at 54 (by decide +kernel) rfl, nz_at 55 (by decide +kernel) rfl, nz_at 1 (by decide +kernel) rfl, nz_at 56 (by decide +kernel) rfl, by decide, by decide +kernel⟩
set_option maxRecDepth 100000 in
theorem kN_24 : nzS RN 24 yN_requireLength bN_requireLength 1 none 1 := ⟨nz_at 126 (by decide +kernel) rfl, nz_at 127 (by decide +kernel) rfl, nz_at 1 (by decide +kernel) rfl, nz_at 128 (by decide +kernel) rfl, by decide, by decide +kernel⟩
set_option maxRecDepth 100000 in
theorem kN_27 : nzS RN 27 yN_requireValue bN_requireValue 1 none 1 := ⟨nz_at 145 (by decide +kernel) rfl, nz_at 146 (by decide +kernel) rfl, nz_at 1 (by decide +kernel) rfl, nz_at 147 (by decide +kernel) rfl, by decide, by decide +kernel⟩
set_option maxRecDepth 100000 in
theorem kN_30 : nzV RN 30 RW yWord_become bWord_become 4 none 2 := ⟨nz_at 149 (by decide +kernel) rfl, nz_at 150 (by decide +kernel) rfl, nz_at 151 (by decide +kernel) rfl, nz_at 2 (by decide +kernel) rfl, nz_at 152 (by decide +kernel) rfl, by decide, by decide +kernel⟩
set_option maxRecDepth 100000 in
theorem kN_34 : nzV RN 34 RN yN_requireElement bN_requireElement 3 none 2 := ⟨nz_at 160 (by decide +kernel) rfl, nz_at 162 (by decide +kernel) rfl, nz_pv 1 (by decide +kernel), nz_at 1 (by decide +kernel) rfl, nz_at 163 (by decide +kernel) rfl, by decide, by decide +kernel⟩
abbrev fN_elements : Nat := 37
abbrev fN_size : Nat := 41
set_option maxRecDepth 100000 in
theorem kN_45 : nzV RN 45 RW yWord_hold bWord_hold 5 none 2 := ⟨nz_at 186 (by decide +kernel) rfl, nz_at 187 (by decide +kernel) rfl, nz_at 188 (by decide +kernel) rfl, nz_at 2 (by decide +kernel) rfl, nz_at 189 (by decide +kernel) rfl, by decide, by decide +kernel⟩
set_option maxRecDepth 100000 in
theorem kN_49 : nzV RN 49 RW yWord_isClear bWord_isClear 2 (some .boolean) 0 := ⟨nz_at 198 (by decide +kernel) rfl, nz_at 199 (by decide +kernel) rfl, nz_at 200 (by decide +kernel) rfl, nz_at 2 (by decide +kernel) rfl, nz_at 201 (by decide +kernel) rfl, by decide, by decide +kernel⟩
set_option maxRecDepth 100000 in
theorem kcl_53 : Cond.classLink RN 53 "java/lang/IllegalStateException" ∈ nzG := nz_at 211 (by decide +kernel) rfl
set_option maxRecDepth 100000 in
theorem kin_eIS : Cond.initialized "java/lang/IllegalStateException" ∈ nzG := nz_at 10 (by decide +kernel) rfl
set_option maxRecDepth 100000 in
theorem kat_eIS : ∀ w ∈ Bundle.ownAtoms RN 57 "java/lang/IllegalStateException" ["java/lang/RuntimeException", "java/lang/Exception"], w ∈ nmSp "java/lang/IllegalStateException" ∨ w ∈ nzG := kat_of [12, 87, 96, 101, 104, 106, 88, 89, 27, 28, 90, 95, 102, 122, 77, 123, 79, 124, 81, 91, 2, 93, 3, 83, 118, 119, 121, 83, 230, 231, 232, 112, 5, 112, 113, 114, 115, 6, 115, 116, 117, 118, 7, 229, 220, 4, 222, 100, 223, 224, 225, 226, 0, 1, 86, 85, 227] (by decide +kernel) (by decide +kernel)
set_option maxRecDepth 100000 in
theorem kN_60 : nzV RN 60 RW yWord_asLong bWord_asLong 7 (some .long) 1 := ⟨nz_at 227 (by decide +kernel) rfl, nz_at 228 (by decide +kernel) rfl, nz_at 229 (by decide +kernel) rfl, nz_at 2 (by decide +kernel) rfl, nz_at 230 (by decide +kernel) rfl, by decide, by decide +kernel⟩
set_option maxRecDepth 100000 in
theorem kcl_64 : Cond.classLink RN 64 "java/lang/IllegalArgumentException" ∈ nzG := nz_at 129 (by decide +kernel) rfl
set_option maxRecDepth 100000 in
theorem kin_eIA : Cond.initialized "java/lang/IllegalArgumentException" ∈ nzG := nz_at 8 (by decide +kernel) rfl
set_option maxRecDepth 100000 in
theorem kat_eIA : ∀ w ∈ Bundle.ownAtoms RN 68 "java/lang/IllegalArgumentException" ["java/lang/RuntimeException", "java/lang/Exception"], w ∈ nmSp "java/lang/IllegalArgumentException" ∨ w ∈ nzG := kat_of [12, 87, 96, 101, 104, 106, 88, 89, 27, 28, 90, 95, 102, 122, 77, 123, 79, 124, 81, 91, 2, 93, 3, 83, 118, 119, 121, 83, 148, 149, 150, 112, 5, 112, 113, 114, 115, 6, 115, 116, 117, 118, 7, 147, 138, 4, 140, 99, 141, 142, 143, 144, 0, 1, 86, 85, 145] (by decide +kernel) (by decide +kernel)
set_option maxRecDepth 100000 in
theorem kN_69 : nzV RN 69 RN yN_joinElements bN_joinElements 5 none 3 := ⟨nz_at 245 (by decide +kernel) rfl, nz_at 247 (by decide +kernel) rfl, nz_pv 2 (by decide +kernel), nz_at 1 (by decide +kernel) rfl, nz_at 248 (by decide +kernel) rfl, by decide, by decide +kernel⟩
set_option maxRecDepth 100000 in
theorem kN_73 : nzV RN 73 RN yN_setBehind bN_setBehind 3 none 2 := ⟨nz_at 269 (by decide +kernel) rfl, nz_at 271 (by decide +kernel) rfl, nz_pv 3 (by decide +kernel), nz_at 1 (by decide +kernel) rfl, nz_at 272 (by decide +kernel) rfl, by decide, by decide +kernel⟩
set_option maxRecDepth 100000 in
theorem kN_77 : nzV RN 77 RN yN_calculate bN_calculate 10 none 4 := ⟨nz_at 277 (by decide +kernel) rfl, nz_at 279 (by decide +kernel) rfl, nz_pv 4 (by decide +kernel), nz_at 1 (by decide +kernel) rfl, nz_at 280 (by decide +kernel) rfl, by decide, by decide +kernel⟩
set_option maxRecDepth 100000 in
theorem kN_81 : nzV RN 81 RW yWord_copy bWord_copy 2 none 1 := ⟨nz_at 327 (by decide +kernel) rfl, nz_at 328 (by decide +kernel) rfl, nz_at 329 (by decide +kernel) rfl, nz_at 2 (by decide +kernel) rfl, nz_at 330 (by decide +kernel) rfl, by decide, by decide +kernel⟩
set_option maxRecDepth 100000 in
theorem kN_87 : nzV RN 87 RN yN_changeElements bN_changeElements 5 none 2 := ⟨nz_at 340 (by decide +kernel) rfl, nz_at 342 (by decide +kernel) rfl, nz_pv 5 (by decide +kernel), nz_at 1 (by decide +kernel) rfl, nz_at 343 (by decide +kernel) rfl, by decide, by decide +kernel⟩
set_option maxRecDepth 100000 in
theorem kN_91 : nzV RN 91 RN yN_changeNumber bN_changeNumber 5 none 2 := ⟨nz_at 348 (by decide +kernel) rfl, nz_at 350 (by decide +kernel) rfl, nz_pv 6 (by decide +kernel), nz_at 1 (by decide +kernel) rfl, nz_at 351 (by decide +kernel) rfl, by decide, by decide +kernel⟩
set_option maxRecDepth 100000 in
theorem kN_98 : nzV RN 98 RN yN_turnRound bN_turnRound 4 none 2 := ⟨nz_at 361 (by decide +kernel) rfl, nz_at 363 (by decide +kernel) rfl, nz_pv 7 (by decide +kernel), nz_at 1 (by decide +kernel) rfl, nz_at 364 (by decide +kernel) rfl, by decide, by decide +kernel⟩
set_option maxRecDepth 100000 in
theorem kN_101 : nzV RN 101 RW yWord_last bWord_last 1 (some .int) 0 := ⟨nz_at 368 (by decide +kernel) rfl, nz_at 232 (by decide +kernel) rfl, nz_at 233 (by decide +kernel) rfl, nz_at 2 (by decide +kernel) rfl, nz_at 234 (by decide +kernel) rfl, by decide, by decide +kernel⟩
set_option maxRecDepth 100000 in
theorem kN_105 : nzV RN 105 RN yN_move bN_move 6 none 3 := ⟨nz_at 369 (by decide +kernel) rfl, nz_at 371 (by decide +kernel) rfl, nz_pv 8 (by decide +kernel), nz_at 1 (by decide +kernel) rfl, nz_at 372 (by decide +kernel) rfl, by decide, by decide +kernel⟩
set_option maxRecDepth 100000 in
theorem kN_min : Cond.methodLink RN 109 Lib.Math.min.name ∈ nzG ∧ Cond.static Lib.Math.min.name ∈ nzG ∧ Cond.initialized "java/lang/Math" ∈ nzG ∧ Cond.code Lib.Math.min.name Lib.Math.min.code 2 (some .int) ∈ nzG := ⟨nz_at 380 (by decide +kernel) rfl, nz_at 381 (by decide +kernel) rfl, nz_at 11 (by decide +kernel) rfl, nz_at 382 (by decide +kernel) rfl⟩
set_option maxRecDepth 100000 in
theorem kN_115 : nzV RN 115 RW yWord_lay bWord_lay 6 none 4 := ⟨nz_at 273 (by decide +kernel) rfl, nz_at 274 (by decide +kernel) rfl, nz_at 275 (by decide +kernel) rfl, nz_at 2 (by decide +kernel) rfl, nz_at 276 (by decide +kernel) rfl, by decide, by decide +kernel⟩
set_option maxRecDepth 100000 in
theorem kcl_119 : Cond.classLink RN 119 "java/lang/IndexOutOfBoundsException" ∈ nzG := nz_at 57 (by decide +kernel) rfl
set_option maxRecDepth 100000 in
theorem kin_eIO : Cond.initialized "java/lang/IndexOutOfBoundsException" ∈ nzG := nz_at 7 (by decide +kernel) rfl
set_option maxRecDepth 100000 in
theorem kat_eIO : ∀ w ∈ Bundle.ownAtoms RN 123 "java/lang/IndexOutOfBoundsException" ["java/lang/RuntimeException", "java/lang/Exception"], w ∈ nmSp "java/lang/IndexOutOfBoundsException" ∨ w ∈ nzG := kat_of [12, 87, 96, 101, 104, 106, 88, 89, 27, 28, 90, 95, 102, 122, 77, 123, 79, 124, 81, 91, 2, 93, 3, 83, 118, 119, 121, 83, 109, 110, 111, 112, 5, 112, 113, 114, 115, 6, 115, 116, 117, 118, 7, 108, 66, 4, 74, 75, 76, 78, 80, 82, 0, 1, 86, 85, 84] (by decide +kernel) (by decide +kernel)
set_option maxRecDepth 100000 in
theorem kN_124 : nzV RN 124 RW yWord_counts bWord_counts 1 (some .boolean) 0 := ⟨nz_at 287 (by decide +kernel) rfl, nz_at 288 (by decide +kernel) rfl, nz_at 289 (by decide +kernel) rfl, nz_at 2 (by decide +kernel) rfl, nz_at 290 (by decide +kernel) rfl, by decide, by decide +kernel⟩
set_option maxRecDepth 100000 in
theorem kN_127 : nzS RN 127 yN_isBelowUnsigned bN_isBelowUnsigned 4 (some .boolean) 2 := ⟨nz_at 323 (by decide +kernel) rfl, nz_at 324 (by decide +kernel) rfl, nz_at 1 (by decide +kernel) rfl, nz_at 325 (by decide +kernel) rfl, by decide, by decide +kernel⟩
set_option maxRecDepth 100000 in
theorem kN_131 : nzS RN 131 yWire_goTogether bWire_goTogether 2 (some .boolean) 2 := ⟨nz_at 405 (by decide +kernel) rfl, nz_at 406 (by decide +kernel) rfl, nz_at 9 (by decide +kernel) rfl, nz_at 407 (by decide +kernel) rfl, by decide, by decide +kernel⟩
set_option maxRecDepth 100000 in
theorem kN_137 : nzV RN 137 RW yWord_joined bWord_joined 5 (some .int) 2 := ⟨nz_at 415 (by decide +kernel) rfl, nz_at 416 (by decide +kernel) rfl, nz_at 417 (by decide +kernel) rfl, nz_at 2 (by decide +kernel) rfl, nz_at 418 (by decide +kernel) rfl, by decide, by decide +kernel⟩
set_option maxRecDepth 100000 in
theorem kN_142 : nzS RN 142 yWire_isLow bWire_isLow 1 (some .boolean) 1 := ⟨nz_at 428 (by decide +kernel) rfl, nz_at 206 (by decide +kernel) rfl, nz_at 9 (by decide +kernel) rfl, nz_at 207 (by decide +kernel) rfl, by decide, by decide +kernel⟩
set_option maxRecDepth 100000 in
theorem kN_146 : nzS RN 146 yWire_isHigh bWire_isHigh 1 (some .boolean) 1 := ⟨nz_at 429 (by decide +kernel) rfl, nz_at 209 (by decide +kernel) rfl, nz_at 9 (by decide +kernel) rfl, nz_at 210 (by decide +kernel) rfl, by decide, by decide +kernel⟩
set_option maxRecDepth 100000 in
theorem kN_159 : nzS RN 159 yWire_join bWire_join 3 (some .int) 3 := ⟨nz_at 250 (by decide +kernel) rfl, nz_at 251 (by decide +kernel) rfl, nz_at 9 (by decide +kernel) rfl, nz_at 252 (by decide +kernel) rfl, by decide, by decide +kernel⟩
set_option maxRecDepth 100000 in
theorem kN_163 : nzS RN 163 yN_lengthOfResult bN_lengthOfResult 3 (some .int) 3 := ⟨nz_at 281 (by decide +kernel) rfl, nz_at 282 (by decide +kernel) rfl, nz_at 1 (by decide +kernel) rfl, nz_at 283 (by decide +kernel) rfl, by decide, by decide +kernel⟩
set_option maxRecDepth 100000 in
theorem kN_166 : nzS RN 166 yN_sumOrProduct bN_sumOrProduct 5 (some .long) 3 := ⟨nz_at 292 (by decide +kernel) rfl, nz_at 293 (by decide +kernel) rfl, nz_at 1 (by decide +kernel) rfl, nz_at 294 (by decide +kernel) rfl, by decide, by decide +kernel⟩
set_option maxRecDepth 100000 in
theorem kcl_170 : Cond.classLink RN 170 "java/lang/ArithmeticException" ∈ nzG := nz_at 295 (by decide +kernel) rfl
set_option maxRecDepth 100000 in
theorem kin_eAR : Cond.initialized "java/lang/ArithmeticException" ∈ nzG := nz_at 12 (by decide +kernel) rfl
set_option maxRecDepth 100000 in
theorem kat_eAR : ∀ w ∈ Bundle.ownAtoms RN 174 "java/lang/ArithmeticException" ["java/lang/RuntimeException", "java/lang/Exception"], w ∈ nmSp "java/lang/ArithmeticException" ∨ w ∈ nzG := kat_of [12, 87, 96, 101, 104, 106, 88, 89, 27, 28, 90, 95, 102, 122, 77, 123, 79, 124, 81, 91, 2, 93, 3, 83, 118, 119, 121, 83, 314, 315, 316, 112, 5, 112, 113, 114, 115, 6, 115, 116, 117, 118, 7, 313, 304, 4, 306, 98, 307, 308, 309, 310, 0, 1, 86, 85, 311] (by decide +kernel) (by decide +kernel)
set_option maxRecDepth 100000 in
theorem kN_175 : nzS RN 175 yN_divideSigned bN_divideSigned 5 (some .long) 3 := ⟨nz_at 311 (by decide +kernel) rfl, nz_at 312 (by decide +kernel) rfl, nz_at 1 (by decide +kernel) rfl, nz_at 313 (by decide +kernel) rfl, by decide, by decide +kernel⟩
set_option maxRecDepth 100000 in
theorem kN_178 : nzS RN 178 yN_divideUnsigned bN_divideUnsigned 7 (some .long) 3 := ⟨nz_at 317 (by decide +kernel) rfl, nz_at 318 (by decide +kernel) rfl, nz_at 1 (by decide +kernel) rfl, nz_at 319 (by decide +kernel) rfl, by decide, by decide +kernel⟩
set_option maxRecDepth 100000 in
theorem kN_max : Cond.methodLink RN 181 Lib.Math.max.name ∈ nzG ∧ Cond.static Lib.Math.max.name ∈ nzG ∧ Cond.initialized "java/lang/Math" ∈ nzG ∧ Cond.code Lib.Math.max.name Lib.Math.max.code 2 (some .int) ∈ nzG := ⟨nz_at 284 (by decide +kernel) rfl, nz_at 285 (by decide +kernel) rfl, nz_at 11 (by decide +kernel) rfl, nz_at 286 (by decide +kernel) rfl⟩
set_option maxRecDepth 100000 in
theorem kN_184 : nzS RN 184 yJ_floorModL bJ_floorModL 6 (some .long) 2 := ⟨nz_at 314 (by decide +kernel) rfl, nz_at 315 (by decide +kernel) rfl, nz_at 11 (by decide +kernel) rfl, nz_at 316 (by decide +kernel) rfl, by decide, by decide +kernel⟩
set_option maxRecDepth 100000 in
theorem kN_188 : nzS RN 188 yN_quotientUnsigned bN_quotientUnsigned 6 (some .long) 2 := ⟨nz_at 320 (by decide +kernel) rfl, nz_at 321 (by decide +kernel) rfl, nz_at 1 (by decide +kernel) rfl, nz_at 322 (by decide +kernel) rfl, by decide, by decide +kernel⟩
set_option maxRecDepth 100000 in
theorem kN_c191 : Cond.constantLong RN 191 (-9223372036854775808) ∈ nzG := nz_at 326 (by decide +kernel) rfl
set_option maxRecDepth 100000 in
theorem kN_193 : nzS RN 193 yWire_not bWire_not 1 (some .int) 1 := ⟨nz_at 344 (by decide +kernel) rfl, nz_at 267 (by decide +kernel) rfl, nz_at 9 (by decide +kernel) rfl, nz_at 268 (by decide +kernel) rfl, by decide, by decide +kernel⟩
set_option maxRecDepth 100000 in
theorem kN_197 : nzS RN 197 yWire_strip bWire_strip 2 (some .int) 2 := ⟨nz_at 345 (by decide +kernel) rfl, nz_at 346 (by decide +kernel) rfl, nz_at 9 (by decide +kernel) rfl, nz_at 347 (by decide +kernel) rfl, by decide, by decide +kernel⟩
set_option maxRecDepth 100000 in
theorem kN_200 : nzS RN 200 yJ_floorMod bJ_floorMod 3 (some .int) 2 := ⟨nz_at 365 (by decide +kernel) rfl, nz_at 366 (by decide +kernel) rfl, nz_at 11 (by decide +kernel) rfl, nz_at 367 (by decide +kernel) rfl, by decide, by decide +kernel⟩
set_option maxRecDepth 100000 in
theorem kM_oi : Cond.methodLink RM 1 Lib.objectInit ∈ nzG ∧ Cond.instanceMethod Lib.objectInit ∈ nzG ∧ Cond.code Lib.objectInit ⟨#[0xb1]⟩ 1 none ∈ nzG := ⟨nz_at 435 (by decide +kernel) rfl, nz_at 19 (by decide +kernel) rfl, nz_at 20 (by decide +kernel) rfl⟩
abbrev fM_cells : Nat := 7
set_option maxRecDepth 100000 in
theorem fl_M_cells : Cond.fieldLink RM 7 "NineValuesModel" "cells" "[I" ∈ nzG := nz_at 437 (by decide +kernel) rfl
abbrev fM_lengths : Nat := 13
set_option maxRecDepth 100000 in
theorem fl_M_lengths : Cond.fieldLink RM 13 "NineValuesModel" "lengths" "[I" ∈ nzG := nz_at 438 (by decide +kernel) rfl
abbrev fM_out : Nat := 16
set_option maxRecDepth 100000 in
theorem fl_M_out : Cond.fieldLink RM 16 "NineValuesModel" "out" "[I" ∈ nzG := nz_at 439 (by decide +kernel) rfl
abbrev fM_code : Nat := 19
set_option maxRecDepth 100000 in
theorem fl_M_code : Cond.fieldLink RM 19 "NineValuesModel" "code" "I" ∈ nzG := nz_at 436 (by decide +kernel) rfl
set_option maxRecDepth 100000 in
theorem kMo_23 : nzS RM 23 yMo_isLow bMo_isLow 1 (some .boolean) 1 := ⟨nz_at 502 (by decide +kernel) rfl, nz_at 503 (by decide +kernel) rfl, nz_at 3 (by decide +kernel) rfl, nz_at 504 (by decide +kernel) rfl, by decide, by decide +kernel⟩
set_option maxRecDepth 100000 in
theorem kMo_27 : nzS RM 27 yMo_isHigh bMo_isHigh 1 (some .boolean) 1 := ⟨nz_at 505 (by decide +kernel) rfl, nz_at 506 (by decide +kernel) rfl, nz_at 3 (by decide +kernel) rfl, nz_at 507 (by decide +kernel) rfl, by decide, by decide +kernel⟩
abbrev fM_count : Nat := 30
set_option maxRecDepth 100000 in
theorem fl_M_count : Cond.fieldLink RM 30 "NineValuesModel" "count" "I" ∈ nzG := nz_at 440 (by decide +kernel) rfl
set_option maxRecDepth 100000 in
theorem kMo_33 : nzS RM 33 yMo_none bMo_none 1 (some .boolean) 1 := ⟨nz_at 460 (by decide +kernel) rfl, nz_at 461 (by decide +kernel) rfl, nz_at 3 (by decide +kernel) rfl, nz_at 462 (by decide +kernel) rfl, by decide, by decide +kernel⟩
set_option maxRecDepth 100000 in
theorem kMo_36 : nzV RM 36 RM yMo_keep bMo_keep 3 none 1 := ⟨nz_at 463 (by decide +kernel) rfl, nz_at 465 (by decide +kernel) rfl, nz_pv 9 (by decide +kernel), nz_at 3 (by decide +kernel) rfl, nz_at 466 (by decide +kernel) rfl, by decide, by decide +kernel⟩
set_option maxRecDepth 100000 in
theorem kMo_40 : nzV RM 40 RM yMo_cell bMo_cell 3 (some .int) 2 := ⟨nz_at 475 (by decide +kernel) rfl, nz_at 477 (by decide +kernel) rfl, nz_pv 10 (by decide +kernel), nz_at 3 (by decide +kernel) rfl, nz_at 478 (by decide +kernel) rfl, by decide, by decide +kernel⟩
set_option maxRecDepth 100000 in
theorem kMo_44 : nzV RM 44 RM yMo_bits bMo_bits 5 none 2 := ⟨nz_at 487 (by decide +kernel) rfl, nz_at 489 (by decide +kernel) rfl, nz_pv 11 (by decide +kernel), nz_at 3 (by decide +kernel) rfl, nz_at 490 (by decide +kernel) rfl, by decide, by decide +kernel⟩
set_option maxRecDepth 100000 in
theorem kMo_48 : nzS RM 48 yMo_isClear bMo_isClear 1 (some .boolean) 1 := ⟨nz_at 499 (by decide +kernel) rfl, nz_at 500 (by decide +kernel) rfl, nz_at 3 (by decide +kernel) rfl, nz_at 501 (by decide +kernel) rfl, by decide, by decide +kernel⟩
set_option maxRecDepth 100000 in
theorem kMo_c51 : Cond.constantLong RM 51 (2) ∈ nzG := nz_at 512 (by decide +kernel) rfl
set_option maxRecDepth 100000 in
theorem kMo_53 : nzV RM 53 RM yMo_clear bMo_clear 4 (some .boolean) 1 := ⟨nz_at 495 (by decide +kernel) rfl, nz_at 497 (by decide +kernel) rfl, nz_pv 12 (by decide +kernel), nz_at 3 (by decide +kernel) rfl, nz_at 498 (by decide +kernel) rfl, by decide, by decide +kernel⟩
set_option maxRecDepth 100000 in
theorem kMo_56 : nzV RM 56 RM yMo_value bMo_value 9 (some .long) 2 := ⟨nz_at 508 (by decide +kernel) rfl, nz_at 510 (by decide +kernel) rfl, nz_pv 13 (by decide +kernel), nz_at 3 (by decide +kernel) rfl, nz_at 511 (by decide +kernel) rfl, by decide, by decide +kernel⟩
set_option maxRecDepth 100000 in
theorem kMo_60 : nzS RM 60 yMo_together bMo_together 2 (some .int) 2 := ⟨nz_at 520 (by decide +kernel) rfl, nz_at 521 (by decide +kernel) rfl, nz_at 3 (by decide +kernel) rfl, nz_at 522 (by decide +kernel) rfl, by decide, by decide +kernel⟩
set_option maxRecDepth 100000 in
theorem kMo_63 : nzS RM 63 yMo_and bMo_and 2 (some .int) 2 := ⟨nz_at 523 (by decide +kernel) rfl, nz_at 524 (by decide +kernel) rfl, nz_at 3 (by decide +kernel) rfl, nz_at 525 (by decide +kernel) rfl, by decide, by decide +kernel⟩
set_option maxRecDepth 100000 in
theorem kMo_66 : nzS RM 66 yMo_or bMo_or 2 (some .int) 2 := ⟨nz_at 526 (by decide +kernel) rfl, nz_at 527 (by decide +kernel) rfl, nz_at 3 (by decide +kernel) rfl, nz_at 528 (by decide +kernel) rfl, by decide, by decide +kernel⟩
set_option maxRecDepth 100000 in
theorem kMo_69 : nzS RM 69 yMo_xor bMo_xor 2 (some .int) 2 := ⟨nz_at 529 (by decide +kernel) rfl, nz_at 530 (by decide +kernel) rfl, nz_at 3 (by decide +kernel) rfl, nz_at 531 (by decide +kernel) rfl, by decide, by decide +kernel⟩
set_option maxRecDepth 100000 in
theorem kMo_72 : nzS RM 72 yMo_not bMo_not 1 (some .int) 1 := ⟨nz_at 532 (by decide +kernel) rfl, nz_at 533 (by decide +kernel) rfl, nz_at 3 (by decide +kernel) rfl, nz_at 534 (by decide +kernel) rfl, by decide, by decide +kernel⟩
set_option maxRecDepth 100000 in
theorem kMo_c78 : Cond.constantLong RM 78 (-9223372036854775808) ∈ nzG := nz_at 543 (by decide +kernel) rfl
set_option maxRecDepth 100000 in
theorem kMo_80 : nzV RM 80 RM yMo_divide bMo_divide 13 (some .long) 3 := ⟨nz_at 539 (by decide +kernel) rfl, nz_at 541 (by decide +kernel) rfl, nz_pv 15 (by decide +kernel), nz_at 3 (by decide +kernel) rfl, nz_at 542 (by decide +kernel) rfl, by decide, by decide +kernel⟩
set_option maxRecDepth 100000 in
theorem kMo_84 : nzS RM 84 yMo_byTable bMo_byTable 3 (some .int) 3 := ⟨nz_at 517 (by decide +kernel) rfl, nz_at 518 (by decide +kernel) rfl, nz_at 3 (by decide +kernel) rfl, nz_at 519 (by decide +kernel) rfl, by decide, by decide +kernel⟩
set_option maxRecDepth 100000 in
theorem kMo_88 : nzV RM 88 RM yMo_numbers bMo_numbers 20 none 5 := ⟨nz_at 535 (by decide +kernel) rfl, nz_at 537 (by decide +kernel) rfl, nz_pv 14 (by decide +kernel), nz_at 3 (by decide +kernel) rfl, nz_at 538 (by decide +kernel) rfl, by decide, by decide +kernel⟩
set_option maxRecDepth 100000 in
theorem kMo_92 : nzS RM 92 yMo_strip bMo_strip 2 (some .int) 2 := ⟨nz_at 548 (by decide +kernel) rfl, nz_at 549 (by decide +kernel) rfl, nz_at 3 (by decide +kernel) rfl, nz_at 550 (by decide +kernel) rfl, by decide, by decide +kernel⟩
set_option maxRecDepth 100000 in
theorem kMo_95 : nzV RM 95 RM yMo_bit bMo_bit 4 (some .int) 3 := ⟨nz_at 567 (by decide +kernel) rfl, nz_at 569 (by decide +kernel) rfl, nz_pv 16 (by decide +kernel), nz_at 3 (by decide +kernel) rfl, nz_at 570 (by decide +kernel) rfl, by decide, by decide +kernel⟩
set_option maxRecDepth 100000 in
theorem kMo_99 : nzS RM 99 yMo_goes bMo_goes 2 (some .boolean) 2 := ⟨nz_at 575 (by decide +kernel) rfl, nz_at 576 (by decide +kernel) rfl, nz_at 3 (by decide +kernel) rfl, nz_at 577 (by decide +kernel) rfl, by decide, by decide +kernel⟩
set_option maxRecDepth 100000 in
theorem kL_7 : nzV RL 7 RN yN_fill bN_fill 4 none 3 := ⟨nz_at 50 (by decide +kernel) rfl, nz_at 51 (by decide +kernel) rfl, nz_at 52 (by decide +kernel) rfl, nz_at 1 (by decide +kernel) rfl, nz_at 53 (by decide +kernel) rfl, by decide, by decide +kernel⟩
set_option maxRecDepth 100000 in
theorem kL_17 : nzV RL 17 RN yN_put bN_put 4 none 3 := ⟨nz_at 156 (by decide +kernel) rfl, nz_at 157 (by decide +kernel) rfl, nz_at 158 (by decide +kernel) rfl, nz_at 1 (by decide +kernel) rfl, nz_at 159 (by decide +kernel) rfl, by decide, by decide +kernel⟩
set_option maxRecDepth 100000 in
theorem kL_20 : nzV RL 20 RN yN_get bN_get 3 (some .int) 2 := ⟨nz_at 168 (by decide +kernel) rfl, nz_at 169 (by decide +kernel) rfl, nz_at 170 (by decide +kernel) rfl, nz_at 1 (by decide +kernel) rfl, nz_at 171 (by decide +kernel) rfl, by decide, by decide +kernel⟩
set_option maxRecDepth 100000 in
theorem kL_24 : nzV RL 24 RN yN_length bN_length 2 (some .int) 1 := ⟨nz_at 175 (by decide +kernel) rfl, nz_at 176 (by decide +kernel) rfl, nz_at 177 (by decide +kernel) rfl, nz_at 1 (by decide +kernel) rfl, nz_at 178 (by decide +kernel) rfl, by decide, by decide +kernel⟩
set_option maxRecDepth 100000 in
theorem kL_28 : nzV RL 28 RN yN_number bN_number 5 none 3 := ⟨nz_at 182 (by decide +kernel) rfl, nz_at 183 (by decide +kernel) rfl, nz_at 184 (by decide +kernel) rfl, nz_at 1 (by decide +kernel) rfl, nz_at 185 (by decide +kernel) rfl, by decide, by decide +kernel⟩
set_option maxRecDepth 100000 in
theorem kL_32 : nzV RL 32 RN yN_numberOf bN_numberOf 3 (some .long) 2 := ⟨nz_at 194 (by decide +kernel) rfl, nz_at 195 (by decide +kernel) rfl, nz_at 196 (by decide +kernel) rfl, nz_at 1 (by decide +kernel) rfl, nz_at 197 (by decide +kernel) rfl, by decide, by decide +kernel⟩
set_option maxRecDepth 100000 in
theorem kL_38 : nzV RL 38 RN yN_operate bN_operate 6 none 5 := ⟨nz_at 240 (by decide +kernel) rfl, nz_at 241 (by decide +kernel) rfl, nz_at 242 (by decide +kernel) rfl, nz_at 1 (by decide +kernel) rfl, nz_at 243 (by decide +kernel) rfl, by decide, by decide +kernel⟩
set_option maxRecDepth 100000 in
theorem kL_44 : nzV RL 44 RN yN_change bN_change 4 none 3 := ⟨nz_at 335 (by decide +kernel) rfl, nz_at 336 (by decide +kernel) rfl, nz_at 337 (by decide +kernel) rfl, nz_at 1 (by decide +kernel) rfl, nz_at 338 (by decide +kernel) rfl, by decide, by decide +kernel⟩
set_option maxRecDepth 100000 in
theorem kL_47 : nzV RL 47 RN yN_shift bN_shift 7 none 5 := ⟨nz_at 355 (by decide +kernel) rfl, nz_at 356 (by decide +kernel) rfl, nz_at 357 (by decide +kernel) rfl, nz_at 1 (by decide +kernel) rfl, nz_at 358 (by decide +kernel) rfl, by decide, by decide +kernel⟩
set_option maxRecDepth 100000 in
theorem kL_51 : nzV RL 51 RN yN_bring bN_bring 6 none 4 := ⟨nz_at 376 (by decide +kernel) rfl, nz_at 377 (by decide +kernel) rfl, nz_at 378 (by decide +kernel) rfl, nz_at 1 (by decide +kernel) rfl, nz_at 379 (by decide +kernel) rfl, by decide, by decide +kernel⟩
set_option maxRecDepth 100000 in
theorem kL_55 : nzV RL 55 RN yN_cut bN_cut 6 none 4 := ⟨nz_at 386 (by decide +kernel) rfl, nz_at 387 (by decide +kernel) rfl, nz_at 388 (by decide +kernel) rfl, nz_at 1 (by decide +kernel) rfl, nz_at 389 (by decide +kernel) rfl, by decide, by decide +kernel⟩
set_option maxRecDepth 100000 in
theorem kL_59 : nzV RL 59 RN yN_compare bN_compare 8 (some .int) 3 := ⟨nz_at 394 (by decide +kernel) rfl, nz_at 395 (by decide +kernel) rfl, nz_at 396 (by decide +kernel) rfl, nz_at 1 (by decide +kernel) rfl, nz_at 397 (by decide +kernel) rfl, by decide, by decide +kernel⟩
set_option maxRecDepth 100000 in
theorem kL_63 : nzV RL 63 RN yN_same bN_same 9 (some .boolean) 3 := ⟨nz_at 401 (by decide +kernel) rfl, nz_at 402 (by decide +kernel) rfl, nz_at 403 (by decide +kernel) rfl, nz_at 1 (by decide +kernel) rfl, nz_at 404 (by decide +kernel) rfl, by decide, by decide +kernel⟩
set_option maxRecDepth 100000 in
theorem kL_67 : nzV RL 67 RN yN_all bN_all 3 (some .int) 2 := ⟨nz_at 411 (by decide +kernel) rfl, nz_at 412 (by decide +kernel) rfl, nz_at 413 (by decide +kernel) rfl, nz_at 1 (by decide +kernel) rfl, nz_at 414 (by decide +kernel) rfl, by decide, by decide +kernel⟩
set_option maxRecDepth 100000 in
theorem kL_70 : nzV RL 70 RN yN_edge bN_edge 3 (some .int) 2 := ⟨nz_at 424 (by decide +kernel) rfl, nz_at 425 (by decide +kernel) rfl, nz_at 426 (by decide +kernel) rfl, nz_at 1 (by decide +kernel) rfl, nz_at 427 (by decide +kernel) rfl, by decide, by decide +kernel⟩
set_option maxRecDepth 100000 in
theorem kL_82 : nzV RL 82 RM yMo_fill bMo_fill 5 none 3 := ⟨nz_at 456 (by decide +kernel) rfl, nz_at 457 (by decide +kernel) rfl, nz_at 458 (by decide +kernel) rfl, nz_at 3 (by decide +kernel) rfl, nz_at 459 (by decide +kernel) rfl, by decide, by decide +kernel⟩
set_option maxRecDepth 100000 in
theorem kL_83 : nzV RL 83 RM yMo_thrown bMo_thrown 1 (some .int) 0 := ⟨nz_at 452 (by decide +kernel) rfl, nz_at 453 (by decide +kernel) rfl, nz_at 454 (by decide +kernel) rfl, nz_at 3 (by decide +kernel) rfl, nz_at 455 (by decide +kernel) rfl, by decide, by decide +kernel⟩
set_option maxRecDepth 100000 in
theorem kL_89 : nzV RL 89 RM yMo_put bMo_put 4 none 3 := ⟨nz_at 467 (by decide +kernel) rfl, nz_at 468 (by decide +kernel) rfl, nz_at 469 (by decide +kernel) rfl, nz_at 3 (by decide +kernel) rfl, nz_at 470 (by decide +kernel) rfl, by decide, by decide +kernel⟩
set_option maxRecDepth 100000 in
theorem kL_93 : nzV RL 93 RM yMo_get bMo_get 3 (some .int) 2 := ⟨nz_at 471 (by decide +kernel) rfl, nz_at 472 (by decide +kernel) rfl, nz_at 473 (by decide +kernel) rfl, nz_at 3 (by decide +kernel) rfl, nz_at 474 (by decide +kernel) rfl, by decide, by decide +kernel⟩
set_option maxRecDepth 100000 in
theorem kL_97 : nzV RL 97 RM yMo_length bMo_length 2 (some .int) 1 := ⟨nz_at 479 (by decide +kernel) rfl, nz_at 480 (by decide +kernel) rfl, nz_at 481 (by decide +kernel) rfl, nz_at 3 (by decide +kernel) rfl, nz_at 482 (by decide +kernel) rfl, by decide, by decide +kernel⟩
set_option maxRecDepth 100000 in
theorem kL_c98 : Cond.constantLong RL 98 (4294967295) ∈ nzG := nz_at 586 (by decide +kernel) rfl
set_option maxRecDepth 100000 in
theorem kL_103 : nzV RL 103 RM yMo_number bMo_number 5 none 3 := ⟨nz_at 483 (by decide +kernel) rfl, nz_at 484 (by decide +kernel) rfl, nz_at 485 (by decide +kernel) rfl, nz_at 3 (by decide +kernel) rfl, nz_at 486 (by decide +kernel) rfl, by decide, by decide +kernel⟩
set_option maxRecDepth 100000 in
theorem kL_107 : nzV RL 107 RM yMo_numberOf bMo_numberOf 3 (some .long) 2 := ⟨nz_at 491 (by decide +kernel) rfl, nz_at 492 (by decide +kernel) rfl, nz_at 493 (by decide +kernel) rfl, nz_at 3 (by decide +kernel) rfl, nz_at 494 (by decide +kernel) rfl, by decide, by decide +kernel⟩
set_option maxRecDepth 100000 in
theorem kL_111 : nzV RL 111 RM yMo_operate bMo_operate 10 none 5 := ⟨nz_at 513 (by decide +kernel) rfl, nz_at 514 (by decide +kernel) rfl, nz_at 515 (by decide +kernel) rfl, nz_at 3 (by decide +kernel) rfl, nz_at 516 (by decide +kernel) rfl, by decide, by decide +kernel⟩
set_option maxRecDepth 100000 in
theorem kL_114 : nzV RL 114 RM yMo_change bMo_change 6 none 3 := ⟨nz_at 544 (by decide +kernel) rfl, nz_at 545 (by decide +kernel) rfl, nz_at 546 (by decide +kernel) rfl, nz_at 3 (by decide +kernel) rfl, nz_at 547 (by decide +kernel) rfl, by decide, by decide +kernel⟩
set_option maxRecDepth 100000 in
theorem kL_118 : nzV RL 118 RM yMo_shift bMo_shift 12 none 5 := ⟨nz_at 551 (by decide +kernel) rfl, nz_at 552 (by decide +kernel) rfl, nz_at 553 (by decide +kernel) rfl, nz_at 3 (by decide +kernel) rfl, nz_at 554 (by decide +kernel) rfl, by decide, by decide +kernel⟩
set_option maxRecDepth 100000 in
theorem kL_122 : nzV RL 122 RM yMo_bring bMo_bring 8 none 4 := ⟨nz_at 555 (by decide +kernel) rfl, nz_at 556 (by decide +kernel) rfl, nz_at 557 (by decide +kernel) rfl, nz_at 3 (by decide +kernel) rfl, nz_at 558 (by decide +kernel) rfl, by decide, by decide +kernel⟩
set_option maxRecDepth 100000 in
theorem kL_126 : nzV RL 126 RM yMo_cut bMo_cut 6 none 4 := ⟨nz_at 559 (by decide +kernel) rfl, nz_at 560 (by decide +kernel) rfl, nz_at 561 (by decide +kernel) rfl, nz_at 3 (by decide +kernel) rfl, nz_at 562 (by decide +kernel) rfl, by decide, by decide +kernel⟩
set_option maxRecDepth 100000 in
theorem kL_130 : nzV RL 130 RM yMo_compare bMo_compare 9 (some .int) 3 := ⟨nz_at 563 (by decide +kernel) rfl, nz_at 564 (by decide +kernel) rfl, nz_at 565 (by decide +kernel) rfl, nz_at 3 (by decide +kernel) rfl, nz_at 566 (by decide +kernel) rfl, by decide, by decide +kernel⟩
set_option maxRecDepth 100000 in
theorem kL_133 : nzV RL 133 RM yMo_same bMo_same 6 (some .boolean) 3 := ⟨nz_at 571 (by decide +kernel) rfl, nz_at 572 (by decide +kernel) rfl, nz_at 573 (by decide +kernel) rfl, nz_at 3 (by decide +kernel) rfl, nz_at 574 (by decide +kernel) rfl, by decide, by decide +kernel⟩
set_option maxRecDepth 100000 in
theorem kL_136 : nzV RL 136 RM yMo_all bMo_all 5 (some .int) 2 := ⟨nz_at 578 (by decide +kernel) rfl, nz_at 579 (by decide +kernel) rfl, nz_at 580 (by decide +kernel) rfl, nz_at 3 (by decide +kernel) rfl, nz_at 581 (by decide +kernel) rfl, by decide, by decide +kernel⟩
set_option maxRecDepth 100000 in
theorem kL_139 : nzV RL 139 RM yMo_edge bMo_edge 3 (some .int) 2 := ⟨nz_at 582 (by decide +kernel) rfl, nz_at 583 (by decide +kernel) rfl, nz_at 584 (by decide +kernel) rfl, nz_at 3 (by decide +kernel) rfl, nz_at 585 (by decide +kernel) rfl, by decide, by decide +kernel⟩
set_option maxRecDepth 100000 in
theorem kN_instW : Cond.instantiable RW 2 ∈ nzG := nz_at 23 (by decide +kernel) rfl
set_option maxRecDepth 100000 in
theorem kN_iniW : Cond.initialized RW ∈ nzG := nz_at 2 (by decide +kernel) rfl
set_option maxRecDepth 100000 in
theorem kN_cdW : Cond.code yWord_init bWord_init 1 none ∈ nzG := nz_at 26 (by decide +kernel) rfl
set_option maxRecDepth 100000 in
theorem kN_imW : Cond.instanceMethod yWord_init ∈ nzG := nz_at 25 (by decide +kernel) rfl
set_option maxRecDepth 100000 in
theorem k_arrI : Cond.arrayClass (newarray.typeOf .int) ∈ nzG := by decide +kernel
def nmStr : List (Nat × String) := [(55, "the word is not clear"), (66, "no such operation"), (85, "no such kind of change"), (94, "no such kind of shift"), (96, "a shift goes by -1000 to 1000"), (121, "the word has no such elements"), (140, "no such kind of joining"), (149, "no such place"), (151, "no such element"), (153, "a length is 0 to 64"), (155, "no such value"), (157, "the words have not the same length"), (172, "division by zero")]
end
section
theorem dWire_isLow_0 : decode bWire_isLow 0 = .ok (.iload_n 0, 1) := by decide +kernel
theorem dWire_isLow_1 : decode bWire_isLow 1 = .ok (.iconst 2, 1) := by decide +kernel
theorem dWire_isLow_2 : decode bWire_isLow 2 = .ok (.if_icmp .eq 9, 3) := by decide +kernel
theorem dWire_isLow_5 : decode bWire_isLow 5 = .ok (.iload_n 0, 1) := by decide +kernel
theorem dWire_isLow_6 : decode bWire_isLow 6 = .ok (.bipush 6, 2) := by decide +kernel
theorem dWire_isLow_8 : decode bWire_isLow 8 = .ok (.if_icmp .ne 7, 3) := by decide +kernel
theorem dWire_isLow_11 : decode bWire_isLow 11 = .ok (.iconst 1, 1) := by decide +kernel
theorem dWire_isLow_12 : decode bWire_isLow 12 = .ok (.goto 4, 3) := by decide +kernel
theorem dWire_isLow_15 : decode bWire_isLow 15 = .ok (.iconst 0, 1) := by decide +kernel
theorem dWire_isLow_16 : decode bWire_isLow 16 = .ok (.ireturn, 1) := by decide +kernel
theorem dWire_isHigh_0 : decode bWire_isHigh 0 = .ok (.iload_n 0, 1) := by decide +kernel
theorem dWire_isHigh_1 : decode bWire_isHigh 1 = .ok (.iconst 3, 1) := by decide +kernel
theorem dWire_isHigh_2 : decode bWire_isHigh 2 = .ok (.if_icmp .eq 9, 3) := by decide +kernel
theorem dWire_isHigh_5 : decode bWire_isHigh 5 = .ok (.iload_n 0, 1) := by decide +kernel
theorem dWire_isHigh_6 : decode bWire_isHigh 6 = .ok (.bipush 7, 2) := by decide +kernel
theorem dWire_isHigh_8 : decode bWire_isHigh 8 = .ok (.if_icmp .ne 7, 3) := by decide +kernel
theorem dWire_isHigh_11 : decode bWire_isHigh 11 = .ok (.iconst 1, 1) := by decide +kernel
theorem dWire_isHigh_12 : decode bWire_isHigh 12 = .ok (.goto 4, 3) := by decide +kernel
theorem dWire_isHigh_15 : decode bWire_isHigh 15 = .ok (.iconst 0, 1) := by decide +kernel
theorem dWire_isHigh_16 : decode bWire_isHigh 16 = .ok (.ireturn, 1) := by decide +kernel
theorem dWire_isClear_0 : decode bWire_isClear 0 = .ok (.iload_n 0, 1) := by decide +kernel
theorem dWire_isClear_1 : decode bWire_isClear 1 = .ok (.invokestatic 9, 3) := by decide +kernel
theorem dWire_isClear_4 : decode bWire_isClear 4 = .ok (.ifCond .ne 10, 3) := by decide +kernel
theorem dWire_isClear_7 : decode bWire_isClear 7 = .ok (.iload_n 0, 1) := by decide +kernel
theorem dWire_isClear_8 : decode bWire_isClear 8 = .ok (.invokestatic 15, 3) := by decide +kernel
theorem dWire_isClear_11 : decode bWire_isClear 11 = .ok (.ifCond .eq 7, 3) := by decide +kernel
theorem dWire_isClear_14 : decode bWire_isClear 14 = .ok (.iconst 1, 1) := by decide +kernel
theorem dWire_isClear_15 : decode bWire_isClear 15 = .ok (.goto 4, 3) := by decide +kernel
theorem dWire_isClear_18 : decode bWire_isClear 18 = .ok (.iconst 0, 1) := by decide +kernel
theorem dWire_isClear_19 : decode bWire_isClear 19 = .ok (.ireturn, 1) := by decide +kernel
theorem dWire_join_0 : decode bWire_join 0 = .ok (.iload_n 0, 1) := by decide +kernel
theorem dWire_join_1 : decode bWire_join 1 = .ok (.tableswitch 81 0 5 #[39, 45, 51, 57, 63, 72], 39) := by decide +kernel
theorem dWire_join_40 : decode bWire_join 40 = .ok (.iload_n 1, 1) := by decide +kernel
theorem dWire_join_41 : decode bWire_join 41 = .ok (.iload_n 2, 1) := by decide +kernel
theorem dWire_join_42 : decode bWire_join 42 = .ok (.invokestatic 18, 3) := by decide +kernel
theorem dWire_join_45 : decode bWire_join 45 = .ok (.ireturn, 1) := by decide +kernel
theorem dWire_join_46 : decode bWire_join 46 = .ok (.iload_n 1, 1) := by decide +kernel
theorem dWire_join_47 : decode bWire_join 47 = .ok (.iload_n 2, 1) := by decide +kernel
theorem dWire_join_48 : decode bWire_join 48 = .ok (.invokestatic 22, 3) := by decide +kernel
theorem dWire_join_51 : decode bWire_join 51 = .ok (.ireturn, 1) := by decide +kernel
theorem dWire_join_52 : decode bWire_join 52 = .ok (.iload_n 1, 1) := by decide +kernel
theorem dWire_join_53 : decode bWire_join 53 = .ok (.iload_n 2, 1) := by decide +kernel
theorem dWire_join_54 : decode bWire_join 54 = .ok (.invokestatic 25, 3) := by decide +kernel
theorem dWire_join_57 : decode bWire_join 57 = .ok (.ireturn, 1) := by decide +kernel
theorem dWire_join_58 : decode bWire_join 58 = .ok (.iload_n 1, 1) := by decide +kernel
theorem dWire_join_59 : decode bWire_join 59 = .ok (.iload_n 2, 1) := by decide +kernel
theorem dWire_join_60 : decode bWire_join 60 = .ok (.invokestatic 28, 3) := by decide +kernel
theorem dWire_join_63 : decode bWire_join 63 = .ok (.ireturn, 1) := by decide +kernel
theorem dWire_join_64 : decode bWire_join 64 = .ok (.iload_n 1, 1) := by decide +kernel
theorem dWire_join_65 : decode bWire_join 65 = .ok (.iload_n 2, 1) := by decide +kernel
theorem dWire_join_66 : decode bWire_join 66 = .ok (.invokestatic 22, 3) := by decide +kernel
theorem dWire_join_69 : decode bWire_join 69 = .ok (.invokestatic 31, 3) := by decide +kernel
theorem dWire_join_72 : decode bWire_join 72 = .ok (.ireturn, 1) := by decide +kernel
theorem dWire_join_73 : decode bWire_join 73 = .ok (.iload_n 1, 1) := by decide +kernel
theorem dWire_join_74 : decode bWire_join 74 = .ok (.iload_n 2, 1) := by decide +kernel
theorem dWire_join_75 : decode bWire_join 75 = .ok (.invokestatic 25, 3) := by decide +kernel
theorem dWire_join_78 : decode bWire_join 78 = .ok (.invokestatic 31, 3) := by decide +kernel
theorem dWire_join_81 : decode bWire_join 81 = .ok (.ireturn, 1) := by decide +kernel
theorem dWire_join_82 : decode bWire_join 82 = .ok (.iload_n 1, 1) := by decide +kernel
theorem dWire_join_83 : decode bWire_join 83 = .ok (.iload_n 2, 1) := by decide +kernel
theorem dWire_join_84 : decode bWire_join 84 = .ok (.invokestatic 28, 3) := by decide +kernel
theorem dWire_join_87 : decode bWire_join 87 = .ok (.invokestatic 31, 3) := by decide +kernel
theorem dWire_join_90 : decode bWire_join 90 = .ok (.ireturn, 1) := by decide +kernel
theorem dWire_drive_0 : decode bWire_drive 0 = .ok (.iload_n 0, 1) := by decide +kernel
theorem dWire_drive_1 : decode bWire_drive 1 = .ok (.ifCond .eq 7, 3) := by decide +kernel
theorem dWire_drive_4 : decode bWire_drive 4 = .ok (.iload_n 1, 1) := by decide +kernel
theorem dWire_drive_5 : decode bWire_drive 5 = .ok (.ifCond .ne 5, 3) := by decide +kernel
theorem dWire_drive_8 : decode bWire_drive 8 = .ok (.iconst 0, 1) := by decide +kernel
theorem dWire_drive_9 : decode bWire_drive 9 = .ok (.ireturn, 1) := by decide +kernel
theorem dWire_drive_10 : decode bWire_drive 10 = .ok (.iload_n 0, 1) := by decide +kernel
theorem dWire_drive_11 : decode bWire_drive 11 = .ok (.iconst 1, 1) := by decide +kernel
theorem dWire_drive_12 : decode bWire_drive 12 = .ok (.if_icmp .eq 20, 3) := by decide +kernel
theorem dWire_drive_15 : decode bWire_drive 15 = .ok (.iload_n 0, 1) := by decide +kernel
theorem dWire_drive_16 : decode bWire_drive 16 = .ok (.bipush 8, 2) := by decide +kernel
theorem dWire_drive_18 : decode bWire_drive 18 = .ok (.if_icmp .eq 14, 3) := by decide +kernel
theorem dWire_drive_21 : decode bWire_drive 21 = .ok (.iload_n 1, 1) := by decide +kernel
theorem dWire_drive_22 : decode bWire_drive 22 = .ok (.iconst 1, 1) := by decide +kernel
theorem dWire_drive_23 : decode bWire_drive 23 = .ok (.if_icmp .eq 9, 3) := by decide +kernel
theorem dWire_drive_26 : decode bWire_drive 26 = .ok (.iload_n 1, 1) := by decide +kernel
theorem dWire_drive_27 : decode bWire_drive 27 = .ok (.bipush 8, 2) := by decide +kernel
theorem dWire_drive_29 : decode bWire_drive 29 = .ok (.if_icmp .ne 5, 3) := by decide +kernel
theorem dWire_drive_32 : decode bWire_drive 32 = .ok (.iconst 1, 1) := by decide +kernel
theorem dWire_drive_33 : decode bWire_drive 33 = .ok (.ireturn, 1) := by decide +kernel
theorem dWire_drive_34 : decode bWire_drive 34 = .ok (.iload_n 0, 1) := by decide +kernel
theorem dWire_drive_35 : decode bWire_drive 35 = .ok (.iconst 4, 1) := by decide +kernel
theorem dWire_drive_36 : decode bWire_drive 36 = .ok (.if_icmp .eq 8, 3) := by decide +kernel
theorem dWire_drive_39 : decode bWire_drive 39 = .ok (.iload_n 0, 1) := by decide +kernel
theorem dWire_drive_40 : decode bWire_drive 40 = .ok (.iload_n 1, 1) := by decide +kernel
theorem dWire_drive_41 : decode bWire_drive 41 = .ok (.if_icmp .ne 5, 3) := by decide +kernel
theorem dWire_drive_44 : decode bWire_drive 44 = .ok (.iload_n 1, 1) := by decide +kernel
theorem dWire_drive_45 : decode bWire_drive 45 = .ok (.ireturn, 1) := by decide +kernel
theorem dWire_drive_46 : decode bWire_drive 46 = .ok (.iload_n 1, 1) := by decide +kernel
theorem dWire_drive_47 : decode bWire_drive 47 = .ok (.iconst 4, 1) := by decide +kernel
theorem dWire_drive_48 : decode bWire_drive 48 = .ok (.if_icmp .ne 5, 3) := by decide +kernel
theorem dWire_drive_51 : decode bWire_drive 51 = .ok (.iload_n 0, 1) := by decide +kernel
theorem dWire_drive_52 : decode bWire_drive 52 = .ok (.ireturn, 1) := by decide +kernel
theorem dWire_drive_53 : decode bWire_drive 53 = .ok (.iload_n 0, 1) := by decide +kernel
theorem dWire_drive_54 : decode bWire_drive 54 = .ok (.iconst 2, 1) := by decide +kernel
theorem dWire_drive_55 : decode bWire_drive 55 = .ok (.if_icmp .eq 8, 3) := by decide +kernel
theorem dWire_drive_58 : decode bWire_drive 58 = .ok (.iload_n 0, 1) := by decide +kernel
theorem dWire_drive_59 : decode bWire_drive 59 = .ok (.iconst 3, 1) := by decide +kernel
theorem dWire_drive_60 : decode bWire_drive 60 = .ok (.if_icmp .ne 7, 3) := by decide +kernel
theorem dWire_drive_63 : decode bWire_drive 63 = .ok (.iconst 1, 1) := by decide +kernel
theorem dWire_drive_64 : decode bWire_drive 64 = .ok (.goto 4, 3) := by decide +kernel
theorem dWire_drive_67 : decode bWire_drive 67 = .ok (.iconst 0, 1) := by decide +kernel
theorem dWire_drive_68 : decode bWire_drive 68 = .ok (.istore_n 2, 1) := by decide +kernel
theorem dWire_drive_69 : decode bWire_drive 69 = .ok (.iload_n 1, 1) := by decide +kernel
theorem dWire_drive_70 : decode bWire_drive 70 = .ok (.iconst 2, 1) := by decide +kernel
theorem dWire_drive_71 : decode bWire_drive 71 = .ok (.if_icmp .eq 8, 3) := by decide +kernel
theorem dWire_drive_74 : decode bWire_drive 74 = .ok (.iload_n 1, 1) := by decide +kernel
theorem dWire_drive_75 : decode bWire_drive 75 = .ok (.iconst 3, 1) := by decide +kernel
theorem dWire_drive_76 : decode bWire_drive 76 = .ok (.if_icmp .ne 7, 3) := by decide +kernel
theorem dWire_drive_79 : decode bWire_drive 79 = .ok (.iconst 1, 1) := by decide +kernel
theorem dWire_drive_80 : decode bWire_drive 80 = .ok (.goto 4, 3) := by decide +kernel
theorem dWire_drive_83 : decode bWire_drive 83 = .ok (.iconst 0, 1) := by decide +kernel
theorem dWire_drive_84 : decode bWire_drive 84 = .ok (.istore_n 3, 1) := by decide +kernel
theorem dWire_drive_85 : decode bWire_drive 85 = .ok (.iload_n 2, 1) := by decide +kernel
theorem dWire_drive_86 : decode bWire_drive 86 = .ok (.ifCond .eq 9, 3) := by decide +kernel
theorem dWire_drive_89 : decode bWire_drive 89 = .ok (.iload_n 3, 1) := by decide +kernel
theorem dWire_drive_90 : decode bWire_drive 90 = .ok (.ifCond .eq 5, 3) := by decide +kernel
theorem dWire_drive_93 : decode bWire_drive 93 = .ok (.iconst 1, 1) := by decide +kernel
theorem dWire_drive_94 : decode bWire_drive 94 = .ok (.ireturn, 1) := by decide +kernel
theorem dWire_drive_95 : decode bWire_drive 95 = .ok (.iload_n 2, 1) := by decide +kernel
theorem dWire_drive_96 : decode bWire_drive 96 = .ok (.ifCond .eq 5, 3) := by decide +kernel
theorem dWire_drive_99 : decode bWire_drive 99 = .ok (.iload_n 0, 1) := by decide +kernel
theorem dWire_drive_100 : decode bWire_drive 100 = .ok (.ireturn, 1) := by decide +kernel
theorem dWire_drive_101 : decode bWire_drive 101 = .ok (.iload_n 3, 1) := by decide +kernel
theorem dWire_drive_102 : decode bWire_drive 102 = .ok (.ifCond .eq 7, 3) := by decide +kernel
theorem dWire_drive_105 : decode bWire_drive 105 = .ok (.iload_n 1, 1) := by decide +kernel
theorem dWire_drive_106 : decode bWire_drive 106 = .ok (.goto 4, 3) := by decide +kernel
theorem dWire_drive_109 : decode bWire_drive 109 = .ok (.iconst 5, 1) := by decide +kernel
theorem dWire_drive_110 : decode bWire_drive 110 = .ok (.ireturn, 1) := by decide +kernel
theorem dWire_and_0 : decode bWire_and 0 = .ok (.iload_n 0, 1) := by decide +kernel
theorem dWire_and_1 : decode bWire_and 1 = .ok (.invokestatic 9, 3) := by decide +kernel
theorem dWire_and_4 : decode bWire_and 4 = .ok (.ifCond .ne 10, 3) := by decide +kernel
theorem dWire_and_7 : decode bWire_and 7 = .ok (.iload_n 1, 1) := by decide +kernel
theorem dWire_and_8 : decode bWire_and 8 = .ok (.invokestatic 9, 3) := by decide +kernel
theorem dWire_and_11 : decode bWire_and 11 = .ok (.ifCond .eq 5, 3) := by decide +kernel
theorem dWire_and_14 : decode bWire_and 14 = .ok (.iconst 2, 1) := by decide +kernel
theorem dWire_and_15 : decode bWire_and 15 = .ok (.ireturn, 1) := by decide +kernel
theorem dWire_and_16 : decode bWire_and 16 = .ok (.iload_n 0, 1) := by decide +kernel
theorem dWire_and_17 : decode bWire_and 17 = .ok (.ifCond .eq 7, 3) := by decide +kernel
theorem dWire_and_20 : decode bWire_and 20 = .ok (.iload_n 1, 1) := by decide +kernel
theorem dWire_and_21 : decode bWire_and 21 = .ok (.ifCond .ne 5, 3) := by decide +kernel
theorem dWire_and_24 : decode bWire_and 24 = .ok (.iconst 0, 1) := by decide +kernel
theorem dWire_and_25 : decode bWire_and 25 = .ok (.ireturn, 1) := by decide +kernel
theorem dWire_and_26 : decode bWire_and 26 = .ok (.iload_n 0, 1) := by decide +kernel
theorem dWire_and_27 : decode bWire_and 27 = .ok (.invokestatic 15, 3) := by decide +kernel
theorem dWire_and_30 : decode bWire_and 30 = .ok (.ifCond .eq 14, 3) := by decide +kernel
theorem dWire_and_33 : decode bWire_and 33 = .ok (.iload_n 1, 1) := by decide +kernel
theorem dWire_and_34 : decode bWire_and 34 = .ok (.invokestatic 15, 3) := by decide +kernel
theorem dWire_and_37 : decode bWire_and 37 = .ok (.ifCond .eq 7, 3) := by decide +kernel
theorem dWire_and_40 : decode bWire_and 40 = .ok (.iconst 3, 1) := by decide +kernel
theorem dWire_and_41 : decode bWire_and 41 = .ok (.goto 4, 3) := by decide +kernel
theorem dWire_and_44 : decode bWire_and 44 = .ok (.iconst 1, 1) := by decide +kernel
theorem dWire_and_45 : decode bWire_and 45 = .ok (.ireturn, 1) := by decide +kernel
theorem dWire_or_0 : decode bWire_or 0 = .ok (.iload_n 0, 1) := by decide +kernel
theorem dWire_or_1 : decode bWire_or 1 = .ok (.invokestatic 15, 3) := by decide +kernel
theorem dWire_or_4 : decode bWire_or 4 = .ok (.ifCond .ne 10, 3) := by decide +kernel
theorem dWire_or_7 : decode bWire_or 7 = .ok (.iload_n 1, 1) := by decide +kernel
theorem dWire_or_8 : decode bWire_or 8 = .ok (.invokestatic 15, 3) := by decide +kernel
theorem dWire_or_11 : decode bWire_or 11 = .ok (.ifCond .eq 5, 3) := by decide +kernel
theorem dWire_or_14 : decode bWire_or 14 = .ok (.iconst 3, 1) := by decide +kernel
theorem dWire_or_15 : decode bWire_or 15 = .ok (.ireturn, 1) := by decide +kernel
theorem dWire_or_16 : decode bWire_or 16 = .ok (.iload_n 0, 1) := by decide +kernel
theorem dWire_or_17 : decode bWire_or 17 = .ok (.ifCond .eq 7, 3) := by decide +kernel
theorem dWire_or_20 : decode bWire_or 20 = .ok (.iload_n 1, 1) := by decide +kernel
theorem dWire_or_21 : decode bWire_or 21 = .ok (.ifCond .ne 5, 3) := by decide +kernel
theorem dWire_or_24 : decode bWire_or 24 = .ok (.iconst 0, 1) := by decide +kernel
theorem dWire_or_25 : decode bWire_or 25 = .ok (.ireturn, 1) := by decide +kernel
theorem dWire_or_26 : decode bWire_or 26 = .ok (.iload_n 0, 1) := by decide +kernel
theorem dWire_or_27 : decode bWire_or 27 = .ok (.invokestatic 9, 3) := by decide +kernel
theorem dWire_or_30 : decode bWire_or 30 = .ok (.ifCond .eq 14, 3) := by decide +kernel
theorem dWire_or_33 : decode bWire_or 33 = .ok (.iload_n 1, 1) := by decide +kernel
theorem dWire_or_34 : decode bWire_or 34 = .ok (.invokestatic 9, 3) := by decide +kernel
theorem dWire_or_37 : decode bWire_or 37 = .ok (.ifCond .eq 7, 3) := by decide +kernel
theorem dWire_or_40 : decode bWire_or 40 = .ok (.iconst 2, 1) := by decide +kernel
theorem dWire_or_41 : decode bWire_or 41 = .ok (.goto 4, 3) := by decide +kernel
theorem dWire_or_44 : decode bWire_or 44 = .ok (.iconst 1, 1) := by decide +kernel
theorem dWire_or_45 : decode bWire_or 45 = .ok (.ireturn, 1) := by decide +kernel
theorem dWire_xor_0 : decode bWire_xor 0 = .ok (.iload_n 0, 1) := by decide +kernel
theorem dWire_xor_1 : decode bWire_xor 1 = .ok (.ifCond .eq 7, 3) := by decide +kernel
theorem dWire_xor_4 : decode bWire_xor 4 = .ok (.iload_n 1, 1) := by decide +kernel
theorem dWire_xor_5 : decode bWire_xor 5 = .ok (.ifCond .ne 5, 3) := by decide +kernel
theorem dWire_xor_8 : decode bWire_xor 8 = .ok (.iconst 0, 1) := by decide +kernel
theorem dWire_xor_9 : decode bWire_xor 9 = .ok (.ireturn, 1) := by decide +kernel
theorem dWire_xor_10 : decode bWire_xor 10 = .ok (.iload_n 0, 1) := by decide +kernel
theorem dWire_xor_11 : decode bWire_xor 11 = .ok (.invokestatic 35, 3) := by decide +kernel
theorem dWire_xor_14 : decode bWire_xor 14 = .ok (.ifCond .eq 10, 3) := by decide +kernel
theorem dWire_xor_17 : decode bWire_xor 17 = .ok (.iload_n 1, 1) := by decide +kernel
theorem dWire_xor_18 : decode bWire_xor 18 = .ok (.invokestatic 35, 3) := by decide +kernel
theorem dWire_xor_21 : decode bWire_xor 21 = .ok (.ifCond .ne 5, 3) := by decide +kernel
theorem dWire_xor_24 : decode bWire_xor 24 = .ok (.iconst 1, 1) := by decide +kernel
theorem dWire_xor_25 : decode bWire_xor 25 = .ok (.ireturn, 1) := by decide +kernel
theorem dWire_xor_26 : decode bWire_xor 26 = .ok (.iload_n 0, 1) := by decide +kernel
theorem dWire_xor_27 : decode bWire_xor 27 = .ok (.invokestatic 15, 3) := by decide +kernel
theorem dWire_xor_30 : decode bWire_xor 30 = .ok (.iload_n 1, 1) := by decide +kernel
theorem dWire_xor_31 : decode bWire_xor 31 = .ok (.invokestatic 15, 3) := by decide +kernel
theorem dWire_xor_34 : decode bWire_xor 34 = .ok (.if_icmp .ne 7, 3) := by decide +kernel
theorem dWire_xor_37 : decode bWire_xor 37 = .ok (.iconst 2, 1) := by decide +kernel
theorem dWire_xor_38 : decode bWire_xor 38 = .ok (.goto 4, 3) := by decide +kernel
theorem dWire_xor_41 : decode bWire_xor 41 = .ok (.iconst 3, 1) := by decide +kernel
theorem dWire_xor_42 : decode bWire_xor 42 = .ok (.ireturn, 1) := by decide +kernel
theorem dWire_not_0 : decode bWire_not 0 = .ok (.iload_n 0, 1) := by decide +kernel
theorem dWire_not_1 : decode bWire_not 1 = .ok (.invokestatic 35, 3) := by decide +kernel
theorem dWire_not_4 : decode bWire_not 4 = .ok (.ifCond .eq 16, 3) := by decide +kernel
theorem dWire_not_7 : decode bWire_not 7 = .ok (.iload_n 0, 1) := by decide +kernel
theorem dWire_not_8 : decode bWire_not 8 = .ok (.invokestatic 9, 3) := by decide +kernel
theorem dWire_not_11 : decode bWire_not 11 = .ok (.ifCond .eq 7, 3) := by decide +kernel
theorem dWire_not_14 : decode bWire_not 14 = .ok (.iconst 3, 1) := by decide +kernel
theorem dWire_not_15 : decode bWire_not 15 = .ok (.goto 4, 3) := by decide +kernel
theorem dWire_not_18 : decode bWire_not 18 = .ok (.iconst 2, 1) := by decide +kernel
theorem dWire_not_19 : decode bWire_not 19 = .ok (.ireturn, 1) := by decide +kernel
theorem dWire_not_20 : decode bWire_not 20 = .ok (.iload_n 0, 1) := by decide +kernel
theorem dWire_not_21 : decode bWire_not 21 = .ok (.ifCond .ne 7, 3) := by decide +kernel
theorem dWire_not_24 : decode bWire_not 24 = .ok (.iconst 0, 1) := by decide +kernel
theorem dWire_not_25 : decode bWire_not 25 = .ok (.goto 4, 3) := by decide +kernel
theorem dWire_not_28 : decode bWire_not 28 = .ok (.iconst 1, 1) := by decide +kernel
theorem dWire_not_29 : decode bWire_not 29 = .ok (.ireturn, 1) := by decide +kernel
theorem dWire_strip_0 : decode bWire_strip 0 = .ok (.iload_n 1, 1) := by decide +kernel
theorem dWire_strip_1 : decode bWire_strip 1 = .ok (.invokestatic 35, 3) := by decide +kernel
theorem dWire_strip_4 : decode bWire_strip 4 = .ok (.ifCond .eq 16, 3) := by decide +kernel
theorem dWire_strip_7 : decode bWire_strip 7 = .ok (.iload_n 1, 1) := by decide +kernel
theorem dWire_strip_8 : decode bWire_strip 8 = .ok (.invokestatic 9, 3) := by decide +kernel
theorem dWire_strip_11 : decode bWire_strip 11 = .ok (.ifCond .eq 7, 3) := by decide +kernel
theorem dWire_strip_14 : decode bWire_strip 14 = .ok (.iconst 2, 1) := by decide +kernel
theorem dWire_strip_15 : decode bWire_strip 15 = .ok (.goto 4, 3) := by decide +kernel
theorem dWire_strip_18 : decode bWire_strip 18 = .ok (.iconst 3, 1) := by decide +kernel
theorem dWire_strip_19 : decode bWire_strip 19 = .ok (.ireturn, 1) := by decide +kernel
theorem dWire_strip_20 : decode bWire_strip 20 = .ok (.iload_n 0, 1) := by decide +kernel
theorem dWire_strip_21 : decode bWire_strip 21 = .ok (.iconst 1, 1) := by decide +kernel
theorem dWire_strip_22 : decode bWire_strip 22 = .ok (.if_icmp .ne 8, 3) := by decide +kernel
theorem dWire_strip_25 : decode bWire_strip 25 = .ok (.iload_n 1, 1) := by decide +kernel
theorem dWire_strip_26 : decode bWire_strip 26 = .ok (.iconst 4, 1) := by decide +kernel
theorem dWire_strip_27 : decode bWire_strip 27 = .ok (.if_icmp .eq 12, 3) := by decide +kernel
theorem dWire_strip_30 : decode bWire_strip 30 = .ok (.iload_n 0, 1) := by decide +kernel
theorem dWire_strip_31 : decode bWire_strip 31 = .ok (.iconst 2, 1) := by decide +kernel
theorem dWire_strip_32 : decode bWire_strip 32 = .ok (.if_icmp .ne 9, 3) := by decide +kernel
theorem dWire_strip_35 : decode bWire_strip 35 = .ok (.iload_n 1, 1) := by decide +kernel
theorem dWire_strip_36 : decode bWire_strip 36 = .ok (.ifCond .ne 5, 3) := by decide +kernel
theorem dWire_strip_39 : decode bWire_strip 39 = .ok (.iload_n 1, 1) := by decide +kernel
theorem dWire_strip_40 : decode bWire_strip 40 = .ok (.ireturn, 1) := by decide +kernel
theorem dWire_strip_41 : decode bWire_strip 41 = .ok (.iload_n 0, 1) := by decide +kernel
theorem dWire_strip_42 : decode bWire_strip 42 = .ok (.iconst 3, 1) := by decide +kernel
theorem dWire_strip_43 : decode bWire_strip 43 = .ok (.if_icmp .ne 7, 3) := by decide +kernel
theorem dWire_strip_46 : decode bWire_strip 46 = .ok (.iconst 2, 1) := by decide +kernel
theorem dWire_strip_47 : decode bWire_strip 47 = .ok (.goto 4, 3) := by decide +kernel
theorem dWire_strip_50 : decode bWire_strip 50 = .ok (.iconst 1, 1) := by decide +kernel
theorem dWire_strip_51 : decode bWire_strip 51 = .ok (.ireturn, 1) := by decide +kernel
theorem dWire_goTogether_0 : decode bWire_goTogether 0 = .ok (.iload_n 0, 1) := by decide +kernel
theorem dWire_goTogether_1 : decode bWire_goTogether 1 = .ok (.bipush 8, 2) := by decide +kernel
theorem dWire_goTogether_3 : decode bWire_goTogether 3 = .ok (.if_icmp .eq 37, 3) := by decide +kernel
theorem dWire_goTogether_6 : decode bWire_goTogether 6 = .ok (.iload_n 1, 1) := by decide +kernel
theorem dWire_goTogether_7 : decode bWire_goTogether 7 = .ok (.bipush 8, 2) := by decide +kernel
theorem dWire_goTogether_9 : decode bWire_goTogether 9 = .ok (.if_icmp .eq 31, 3) := by decide +kernel
theorem dWire_goTogether_12 : decode bWire_goTogether 12 = .ok (.iload_n 0, 1) := by decide +kernel
theorem dWire_goTogether_13 : decode bWire_goTogether 13 = .ok (.invokestatic 9, 3) := by decide +kernel
theorem dWire_goTogether_16 : decode bWire_goTogether 16 = .ok (.ifCond .eq 10, 3) := by decide +kernel
theorem dWire_goTogether_19 : decode bWire_goTogether 19 = .ok (.iload_n 1, 1) := by decide +kernel
theorem dWire_goTogether_20 : decode bWire_goTogether 20 = .ok (.invokestatic 9, 3) := by decide +kernel
theorem dWire_goTogether_23 : decode bWire_goTogether 23 = .ok (.ifCond .ne 17, 3) := by decide +kernel
theorem dWire_goTogether_26 : decode bWire_goTogether 26 = .ok (.iload_n 0, 1) := by decide +kernel
theorem dWire_goTogether_27 : decode bWire_goTogether 27 = .ok (.invokestatic 15, 3) := by decide +kernel
theorem dWire_goTogether_30 : decode bWire_goTogether 30 = .ok (.ifCond .eq 14, 3) := by decide +kernel
theorem dWire_goTogether_33 : decode bWire_goTogether 33 = .ok (.iload_n 1, 1) := by decide +kernel
theorem dWire_goTogether_34 : decode bWire_goTogether 34 = .ok (.invokestatic 15, 3) := by decide +kernel
theorem dWire_goTogether_37 : decode bWire_goTogether 37 = .ok (.ifCond .eq 7, 3) := by decide +kernel
theorem dWire_goTogether_40 : decode bWire_goTogether 40 = .ok (.iconst 1, 1) := by decide +kernel
theorem dWire_goTogether_41 : decode bWire_goTogether 41 = .ok (.goto 4, 3) := by decide +kernel
theorem dWire_goTogether_44 : decode bWire_goTogether 44 = .ok (.iconst 0, 1) := by decide +kernel
theorem dWire_goTogether_45 : decode bWire_goTogether 45 = .ok (.ireturn, 1) := by decide +kernel
theorem dWord_init_0 : decode bWord_init 0 = .ok (.aload_n 0, 1) := by decide +kernel
theorem dWord_init_1 : decode bWord_init 1 = .ok (.invokespecial 3, 3) := by decide +kernel
theorem dWord_init_4 : decode bWord_init 4 = .ok (.aload_n 0, 1) := by decide +kernel
theorem dWord_init_5 : decode bWord_init 5 = .ok (.iconst 0, 1) := by decide +kernel
theorem dWord_init_6 : decode bWord_init 6 = .ok (.putfield 9, 3) := by decide +kernel
theorem dWord_init_9 : decode bWord_init 9 = .ok (.aload_n 0, 1) := by decide +kernel
theorem dWord_init_10 : decode bWord_init 10 = .ok (.bipush 64, 2) := by decide +kernel
theorem dWord_init_12 : decode bWord_init 12 = .ok (.newarray .int, 2) := by decide +kernel
theorem dWord_init_14 : decode bWord_init 14 = .ok (.putfield 15, 3) := by decide +kernel
theorem dWord_init_17 : decode bWord_init 17 = .ok (.return_, 1) := by decide +kernel
theorem dWord_become_0 : decode bWord_become 0 = .ok (.aload_n 0, 1) := by decide +kernel
theorem dWord_become_1 : decode bWord_become 1 = .ok (.iload_n 1, 1) := by decide +kernel
theorem dWord_become_2 : decode bWord_become 2 = .ok (.putfield 9, 3) := by decide +kernel
theorem dWord_become_5 : decode bWord_become 5 = .ok (.iconst 0, 1) := by decide +kernel
theorem dWord_become_6 : decode bWord_become 6 = .ok (.istore_n 3, 1) := by decide +kernel
theorem dWord_become_7 : decode bWord_become 7 = .ok (.iload_n 3, 1) := by decide +kernel
theorem dWord_become_8 : decode bWord_become 8 = .ok (.iload_n 1, 1) := by decide +kernel
theorem dWord_become_9 : decode bWord_become 9 = .ok (.if_icmp .ge 16, 3) := by decide +kernel
theorem dWord_become_12 : decode bWord_become 12 = .ok (.aload_n 0, 1) := by decide +kernel
theorem dWord_become_13 : decode bWord_become 13 = .ok (.getfield 15, 3) := by decide +kernel
theorem dWord_become_16 : decode bWord_become 16 = .ok (.iload_n 3, 1) := by decide +kernel
theorem dWord_become_17 : decode bWord_become 17 = .ok (.iload_n 2, 1) := by decide +kernel
theorem dWord_become_18 : decode bWord_become 18 = .ok (.iastore, 1) := by decide +kernel
theorem dWord_become_19 : decode bWord_become 19 = .ok (.iinc 3 1, 3) := by decide +kernel
theorem dWord_become_22 : decode bWord_become 22 = .ok (.goto (-15), 3) := by decide +kernel
theorem dWord_become_25 : decode bWord_become 25 = .ok (.return_, 1) := by decide +kernel
theorem dWord_hold_0 : decode bWord_hold 0 = .ok (.aload_n 0, 1) := by decide +kernel
theorem dWord_hold_1 : decode bWord_hold 1 = .ok (.iload_n 1, 1) := by decide +kernel
theorem dWord_hold_2 : decode bWord_hold 2 = .ok (.putfield 9, 3) := by decide +kernel
theorem dWord_hold_5 : decode bWord_hold 5 = .ok (.iconst 0, 1) := by decide +kernel
theorem dWord_hold_6 : decode bWord_hold 6 = .ok (.istore 4, 2) := by decide +kernel
theorem dWord_hold_8 : decode bWord_hold 8 = .ok (.iload 4, 2) := by decide +kernel
theorem dWord_hold_10 : decode bWord_hold 10 = .ok (.iload_n 1, 1) := by decide +kernel
theorem dWord_hold_11 : decode bWord_hold 11 = .ok (.if_icmp .ge 32, 3) := by decide +kernel
theorem dWord_hold_14 : decode bWord_hold 14 = .ok (.aload_n 0, 1) := by decide +kernel
theorem dWord_hold_15 : decode bWord_hold 15 = .ok (.getfield 15, 3) := by decide +kernel
theorem dWord_hold_18 : decode bWord_hold 18 = .ok (.iload 4, 2) := by decide +kernel
theorem dWord_hold_20 : decode bWord_hold 20 = .ok (.lload_n 2, 1) := by decide +kernel
theorem dWord_hold_21 : decode bWord_hold 21 = .ok (.iload 4, 2) := by decide +kernel
theorem dWord_hold_23 : decode bWord_hold 23 = .ok (.lushr, 1) := by decide +kernel
theorem dWord_hold_24 : decode bWord_hold 24 = .ok (.lconst 1, 1) := by decide +kernel
theorem dWord_hold_25 : decode bWord_hold 25 = .ok (.land, 1) := by decide +kernel
theorem dWord_hold_26 : decode bWord_hold 26 = .ok (.lconst 0, 1) := by decide +kernel
theorem dWord_hold_27 : decode bWord_hold 27 = .ok (.lcmp, 1) := by decide +kernel
theorem dWord_hold_28 : decode bWord_hold 28 = .ok (.ifCond .ne 7, 3) := by decide +kernel
theorem dWord_hold_31 : decode bWord_hold 31 = .ok (.iconst 2, 1) := by decide +kernel
theorem dWord_hold_32 : decode bWord_hold 32 = .ok (.goto 4, 3) := by decide +kernel
theorem dWord_hold_35 : decode bWord_hold 35 = .ok (.iconst 3, 1) := by decide +kernel
theorem dWord_hold_36 : decode bWord_hold 36 = .ok (.iastore, 1) := by decide +kernel
theorem dWord_hold_37 : decode bWord_hold 37 = .ok (.iinc 4 1, 3) := by decide +kernel
theorem dWord_hold_40 : decode bWord_hold 40 = .ok (.goto (-32), 3) := by decide +kernel
theorem dWord_hold_43 : decode bWord_hold 43 = .ok (.return_, 1) := by decide +kernel
theorem dWord_copy_0 : decode bWord_copy 0 = .ok (.aload_n 0, 1) := by decide +kernel
theorem dWord_copy_1 : decode bWord_copy 1 = .ok (.aload_n 1, 1) := by decide +kernel
theorem dWord_copy_2 : decode bWord_copy 2 = .ok (.getfield 9, 3) := by decide +kernel
theorem dWord_copy_5 : decode bWord_copy 5 = .ok (.putfield 9, 3) := by decide +kernel
theorem dWord_copy_8 : decode bWord_copy 8 = .ok (.aload_n 0, 1) := by decide +kernel
theorem dWord_copy_9 : decode bWord_copy 9 = .ok (.aload_n 1, 1) := by decide +kernel
theorem dWord_copy_10 : decode bWord_copy 10 = .ok (.iconst 0, 1) := by decide +kernel
theorem dWord_copy_11 : decode bWord_copy 11 = .ok (.aload_n 1, 1) := by decide +kernel
theorem dWord_copy_12 : decode bWord_copy 12 = .ok (.getfield 9, 3) := by decide +kernel
theorem dWord_copy_15 : decode bWord_copy 15 = .ok (.iconst 0, 1) := by decide +kernel
theorem dWord_copy_16 : decode bWord_copy 16 = .ok (.invokevirtual 19, 3) := by decide +kernel
theorem dWord_copy_19 : decode bWord_copy 19 = .ok (.return_, 1) := by decide +kernel
theorem dWord_lay_0 : decode bWord_lay 0 = .ok (.iconst 0, 1) := by decide +kernel
theorem dWord_lay_1 : decode bWord_lay 1 = .ok (.istore 5, 2) := by decide +kernel
theorem dWord_lay_3 : decode bWord_lay 3 = .ok (.iload 5, 2) := by decide +kernel
theorem dWord_lay_5 : decode bWord_lay 5 = .ok (.iload_n 3, 1) := by decide +kernel
theorem dWord_lay_6 : decode bWord_lay 6 = .ok (.if_icmp .ge 28, 3) := by decide +kernel
theorem dWord_lay_9 : decode bWord_lay 9 = .ok (.aload_n 0, 1) := by decide +kernel
theorem dWord_lay_10 : decode bWord_lay 10 = .ok (.getfield 15, 3) := by decide +kernel
theorem dWord_lay_13 : decode bWord_lay 13 = .ok (.iload 4, 2) := by decide +kernel
theorem dWord_lay_15 : decode bWord_lay 15 = .ok (.iload 5, 2) := by decide +kernel
theorem dWord_lay_17 : decode bWord_lay 17 = .ok (.iadd, 1) := by decide +kernel
theorem dWord_lay_18 : decode bWord_lay 18 = .ok (.aload_n 1, 1) := by decide +kernel
theorem dWord_lay_19 : decode bWord_lay 19 = .ok (.getfield 15, 3) := by decide +kernel
theorem dWord_lay_22 : decode bWord_lay 22 = .ok (.iload_n 2, 1) := by decide +kernel
theorem dWord_lay_23 : decode bWord_lay 23 = .ok (.iload 5, 2) := by decide +kernel
theorem dWord_lay_25 : decode bWord_lay 25 = .ok (.iadd, 1) := by decide +kernel
theorem dWord_lay_26 : decode bWord_lay 26 = .ok (.iaload, 1) := by decide +kernel
theorem dWord_lay_27 : decode bWord_lay 27 = .ok (.iastore, 1) := by decide +kernel
theorem dWord_lay_28 : decode bWord_lay 28 = .ok (.iinc 5 1, 3) := by decide +kernel
theorem dWord_lay_31 : decode bWord_lay 31 = .ok (.goto (-28), 3) := by decide +kernel
theorem dWord_lay_34 : decode bWord_lay 34 = .ok (.return_, 1) := by decide +kernel
theorem dWord_last_0 : decode bWord_last 0 = .ok (.aload_n 0, 1) := by decide +kernel
theorem dWord_last_1 : decode bWord_last 1 = .ok (.getfield 9, 3) := by decide +kernel
theorem dWord_last_4 : decode bWord_last 4 = .ok (.ifCond .ne 7, 3) := by decide +kernel
theorem dWord_last_7 : decode bWord_last 7 = .ok (.iconst 2, 1) := by decide +kernel
theorem dWord_last_8 : decode bWord_last 8 = .ok (.goto 14, 3) := by decide +kernel
theorem dWord_last_11 : decode bWord_last 11 = .ok (.aload_n 0, 1) := by decide +kernel
theorem dWord_last_12 : decode bWord_last 12 = .ok (.getfield 15, 3) := by decide +kernel
theorem dWord_last_15 : decode bWord_last 15 = .ok (.aload_n 0, 1) := by decide +kernel
theorem dWord_last_16 : decode bWord_last 16 = .ok (.getfield 9, 3) := by decide +kernel
theorem dWord_last_19 : decode bWord_last 19 = .ok (.iconst 1, 1) := by decide +kernel
theorem dWord_last_20 : decode bWord_last 20 = .ok (.isub, 1) := by decide +kernel
theorem dWord_last_21 : decode bWord_last 21 = .ok (.iaload, 1) := by decide +kernel
theorem dWord_last_22 : decode bWord_last 22 = .ok (.ireturn, 1) := by decide +kernel
theorem dWord_isClear_0 : decode bWord_isClear 0 = .ok (.iconst 0, 1) := by decide +kernel
theorem dWord_isClear_1 : decode bWord_isClear 1 = .ok (.istore_n 1, 1) := by decide +kernel
theorem dWord_isClear_2 : decode bWord_isClear 2 = .ok (.iload_n 1, 1) := by decide +kernel
theorem dWord_isClear_3 : decode bWord_isClear 3 = .ok (.aload_n 0, 1) := by decide +kernel
theorem dWord_isClear_4 : decode bWord_isClear 4 = .ok (.getfield 9, 3) := by decide +kernel
theorem dWord_isClear_7 : decode bWord_isClear 7 = .ok (.if_icmp .ge 23, 3) := by decide +kernel
theorem dWord_isClear_10 : decode bWord_isClear 10 = .ok (.aload_n 0, 1) := by decide +kernel
theorem dWord_isClear_11 : decode bWord_isClear 11 = .ok (.getfield 15, 3) := by decide +kernel
theorem dWord_isClear_14 : decode bWord_isClear 14 = .ok (.iload_n 1, 1) := by decide +kernel
theorem dWord_isClear_15 : decode bWord_isClear 15 = .ok (.iaload, 1) := by decide +kernel
theorem dWord_isClear_16 : decode bWord_isClear 16 = .ok (.invokestatic 23, 3) := by decide +kernel
theorem dWord_isClear_19 : decode bWord_isClear 19 = .ok (.ifCond .ne 5, 3) := by decide +kernel
theorem dWord_isClear_22 : decode bWord_isClear 22 = .ok (.iconst 0, 1) := by decide +kernel
theorem dWord_isClear_23 : decode bWord_isClear 23 = .ok (.ireturn, 1) := by decide +kernel
theorem dWord_isClear_24 : decode bWord_isClear 24 = .ok (.iinc 1 1, 3) := by decide +kernel
theorem dWord_isClear_27 : decode bWord_isClear 27 = .ok (.goto (-25), 3) := by decide +kernel
theorem dWord_isClear_30 : decode bWord_isClear 30 = .ok (.iconst 1, 1) := by decide +kernel
theorem dWord_isClear_31 : decode bWord_isClear 31 = .ok (.ireturn, 1) := by decide +kernel
theorem dWord_counts_0 : decode bWord_counts 0 = .ok (.aload_n 0, 1) := by decide +kernel
theorem dWord_counts_1 : decode bWord_counts 1 = .ok (.getfield 9, 3) := by decide +kernel
theorem dWord_counts_4 : decode bWord_counts 4 = .ok (.ifCond .le 14, 3) := by decide +kernel
theorem dWord_counts_7 : decode bWord_counts 7 = .ok (.aload_n 0, 1) := by decide +kernel
theorem dWord_counts_8 : decode bWord_counts 8 = .ok (.invokevirtual 29, 3) := by decide +kernel
theorem dWord_counts_11 : decode bWord_counts 11 = .ok (.ifCond .eq 7, 3) := by decide +kernel
theorem dWord_counts_14 : decode bWord_counts 14 = .ok (.iconst 1, 1) := by decide +kernel
theorem dWord_counts_15 : decode bWord_counts 15 = .ok (.goto 4, 3) := by decide +kernel
theorem dWord_counts_18 : decode bWord_counts 18 = .ok (.iconst 0, 1) := by decide +kernel
theorem dWord_counts_19 : decode bWord_counts 19 = .ok (.ireturn, 1) := by decide +kernel
theorem dWord_asLong_0 : decode bWord_asLong 0 = .ok (.lconst 0, 1) := by decide +kernel
theorem dWord_asLong_1 : decode bWord_asLong 1 = .ok (.lstore_n 2, 1) := by decide +kernel
theorem dWord_asLong_2 : decode bWord_asLong 2 = .ok (.iload_n 1, 1) := by decide +kernel
theorem dWord_asLong_3 : decode bWord_asLong 3 = .ok (.ifCond .eq 8, 3) := by decide +kernel
theorem dWord_asLong_6 : decode bWord_asLong 6 = .ok (.bipush 64, 2) := by decide +kernel
theorem dWord_asLong_8 : decode bWord_asLong 8 = .ok (.goto 7, 3) := by decide +kernel
theorem dWord_asLong_11 : decode bWord_asLong 11 = .ok (.aload_n 0, 1) := by decide +kernel
theorem dWord_asLong_12 : decode bWord_asLong 12 = .ok (.getfield 9, 3) := by decide +kernel
theorem dWord_asLong_15 : decode bWord_asLong 15 = .ok (.istore 4, 2) := by decide +kernel
theorem dWord_asLong_17 : decode bWord_asLong 17 = .ok (.iconst 0, 1) := by decide +kernel
theorem dWord_asLong_18 : decode bWord_asLong 18 = .ok (.istore 5, 2) := by decide +kernel
theorem dWord_asLong_20 : decode bWord_asLong 20 = .ok (.iload 5, 2) := by decide +kernel
theorem dWord_asLong_22 : decode bWord_asLong 22 = .ok (.iload 4, 2) := by decide +kernel
theorem dWord_asLong_24 : decode bWord_asLong 24 = .ok (.if_icmp .ge 49, 3) := by decide +kernel
theorem dWord_asLong_27 : decode bWord_asLong 27 = .ok (.iload 5, 2) := by decide +kernel
theorem dWord_asLong_29 : decode bWord_asLong 29 = .ok (.aload_n 0, 1) := by decide +kernel
theorem dWord_asLong_30 : decode bWord_asLong 30 = .ok (.getfield 9, 3) := by decide +kernel
theorem dWord_asLong_33 : decode bWord_asLong 33 = .ok (.if_icmp .ge 13, 3) := by decide +kernel
theorem dWord_asLong_36 : decode bWord_asLong 36 = .ok (.aload_n 0, 1) := by decide +kernel
theorem dWord_asLong_37 : decode bWord_asLong 37 = .ok (.getfield 15, 3) := by decide +kernel
theorem dWord_asLong_40 : decode bWord_asLong 40 = .ok (.iload 5, 2) := by decide +kernel
theorem dWord_asLong_42 : decode bWord_asLong 42 = .ok (.iaload, 1) := by decide +kernel
theorem dWord_asLong_43 : decode bWord_asLong 43 = .ok (.goto 7, 3) := by decide +kernel
theorem dWord_asLong_46 : decode bWord_asLong 46 = .ok (.aload_n 0, 1) := by decide +kernel
theorem dWord_asLong_47 : decode bWord_asLong 47 = .ok (.invokevirtual 32, 3) := by decide +kernel
theorem dWord_asLong_50 : decode bWord_asLong 50 = .ok (.istore 6, 2) := by decide +kernel
theorem dWord_asLong_52 : decode bWord_asLong 52 = .ok (.iload 6, 2) := by decide +kernel
theorem dWord_asLong_54 : decode bWord_asLong 54 = .ok (.invokestatic 36, 3) := by decide +kernel
theorem dWord_asLong_57 : decode bWord_asLong 57 = .ok (.ifCond .eq 10, 3) := by decide +kernel
theorem dWord_asLong_60 : decode bWord_asLong 60 = .ok (.lload_n 2, 1) := by decide +kernel
theorem dWord_asLong_61 : decode bWord_asLong 61 = .ok (.lconst 1, 1) := by decide +kernel
theorem dWord_asLong_62 : decode bWord_asLong 62 = .ok (.iload 5, 2) := by decide +kernel
theorem dWord_asLong_64 : decode bWord_asLong 64 = .ok (.lshl, 1) := by decide +kernel
theorem dWord_asLong_65 : decode bWord_asLong 65 = .ok (.lor, 1) := by decide +kernel
theorem dWord_asLong_66 : decode bWord_asLong 66 = .ok (.lstore_n 2, 1) := by decide +kernel
theorem dWord_asLong_67 : decode bWord_asLong 67 = .ok (.iinc 5 1, 3) := by decide +kernel
theorem dWord_asLong_70 : decode bWord_asLong 70 = .ok (.goto (-50), 3) := by decide +kernel
theorem dWord_asLong_73 : decode bWord_asLong 73 = .ok (.lload_n 2, 1) := by decide +kernel
theorem dWord_asLong_74 : decode bWord_asLong 74 = .ok (.lreturn, 1) := by decide +kernel
theorem dWord_joined_0 : decode bWord_joined 0 = .ok (.iload_n 2, 1) := by decide +kernel
theorem dWord_joined_1 : decode bWord_joined 1 = .ok (.istore_n 3, 1) := by decide +kernel
theorem dWord_joined_2 : decode bWord_joined 2 = .ok (.iconst 0, 1) := by decide +kernel
theorem dWord_joined_3 : decode bWord_joined 3 = .ok (.istore 4, 2) := by decide +kernel
theorem dWord_joined_5 : decode bWord_joined 5 = .ok (.iload 4, 2) := by decide +kernel
theorem dWord_joined_7 : decode bWord_joined 7 = .ok (.aload_n 0, 1) := by decide +kernel
theorem dWord_joined_8 : decode bWord_joined 8 = .ok (.getfield 9, 3) := by decide +kernel
theorem dWord_joined_11 : decode bWord_joined 11 = .ok (.if_icmp .ge 22, 3) := by decide +kernel
theorem dWord_joined_14 : decode bWord_joined 14 = .ok (.iload_n 1, 1) := by decide +kernel
theorem dWord_joined_15 : decode bWord_joined 15 = .ok (.iload_n 3, 1) := by decide +kernel
theorem dWord_joined_16 : decode bWord_joined 16 = .ok (.aload_n 0, 1) := by decide +kernel
theorem dWord_joined_17 : decode bWord_joined 17 = .ok (.getfield 15, 3) := by decide +kernel
theorem dWord_joined_20 : decode bWord_joined 20 = .ok (.iload 4, 2) := by decide +kernel
theorem dWord_joined_22 : decode bWord_joined 22 = .ok (.iaload, 1) := by decide +kernel
theorem dWord_joined_23 : decode bWord_joined 23 = .ok (.invokestatic 39, 3) := by decide +kernel
theorem dWord_joined_26 : decode bWord_joined 26 = .ok (.istore_n 3, 1) := by decide +kernel
theorem dWord_joined_27 : decode bWord_joined 27 = .ok (.iinc 4 1, 3) := by decide +kernel
theorem dWord_joined_30 : decode bWord_joined 30 = .ok (.goto (-25), 3) := by decide +kernel
theorem dWord_joined_33 : decode bWord_joined 33 = .ok (.iload_n 3, 1) := by decide +kernel
theorem dWord_joined_34 : decode bWord_joined 34 = .ok (.ireturn, 1) := by decide +kernel
end
section
theorem dN_init_0 : decode bN_init 0 = .ok (.aload_n 0, 1) := by decide +kernel
theorem dN_init_1 : decode bN_init 1 = .ok (.invokespecial 1, 3) := by decide +kernel
theorem dN_init_4 : decode bN_init 4 = .ok (.aload_n 0, 1) := by decide +kernel
theorem dN_init_5 : decode bN_init 5 = .ok (.bipush 16, 2) := by decide +kernel
theorem dN_init_7 : decode bN_init 7 = .ok (.anewarray 9, 3) := by decide +kernel
theorem dN_init_10 : decode bN_init 10 = .ok (.putfield 11, 3) := by decide +kernel
theorem dN_init_13 : decode bN_init 13 = .ok (.aload_n 0, 1) := by decide +kernel
theorem dN_init_14 : decode bN_init 14 = .ok (.new 9, 3) := by decide +kernel
theorem dN_init_17 : decode bN_init 17 = .ok (.dup, 1) := by decide +kernel
theorem dN_init_18 : decode bN_init 18 = .ok (.invokespecial 15, 3) := by decide +kernel
theorem dN_init_21 : decode bN_init 21 = .ok (.putfield 16, 3) := by decide +kernel
theorem dN_init_24 : decode bN_init 24 = .ok (.iconst 0, 1) := by decide +kernel
theorem dN_init_25 : decode bN_init 25 = .ok (.istore_n 1, 1) := by decide +kernel
theorem dN_init_26 : decode bN_init 26 = .ok (.iload_n 1, 1) := by decide +kernel
theorem dN_init_27 : decode bN_init 27 = .ok (.bipush 16, 2) := by decide +kernel
theorem dN_init_29 : decode bN_init 29 = .ok (.if_icmp .ge 22, 3) := by decide +kernel
theorem dN_init_32 : decode bN_init 32 = .ok (.aload_n 0, 1) := by decide +kernel
theorem dN_init_33 : decode bN_init 33 = .ok (.getfield 11, 3) := by decide +kernel
theorem dN_init_36 : decode bN_init 36 = .ok (.iload_n 1, 1) := by decide +kernel
theorem dN_init_37 : decode bN_init 37 = .ok (.new 9, 3) := by decide +kernel
theorem dN_init_40 : decode bN_init 40 = .ok (.dup, 1) := by decide +kernel
theorem dN_init_41 : decode bN_init 41 = .ok (.invokespecial 15, 3) := by decide +kernel
theorem dN_init_44 : decode bN_init 44 = .ok (.aastore, 1) := by decide +kernel
theorem dN_init_45 : decode bN_init 45 = .ok (.iinc 1 1, 3) := by decide +kernel
theorem dN_init_48 : decode bN_init 48 = .ok (.goto (-22), 3) := by decide +kernel
theorem dN_init_51 : decode bN_init 51 = .ok (.return_, 1) := by decide +kernel
theorem dN_fill_0 : decode bN_fill 0 = .ok (.iload_n 1, 1) := by decide +kernel
theorem dN_fill_1 : decode bN_fill 1 = .ok (.invokestatic 20, 3) := by decide +kernel
theorem dN_fill_4 : decode bN_fill 4 = .ok (.iload_n 2, 1) := by decide +kernel
theorem dN_fill_5 : decode bN_fill 5 = .ok (.invokestatic 24, 3) := by decide +kernel
theorem dN_fill_8 : decode bN_fill 8 = .ok (.iload_n 3, 1) := by decide +kernel
theorem dN_fill_9 : decode bN_fill 9 = .ok (.invokestatic 27, 3) := by decide +kernel
theorem dN_fill_12 : decode bN_fill 12 = .ok (.aload_n 0, 1) := by decide +kernel
theorem dN_fill_13 : decode bN_fill 13 = .ok (.getfield 11, 3) := by decide +kernel
theorem dN_fill_16 : decode bN_fill 16 = .ok (.iload_n 1, 1) := by decide +kernel
theorem dN_fill_17 : decode bN_fill 17 = .ok (.aaload, 1) := by decide +kernel
theorem dN_fill_18 : decode bN_fill 18 = .ok (.iload_n 2, 1) := by decide +kernel
theorem dN_fill_19 : decode bN_fill 19 = .ok (.iload_n 3, 1) := by decide +kernel
theorem dN_fill_20 : decode bN_fill 20 = .ok (.invokevirtual 30, 3) := by decide +kernel
theorem dN_fill_23 : decode bN_fill 23 = .ok (.return_, 1) := by decide +kernel
theorem dN_put_0 : decode bN_put 0 = .ok (.aload_n 0, 1) := by decide +kernel
theorem dN_put_1 : decode bN_put 1 = .ok (.iload_n 1, 1) := by decide +kernel
theorem dN_put_2 : decode bN_put 2 = .ok (.iload_n 2, 1) := by decide +kernel
theorem dN_put_3 : decode bN_put 3 = .ok (.invokevirtual 34, 3) := by decide +kernel
theorem dN_put_6 : decode bN_put 6 = .ok (.iload_n 3, 1) := by decide +kernel
theorem dN_put_7 : decode bN_put 7 = .ok (.invokestatic 27, 3) := by decide +kernel
theorem dN_put_10 : decode bN_put 10 = .ok (.aload_n 0, 1) := by decide +kernel
theorem dN_put_11 : decode bN_put 11 = .ok (.getfield 11, 3) := by decide +kernel
theorem dN_put_14 : decode bN_put 14 = .ok (.iload_n 1, 1) := by decide +kernel
theorem dN_put_15 : decode bN_put 15 = .ok (.aaload, 1) := by decide +kernel
theorem dN_put_16 : decode bN_put 16 = .ok (.getfield 37, 3) := by decide +kernel
theorem dN_put_19 : decode bN_put 19 = .ok (.iload_n 2, 1) := by decide +kernel
theorem dN_put_20 : decode bN_put 20 = .ok (.iload_n 3, 1) := by decide +kernel
theorem dN_put_21 : decode bN_put 21 = .ok (.iastore, 1) := by decide +kernel
theorem dN_put_22 : decode bN_put 22 = .ok (.return_, 1) := by decide +kernel
theorem dN_get_0 : decode bN_get 0 = .ok (.aload_n 0, 1) := by decide +kernel
theorem dN_get_1 : decode bN_get 1 = .ok (.iload_n 1, 1) := by decide +kernel
theorem dN_get_2 : decode bN_get 2 = .ok (.iload_n 2, 1) := by decide +kernel
theorem dN_get_3 : decode bN_get 3 = .ok (.invokevirtual 34, 3) := by decide +kernel
theorem dN_get_6 : decode bN_get 6 = .ok (.aload_n 0, 1) := by decide +kernel
theorem dN_get_7 : decode bN_get 7 = .ok (.getfield 11, 3) := by decide +kernel
theorem dN_get_10 : decode bN_get 10 = .ok (.iload_n 1, 1) := by decide +kernel
theorem dN_get_11 : decode bN_get 11 = .ok (.aaload, 1) := by decide +kernel
theorem dN_get_12 : decode bN_get 12 = .ok (.getfield 37, 3) := by decide +kernel
theorem dN_get_15 : decode bN_get 15 = .ok (.iload_n 2, 1) := by decide +kernel
theorem dN_get_16 : decode bN_get 16 = .ok (.iaload, 1) := by decide +kernel
theorem dN_get_17 : decode bN_get 17 = .ok (.ireturn, 1) := by decide +kernel
theorem dN_length_0 : decode bN_length 0 = .ok (.iload_n 1, 1) := by decide +kernel
theorem dN_length_1 : decode bN_length 1 = .ok (.invokestatic 20, 3) := by decide +kernel
theorem dN_length_4 : decode bN_length 4 = .ok (.aload_n 0, 1) := by decide +kernel
theorem dN_length_5 : decode bN_length 5 = .ok (.getfield 11, 3) := by decide +kernel
theorem dN_length_8 : decode bN_length 8 = .ok (.iload_n 1, 1) := by decide +kernel
theorem dN_length_9 : decode bN_length 9 = .ok (.aaload, 1) := by decide +kernel
theorem dN_length_10 : decode bN_length 10 = .ok (.getfield 41, 3) := by decide +kernel
theorem dN_length_13 : decode bN_length 13 = .ok (.ireturn, 1) := by decide +kernel
theorem dN_number_0 : decode bN_number 0 = .ok (.iload_n 1, 1) := by decide +kernel
theorem dN_number_1 : decode bN_number 1 = .ok (.invokestatic 20, 3) := by decide +kernel
theorem dN_number_4 : decode bN_number 4 = .ok (.iload_n 2, 1) := by decide +kernel
theorem dN_number_5 : decode bN_number 5 = .ok (.invokestatic 24, 3) := by decide +kernel
theorem dN_number_8 : decode bN_number 8 = .ok (.aload_n 0, 1) := by decide +kernel
theorem dN_number_9 : decode bN_number 9 = .ok (.getfield 11, 3) := by decide +kernel
theorem dN_number_12 : decode bN_number 12 = .ok (.iload_n 1, 1) := by decide +kernel
theorem dN_number_13 : decode bN_number 13 = .ok (.aaload, 1) := by decide +kernel
theorem dN_number_14 : decode bN_number 14 = .ok (.iload_n 2, 1) := by decide +kernel
theorem dN_number_15 : decode bN_number 15 = .ok (.lload_n 3, 1) := by decide +kernel
theorem dN_number_16 : decode bN_number 16 = .ok (.invokevirtual 45, 3) := by decide +kernel
theorem dN_number_19 : decode bN_number 19 = .ok (.return_, 1) := by decide +kernel
theorem dN_numberOf_0 : decode bN_numberOf 0 = .ok (.iload_n 1, 1) := by decide +kernel
theorem dN_numberOf_1 : decode bN_numberOf 1 = .ok (.invokestatic 20, 3) := by decide +kernel
theorem dN_numberOf_4 : decode bN_numberOf 4 = .ok (.aload_n 0, 1) := by decide +kernel
theorem dN_numberOf_5 : decode bN_numberOf 5 = .ok (.getfield 11, 3) := by decide +kernel
theorem dN_numberOf_8 : decode bN_numberOf 8 = .ok (.iload_n 1, 1) := by decide +kernel
theorem dN_numberOf_9 : decode bN_numberOf 9 = .ok (.aaload, 1) := by decide +kernel
theorem dN_numberOf_10 : decode bN_numberOf 10 = .ok (.invokevirtual 49, 3) := by decide +kernel
theorem dN_numberOf_13 : decode bN_numberOf 13 = .ok (.ifCond .ne 13, 3) := by decide +kernel
theorem dN_numberOf_16 : decode bN_numberOf 16 = .ok (.new 53, 3) := by decide +kernel
theorem dN_numberOf_19 : decode bN_numberOf 19 = .ok (.dup, 1) := by decide +kernel
theorem dN_numberOf_20 : decode bN_numberOf 20 = .ok (.ldc 55, 2) := by decide +kernel
theorem dN_numberOf_22 : decode bN_numberOf 22 = .ok (.invokespecial 57, 3) := by decide +kernel
theorem dN_numberOf_25 : decode bN_numberOf 25 = .ok (.athrow, 1) := by decide +kernel
theorem dN_numberOf_26 : decode bN_numberOf 26 = .ok (.aload_n 0, 1) := by decide +kernel
theorem dN_numberOf_27 : decode bN_numberOf 27 = .ok (.getfield 11, 3) := by decide +kernel
theorem dN_numberOf_30 : decode bN_numberOf 30 = .ok (.iload_n 1, 1) := by decide +kernel
theorem dN_numberOf_31 : decode bN_numberOf 31 = .ok (.aaload, 1) := by decide +kernel
theorem dN_numberOf_32 : decode bN_numberOf 32 = .ok (.iload_n 2, 1) := by decide +kernel
theorem dN_numberOf_33 : decode bN_numberOf 33 = .ok (.invokevirtual 60, 3) := by decide +kernel
theorem dN_numberOf_36 : decode bN_numberOf 36 = .ok (.lreturn, 1) := by decide +kernel
theorem dN_operate_0 : decode bN_operate 0 = .ok (.iload_n 3, 1) := by decide +kernel
theorem dN_operate_1 : decode bN_operate 1 = .ok (.invokestatic 20, 3) := by decide +kernel
theorem dN_operate_4 : decode bN_operate 4 = .ok (.iload 4, 2) := by decide +kernel
theorem dN_operate_6 : decode bN_operate 6 = .ok (.invokestatic 20, 3) := by decide +kernel
theorem dN_operate_9 : decode bN_operate 9 = .ok (.iload 5, 2) := by decide +kernel
theorem dN_operate_11 : decode bN_operate 11 = .ok (.invokestatic 20, 3) := by decide +kernel
theorem dN_operate_14 : decode bN_operate 14 = .ok (.iload_n 1, 1) := by decide +kernel
theorem dN_operate_15 : decode bN_operate 15 = .ok (.ifCond .lt 9, 3) := by decide +kernel
theorem dN_operate_18 : decode bN_operate 18 = .ok (.iload_n 1, 1) := by decide +kernel
theorem dN_operate_19 : decode bN_operate 19 = .ok (.bipush 13, 2) := by decide +kernel
theorem dN_operate_21 : decode bN_operate 21 = .ok (.if_icmp .le 13, 3) := by decide +kernel
theorem dN_operate_24 : decode bN_operate 24 = .ok (.new 64, 3) := by decide +kernel
theorem dN_operate_27 : decode bN_operate 27 = .ok (.dup, 1) := by decide +kernel
theorem dN_operate_28 : decode bN_operate 28 = .ok (.ldc 66, 2) := by decide +kernel
theorem dN_operate_30 : decode bN_operate 30 = .ok (.invokespecial 68, 3) := by decide +kernel
theorem dN_operate_33 : decode bN_operate 33 = .ok (.athrow, 1) := by decide +kernel
theorem dN_operate_34 : decode bN_operate 34 = .ok (.iload_n 1, 1) := by decide +kernel
theorem dN_operate_35 : decode bN_operate 35 = .ok (.bipush 6, 2) := by decide +kernel
theorem dN_operate_37 : decode bN_operate 37 = .ok (.if_icmp .gt 24, 3) := by decide +kernel
theorem dN_operate_40 : decode bN_operate 40 = .ok (.aload_n 0, 1) := by decide +kernel
theorem dN_operate_41 : decode bN_operate 41 = .ok (.iload_n 1, 1) := by decide +kernel
theorem dN_operate_42 : decode bN_operate 42 = .ok (.aload_n 0, 1) := by decide +kernel
theorem dN_operate_43 : decode bN_operate 43 = .ok (.getfield 11, 3) := by decide +kernel
theorem dN_operate_46 : decode bN_operate 46 = .ok (.iload_n 3, 1) := by decide +kernel
theorem dN_operate_47 : decode bN_operate 47 = .ok (.aaload, 1) := by decide +kernel
theorem dN_operate_48 : decode bN_operate 48 = .ok (.aload_n 0, 1) := by decide +kernel
theorem dN_operate_49 : decode bN_operate 49 = .ok (.getfield 11, 3) := by decide +kernel
theorem dN_operate_52 : decode bN_operate 52 = .ok (.iload 4, 2) := by decide +kernel
theorem dN_operate_54 : decode bN_operate 54 = .ok (.aaload, 1) := by decide +kernel
theorem dN_operate_55 : decode bN_operate 55 = .ok (.invokevirtual 69, 3) := by decide +kernel
theorem dN_operate_58 : decode bN_operate 58 = .ok (.goto 48, 3) := by decide +kernel
theorem dN_operate_61 : decode bN_operate 61 = .ok (.iload_n 1, 1) := by decide +kernel
theorem dN_operate_62 : decode bN_operate 62 = .ok (.bipush 13, 2) := by decide +kernel
theorem dN_operate_64 : decode bN_operate 64 = .ok (.if_icmp .ne 23, 3) := by decide +kernel
theorem dN_operate_67 : decode bN_operate 67 = .ok (.aload_n 0, 1) := by decide +kernel
theorem dN_operate_68 : decode bN_operate 68 = .ok (.aload_n 0, 1) := by decide +kernel
theorem dN_operate_69 : decode bN_operate 69 = .ok (.getfield 11, 3) := by decide +kernel
theorem dN_operate_72 : decode bN_operate 72 = .ok (.iload_n 3, 1) := by decide +kernel
theorem dN_operate_73 : decode bN_operate 73 = .ok (.aaload, 1) := by decide +kernel
theorem dN_operate_74 : decode bN_operate 74 = .ok (.aload_n 0, 1) := by decide +kernel
theorem dN_operate_75 : decode bN_operate 75 = .ok (.getfield 11, 3) := by decide +kernel
theorem dN_operate_78 : decode bN_operate 78 = .ok (.iload 4, 2) := by decide +kernel
theorem dN_operate_80 : decode bN_operate 80 = .ok (.aaload, 1) := by decide +kernel
theorem dN_operate_81 : decode bN_operate 81 = .ok (.invokevirtual 73, 3) := by decide +kernel
theorem dN_operate_84 : decode bN_operate 84 = .ok (.goto 22, 3) := by decide +kernel
theorem dN_operate_87 : decode bN_operate 87 = .ok (.aload_n 0, 1) := by decide +kernel
theorem dN_operate_88 : decode bN_operate 88 = .ok (.iload_n 1, 1) := by decide +kernel
theorem dN_operate_89 : decode bN_operate 89 = .ok (.iload_n 2, 1) := by decide +kernel
theorem dN_operate_90 : decode bN_operate 90 = .ok (.aload_n 0, 1) := by decide +kernel
theorem dN_operate_91 : decode bN_operate 91 = .ok (.getfield 11, 3) := by decide +kernel
theorem dN_operate_94 : decode bN_operate 94 = .ok (.iload_n 3, 1) := by decide +kernel
theorem dN_operate_95 : decode bN_operate 95 = .ok (.aaload, 1) := by decide +kernel
theorem dN_operate_96 : decode bN_operate 96 = .ok (.aload_n 0, 1) := by decide +kernel
theorem dN_operate_97 : decode bN_operate 97 = .ok (.getfield 11, 3) := by decide +kernel
theorem dN_operate_100 : decode bN_operate 100 = .ok (.iload 4, 2) := by decide +kernel
theorem dN_operate_102 : decode bN_operate 102 = .ok (.aaload, 1) := by decide +kernel
theorem dN_operate_103 : decode bN_operate 103 = .ok (.invokevirtual 77, 3) := by decide +kernel
theorem dN_operate_106 : decode bN_operate 106 = .ok (.aload_n 0, 1) := by decide +kernel
theorem dN_operate_107 : decode bN_operate 107 = .ok (.getfield 11, 3) := by decide +kernel
theorem dN_operate_110 : decode bN_operate 110 = .ok (.iload 5, 2) := by decide +kernel
theorem dN_operate_112 : decode bN_operate 112 = .ok (.aaload, 1) := by decide +kernel
theorem dN_operate_113 : decode bN_operate 113 = .ok (.aload_n 0, 1) := by decide +kernel
theorem dN_operate_114 : decode bN_operate 114 = .ok (.getfield 16, 3) := by decide +kernel
theorem dN_operate_117 : decode bN_operate 117 = .ok (.invokevirtual 81, 3) := by decide +kernel
theorem dN_operate_120 : decode bN_operate 120 = .ok (.return_, 1) := by decide +kernel
theorem dN_change_0 : decode bN_change 0 = .ok (.iload_n 2, 1) := by decide +kernel
theorem dN_change_1 : decode bN_change 1 = .ok (.invokestatic 20, 3) := by decide +kernel
theorem dN_change_4 : decode bN_change 4 = .ok (.iload_n 3, 1) := by decide +kernel
theorem dN_change_5 : decode bN_change 5 = .ok (.invokestatic 20, 3) := by decide +kernel
theorem dN_change_8 : decode bN_change 8 = .ok (.iload_n 1, 1) := by decide +kernel
theorem dN_change_9 : decode bN_change 9 = .ok (.ifCond .lt 9, 3) := by decide +kernel
theorem dN_change_12 : decode bN_change 12 = .ok (.iload_n 1, 1) := by decide +kernel
theorem dN_change_13 : decode bN_change 13 = .ok (.bipush 6, 2) := by decide +kernel
theorem dN_change_15 : decode bN_change 15 = .ok (.if_icmp .le 13, 3) := by decide +kernel
theorem dN_change_18 : decode bN_change 18 = .ok (.new 64, 3) := by decide +kernel
theorem dN_change_21 : decode bN_change 21 = .ok (.dup, 1) := by decide +kernel
theorem dN_change_22 : decode bN_change 22 = .ok (.ldc 85, 2) := by decide +kernel
theorem dN_change_24 : decode bN_change 24 = .ok (.invokespecial 68, 3) := by decide +kernel
theorem dN_change_27 : decode bN_change 27 = .ok (.athrow, 1) := by decide +kernel
theorem dN_change_28 : decode bN_change 28 = .ok (.iload_n 1, 1) := by decide +kernel
theorem dN_change_29 : decode bN_change 29 = .ok (.iconst 4, 1) := by decide +kernel
theorem dN_change_30 : decode bN_change 30 = .ok (.if_icmp .gt 17, 3) := by decide +kernel
theorem dN_change_33 : decode bN_change 33 = .ok (.aload_n 0, 1) := by decide +kernel
theorem dN_change_34 : decode bN_change 34 = .ok (.iload_n 1, 1) := by decide +kernel
theorem dN_change_35 : decode bN_change 35 = .ok (.aload_n 0, 1) := by decide +kernel
theorem dN_change_36 : decode bN_change 36 = .ok (.getfield 11, 3) := by decide +kernel
theorem dN_change_39 : decode bN_change 39 = .ok (.iload_n 2, 1) := by decide +kernel
theorem dN_change_40 : decode bN_change 40 = .ok (.aaload, 1) := by decide +kernel
theorem dN_change_41 : decode bN_change 41 = .ok (.invokevirtual 87, 3) := by decide +kernel
theorem dN_change_44 : decode bN_change 44 = .ok (.goto 14, 3) := by decide +kernel
theorem dN_change_47 : decode bN_change 47 = .ok (.aload_n 0, 1) := by decide +kernel
theorem dN_change_48 : decode bN_change 48 = .ok (.iload_n 1, 1) := by decide +kernel
theorem dN_change_49 : decode bN_change 49 = .ok (.aload_n 0, 1) := by decide +kernel
theorem dN_change_50 : decode bN_change 50 = .ok (.getfield 11, 3) := by decide +kernel
theorem dN_change_53 : decode bN_change 53 = .ok (.iload_n 2, 1) := by decide +kernel
theorem dN_change_54 : decode bN_change 54 = .ok (.aaload, 1) := by decide +kernel
theorem dN_change_55 : decode bN_change 55 = .ok (.invokevirtual 91, 3) := by decide +kernel
theorem dN_change_58 : decode bN_change 58 = .ok (.aload_n 0, 1) := by decide +kernel
theorem dN_change_59 : decode bN_change 59 = .ok (.getfield 11, 3) := by decide +kernel
theorem dN_change_62 : decode bN_change 62 = .ok (.iload_n 3, 1) := by decide +kernel
theorem dN_change_63 : decode bN_change 63 = .ok (.aaload, 1) := by decide +kernel
theorem dN_change_64 : decode bN_change 64 = .ok (.aload_n 0, 1) := by decide +kernel
theorem dN_change_65 : decode bN_change 65 = .ok (.getfield 16, 3) := by decide +kernel
theorem dN_change_68 : decode bN_change 68 = .ok (.invokevirtual 81, 3) := by decide +kernel
theorem dN_change_71 : decode bN_change 71 = .ok (.return_, 1) := by decide +kernel
theorem dN_shift_0 : decode bN_shift 0 = .ok (.iload 4, 2) := by decide +kernel
theorem dN_shift_2 : decode bN_shift 2 = .ok (.invokestatic 20, 3) := by decide +kernel
theorem dN_shift_5 : decode bN_shift 5 = .ok (.iload 5, 2) := by decide +kernel
theorem dN_shift_7 : decode bN_shift 7 = .ok (.invokestatic 20, 3) := by decide +kernel
theorem dN_shift_10 : decode bN_shift 10 = .ok (.iload_n 3, 1) := by decide +kernel
theorem dN_shift_11 : decode bN_shift 11 = .ok (.invokestatic 27, 3) := by decide +kernel
theorem dN_shift_14 : decode bN_shift 14 = .ok (.iload_n 1, 1) := by decide +kernel
theorem dN_shift_15 : decode bN_shift 15 = .ok (.ifCond .lt 8, 3) := by decide +kernel
theorem dN_shift_18 : decode bN_shift 18 = .ok (.iload_n 1, 1) := by decide +kernel
theorem dN_shift_19 : decode bN_shift 19 = .ok (.iconst 4, 1) := by decide +kernel
theorem dN_shift_20 : decode bN_shift 20 = .ok (.if_icmp .le 13, 3) := by decide +kernel
theorem dN_shift_23 : decode bN_shift 23 = .ok (.new 64, 3) := by decide +kernel
theorem dN_shift_26 : decode bN_shift 26 = .ok (.dup, 1) := by decide +kernel
theorem dN_shift_27 : decode bN_shift 27 = .ok (.ldc 94, 2) := by decide +kernel
theorem dN_shift_29 : decode bN_shift 29 = .ok (.invokespecial 68, 3) := by decide +kernel
theorem dN_shift_32 : decode bN_shift 32 = .ok (.athrow, 1) := by decide +kernel
theorem dN_shift_33 : decode bN_shift 33 = .ok (.iload_n 2, 1) := by decide +kernel
theorem dN_shift_34 : decode bN_shift 34 = .ok (.sipush (-1000), 3) := by decide +kernel
theorem dN_shift_37 : decode bN_shift 37 = .ok (.if_icmp .lt 10, 3) := by decide +kernel
theorem dN_shift_40 : decode bN_shift 40 = .ok (.iload_n 2, 1) := by decide +kernel
theorem dN_shift_41 : decode bN_shift 41 = .ok (.sipush 1000, 3) := by decide +kernel
theorem dN_shift_44 : decode bN_shift 44 = .ok (.if_icmp .le 13, 3) := by decide +kernel
theorem dN_shift_47 : decode bN_shift 47 = .ok (.new 64, 3) := by decide +kernel
theorem dN_shift_50 : decode bN_shift 50 = .ok (.dup, 1) := by decide +kernel
theorem dN_shift_51 : decode bN_shift 51 = .ok (.ldc 96, 2) := by decide +kernel
theorem dN_shift_53 : decode bN_shift 53 = .ok (.invokespecial 68, 3) := by decide +kernel
theorem dN_shift_56 : decode bN_shift 56 = .ok (.athrow, 1) := by decide +kernel
theorem dN_shift_57 : decode bN_shift 57 = .ok (.iload_n 1, 1) := by decide +kernel
theorem dN_shift_58 : decode bN_shift 58 = .ok (.ifCond .eq 8, 3) := by decide +kernel
theorem dN_shift_61 : decode bN_shift 61 = .ok (.iload_n 1, 1) := by decide +kernel
theorem dN_shift_62 : decode bN_shift 62 = .ok (.iconst 3, 1) := by decide +kernel
theorem dN_shift_63 : decode bN_shift 63 = .ok (.if_icmp .ne 7, 3) := by decide +kernel
theorem dN_shift_66 : decode bN_shift 66 = .ok (.iload_n 2, 1) := by decide +kernel
theorem dN_shift_67 : decode bN_shift 67 = .ok (.goto 5, 3) := by decide +kernel
theorem dN_shift_70 : decode bN_shift 70 = .ok (.iload_n 2, 1) := by decide +kernel
theorem dN_shift_71 : decode bN_shift 71 = .ok (.ineg, 1) := by decide +kernel
theorem dN_shift_72 : decode bN_shift 72 = .ok (.istore 6, 2) := by decide +kernel
theorem dN_shift_74 : decode bN_shift 74 = .ok (.iload_n 1, 1) := by decide +kernel
theorem dN_shift_75 : decode bN_shift 75 = .ok (.iconst 3, 1) := by decide +kernel
theorem dN_shift_76 : decode bN_shift 76 = .ok (.if_icmp .eq 8, 3) := by decide +kernel
theorem dN_shift_79 : decode bN_shift 79 = .ok (.iload_n 1, 1) := by decide +kernel
theorem dN_shift_80 : decode bN_shift 80 = .ok (.iconst 4, 1) := by decide +kernel
theorem dN_shift_81 : decode bN_shift 81 = .ok (.if_icmp .ne 19, 3) := by decide +kernel
theorem dN_shift_84 : decode bN_shift 84 = .ok (.aload_n 0, 1) := by decide +kernel
theorem dN_shift_85 : decode bN_shift 85 = .ok (.iload 6, 2) := by decide +kernel
theorem dN_shift_87 : decode bN_shift 87 = .ok (.aload_n 0, 1) := by decide +kernel
theorem dN_shift_88 : decode bN_shift 88 = .ok (.getfield 11, 3) := by decide +kernel
theorem dN_shift_91 : decode bN_shift 91 = .ok (.iload 4, 2) := by decide +kernel
theorem dN_shift_93 : decode bN_shift 93 = .ok (.aaload, 1) := by decide +kernel
theorem dN_shift_94 : decode bN_shift 94 = .ok (.invokevirtual 98, 3) := by decide +kernel
theorem dN_shift_97 : decode bN_shift 97 = .ok (.goto 56, 3) := by decide +kernel
theorem dN_shift_100 : decode bN_shift 100 = .ok (.iload_n 1, 1) := by decide +kernel
theorem dN_shift_101 : decode bN_shift 101 = .ok (.iconst 2, 1) := by decide +kernel
theorem dN_shift_102 : decode bN_shift 102 = .ok (.if_icmp .ne 37, 3) := by decide +kernel
theorem dN_shift_105 : decode bN_shift 105 = .ok (.aload_n 0, 1) := by decide +kernel
theorem dN_shift_106 : decode bN_shift 106 = .ok (.iload 6, 2) := by decide +kernel
theorem dN_shift_108 : decode bN_shift 108 = .ok (.iload_n 2, 1) := by decide +kernel
theorem dN_shift_109 : decode bN_shift 109 = .ok (.ifCond .ge 7, 3) := by decide +kernel
theorem dN_shift_112 : decode bN_shift 112 = .ok (.iconst 2, 1) := by decide +kernel
theorem dN_shift_113 : decode bN_shift 113 = .ok (.goto 13, 3) := by decide +kernel
theorem dN_shift_116 : decode bN_shift 116 = .ok (.aload_n 0, 1) := by decide +kernel
theorem dN_shift_117 : decode bN_shift 117 = .ok (.getfield 11, 3) := by decide +kernel
theorem dN_shift_120 : decode bN_shift 120 = .ok (.iload 4, 2) := by decide +kernel
theorem dN_shift_122 : decode bN_shift 122 = .ok (.aaload, 1) := by decide +kernel
theorem dN_shift_123 : decode bN_shift 123 = .ok (.invokevirtual 101, 3) := by decide +kernel
theorem dN_shift_126 : decode bN_shift 126 = .ok (.aload_n 0, 1) := by decide +kernel
theorem dN_shift_127 : decode bN_shift 127 = .ok (.getfield 11, 3) := by decide +kernel
theorem dN_shift_130 : decode bN_shift 130 = .ok (.iload 4, 2) := by decide +kernel
theorem dN_shift_132 : decode bN_shift 132 = .ok (.aaload, 1) := by decide +kernel
theorem dN_shift_133 : decode bN_shift 133 = .ok (.invokevirtual 105, 3) := by decide +kernel
theorem dN_shift_136 : decode bN_shift 136 = .ok (.goto 17, 3) := by decide +kernel
theorem dN_shift_139 : decode bN_shift 139 = .ok (.aload_n 0, 1) := by decide +kernel
theorem dN_shift_140 : decode bN_shift 140 = .ok (.iload 6, 2) := by decide +kernel
theorem dN_shift_142 : decode bN_shift 142 = .ok (.iload_n 3, 1) := by decide +kernel
theorem dN_shift_143 : decode bN_shift 143 = .ok (.aload_n 0, 1) := by decide +kernel
theorem dN_shift_144 : decode bN_shift 144 = .ok (.getfield 11, 3) := by decide +kernel
theorem dN_shift_147 : decode bN_shift 147 = .ok (.iload 4, 2) := by decide +kernel
theorem dN_shift_149 : decode bN_shift 149 = .ok (.aaload, 1) := by decide +kernel
theorem dN_shift_150 : decode bN_shift 150 = .ok (.invokevirtual 105, 3) := by decide +kernel
theorem dN_shift_153 : decode bN_shift 153 = .ok (.aload_n 0, 1) := by decide +kernel
theorem dN_shift_154 : decode bN_shift 154 = .ok (.getfield 11, 3) := by decide +kernel
theorem dN_shift_157 : decode bN_shift 157 = .ok (.iload 5, 2) := by decide +kernel
theorem dN_shift_159 : decode bN_shift 159 = .ok (.aaload, 1) := by decide +kernel
theorem dN_shift_160 : decode bN_shift 160 = .ok (.aload_n 0, 1) := by decide +kernel
theorem dN_shift_161 : decode bN_shift 161 = .ok (.getfield 16, 3) := by decide +kernel
theorem dN_shift_164 : decode bN_shift 164 = .ok (.invokevirtual 81, 3) := by decide +kernel
theorem dN_shift_167 : decode bN_shift 167 = .ok (.return_, 1) := by decide +kernel
theorem dN_bring_0 : decode bN_bring 0 = .ok (.iload_n 3, 1) := by decide +kernel
theorem dN_bring_1 : decode bN_bring 1 = .ok (.invokestatic 20, 3) := by decide +kernel
theorem dN_bring_4 : decode bN_bring 4 = .ok (.iload 4, 2) := by decide +kernel
theorem dN_bring_6 : decode bN_bring 6 = .ok (.invokestatic 20, 3) := by decide +kernel
theorem dN_bring_9 : decode bN_bring 9 = .ok (.iload_n 2, 1) := by decide +kernel
theorem dN_bring_10 : decode bN_bring 10 = .ok (.invokestatic 24, 3) := by decide +kernel
theorem dN_bring_13 : decode bN_bring 13 = .ok (.aload_n 0, 1) := by decide +kernel
theorem dN_bring_14 : decode bN_bring 14 = .ok (.getfield 11, 3) := by decide +kernel
theorem dN_bring_17 : decode bN_bring 17 = .ok (.iload_n 3, 1) := by decide +kernel
theorem dN_bring_18 : decode bN_bring 18 = .ok (.aaload, 1) := by decide +kernel
theorem dN_bring_19 : decode bN_bring 19 = .ok (.astore 5, 2) := by decide +kernel
theorem dN_bring_21 : decode bN_bring 21 = .ok (.aload_n 0, 1) := by decide +kernel
theorem dN_bring_22 : decode bN_bring 22 = .ok (.getfield 16, 3) := by decide +kernel
theorem dN_bring_25 : decode bN_bring 25 = .ok (.iload_n 2, 1) := by decide +kernel
theorem dN_bring_26 : decode bN_bring 26 = .ok (.iload_n 1, 1) := by decide +kernel
theorem dN_bring_27 : decode bN_bring 27 = .ok (.ifCond .eq 11, 3) := by decide +kernel
theorem dN_bring_30 : decode bN_bring 30 = .ok (.aload 5, 2) := by decide +kernel
theorem dN_bring_32 : decode bN_bring 32 = .ok (.invokevirtual 101, 3) := by decide +kernel
theorem dN_bring_35 : decode bN_bring 35 = .ok (.goto 4, 3) := by decide +kernel
theorem dN_bring_38 : decode bN_bring 38 = .ok (.iconst 2, 1) := by decide +kernel
theorem dN_bring_39 : decode bN_bring 39 = .ok (.invokevirtual 30, 3) := by decide +kernel
theorem dN_bring_42 : decode bN_bring 42 = .ok (.aload_n 0, 1) := by decide +kernel
theorem dN_bring_43 : decode bN_bring 43 = .ok (.getfield 16, 3) := by decide +kernel
theorem dN_bring_46 : decode bN_bring 46 = .ok (.aload 5, 2) := by decide +kernel
theorem dN_bring_48 : decode bN_bring 48 = .ok (.iconst 0, 1) := by decide +kernel
theorem dN_bring_49 : decode bN_bring 49 = .ok (.iload_n 2, 1) := by decide +kernel
theorem dN_bring_50 : decode bN_bring 50 = .ok (.aload 5, 2) := by decide +kernel
theorem dN_bring_52 : decode bN_bring 52 = .ok (.getfield 41, 3) := by decide +kernel
theorem dN_bring_55 : decode bN_bring 55 = .ok (.invokestatic 109, 3) := by decide +kernel
theorem dN_bring_58 : decode bN_bring 58 = .ok (.iconst 0, 1) := by decide +kernel
theorem dN_bring_59 : decode bN_bring 59 = .ok (.invokevirtual 115, 3) := by decide +kernel
theorem dN_bring_62 : decode bN_bring 62 = .ok (.aload_n 0, 1) := by decide +kernel
theorem dN_bring_63 : decode bN_bring 63 = .ok (.getfield 11, 3) := by decide +kernel
theorem dN_bring_66 : decode bN_bring 66 = .ok (.iload 4, 2) := by decide +kernel
theorem dN_bring_68 : decode bN_bring 68 = .ok (.aaload, 1) := by decide +kernel
theorem dN_bring_69 : decode bN_bring 69 = .ok (.aload_n 0, 1) := by decide +kernel
theorem dN_bring_70 : decode bN_bring 70 = .ok (.getfield 16, 3) := by decide +kernel
theorem dN_bring_73 : decode bN_bring 73 = .ok (.invokevirtual 81, 3) := by decide +kernel
theorem dN_bring_76 : decode bN_bring 76 = .ok (.return_, 1) := by decide +kernel
theorem dN_cut_0 : decode bN_cut 0 = .ok (.iload_n 3, 1) := by decide +kernel
theorem dN_cut_1 : decode bN_cut 1 = .ok (.invokestatic 20, 3) := by decide +kernel
theorem dN_cut_4 : decode bN_cut 4 = .ok (.iload 4, 2) := by decide +kernel
theorem dN_cut_6 : decode bN_cut 6 = .ok (.invokestatic 20, 3) := by decide +kernel
theorem dN_cut_9 : decode bN_cut 9 = .ok (.aload_n 0, 1) := by decide +kernel
theorem dN_cut_10 : decode bN_cut 10 = .ok (.getfield 11, 3) := by decide +kernel
theorem dN_cut_13 : decode bN_cut 13 = .ok (.iload_n 3, 1) := by decide +kernel
theorem dN_cut_14 : decode bN_cut 14 = .ok (.aaload, 1) := by decide +kernel
theorem dN_cut_15 : decode bN_cut 15 = .ok (.astore 5, 2) := by decide +kernel
theorem dN_cut_17 : decode bN_cut 17 = .ok (.iload_n 1, 1) := by decide +kernel
theorem dN_cut_18 : decode bN_cut 18 = .ok (.ifCond .lt 27, 3) := by decide +kernel
theorem dN_cut_21 : decode bN_cut 21 = .ok (.iload_n 1, 1) := by decide +kernel
theorem dN_cut_22 : decode bN_cut 22 = .ok (.aload 5, 2) := by decide +kernel
theorem dN_cut_24 : decode bN_cut 24 = .ok (.getfield 41, 3) := by decide +kernel
theorem dN_cut_27 : decode bN_cut 27 = .ok (.if_icmp .gt 18, 3) := by decide +kernel
theorem dN_cut_30 : decode bN_cut 30 = .ok (.iload_n 2, 1) := by decide +kernel
theorem dN_cut_31 : decode bN_cut 31 = .ok (.ifCond .lt 14, 3) := by decide +kernel
theorem dN_cut_34 : decode bN_cut 34 = .ok (.iload_n 2, 1) := by decide +kernel
theorem dN_cut_35 : decode bN_cut 35 = .ok (.aload 5, 2) := by decide +kernel
theorem dN_cut_37 : decode bN_cut 37 = .ok (.getfield 41, 3) := by decide +kernel
theorem dN_cut_40 : decode bN_cut 40 = .ok (.iload_n 1, 1) := by decide +kernel
theorem dN_cut_41 : decode bN_cut 41 = .ok (.isub, 1) := by decide +kernel
theorem dN_cut_42 : decode bN_cut 42 = .ok (.if_icmp .le 13, 3) := by decide +kernel
theorem dN_cut_45 : decode bN_cut 45 = .ok (.new 119, 3) := by decide +kernel
theorem dN_cut_48 : decode bN_cut 48 = .ok (.dup, 1) := by decide +kernel
theorem dN_cut_49 : decode bN_cut 49 = .ok (.ldc 121, 2) := by decide +kernel
theorem dN_cut_51 : decode bN_cut 51 = .ok (.invokespecial 123, 3) := by decide +kernel
theorem dN_cut_54 : decode bN_cut 54 = .ok (.athrow, 1) := by decide +kernel
theorem dN_cut_55 : decode bN_cut 55 = .ok (.aload_n 0, 1) := by decide +kernel
theorem dN_cut_56 : decode bN_cut 56 = .ok (.getfield 16, 3) := by decide +kernel
theorem dN_cut_59 : decode bN_cut 59 = .ok (.iload_n 2, 1) := by decide +kernel
theorem dN_cut_60 : decode bN_cut 60 = .ok (.putfield 41, 3) := by decide +kernel
theorem dN_cut_63 : decode bN_cut 63 = .ok (.aload_n 0, 1) := by decide +kernel
theorem dN_cut_64 : decode bN_cut 64 = .ok (.getfield 16, 3) := by decide +kernel
theorem dN_cut_67 : decode bN_cut 67 = .ok (.aload 5, 2) := by decide +kernel
theorem dN_cut_69 : decode bN_cut 69 = .ok (.iload_n 1, 1) := by decide +kernel
theorem dN_cut_70 : decode bN_cut 70 = .ok (.iload_n 2, 1) := by decide +kernel
theorem dN_cut_71 : decode bN_cut 71 = .ok (.iconst 0, 1) := by decide +kernel
theorem dN_cut_72 : decode bN_cut 72 = .ok (.invokevirtual 115, 3) := by decide +kernel
theorem dN_cut_75 : decode bN_cut 75 = .ok (.aload_n 0, 1) := by decide +kernel
theorem dN_cut_76 : decode bN_cut 76 = .ok (.getfield 11, 3) := by decide +kernel
theorem dN_cut_79 : decode bN_cut 79 = .ok (.iload 4, 2) := by decide +kernel
theorem dN_cut_81 : decode bN_cut 81 = .ok (.aaload, 1) := by decide +kernel
theorem dN_cut_82 : decode bN_cut 82 = .ok (.aload_n 0, 1) := by decide +kernel
theorem dN_cut_83 : decode bN_cut 83 = .ok (.getfield 16, 3) := by decide +kernel
theorem dN_cut_86 : decode bN_cut 86 = .ok (.invokevirtual 81, 3) := by decide +kernel
theorem dN_cut_89 : decode bN_cut 89 = .ok (.return_, 1) := by decide +kernel
theorem dN_compare_0 : decode bN_compare 0 = .ok (.iload_n 2, 1) := by decide +kernel
theorem dN_compare_1 : decode bN_compare 1 = .ok (.invokestatic 20, 3) := by decide +kernel
theorem dN_compare_4 : decode bN_compare 4 = .ok (.iload_n 3, 1) := by decide +kernel
theorem dN_compare_5 : decode bN_compare 5 = .ok (.invokestatic 20, 3) := by decide +kernel
theorem dN_compare_8 : decode bN_compare 8 = .ok (.aload_n 0, 1) := by decide +kernel
theorem dN_compare_9 : decode bN_compare 9 = .ok (.getfield 11, 3) := by decide +kernel
theorem dN_compare_12 : decode bN_compare 12 = .ok (.iload_n 2, 1) := by decide +kernel
theorem dN_compare_13 : decode bN_compare 13 = .ok (.aaload, 1) := by decide +kernel
theorem dN_compare_14 : decode bN_compare 14 = .ok (.invokevirtual 124, 3) := by decide +kernel
theorem dN_compare_17 : decode bN_compare 17 = .ok (.ifCond .eq 15, 3) := by decide +kernel
theorem dN_compare_20 : decode bN_compare 20 = .ok (.aload_n 0, 1) := by decide +kernel
theorem dN_compare_21 : decode bN_compare 21 = .ok (.getfield 11, 3) := by decide +kernel
theorem dN_compare_24 : decode bN_compare 24 = .ok (.iload_n 3, 1) := by decide +kernel
theorem dN_compare_25 : decode bN_compare 25 = .ok (.aaload, 1) := by decide +kernel
theorem dN_compare_26 : decode bN_compare 26 = .ok (.invokevirtual 124, 3) := by decide +kernel
theorem dN_compare_29 : decode bN_compare 29 = .ok (.ifCond .ne 5, 3) := by decide +kernel
theorem dN_compare_32 : decode bN_compare 32 = .ok (.iconst 2, 1) := by decide +kernel
theorem dN_compare_33 : decode bN_compare 33 = .ok (.ireturn, 1) := by decide +kernel
theorem dN_compare_34 : decode bN_compare 34 = .ok (.aload_n 0, 1) := by decide +kernel
theorem dN_compare_35 : decode bN_compare 35 = .ok (.getfield 11, 3) := by decide +kernel
theorem dN_compare_38 : decode bN_compare 38 = .ok (.iload_n 2, 1) := by decide +kernel
theorem dN_compare_39 : decode bN_compare 39 = .ok (.aaload, 1) := by decide +kernel
theorem dN_compare_40 : decode bN_compare 40 = .ok (.iload_n 1, 1) := by decide +kernel
theorem dN_compare_41 : decode bN_compare 41 = .ok (.invokevirtual 60, 3) := by decide +kernel
theorem dN_compare_44 : decode bN_compare 44 = .ok (.lstore 4, 2) := by decide +kernel
theorem dN_compare_46 : decode bN_compare 46 = .ok (.aload_n 0, 1) := by decide +kernel
theorem dN_compare_47 : decode bN_compare 47 = .ok (.getfield 11, 3) := by decide +kernel
theorem dN_compare_50 : decode bN_compare 50 = .ok (.iload_n 3, 1) := by decide +kernel
theorem dN_compare_51 : decode bN_compare 51 = .ok (.aaload, 1) := by decide +kernel
theorem dN_compare_52 : decode bN_compare 52 = .ok (.iload_n 1, 1) := by decide +kernel
theorem dN_compare_53 : decode bN_compare 53 = .ok (.invokevirtual 60, 3) := by decide +kernel
theorem dN_compare_56 : decode bN_compare 56 = .ok (.lstore 6, 2) := by decide +kernel
theorem dN_compare_58 : decode bN_compare 58 = .ok (.lload 4, 2) := by decide +kernel
theorem dN_compare_60 : decode bN_compare 60 = .ok (.lload 6, 2) := by decide +kernel
theorem dN_compare_62 : decode bN_compare 62 = .ok (.lcmp, 1) := by decide +kernel
theorem dN_compare_63 : decode bN_compare 63 = .ok (.ifCond .ne 5, 3) := by decide +kernel
theorem dN_compare_66 : decode bN_compare 66 = .ok (.iconst 0, 1) := by decide +kernel
theorem dN_compare_67 : decode bN_compare 67 = .ok (.ireturn, 1) := by decide +kernel
theorem dN_compare_68 : decode bN_compare 68 = .ok (.iload_n 1, 1) := by decide +kernel
theorem dN_compare_69 : decode bN_compare 69 = .ok (.ifCond .eq 14, 3) := by decide +kernel
theorem dN_compare_72 : decode bN_compare 72 = .ok (.lload 4, 2) := by decide +kernel
theorem dN_compare_74 : decode bN_compare 74 = .ok (.lload 6, 2) := by decide +kernel
theorem dN_compare_76 : decode bN_compare 76 = .ok (.lcmp, 1) := by decide +kernel
theorem dN_compare_77 : decode bN_compare 77 = .ok (.ifCond .ge 20, 3) := by decide +kernel
theorem dN_compare_80 : decode bN_compare 80 = .ok (.goto 13, 3) := by decide +kernel
theorem dN_compare_83 : decode bN_compare 83 = .ok (.lload 4, 2) := by decide +kernel
theorem dN_compare_85 : decode bN_compare 85 = .ok (.lload 6, 2) := by decide +kernel
theorem dN_compare_87 : decode bN_compare 87 = .ok (.invokestatic 127, 3) := by decide +kernel
theorem dN_compare_90 : decode bN_compare 90 = .ok (.ifCond .eq 7, 3) := by decide +kernel
theorem dN_compare_93 : decode bN_compare 93 = .ok (.iconst (-1), 1) := by decide +kernel
theorem dN_compare_94 : decode bN_compare 94 = .ok (.goto 4, 3) := by decide +kernel
theorem dN_compare_97 : decode bN_compare 97 = .ok (.iconst 1, 1) := by decide +kernel
theorem dN_compare_98 : decode bN_compare 98 = .ok (.ireturn, 1) := by decide +kernel
theorem dN_same_0 : decode bN_same 0 = .ok (.iload_n 2, 1) := by decide +kernel
theorem dN_same_1 : decode bN_same 1 = .ok (.invokestatic 20, 3) := by decide +kernel
theorem dN_same_4 : decode bN_same 4 = .ok (.iload_n 3, 1) := by decide +kernel
theorem dN_same_5 : decode bN_same 5 = .ok (.invokestatic 20, 3) := by decide +kernel
theorem dN_same_8 : decode bN_same 8 = .ok (.aload_n 0, 1) := by decide +kernel
theorem dN_same_9 : decode bN_same 9 = .ok (.getfield 11, 3) := by decide +kernel
theorem dN_same_12 : decode bN_same 12 = .ok (.iload_n 2, 1) := by decide +kernel
theorem dN_same_13 : decode bN_same 13 = .ok (.aaload, 1) := by decide +kernel
theorem dN_same_14 : decode bN_same 14 = .ok (.astore 4, 2) := by decide +kernel
theorem dN_same_16 : decode bN_same 16 = .ok (.aload_n 0, 1) := by decide +kernel
theorem dN_same_17 : decode bN_same 17 = .ok (.getfield 11, 3) := by decide +kernel
theorem dN_same_20 : decode bN_same 20 = .ok (.iload_n 3, 1) := by decide +kernel
theorem dN_same_21 : decode bN_same 21 = .ok (.aaload, 1) := by decide +kernel
theorem dN_same_22 : decode bN_same 22 = .ok (.astore 5, 2) := by decide +kernel
theorem dN_same_24 : decode bN_same 24 = .ok (.aload 4, 2) := by decide +kernel
theorem dN_same_26 : decode bN_same 26 = .ok (.getfield 41, 3) := by decide +kernel
theorem dN_same_29 : decode bN_same 29 = .ok (.aload 5, 2) := by decide +kernel
theorem dN_same_31 : decode bN_same 31 = .ok (.getfield 41, 3) := by decide +kernel
theorem dN_same_34 : decode bN_same 34 = .ok (.if_icmp .eq 5, 3) := by decide +kernel
theorem dN_same_37 : decode bN_same 37 = .ok (.iconst 0, 1) := by decide +kernel
theorem dN_same_38 : decode bN_same 38 = .ok (.ireturn, 1) := by decide +kernel
theorem dN_same_39 : decode bN_same 39 = .ok (.iconst 0, 1) := by decide +kernel
theorem dN_same_40 : decode bN_same 40 = .ok (.istore 6, 2) := by decide +kernel
theorem dN_same_42 : decode bN_same 42 = .ok (.iload 6, 2) := by decide +kernel
theorem dN_same_44 : decode bN_same 44 = .ok (.aload 4, 2) := by decide +kernel
theorem dN_same_46 : decode bN_same 46 = .ok (.getfield 41, 3) := by decide +kernel
theorem dN_same_49 : decode bN_same 49 = .ok (.if_icmp .ge 55, 3) := by decide +kernel
theorem dN_same_52 : decode bN_same 52 = .ok (.aload 4, 2) := by decide +kernel
theorem dN_same_54 : decode bN_same 54 = .ok (.getfield 37, 3) := by decide +kernel
theorem dN_same_57 : decode bN_same 57 = .ok (.iload 6, 2) := by decide +kernel
theorem dN_same_59 : decode bN_same 59 = .ok (.iaload, 1) := by decide +kernel
theorem dN_same_60 : decode bN_same 60 = .ok (.istore 7, 2) := by decide +kernel
theorem dN_same_62 : decode bN_same 62 = .ok (.aload 5, 2) := by decide +kernel
theorem dN_same_64 : decode bN_same 64 = .ok (.getfield 37, 3) := by decide +kernel
theorem dN_same_67 : decode bN_same 67 = .ok (.iload 6, 2) := by decide +kernel
theorem dN_same_69 : decode bN_same 69 = .ok (.iaload, 1) := by decide +kernel
theorem dN_same_70 : decode bN_same 70 = .ok (.istore 8, 2) := by decide +kernel
theorem dN_same_72 : decode bN_same 72 = .ok (.iload_n 1, 1) := by decide +kernel
theorem dN_same_73 : decode bN_same 73 = .ok (.ifCond .eq 16, 3) := by decide +kernel
theorem dN_same_76 : decode bN_same 76 = .ok (.iload 7, 2) := by decide +kernel
theorem dN_same_78 : decode bN_same 78 = .ok (.iload 8, 2) := by decide +kernel
theorem dN_same_80 : decode bN_same 80 = .ok (.invokestatic 131, 3) := by decide +kernel
theorem dN_same_83 : decode bN_same 83 = .ok (.ifCond .ne 15, 3) := by decide +kernel
theorem dN_same_86 : decode bN_same 86 = .ok (.goto 10, 3) := by decide +kernel
theorem dN_same_89 : decode bN_same 89 = .ok (.iload 7, 2) := by decide +kernel
theorem dN_same_91 : decode bN_same 91 = .ok (.iload 8, 2) := by decide +kernel
theorem dN_same_93 : decode bN_same 93 = .ok (.if_icmp .eq 5, 3) := by decide +kernel
theorem dN_same_96 : decode bN_same 96 = .ok (.iconst 0, 1) := by decide +kernel
theorem dN_same_97 : decode bN_same 97 = .ok (.ireturn, 1) := by decide +kernel
theorem dN_same_98 : decode bN_same 98 = .ok (.iinc 6 1, 3) := by decide +kernel
theorem dN_same_101 : decode bN_same 101 = .ok (.goto (-59), 3) := by decide +kernel
theorem dN_same_104 : decode bN_same 104 = .ok (.iconst 1, 1) := by decide +kernel
theorem dN_same_105 : decode bN_same 105 = .ok (.ireturn, 1) := by decide +kernel
theorem dN_all_0 : decode bN_all 0 = .ok (.iload_n 2, 1) := by decide +kernel
theorem dN_all_1 : decode bN_all 1 = .ok (.invokestatic 20, 3) := by decide +kernel
theorem dN_all_4 : decode bN_all 4 = .ok (.iload_n 1, 1) := by decide +kernel
theorem dN_all_5 : decode bN_all 5 = .ok (.tableswitch 79 0 3 #[31, 43, 55, 67], 31) := by decide +kernel
theorem dN_all_36 : decode bN_all 36 = .ok (.aload_n 0, 1) := by decide +kernel
theorem dN_all_37 : decode bN_all 37 = .ok (.getfield 11, 3) := by decide +kernel
theorem dN_all_40 : decode bN_all 40 = .ok (.iload_n 2, 1) := by decide +kernel
theorem dN_all_41 : decode bN_all 41 = .ok (.aaload, 1) := by decide +kernel
theorem dN_all_42 : decode bN_all 42 = .ok (.iconst 1, 1) := by decide +kernel
theorem dN_all_43 : decode bN_all 43 = .ok (.iconst 3, 1) := by decide +kernel
theorem dN_all_44 : decode bN_all 44 = .ok (.invokevirtual 137, 3) := by decide +kernel
theorem dN_all_47 : decode bN_all 47 = .ok (.ireturn, 1) := by decide +kernel
theorem dN_all_48 : decode bN_all 48 = .ok (.aload_n 0, 1) := by decide +kernel
theorem dN_all_49 : decode bN_all 49 = .ok (.getfield 11, 3) := by decide +kernel
theorem dN_all_52 : decode bN_all 52 = .ok (.iload_n 2, 1) := by decide +kernel
theorem dN_all_53 : decode bN_all 53 = .ok (.aaload, 1) := by decide +kernel
theorem dN_all_54 : decode bN_all 54 = .ok (.iconst 2, 1) := by decide +kernel
theorem dN_all_55 : decode bN_all 55 = .ok (.iconst 2, 1) := by decide +kernel
theorem dN_all_56 : decode bN_all 56 = .ok (.invokevirtual 137, 3) := by decide +kernel
theorem dN_all_59 : decode bN_all 59 = .ok (.ireturn, 1) := by decide +kernel
theorem dN_all_60 : decode bN_all 60 = .ok (.aload_n 0, 1) := by decide +kernel
theorem dN_all_61 : decode bN_all 61 = .ok (.getfield 11, 3) := by decide +kernel
theorem dN_all_64 : decode bN_all 64 = .ok (.iload_n 2, 1) := by decide +kernel
theorem dN_all_65 : decode bN_all 65 = .ok (.aaload, 1) := by decide +kernel
theorem dN_all_66 : decode bN_all 66 = .ok (.iconst 3, 1) := by decide +kernel
theorem dN_all_67 : decode bN_all 67 = .ok (.iconst 2, 1) := by decide +kernel
theorem dN_all_68 : decode bN_all 68 = .ok (.invokevirtual 137, 3) := by decide +kernel
theorem dN_all_71 : decode bN_all 71 = .ok (.ireturn, 1) := by decide +kernel
theorem dN_all_72 : decode bN_all 72 = .ok (.aload_n 0, 1) := by decide +kernel
theorem dN_all_73 : decode bN_all 73 = .ok (.getfield 11, 3) := by decide +kernel
theorem dN_all_76 : decode bN_all 76 = .ok (.iload_n 2, 1) := by decide +kernel
theorem dN_all_77 : decode bN_all 77 = .ok (.aaload, 1) := by decide +kernel
theorem dN_all_78 : decode bN_all 78 = .ok (.iconst 0, 1) := by decide +kernel
theorem dN_all_79 : decode bN_all 79 = .ok (.iconst 4, 1) := by decide +kernel
theorem dN_all_80 : decode bN_all 80 = .ok (.invokevirtual 137, 3) := by decide +kernel
theorem dN_all_83 : decode bN_all 83 = .ok (.ireturn, 1) := by decide +kernel
theorem dN_all_84 : decode bN_all 84 = .ok (.new 64, 3) := by decide +kernel
theorem dN_all_87 : decode bN_all 87 = .ok (.dup, 1) := by decide +kernel
theorem dN_all_88 : decode bN_all 88 = .ok (.ldc 140, 2) := by decide +kernel
theorem dN_all_90 : decode bN_all 90 = .ok (.invokespecial 68, 3) := by decide +kernel
theorem dN_all_93 : decode bN_all 93 = .ok (.athrow, 1) := by decide +kernel
theorem dN_edge_0 : decode bN_edge 0 = .ok (.iload_n 1, 1) := by decide +kernel
theorem dN_edge_1 : decode bN_edge 1 = .ok (.invokestatic 27, 3) := by decide +kernel
theorem dN_edge_4 : decode bN_edge 4 = .ok (.iload_n 2, 1) := by decide +kernel
theorem dN_edge_5 : decode bN_edge 5 = .ok (.invokestatic 27, 3) := by decide +kernel
theorem dN_edge_8 : decode bN_edge 8 = .ok (.iload_n 1, 1) := by decide +kernel
theorem dN_edge_9 : decode bN_edge 9 = .ok (.invokestatic 142, 3) := by decide +kernel
theorem dN_edge_12 : decode bN_edge 12 = .ok (.ifCond .eq 12, 3) := by decide +kernel
theorem dN_edge_15 : decode bN_edge 15 = .ok (.iload_n 2, 1) := by decide +kernel
theorem dN_edge_16 : decode bN_edge 16 = .ok (.invokestatic 146, 3) := by decide +kernel
theorem dN_edge_19 : decode bN_edge 19 = .ok (.ifCond .eq 5, 3) := by decide +kernel
theorem dN_edge_22 : decode bN_edge 22 = .ok (.iconst 1, 1) := by decide +kernel
theorem dN_edge_23 : decode bN_edge 23 = .ok (.ireturn, 1) := by decide +kernel
theorem dN_edge_24 : decode bN_edge 24 = .ok (.iload_n 1, 1) := by decide +kernel
theorem dN_edge_25 : decode bN_edge 25 = .ok (.invokestatic 146, 3) := by decide +kernel
theorem dN_edge_28 : decode bN_edge 28 = .ok (.ifCond .eq 14, 3) := by decide +kernel
theorem dN_edge_31 : decode bN_edge 31 = .ok (.iload_n 2, 1) := by decide +kernel
theorem dN_edge_32 : decode bN_edge 32 = .ok (.invokestatic 142, 3) := by decide +kernel
theorem dN_edge_35 : decode bN_edge 35 = .ok (.ifCond .eq 7, 3) := by decide +kernel
theorem dN_edge_38 : decode bN_edge 38 = .ok (.iconst (-1), 1) := by decide +kernel
theorem dN_edge_39 : decode bN_edge 39 = .ok (.goto 4, 3) := by decide +kernel
theorem dN_edge_42 : decode bN_edge 42 = .ok (.iconst 0, 1) := by decide +kernel
theorem dN_edge_43 : decode bN_edge 43 = .ok (.ireturn, 1) := by decide +kernel
theorem dN_requirePlace_0 : decode bN_requirePlace 0 = .ok (.iload_n 0, 1) := by decide +kernel
theorem dN_requirePlace_1 : decode bN_requirePlace 1 = .ok (.ifCond .lt 9, 3) := by decide +kernel
theorem dN_requirePlace_4 : decode bN_requirePlace 4 = .ok (.iload_n 0, 1) := by decide +kernel
theorem dN_requirePlace_5 : decode bN_requirePlace 5 = .ok (.bipush 16, 2) := by decide +kernel
theorem dN_requirePlace_7 : decode bN_requirePlace 7 = .ok (.if_icmp .lt 13, 3) := by decide +kernel
theorem dN_requirePlace_10 : decode bN_requirePlace 10 = .ok (.new 119, 3) := by decide +kernel
theorem dN_requirePlace_13 : decode bN_requirePlace 13 = .ok (.dup, 1) := by decide +kernel
theorem dN_requirePlace_14 : decode bN_requirePlace 14 = .ok (.ldc 149, 2) := by decide +kernel
theorem dN_requirePlace_16 : decode bN_requirePlace 16 = .ok (.invokespecial 123, 3) := by decide +kernel
theorem dN_requirePlace_19 : decode bN_requirePlace 19 = .ok (.athrow, 1) := by decide +kernel
theorem dN_requirePlace_20 : decode bN_requirePlace 20 = .ok (.return_, 1) := by decide +kernel
theorem dN_requireElement_0 : decode bN_requireElement 0 = .ok (.iload_n 1, 1) := by decide +kernel
theorem dN_requireElement_1 : decode bN_requireElement 1 = .ok (.invokestatic 20, 3) := by decide +kernel
theorem dN_requireElement_4 : decode bN_requireElement 4 = .ok (.iload_n 2, 1) := by decide +kernel
theorem dN_requireElement_5 : decode bN_requireElement 5 = .ok (.ifCond .lt 16, 3) := by decide +kernel
theorem dN_requireElement_8 : decode bN_requireElement 8 = .ok (.iload_n 2, 1) := by decide +kernel
theorem dN_requireElement_9 : decode bN_requireElement 9 = .ok (.aload_n 0, 1) := by decide +kernel
theorem dN_requireElement_10 : decode bN_requireElement 10 = .ok (.getfield 11, 3) := by decide +kernel
theorem dN_requireElement_13 : decode bN_requireElement 13 = .ok (.iload_n 1, 1) := by decide +kernel
theorem dN_requireElement_14 : decode bN_requireElement 14 = .ok (.aaload, 1) := by decide +kernel
theorem dN_requireElement_15 : decode bN_requireElement 15 = .ok (.getfield 41, 3) := by decide +kernel
theorem dN_requireElement_18 : decode bN_requireElement 18 = .ok (.if_icmp .lt 13, 3) := by decide +kernel
theorem dN_requireElement_21 : decode bN_requireElement 21 = .ok (.new 119, 3) := by decide +kernel
theorem dN_requireElement_24 : decode bN_requireElement 24 = .ok (.dup, 1) := by decide +kernel
theorem dN_requireElement_25 : decode bN_requireElement 25 = .ok (.ldc 151, 2) := by decide +kernel
theorem dN_requireElement_27 : decode bN_requireElement 27 = .ok (.invokespecial 123, 3) := by decide +kernel
theorem dN_requireElement_30 : decode bN_requireElement 30 = .ok (.athrow, 1) := by decide +kernel
theorem dN_requireElement_31 : decode bN_requireElement 31 = .ok (.return_, 1) := by decide +kernel
theorem dN_requireLength_0 : decode bN_requireLength 0 = .ok (.iload_n 0, 1) := by decide +kernel
theorem dN_requireLength_1 : decode bN_requireLength 1 = .ok (.ifCond .lt 9, 3) := by decide +kernel
theorem dN_requireLength_4 : decode bN_requireLength 4 = .ok (.iload_n 0, 1) := by decide +kernel
theorem dN_requireLength_5 : decode bN_requireLength 5 = .ok (.bipush 64, 2) := by decide +kernel
theorem dN_requireLength_7 : decode bN_requireLength 7 = .ok (.if_icmp .le 13, 3) := by decide +kernel
theorem dN_requireLength_10 : decode bN_requireLength 10 = .ok (.new 64, 3) := by decide +kernel
theorem dN_requireLength_13 : decode bN_requireLength 13 = .ok (.dup, 1) := by decide +kernel
theorem dN_requireLength_14 : decode bN_requireLength 14 = .ok (.ldc 153, 2) := by decide +kernel
theorem dN_requireLength_16 : decode bN_requireLength 16 = .ok (.invokespecial 68, 3) := by decide +kernel
theorem dN_requireLength_19 : decode bN_requireLength 19 = .ok (.athrow, 1) := by decide +kernel
theorem dN_requireLength_20 : decode bN_requireLength 20 = .ok (.return_, 1) := by decide +kernel
theorem dN_requireValue_0 : decode bN_requireValue 0 = .ok (.iload_n 0, 1) := by decide +kernel
theorem dN_requireValue_1 : decode bN_requireValue 1 = .ok (.ifCond .lt 9, 3) := by decide +kernel
theorem dN_requireValue_4 : decode bN_requireValue 4 = .ok (.iload_n 0, 1) := by decide +kernel
theorem dN_requireValue_5 : decode bN_requireValue 5 = .ok (.bipush 8, 2) := by decide +kernel
theorem dN_requireValue_7 : decode bN_requireValue 7 = .ok (.if_icmp .le 13, 3) := by decide +kernel
theorem dN_requireValue_10 : decode bN_requireValue 10 = .ok (.new 64, 3) := by decide +kernel
theorem dN_requireValue_13 : decode bN_requireValue 13 = .ok (.dup, 1) := by decide +kernel
theorem dN_requireValue_14 : decode bN_requireValue 14 = .ok (.ldc 155, 2) := by decide +kernel
theorem dN_requireValue_16 : decode bN_requireValue 16 = .ok (.invokespecial 68, 3) := by decide +kernel
theorem dN_requireValue_19 : decode bN_requireValue 19 = .ok (.athrow, 1) := by decide +kernel
theorem dN_requireValue_20 : decode bN_requireValue 20 = .ok (.return_, 1) := by decide +kernel
theorem dN_joinElements_0 : decode bN_joinElements 0 = .ok (.aload_n 2, 1) := by decide +kernel
theorem dN_joinElements_1 : decode bN_joinElements 1 = .ok (.getfield 41, 3) := by decide +kernel
theorem dN_joinElements_4 : decode bN_joinElements 4 = .ok (.aload_n 3, 1) := by decide +kernel
theorem dN_joinElements_5 : decode bN_joinElements 5 = .ok (.getfield 41, 3) := by decide +kernel
theorem dN_joinElements_8 : decode bN_joinElements 8 = .ok (.if_icmp .eq 13, 3) := by decide +kernel
theorem dN_joinElements_11 : decode bN_joinElements 11 = .ok (.new 64, 3) := by decide +kernel
theorem dN_joinElements_14 : decode bN_joinElements 14 = .ok (.dup, 1) := by decide +kernel
theorem dN_joinElements_15 : decode bN_joinElements 15 = .ok (.ldc 157, 2) := by decide +kernel
theorem dN_joinElements_17 : decode bN_joinElements 17 = .ok (.invokespecial 68, 3) := by decide +kernel
theorem dN_joinElements_20 : decode bN_joinElements 20 = .ok (.athrow, 1) := by decide +kernel
theorem dN_joinElements_21 : decode bN_joinElements 21 = .ok (.aload_n 0, 1) := by decide +kernel
theorem dN_joinElements_22 : decode bN_joinElements 22 = .ok (.getfield 16, 3) := by decide +kernel
theorem dN_joinElements_25 : decode bN_joinElements 25 = .ok (.aload_n 2, 1) := by decide +kernel
theorem dN_joinElements_26 : decode bN_joinElements 26 = .ok (.getfield 41, 3) := by decide +kernel
theorem dN_joinElements_29 : decode bN_joinElements 29 = .ok (.putfield 41, 3) := by decide +kernel
theorem dN_joinElements_32 : decode bN_joinElements 32 = .ok (.iconst 0, 1) := by decide +kernel
theorem dN_joinElements_33 : decode bN_joinElements 33 = .ok (.istore 4, 2) := by decide +kernel
theorem dN_joinElements_35 : decode bN_joinElements 35 = .ok (.iload 4, 2) := by decide +kernel
theorem dN_joinElements_37 : decode bN_joinElements 37 = .ok (.aload_n 2, 1) := by decide +kernel
theorem dN_joinElements_38 : decode bN_joinElements 38 = .ok (.getfield 41, 3) := by decide +kernel
theorem dN_joinElements_41 : decode bN_joinElements 41 = .ok (.if_icmp .ge 37, 3) := by decide +kernel
theorem dN_joinElements_44 : decode bN_joinElements 44 = .ok (.aload_n 0, 1) := by decide +kernel
theorem dN_joinElements_45 : decode bN_joinElements 45 = .ok (.getfield 16, 3) := by decide +kernel
theorem dN_joinElements_48 : decode bN_joinElements 48 = .ok (.getfield 37, 3) := by decide +kernel
theorem dN_joinElements_51 : decode bN_joinElements 51 = .ok (.iload 4, 2) := by decide +kernel
theorem dN_joinElements_53 : decode bN_joinElements 53 = .ok (.iload_n 1, 1) := by decide +kernel
theorem dN_joinElements_54 : decode bN_joinElements 54 = .ok (.aload_n 2, 1) := by decide +kernel
theorem dN_joinElements_55 : decode bN_joinElements 55 = .ok (.getfield 37, 3) := by decide +kernel
theorem dN_joinElements_58 : decode bN_joinElements 58 = .ok (.iload 4, 2) := by decide +kernel
theorem dN_joinElements_60 : decode bN_joinElements 60 = .ok (.iaload, 1) := by decide +kernel
theorem dN_joinElements_61 : decode bN_joinElements 61 = .ok (.aload_n 3, 1) := by decide +kernel
theorem dN_joinElements_62 : decode bN_joinElements 62 = .ok (.getfield 37, 3) := by decide +kernel
theorem dN_joinElements_65 : decode bN_joinElements 65 = .ok (.iload 4, 2) := by decide +kernel
theorem dN_joinElements_67 : decode bN_joinElements 67 = .ok (.iaload, 1) := by decide +kernel
theorem dN_joinElements_68 : decode bN_joinElements 68 = .ok (.invokestatic 159, 3) := by decide +kernel
theorem dN_joinElements_71 : decode bN_joinElements 71 = .ok (.iastore, 1) := by decide +kernel
theorem dN_joinElements_72 : decode bN_joinElements 72 = .ok (.iinc 4 1, 3) := by decide +kernel
theorem dN_joinElements_75 : decode bN_joinElements 75 = .ok (.goto (-40), 3) := by decide +kernel
theorem dN_joinElements_78 : decode bN_joinElements 78 = .ok (.return_, 1) := by decide +kernel
theorem dN_setBehind_0 : decode bN_setBehind 0 = .ok (.aload_n 1, 1) := by decide +kernel
theorem dN_setBehind_1 : decode bN_setBehind 1 = .ok (.getfield 41, 3) := by decide +kernel
theorem dN_setBehind_4 : decode bN_setBehind 4 = .ok (.aload_n 2, 1) := by decide +kernel
theorem dN_setBehind_5 : decode bN_setBehind 5 = .ok (.getfield 41, 3) := by decide +kernel
theorem dN_setBehind_8 : decode bN_setBehind 8 = .ok (.iadd, 1) := by decide +kernel
theorem dN_setBehind_9 : decode bN_setBehind 9 = .ok (.invokestatic 24, 3) := by decide +kernel
theorem dN_setBehind_12 : decode bN_setBehind 12 = .ok (.aload_n 0, 1) := by decide +kernel
theorem dN_setBehind_13 : decode bN_setBehind 13 = .ok (.getfield 16, 3) := by decide +kernel
theorem dN_setBehind_16 : decode bN_setBehind 16 = .ok (.aload_n 1, 1) := by decide +kernel
theorem dN_setBehind_17 : decode bN_setBehind 17 = .ok (.getfield 41, 3) := by decide +kernel
theorem dN_setBehind_20 : decode bN_setBehind 20 = .ok (.aload_n 2, 1) := by decide +kernel
theorem dN_setBehind_21 : decode bN_setBehind 21 = .ok (.getfield 41, 3) := by decide +kernel
theorem dN_setBehind_24 : decode bN_setBehind 24 = .ok (.iadd, 1) := by decide +kernel
theorem dN_setBehind_25 : decode bN_setBehind 25 = .ok (.putfield 41, 3) := by decide +kernel
theorem dN_setBehind_28 : decode bN_setBehind 28 = .ok (.aload_n 0, 1) := by decide +kernel
theorem dN_setBehind_29 : decode bN_setBehind 29 = .ok (.getfield 16, 3) := by decide +kernel
theorem dN_setBehind_32 : decode bN_setBehind 32 = .ok (.aload_n 2, 1) := by decide +kernel
theorem dN_setBehind_33 : decode bN_setBehind 33 = .ok (.iconst 0, 1) := by decide +kernel
theorem dN_setBehind_34 : decode bN_setBehind 34 = .ok (.aload_n 2, 1) := by decide +kernel
theorem dN_setBehind_35 : decode bN_setBehind 35 = .ok (.getfield 41, 3) := by decide +kernel
theorem dN_setBehind_38 : decode bN_setBehind 38 = .ok (.iconst 0, 1) := by decide +kernel
theorem dN_setBehind_39 : decode bN_setBehind 39 = .ok (.invokevirtual 115, 3) := by decide +kernel
theorem dN_setBehind_42 : decode bN_setBehind 42 = .ok (.aload_n 0, 1) := by decide +kernel
theorem dN_setBehind_43 : decode bN_setBehind 43 = .ok (.getfield 16, 3) := by decide +kernel
theorem dN_setBehind_46 : decode bN_setBehind 46 = .ok (.aload_n 1, 1) := by decide +kernel
theorem dN_setBehind_47 : decode bN_setBehind 47 = .ok (.iconst 0, 1) := by decide +kernel
theorem dN_setBehind_48 : decode bN_setBehind 48 = .ok (.aload_n 1, 1) := by decide +kernel
theorem dN_setBehind_49 : decode bN_setBehind 49 = .ok (.getfield 41, 3) := by decide +kernel
theorem dN_setBehind_52 : decode bN_setBehind 52 = .ok (.aload_n 2, 1) := by decide +kernel
theorem dN_setBehind_53 : decode bN_setBehind 53 = .ok (.getfield 41, 3) := by decide +kernel
theorem dN_setBehind_56 : decode bN_setBehind 56 = .ok (.invokevirtual 115, 3) := by decide +kernel
theorem dN_setBehind_59 : decode bN_setBehind 59 = .ok (.return_, 1) := by decide +kernel
theorem dN_calculate_0 : decode bN_calculate 0 = .ok (.iload_n 1, 1) := by decide +kernel
theorem dN_calculate_1 : decode bN_calculate 1 = .ok (.aload_n 3, 1) := by decide +kernel
theorem dN_calculate_2 : decode bN_calculate 2 = .ok (.getfield 41, 3) := by decide +kernel
theorem dN_calculate_5 : decode bN_calculate 5 = .ok (.aload 4, 2) := by decide +kernel
theorem dN_calculate_7 : decode bN_calculate 7 = .ok (.getfield 41, 3) := by decide +kernel
theorem dN_calculate_10 : decode bN_calculate 10 = .ok (.invokestatic 163, 3) := by decide +kernel
theorem dN_calculate_13 : decode bN_calculate 13 = .ok (.istore 5, 2) := by decide +kernel
theorem dN_calculate_15 : decode bN_calculate 15 = .ok (.iload 5, 2) := by decide +kernel
theorem dN_calculate_17 : decode bN_calculate 17 = .ok (.invokestatic 24, 3) := by decide +kernel
theorem dN_calculate_20 : decode bN_calculate 20 = .ok (.aload_n 3, 1) := by decide +kernel
theorem dN_calculate_21 : decode bN_calculate 21 = .ok (.invokevirtual 124, 3) := by decide +kernel
theorem dN_calculate_24 : decode bN_calculate 24 = .ok (.ifCond .eq 11, 3) := by decide +kernel
theorem dN_calculate_27 : decode bN_calculate 27 = .ok (.aload 4, 2) := by decide +kernel
theorem dN_calculate_29 : decode bN_calculate 29 = .ok (.invokevirtual 124, 3) := by decide +kernel
theorem dN_calculate_32 : decode bN_calculate 32 = .ok (.ifCond .ne 33, 3) := by decide +kernel
theorem dN_calculate_35 : decode bN_calculate 35 = .ok (.aload_n 0, 1) := by decide +kernel
theorem dN_calculate_36 : decode bN_calculate 36 = .ok (.getfield 16, 3) := by decide +kernel
theorem dN_calculate_39 : decode bN_calculate 39 = .ok (.aload_n 3, 1) := by decide +kernel
theorem dN_calculate_40 : decode bN_calculate 40 = .ok (.getfield 41, 3) := by decide +kernel
theorem dN_calculate_43 : decode bN_calculate 43 = .ok (.ifCond .eq 11, 3) := by decide +kernel
theorem dN_calculate_46 : decode bN_calculate 46 = .ok (.aload 4, 2) := by decide +kernel
theorem dN_calculate_48 : decode bN_calculate 48 = .ok (.getfield 41, 3) := by decide +kernel
theorem dN_calculate_51 : decode bN_calculate 51 = .ok (.ifCond .ne 7, 3) := by decide +kernel
theorem dN_calculate_54 : decode bN_calculate 54 = .ok (.iconst 0, 1) := by decide +kernel
theorem dN_calculate_55 : decode bN_calculate 55 = .ok (.goto 5, 3) := by decide +kernel
theorem dN_calculate_58 : decode bN_calculate 58 = .ok (.iload 5, 2) := by decide +kernel
theorem dN_calculate_60 : decode bN_calculate 60 = .ok (.iconst 1, 1) := by decide +kernel
theorem dN_calculate_61 : decode bN_calculate 61 = .ok (.invokevirtual 30, 3) := by decide +kernel
theorem dN_calculate_64 : decode bN_calculate 64 = .ok (.return_, 1) := by decide +kernel
theorem dN_calculate_65 : decode bN_calculate 65 = .ok (.aload_n 3, 1) := by decide +kernel
theorem dN_calculate_66 : decode bN_calculate 66 = .ok (.iload_n 2, 1) := by decide +kernel
theorem dN_calculate_67 : decode bN_calculate 67 = .ok (.invokevirtual 60, 3) := by decide +kernel
theorem dN_calculate_70 : decode bN_calculate 70 = .ok (.lstore 6, 2) := by decide +kernel
theorem dN_calculate_72 : decode bN_calculate 72 = .ok (.aload 4, 2) := by decide +kernel
theorem dN_calculate_74 : decode bN_calculate 74 = .ok (.iload_n 2, 1) := by decide +kernel
theorem dN_calculate_75 : decode bN_calculate 75 = .ok (.invokevirtual 60, 3) := by decide +kernel
theorem dN_calculate_78 : decode bN_calculate 78 = .ok (.lstore 8, 2) := by decide +kernel
theorem dN_calculate_80 : decode bN_calculate 80 = .ok (.iload_n 1, 1) := by decide +kernel
theorem dN_calculate_81 : decode bN_calculate 81 = .ok (.bipush 10, 2) := by decide +kernel
theorem dN_calculate_83 : decode bN_calculate 83 = .ok (.if_icmp .ge 21, 3) := by decide +kernel
theorem dN_calculate_86 : decode bN_calculate 86 = .ok (.aload_n 0, 1) := by decide +kernel
theorem dN_calculate_87 : decode bN_calculate 87 = .ok (.getfield 16, 3) := by decide +kernel
theorem dN_calculate_90 : decode bN_calculate 90 = .ok (.iload 5, 2) := by decide +kernel
theorem dN_calculate_92 : decode bN_calculate 92 = .ok (.iload_n 1, 1) := by decide +kernel
theorem dN_calculate_93 : decode bN_calculate 93 = .ok (.lload 6, 2) := by decide +kernel
theorem dN_calculate_95 : decode bN_calculate 95 = .ok (.lload 8, 2) := by decide +kernel
theorem dN_calculate_97 : decode bN_calculate 97 = .ok (.invokestatic 166, 3) := by decide +kernel
theorem dN_calculate_100 : decode bN_calculate 100 = .ok (.invokevirtual 45, 3) := by decide +kernel
theorem dN_calculate_103 : decode bN_calculate 103 = .ok (.return_, 1) := by decide +kernel
theorem dN_calculate_104 : decode bN_calculate 104 = .ok (.lload 8, 2) := by decide +kernel
theorem dN_calculate_106 : decode bN_calculate 106 = .ok (.lconst 0, 1) := by decide +kernel
theorem dN_calculate_107 : decode bN_calculate 107 = .ok (.lcmp, 1) := by decide +kernel
theorem dN_calculate_108 : decode bN_calculate 108 = .ok (.ifCond .ne 13, 3) := by decide +kernel
theorem dN_calculate_111 : decode bN_calculate 111 = .ok (.new 170, 3) := by decide +kernel
theorem dN_calculate_114 : decode bN_calculate 114 = .ok (.dup, 1) := by decide +kernel
theorem dN_calculate_115 : decode bN_calculate 115 = .ok (.ldc 172, 2) := by decide +kernel
theorem dN_calculate_117 : decode bN_calculate 117 = .ok (.invokespecial 174, 3) := by decide +kernel
theorem dN_calculate_120 : decode bN_calculate 120 = .ok (.athrow, 1) := by decide +kernel
theorem dN_calculate_121 : decode bN_calculate 121 = .ok (.aload_n 0, 1) := by decide +kernel
theorem dN_calculate_122 : decode bN_calculate 122 = .ok (.getfield 16, 3) := by decide +kernel
theorem dN_calculate_125 : decode bN_calculate 125 = .ok (.iload 5, 2) := by decide +kernel
theorem dN_calculate_127 : decode bN_calculate 127 = .ok (.iload_n 2, 1) := by decide +kernel
theorem dN_calculate_128 : decode bN_calculate 128 = .ok (.ifCond .eq 14, 3) := by decide +kernel
theorem dN_calculate_131 : decode bN_calculate 131 = .ok (.iload_n 1, 1) := by decide +kernel
theorem dN_calculate_132 : decode bN_calculate 132 = .ok (.lload 6, 2) := by decide +kernel
theorem dN_calculate_134 : decode bN_calculate 134 = .ok (.lload 8, 2) := by decide +kernel
theorem dN_calculate_136 : decode bN_calculate 136 = .ok (.invokestatic 175, 3) := by decide +kernel
theorem dN_calculate_139 : decode bN_calculate 139 = .ok (.goto 11, 3) := by decide +kernel
theorem dN_calculate_142 : decode bN_calculate 142 = .ok (.iload_n 1, 1) := by decide +kernel
theorem dN_calculate_143 : decode bN_calculate 143 = .ok (.lload 6, 2) := by decide +kernel
theorem dN_calculate_145 : decode bN_calculate 145 = .ok (.lload 8, 2) := by decide +kernel
theorem dN_calculate_147 : decode bN_calculate 147 = .ok (.invokestatic 178, 3) := by decide +kernel
theorem dN_calculate_150 : decode bN_calculate 150 = .ok (.invokevirtual 45, 3) := by decide +kernel
theorem dN_calculate_153 : decode bN_calculate 153 = .ok (.return_, 1) := by decide +kernel
theorem dN_lengthOfResult_0 : decode bN_lengthOfResult 0 = .ok (.iload_n 0, 1) := by decide +kernel
theorem dN_lengthOfResult_1 : decode bN_lengthOfResult 1 = .ok (.tableswitch 43 7 10 #[31, 31, 37, 41], 31) := by decide +kernel
theorem dN_lengthOfResult_32 : decode bN_lengthOfResult 32 = .ok (.iload_n 1, 1) := by decide +kernel
theorem dN_lengthOfResult_33 : decode bN_lengthOfResult 33 = .ok (.iload_n 2, 1) := by decide +kernel
theorem dN_lengthOfResult_34 : decode bN_lengthOfResult 34 = .ok (.invokestatic 181, 3) := by decide +kernel
theorem dN_lengthOfResult_37 : decode bN_lengthOfResult 37 = .ok (.ireturn, 1) := by decide +kernel
theorem dN_lengthOfResult_38 : decode bN_lengthOfResult 38 = .ok (.iload_n 1, 1) := by decide +kernel
theorem dN_lengthOfResult_39 : decode bN_lengthOfResult 39 = .ok (.iload_n 2, 1) := by decide +kernel
theorem dN_lengthOfResult_40 : decode bN_lengthOfResult 40 = .ok (.iadd, 1) := by decide +kernel
theorem dN_lengthOfResult_41 : decode bN_lengthOfResult 41 = .ok (.ireturn, 1) := by decide +kernel
theorem dN_lengthOfResult_42 : decode bN_lengthOfResult 42 = .ok (.iload_n 1, 1) := by decide +kernel
theorem dN_lengthOfResult_43 : decode bN_lengthOfResult 43 = .ok (.ireturn, 1) := by decide +kernel
theorem dN_lengthOfResult_44 : decode bN_lengthOfResult 44 = .ok (.iload_n 2, 1) := by decide +kernel
theorem dN_lengthOfResult_45 : decode bN_lengthOfResult 45 = .ok (.ireturn, 1) := by decide +kernel
theorem dN_sumOrProduct_0 : decode bN_sumOrProduct 0 = .ok (.iload_n 0, 1) := by decide +kernel
theorem dN_sumOrProduct_1 : decode bN_sumOrProduct 1 = .ok (.lookupswitch 35 #[(7, 27), (8, 31)], 27) := by decide +kernel
theorem dN_sumOrProduct_28 : decode bN_sumOrProduct 28 = .ok (.lload_n 1, 1) := by decide +kernel
theorem dN_sumOrProduct_29 : decode bN_sumOrProduct 29 = .ok (.lload_n 3, 1) := by decide +kernel
theorem dN_sumOrProduct_30 : decode bN_sumOrProduct 30 = .ok (.ladd, 1) := by decide +kernel
theorem dN_sumOrProduct_31 : decode bN_sumOrProduct 31 = .ok (.lreturn, 1) := by decide +kernel
theorem dN_sumOrProduct_32 : decode bN_sumOrProduct 32 = .ok (.lload_n 1, 1) := by decide +kernel
theorem dN_sumOrProduct_33 : decode bN_sumOrProduct 33 = .ok (.lload_n 3, 1) := by decide +kernel
theorem dN_sumOrProduct_34 : decode bN_sumOrProduct 34 = .ok (.lsub, 1) := by decide +kernel
theorem dN_sumOrProduct_35 : decode bN_sumOrProduct 35 = .ok (.lreturn, 1) := by decide +kernel
theorem dN_sumOrProduct_36 : decode bN_sumOrProduct 36 = .ok (.lload_n 1, 1) := by decide +kernel
theorem dN_sumOrProduct_37 : decode bN_sumOrProduct 37 = .ok (.lload_n 3, 1) := by decide +kernel
theorem dN_sumOrProduct_38 : decode bN_sumOrProduct 38 = .ok (.lmul, 1) := by decide +kernel
theorem dN_sumOrProduct_39 : decode bN_sumOrProduct 39 = .ok (.lreturn, 1) := by decide +kernel
theorem dN_divideSigned_0 : decode bN_divideSigned 0 = .ok (.iload_n 0, 1) := by decide +kernel
theorem dN_divideSigned_1 : decode bN_divideSigned 1 = .ok (.lookupswitch 35 #[(10, 27), (11, 31)], 27) := by decide +kernel
theorem dN_divideSigned_28 : decode bN_divideSigned 28 = .ok (.lload_n 1, 1) := by decide +kernel
theorem dN_divideSigned_29 : decode bN_divideSigned 29 = .ok (.lload_n 3, 1) := by decide +kernel
theorem dN_divideSigned_30 : decode bN_divideSigned 30 = .ok (.ldiv, 1) := by decide +kernel
theorem dN_divideSigned_31 : decode bN_divideSigned 31 = .ok (.lreturn, 1) := by decide +kernel
theorem dN_divideSigned_32 : decode bN_divideSigned 32 = .ok (.lload_n 1, 1) := by decide +kernel
theorem dN_divideSigned_33 : decode bN_divideSigned 33 = .ok (.lload_n 3, 1) := by decide +kernel
theorem dN_divideSigned_34 : decode bN_divideSigned 34 = .ok (.lrem, 1) := by decide +kernel
theorem dN_divideSigned_35 : decode bN_divideSigned 35 = .ok (.lreturn, 1) := by decide +kernel
theorem dN_divideSigned_36 : decode bN_divideSigned 36 = .ok (.lload_n 1, 1) := by decide +kernel
theorem dN_divideSigned_37 : decode bN_divideSigned 37 = .ok (.lload_n 3, 1) := by decide +kernel
theorem dN_divideSigned_38 : decode bN_divideSigned 38 = .ok (.invokestatic 184, 3) := by decide +kernel
theorem dN_divideSigned_41 : decode bN_divideSigned 41 = .ok (.lreturn, 1) := by decide +kernel
theorem dN_divideUnsigned_0 : decode bN_divideUnsigned 0 = .ok (.lload_n 1, 1) := by decide +kernel
theorem dN_divideUnsigned_1 : decode bN_divideUnsigned 1 = .ok (.lload_n 3, 1) := by decide +kernel
theorem dN_divideUnsigned_2 : decode bN_divideUnsigned 2 = .ok (.invokestatic 188, 3) := by decide +kernel
theorem dN_divideUnsigned_5 : decode bN_divideUnsigned 5 = .ok (.lstore 5, 2) := by decide +kernel
theorem dN_divideUnsigned_7 : decode bN_divideUnsigned 7 = .ok (.iload_n 0, 1) := by decide +kernel
theorem dN_divideUnsigned_8 : decode bN_divideUnsigned 8 = .ok (.bipush 10, 2) := by decide +kernel
theorem dN_divideUnsigned_10 : decode bN_divideUnsigned 10 = .ok (.if_icmp .ne 8, 3) := by decide +kernel
theorem dN_divideUnsigned_13 : decode bN_divideUnsigned 13 = .ok (.lload 5, 2) := by decide +kernel
theorem dN_divideUnsigned_15 : decode bN_divideUnsigned 15 = .ok (.goto 9, 3) := by decide +kernel
theorem dN_divideUnsigned_18 : decode bN_divideUnsigned 18 = .ok (.lload_n 1, 1) := by decide +kernel
theorem dN_divideUnsigned_19 : decode bN_divideUnsigned 19 = .ok (.lload 5, 2) := by decide +kernel
theorem dN_divideUnsigned_21 : decode bN_divideUnsigned 21 = .ok (.lload_n 3, 1) := by decide +kernel
theorem dN_divideUnsigned_22 : decode bN_divideUnsigned 22 = .ok (.lmul, 1) := by decide +kernel
theorem dN_divideUnsigned_23 : decode bN_divideUnsigned 23 = .ok (.lsub, 1) := by decide +kernel
theorem dN_divideUnsigned_24 : decode bN_divideUnsigned 24 = .ok (.lreturn, 1) := by decide +kernel
theorem dN_quotientUnsigned_0 : decode bN_quotientUnsigned 0 = .ok (.lload_n 2, 1) := by decide +kernel
theorem dN_quotientUnsigned_1 : decode bN_quotientUnsigned 1 = .ok (.lconst 0, 1) := by decide +kernel
theorem dN_quotientUnsigned_2 : decode bN_quotientUnsigned 2 = .ok (.lcmp, 1) := by decide +kernel
theorem dN_quotientUnsigned_3 : decode bN_quotientUnsigned 3 = .ok (.ifCond .gt 17, 3) := by decide +kernel
theorem dN_quotientUnsigned_6 : decode bN_quotientUnsigned 6 = .ok (.lload_n 0, 1) := by decide +kernel
theorem dN_quotientUnsigned_7 : decode bN_quotientUnsigned 7 = .ok (.lload_n 2, 1) := by decide +kernel
theorem dN_quotientUnsigned_8 : decode bN_quotientUnsigned 8 = .ok (.invokestatic 127, 3) := by decide +kernel
theorem dN_quotientUnsigned_11 : decode bN_quotientUnsigned 11 = .ok (.ifCond .eq 7, 3) := by decide +kernel
theorem dN_quotientUnsigned_14 : decode bN_quotientUnsigned 14 = .ok (.lconst 0, 1) := by decide +kernel
theorem dN_quotientUnsigned_15 : decode bN_quotientUnsigned 15 = .ok (.goto 4, 3) := by decide +kernel
theorem dN_quotientUnsigned_18 : decode bN_quotientUnsigned 18 = .ok (.lconst 1, 1) := by decide +kernel
theorem dN_quotientUnsigned_19 : decode bN_quotientUnsigned 19 = .ok (.lreturn, 1) := by decide +kernel
theorem dN_quotientUnsigned_20 : decode bN_quotientUnsigned 20 = .ok (.lload_n 0, 1) := by decide +kernel
theorem dN_quotientUnsigned_21 : decode bN_quotientUnsigned 21 = .ok (.iconst 1, 1) := by decide +kernel
theorem dN_quotientUnsigned_22 : decode bN_quotientUnsigned 22 = .ok (.lushr, 1) := by decide +kernel
theorem dN_quotientUnsigned_23 : decode bN_quotientUnsigned 23 = .ok (.lload_n 2, 1) := by decide +kernel
theorem dN_quotientUnsigned_24 : decode bN_quotientUnsigned 24 = .ok (.ldiv, 1) := by decide +kernel
theorem dN_quotientUnsigned_25 : decode bN_quotientUnsigned 25 = .ok (.iconst 1, 1) := by decide +kernel
theorem dN_quotientUnsigned_26 : decode bN_quotientUnsigned 26 = .ok (.lshl, 1) := by decide +kernel
theorem dN_quotientUnsigned_27 : decode bN_quotientUnsigned 27 = .ok (.lstore 4, 2) := by decide +kernel
theorem dN_quotientUnsigned_29 : decode bN_quotientUnsigned 29 = .ok (.lload_n 0, 1) := by decide +kernel
theorem dN_quotientUnsigned_30 : decode bN_quotientUnsigned 30 = .ok (.lload 4, 2) := by decide +kernel
theorem dN_quotientUnsigned_32 : decode bN_quotientUnsigned 32 = .ok (.lload_n 2, 1) := by decide +kernel
theorem dN_quotientUnsigned_33 : decode bN_quotientUnsigned 33 = .ok (.lmul, 1) := by decide +kernel
theorem dN_quotientUnsigned_34 : decode bN_quotientUnsigned 34 = .ok (.lsub, 1) := by decide +kernel
theorem dN_quotientUnsigned_35 : decode bN_quotientUnsigned 35 = .ok (.lload_n 2, 1) := by decide +kernel
theorem dN_quotientUnsigned_36 : decode bN_quotientUnsigned 36 = .ok (.invokestatic 127, 3) := by decide +kernel
theorem dN_quotientUnsigned_39 : decode bN_quotientUnsigned 39 = .ok (.ifCond .eq 8, 3) := by decide +kernel
theorem dN_quotientUnsigned_42 : decode bN_quotientUnsigned 42 = .ok (.lload 4, 2) := by decide +kernel
theorem dN_quotientUnsigned_44 : decode bN_quotientUnsigned 44 = .ok (.goto 7, 3) := by decide +kernel
theorem dN_quotientUnsigned_47 : decode bN_quotientUnsigned 47 = .ok (.lload 4, 2) := by decide +kernel
theorem dN_quotientUnsigned_49 : decode bN_quotientUnsigned 49 = .ok (.lconst 1, 1) := by decide +kernel
theorem dN_quotientUnsigned_50 : decode bN_quotientUnsigned 50 = .ok (.ladd, 1) := by decide +kernel
theorem dN_quotientUnsigned_51 : decode bN_quotientUnsigned 51 = .ok (.lreturn, 1) := by decide +kernel
theorem dN_isBelowUnsigned_0 : decode bN_isBelowUnsigned 0 = .ok (.lload_n 0, 1) := by decide +kernel
theorem dN_isBelowUnsigned_1 : decode bN_isBelowUnsigned 1 = .ok (.ldc2_w 191, 3) := by decide +kernel
theorem dN_isBelowUnsigned_4 : decode bN_isBelowUnsigned 4 = .ok (.lxor, 1) := by decide +kernel
theorem dN_isBelowUnsigned_5 : decode bN_isBelowUnsigned 5 = .ok (.lload_n 2, 1) := by decide +kernel
theorem dN_isBelowUnsigned_6 : decode bN_isBelowUnsigned 6 = .ok (.ldc2_w 191, 3) := by decide +kernel
theorem dN_isBelowUnsigned_9 : decode bN_isBelowUnsigned 9 = .ok (.lxor, 1) := by decide +kernel
theorem dN_isBelowUnsigned_10 : decode bN_isBelowUnsigned 10 = .ok (.lcmp, 1) := by decide +kernel
theorem dN_isBelowUnsigned_11 : decode bN_isBelowUnsigned 11 = .ok (.ifCond .ge 7, 3) := by decide +kernel
theorem dN_isBelowUnsigned_14 : decode bN_isBelowUnsigned 14 = .ok (.iconst 1, 1) := by decide +kernel
theorem dN_isBelowUnsigned_15 : decode bN_isBelowUnsigned 15 = .ok (.goto 4, 3) := by decide +kernel
theorem dN_isBelowUnsigned_18 : decode bN_isBelowUnsigned 18 = .ok (.iconst 0, 1) := by decide +kernel
theorem dN_isBelowUnsigned_19 : decode bN_isBelowUnsigned 19 = .ok (.ireturn, 1) := by decide +kernel
theorem dN_changeElements_0 : decode bN_changeElements 0 = .ok (.aload_n 0, 1) := by decide +kernel
theorem dN_changeElements_1 : decode bN_changeElements 1 = .ok (.getfield 16, 3) := by decide +kernel
theorem dN_changeElements_4 : decode bN_changeElements 4 = .ok (.aload_n 2, 1) := by decide +kernel
theorem dN_changeElements_5 : decode bN_changeElements 5 = .ok (.getfield 41, 3) := by decide +kernel
theorem dN_changeElements_8 : decode bN_changeElements 8 = .ok (.putfield 41, 3) := by decide +kernel
theorem dN_changeElements_11 : decode bN_changeElements 11 = .ok (.iconst 0, 1) := by decide +kernel
theorem dN_changeElements_12 : decode bN_changeElements 12 = .ok (.istore_n 3, 1) := by decide +kernel
theorem dN_changeElements_13 : decode bN_changeElements 13 = .ok (.iload_n 3, 1) := by decide +kernel
theorem dN_changeElements_14 : decode bN_changeElements 14 = .ok (.aload_n 2, 1) := by decide +kernel
theorem dN_changeElements_15 : decode bN_changeElements 15 = .ok (.getfield 41, 3) := by decide +kernel
theorem dN_changeElements_18 : decode bN_changeElements 18 = .ok (.if_icmp .ge 45, 3) := by decide +kernel
theorem dN_changeElements_21 : decode bN_changeElements 21 = .ok (.aload_n 2, 1) := by decide +kernel
theorem dN_changeElements_22 : decode bN_changeElements 22 = .ok (.getfield 37, 3) := by decide +kernel
theorem dN_changeElements_25 : decode bN_changeElements 25 = .ok (.iload_n 3, 1) := by decide +kernel
theorem dN_changeElements_26 : decode bN_changeElements 26 = .ok (.iaload, 1) := by decide +kernel
theorem dN_changeElements_27 : decode bN_changeElements 27 = .ok (.istore 4, 2) := by decide +kernel
theorem dN_changeElements_29 : decode bN_changeElements 29 = .ok (.aload_n 0, 1) := by decide +kernel
theorem dN_changeElements_30 : decode bN_changeElements 30 = .ok (.getfield 16, 3) := by decide +kernel
theorem dN_changeElements_33 : decode bN_changeElements 33 = .ok (.getfield 37, 3) := by decide +kernel
theorem dN_changeElements_36 : decode bN_changeElements 36 = .ok (.iload_n 3, 1) := by decide +kernel
theorem dN_changeElements_37 : decode bN_changeElements 37 = .ok (.iload_n 1, 1) := by decide +kernel
theorem dN_changeElements_38 : decode bN_changeElements 38 = .ok (.iconst 4, 1) := by decide +kernel
theorem dN_changeElements_39 : decode bN_changeElements 39 = .ok (.if_icmp .ne 11, 3) := by decide +kernel
theorem dN_changeElements_42 : decode bN_changeElements 42 = .ok (.iload 4, 2) := by decide +kernel
theorem dN_changeElements_44 : decode bN_changeElements 44 = .ok (.invokestatic 193, 3) := by decide +kernel
theorem dN_changeElements_47 : decode bN_changeElements 47 = .ok (.goto 9, 3) := by decide +kernel
theorem dN_changeElements_50 : decode bN_changeElements 50 = .ok (.iload_n 1, 1) := by decide +kernel
theorem dN_changeElements_51 : decode bN_changeElements 51 = .ok (.iload 4, 2) := by decide +kernel
theorem dN_changeElements_53 : decode bN_changeElements 53 = .ok (.invokestatic 197, 3) := by decide +kernel
theorem dN_changeElements_56 : decode bN_changeElements 56 = .ok (.iastore, 1) := by decide +kernel
theorem dN_changeElements_57 : decode bN_changeElements 57 = .ok (.iinc 3 1, 3) := by decide +kernel
theorem dN_changeElements_60 : decode bN_changeElements 60 = .ok (.goto (-47), 3) := by decide +kernel
theorem dN_changeElements_63 : decode bN_changeElements 63 = .ok (.return_, 1) := by decide +kernel
theorem dN_changeNumber_0 : decode bN_changeNumber 0 = .ok (.aload_n 2, 1) := by decide +kernel
theorem dN_changeNumber_1 : decode bN_changeNumber 1 = .ok (.invokevirtual 49, 3) := by decide +kernel
theorem dN_changeNumber_4 : decode bN_changeNumber 4 = .ok (.ifCond .ne 16, 3) := by decide +kernel
theorem dN_changeNumber_7 : decode bN_changeNumber 7 = .ok (.aload_n 0, 1) := by decide +kernel
theorem dN_changeNumber_8 : decode bN_changeNumber 8 = .ok (.getfield 16, 3) := by decide +kernel
theorem dN_changeNumber_11 : decode bN_changeNumber 11 = .ok (.aload_n 2, 1) := by decide +kernel
theorem dN_changeNumber_12 : decode bN_changeNumber 12 = .ok (.getfield 41, 3) := by decide +kernel
theorem dN_changeNumber_15 : decode bN_changeNumber 15 = .ok (.iconst 1, 1) := by decide +kernel
theorem dN_changeNumber_16 : decode bN_changeNumber 16 = .ok (.invokevirtual 30, 3) := by decide +kernel
theorem dN_changeNumber_19 : decode bN_changeNumber 19 = .ok (.return_, 1) := by decide +kernel
theorem dN_changeNumber_20 : decode bN_changeNumber 20 = .ok (.aload_n 2, 1) := by decide +kernel
theorem dN_changeNumber_21 : decode bN_changeNumber 21 = .ok (.iconst 1, 1) := by decide +kernel
theorem dN_changeNumber_22 : decode bN_changeNumber 22 = .ok (.invokevirtual 60, 3) := by decide +kernel
theorem dN_changeNumber_25 : decode bN_changeNumber 25 = .ok (.lstore_n 3, 1) := by decide +kernel
theorem dN_changeNumber_26 : decode bN_changeNumber 26 = .ok (.aload_n 0, 1) := by decide +kernel
theorem dN_changeNumber_27 : decode bN_changeNumber 27 = .ok (.getfield 16, 3) := by decide +kernel
theorem dN_changeNumber_30 : decode bN_changeNumber 30 = .ok (.aload_n 2, 1) := by decide +kernel
theorem dN_changeNumber_31 : decode bN_changeNumber 31 = .ok (.getfield 41, 3) := by decide +kernel
theorem dN_changeNumber_34 : decode bN_changeNumber 34 = .ok (.iload_n 1, 1) := by decide +kernel
theorem dN_changeNumber_35 : decode bN_changeNumber 35 = .ok (.iconst 5, 1) := by decide +kernel
theorem dN_changeNumber_36 : decode bN_changeNumber 36 = .ok (.if_icmp .eq 9, 3) := by decide +kernel
theorem dN_changeNumber_39 : decode bN_changeNumber 39 = .ok (.lload_n 3, 1) := by decide +kernel
theorem dN_changeNumber_40 : decode bN_changeNumber 40 = .ok (.lconst 0, 1) := by decide +kernel
theorem dN_changeNumber_41 : decode bN_changeNumber 41 = .ok (.lcmp, 1) := by decide +kernel
theorem dN_changeNumber_42 : decode bN_changeNumber 42 = .ok (.ifCond .ge 8, 3) := by decide +kernel
theorem dN_changeNumber_45 : decode bN_changeNumber 45 = .ok (.lload_n 3, 1) := by decide +kernel
theorem dN_changeNumber_46 : decode bN_changeNumber 46 = .ok (.lneg, 1) := by decide +kernel
theorem dN_changeNumber_47 : decode bN_changeNumber 47 = .ok (.goto 4, 3) := by decide +kernel
theorem dN_changeNumber_50 : decode bN_changeNumber 50 = .ok (.lload_n 3, 1) := by decide +kernel
theorem dN_changeNumber_51 : decode bN_changeNumber 51 = .ok (.invokevirtual 45, 3) := by decide +kernel
theorem dN_changeNumber_54 : decode bN_changeNumber 54 = .ok (.return_, 1) := by decide +kernel
theorem dN_move_0 : decode bN_move 0 = .ok (.aload_n 0, 1) := by decide +kernel
theorem dN_move_1 : decode bN_move 1 = .ok (.getfield 16, 3) := by decide +kernel
theorem dN_move_4 : decode bN_move 4 = .ok (.aload_n 3, 1) := by decide +kernel
theorem dN_move_5 : decode bN_move 5 = .ok (.getfield 41, 3) := by decide +kernel
theorem dN_move_8 : decode bN_move 8 = .ok (.iload_n 2, 1) := by decide +kernel
theorem dN_move_9 : decode bN_move 9 = .ok (.invokevirtual 30, 3) := by decide +kernel
theorem dN_move_12 : decode bN_move 12 = .ok (.iconst 0, 1) := by decide +kernel
theorem dN_move_13 : decode bN_move 13 = .ok (.istore 4, 2) := by decide +kernel
theorem dN_move_15 : decode bN_move 15 = .ok (.iload 4, 2) := by decide +kernel
theorem dN_move_17 : decode bN_move 17 = .ok (.aload_n 3, 1) := by decide +kernel
theorem dN_move_18 : decode bN_move 18 = .ok (.getfield 41, 3) := by decide +kernel
theorem dN_move_21 : decode bN_move 21 = .ok (.if_icmp .ge 46, 3) := by decide +kernel
theorem dN_move_24 : decode bN_move 24 = .ok (.iload 4, 2) := by decide +kernel
theorem dN_move_26 : decode bN_move 26 = .ok (.iload_n 1, 1) := by decide +kernel
theorem dN_move_27 : decode bN_move 27 = .ok (.isub, 1) := by decide +kernel
theorem dN_move_28 : decode bN_move 28 = .ok (.istore 5, 2) := by decide +kernel
theorem dN_move_30 : decode bN_move 30 = .ok (.iload 5, 2) := by decide +kernel
theorem dN_move_32 : decode bN_move 32 = .ok (.ifCond .lt 29, 3) := by decide +kernel
theorem dN_move_35 : decode bN_move 35 = .ok (.iload 5, 2) := by decide +kernel
theorem dN_move_37 : decode bN_move 37 = .ok (.aload_n 3, 1) := by decide +kernel
theorem dN_move_38 : decode bN_move 38 = .ok (.getfield 41, 3) := by decide +kernel
theorem dN_move_41 : decode bN_move 41 = .ok (.if_icmp .ge 20, 3) := by decide +kernel
theorem dN_move_44 : decode bN_move 44 = .ok (.aload_n 0, 1) := by decide +kernel
theorem dN_move_45 : decode bN_move 45 = .ok (.getfield 16, 3) := by decide +kernel
theorem dN_move_48 : decode bN_move 48 = .ok (.getfield 37, 3) := by decide +kernel
theorem dN_move_51 : decode bN_move 51 = .ok (.iload 4, 2) := by decide +kernel
theorem dN_move_53 : decode bN_move 53 = .ok (.aload_n 3, 1) := by decide +kernel
theorem dN_move_54 : decode bN_move 54 = .ok (.getfield 37, 3) := by decide +kernel
theorem dN_move_57 : decode bN_move 57 = .ok (.iload 5, 2) := by decide +kernel
theorem dN_move_59 : decode bN_move 59 = .ok (.iaload, 1) := by decide +kernel
theorem dN_move_60 : decode bN_move 60 = .ok (.iastore, 1) := by decide +kernel
theorem dN_move_61 : decode bN_move 61 = .ok (.iinc 4 1, 3) := by decide +kernel
theorem dN_move_64 : decode bN_move 64 = .ok (.goto (-49), 3) := by decide +kernel
theorem dN_move_67 : decode bN_move 67 = .ok (.return_, 1) := by decide +kernel
theorem dN_turnRound_0 : decode bN_turnRound 0 = .ok (.aload_n 0, 1) := by decide +kernel
theorem dN_turnRound_1 : decode bN_turnRound 1 = .ok (.getfield 16, 3) := by decide +kernel
theorem dN_turnRound_4 : decode bN_turnRound 4 = .ok (.aload_n 2, 1) := by decide +kernel
theorem dN_turnRound_5 : decode bN_turnRound 5 = .ok (.getfield 41, 3) := by decide +kernel
theorem dN_turnRound_8 : decode bN_turnRound 8 = .ok (.putfield 41, 3) := by decide +kernel
theorem dN_turnRound_11 : decode bN_turnRound 11 = .ok (.iconst 0, 1) := by decide +kernel
theorem dN_turnRound_12 : decode bN_turnRound 12 = .ok (.istore_n 3, 1) := by decide +kernel
theorem dN_turnRound_13 : decode bN_turnRound 13 = .ok (.iload_n 3, 1) := by decide +kernel
theorem dN_turnRound_14 : decode bN_turnRound 14 = .ok (.aload_n 2, 1) := by decide +kernel
theorem dN_turnRound_15 : decode bN_turnRound 15 = .ok (.getfield 41, 3) := by decide +kernel
theorem dN_turnRound_18 : decode bN_turnRound 18 = .ok (.if_icmp .ge 33, 3) := by decide +kernel
theorem dN_turnRound_21 : decode bN_turnRound 21 = .ok (.aload_n 0, 1) := by decide +kernel
theorem dN_turnRound_22 : decode bN_turnRound 22 = .ok (.getfield 16, 3) := by decide +kernel
theorem dN_turnRound_25 : decode bN_turnRound 25 = .ok (.getfield 37, 3) := by decide +kernel
theorem dN_turnRound_28 : decode bN_turnRound 28 = .ok (.iload_n 3, 1) := by decide +kernel
theorem dN_turnRound_29 : decode bN_turnRound 29 = .ok (.aload_n 2, 1) := by decide +kernel
theorem dN_turnRound_30 : decode bN_turnRound 30 = .ok (.getfield 37, 3) := by decide +kernel
theorem dN_turnRound_33 : decode bN_turnRound 33 = .ok (.iload_n 3, 1) := by decide +kernel
theorem dN_turnRound_34 : decode bN_turnRound 34 = .ok (.iload_n 1, 1) := by decide +kernel
theorem dN_turnRound_35 : decode bN_turnRound 35 = .ok (.isub, 1) := by decide +kernel
theorem dN_turnRound_36 : decode bN_turnRound 36 = .ok (.aload_n 2, 1) := by decide +kernel
theorem dN_turnRound_37 : decode bN_turnRound 37 = .ok (.getfield 41, 3) := by decide +kernel
theorem dN_turnRound_40 : decode bN_turnRound 40 = .ok (.invokestatic 200, 3) := by decide +kernel
theorem dN_turnRound_43 : decode bN_turnRound 43 = .ok (.iaload, 1) := by decide +kernel
theorem dN_turnRound_44 : decode bN_turnRound 44 = .ok (.iastore, 1) := by decide +kernel
theorem dN_turnRound_45 : decode bN_turnRound 45 = .ok (.iinc 3 1, 3) := by decide +kernel
theorem dN_turnRound_48 : decode bN_turnRound 48 = .ok (.goto (-35), 3) := by decide +kernel
theorem dN_turnRound_51 : decode bN_turnRound 51 = .ok (.return_, 1) := by decide +kernel
end
section
/-! ===== the values and words of the document, as numbers ===== -/
section Zp
theorem ib {a : Prop} {da : Decidable a} {b : Bool} (h : (!(@decide a da) || b) = true) (ha : a) : b = true := by
  rw [decide_eq_true ha] at h
  exact h
theorem al0 (b : Bool) (h : b = true) : b = true := h
theorem al1 {N : Nat} (P : Nat → Bool) (h : (List.range N).all P = true) (p : Nat) (hp : p < N) : P p = true := List.all_eq_true.mp h p (List.mem_range.mpr hp)
theorem al2 {N M : Nat} (P : Nat → Nat → Bool) (h : (List.range N).all (fun p => (List.range M).all (P p)) = true) (p : Nat) (hp : p < N) (q : Nat) (hq : q < M) : P p q = true := al1 (P p) (al1 (fun p => (List.range M).all (P p)) h p hp) q hq
theorem al3 {L N M : Nat} (P : Nat → Nat → Nat → Bool) (h : (List.range L).all (fun o => (List.range N).all (fun p => (List.range M).all (P o p))) = true) (o : Nat) (ho : o < L) (p : Nat) (hp : p < N) (q : Nat) (hq : q < M) : P o p q = true := al2 (P o) (al1 (fun o => (List.range N).all (fun p => (List.range M).all (P o p))) h o ho) p hp q hq
def zLow (v : Nat) : Nat := if v = 2 ∨ v = 6 then 1 else 0
def zHigh (v : Nat) : Nat := if v = 3 ∨ v = 7 then 1 else 0
def zClear (v : Nat) : Nat := if v = 2 ∨ v = 6 ∨ v = 3 ∨ v = 7 then 1 else 0
def zDrive (p q : Nat) : Nat :=
  if p = 0 ∨ q = 0 then 0 else if p = 1 ∨ p = 8 ∨ q = 1 ∨ q = 8 then 1 else if p = 4 then q else if q = 4 then p
  else if (p = 2 ∧ q = 3) ∨ (p = 3 ∧ q = 2) then 1 else if p = 2 ∨ p = 3 then p else if q = 2 ∨ q = 3 then q else if p = q then p else 5
def zAnd (p q : Nat) : Nat := if zLow p = 1 ∨ zLow q = 1 then 2 else if p = 0 ∨ q = 0 then 0 else if zHigh p = 1 ∧ zHigh q = 1 then 3 else 1
def zOr (p q : Nat) : Nat := if zHigh p = 1 ∨ zHigh q = 1 then 3 else if p = 0 ∨ q = 0 then 0 else if zLow p = 1 ∧ zLow q = 1 then 2 else 1
def zXor (p q : Nat) : Nat := if p = 0 ∨ q = 0 then 0 else if zClear p = 0 ∨ zClear q = 0 then 1 else if zHigh p = zHigh q then 2 else 3
def zNot (v : Nat) : Nat := if v = 0 then 0 else if zLow v = 1 then 3 else if zHigh v = 1 then 2 else 1
def zJoin (o p q : Nat) : Nat :=
  if o = 0 then zDrive p q else if o = 1 then zAnd p q else if o = 2 then zOr p q else if o = 3 then zXor p q
  else if o = 4 then zNot (zAnd p q) else if o = 5 then zNot (zOr p q) else zNot (zXor p q)
def zStrip (o v : Nat) : Nat := if zLow v = 1 then 2 else if zHigh v = 1 then 3 else if o = 1 ∧ v = 4 then 4 else if o = 2 ∧ v = 0 then 0 else if o = 3 then 2 else 1
def zMatch (p q : Nat) : Nat := if p = 8 ∨ q = 8 ∨ (zLow p = 1 ∧ zLow q = 1) ∨ (zHigh p = 1 ∧ zHigh q = 1) then 1 else 0
theorem zDrive_lt : ∀ p, p < 9 → ∀ q, q < 9 → zDrive p q < 9 := by decide +kernel
theorem zAnd_lt : ∀ p, p < 9 → ∀ q, q < 9 → zAnd p q < 9 := by decide +kernel
theorem zOr_lt : ∀ p, p < 9 → ∀ q, q < 9 → zOr p q < 9 := by decide +kernel
theorem zXor_lt : ∀ p, p < 9 → ∀ q, q < 9 → zXor p q < 9 := by decide +kernel
theorem zNot_lt : ∀ p, p < 9 → zNot p < 9 := by decide +kernel
theorem zStrip_lt : ∀ o, o < 4 → ∀ p, p < 9 → zStrip o p < 9 := by decide +kernel
theorem zJoin_lt7 : ∀ o, o < 7 → ∀ p, p < 9 → ∀ q, q < 9 → zJoin o p q < 9 := by decide +kernel
/-- the places a .. a + k - 1 are f's, the others h's -/
def pov (f h : Nat → Nat) (a k : Nat) : Nat → Nat := fun j => if a ≤ j ∧ j < a + k then f j else h j
theorem pov_0 (f h : Nat → Nat) (a : Nat) : pov f h a 0 = h := by
  funext j
  unfold pov
  rw [if_neg (by omega)]
theorem pov_s (f h : Nat → Nat) (a k : Nat) : va_up (pov f h a k) (a + k) (f (a + k)) = pov f h a (k + 1) := by
  funext j
  unfold pov va_up
  by_cases hj : j = a + k
  · subst hj
    rw [if_pos rfl, if_pos (by omega)]
  · rw [if_neg hj]
    show (if a ≤ j ∧ j < a + k then f j else h j) = _
    by_cases hk : a ≤ j ∧ j < a + k
    · rw [if_pos hk, if_pos (by omega)]
    · rw [if_neg hk, if_neg (by omega)]
theorem pov_s0 (f h : Nat → Nat) (k : Nat) : va_up (pov f h 0 k) k (f k) = pov f h 0 (k + 1) := by
  have h1 := pov_s f h 0 k
  rw [Nat.zero_add] at h1
  exact h1
theorem pov_in {f h : Nat → Nat} {a k j : Nat} (h1 : a ≤ j) (h2 : j < a + k) : pov f h a k j = f j := if_pos ⟨h1, h2⟩
theorem pov_out {f h : Nat → Nat} {a k j : Nat} (h1 : j < a ∨ a + k ≤ j) : pov f h a k j = h j := if_neg (by omega)
theorem pov_lt {f h : Nat → Nat} {a k b : Nat} (hf : ∀ j, a ≤ j → j < a + k → f j < b) (hh : ∀ j, h j < b) : ∀ j, pov f h a k j < b := by
  intro j
  unfold pov
  by_cases hj : a ≤ j ∧ j < a + k
  · rw [if_pos hj]; exact hf j hj.1 hj.2
  · rw [if_neg hj]; exact hh j
/-- the number of the first N elements -/
def zNum (f : Nat → Nat) : Nat → Nat
  | 0 => 0
  | k + 1 => zNum f k + zHigh (f k) * 2 ^ k
theorem zHigh_le (v : Nat) : zHigh v ≤ 1 := by
  unfold zHigh
  split <;> omega
theorem zNum_lt (f : Nat → Nat) : ∀ k, zNum f k < 2 ^ k
  | 0 => by simp [zNum]
  | k + 1 => by
    have h1 := zNum_lt f k
    have h2 := zHigh_le (f k)
    have h3 : zHigh (f k) * 2 ^ k ≤ 1 * 2 ^ k := Nat.mul_le_mul_right _ h2
    rw [zNum, Nat.pow_succ]
    omega
theorem zNum_congr {f h : Nat → Nat} : ∀ {k : Nat}, (∀ j, j < k → f j = h j) → zNum f k = zNum h k
  | 0, _ => rfl
  | k + 1, e => by rw [zNum, zNum, zNum_congr (fun j hj => e j (by omega)), e k (by omega)]
/-- all of the first N are clear -/
def zAll (f : Nat → Nat) (N : Nat) : Nat := if ∀ k, k < N → zClear (f k) = 1 then 1 else 0
def zFold (o v : Nat) (f : Nat → Nat) : Nat → Nat
  | 0 => v
  | k + 1 => zJoin o (zFold o v f k) (f k)
theorem zFold_lt {o v : Nat} {f : Nat → Nat} (ho : o < 7) (hv : v < 9) (hf : ∀ k, f k < 9) : ∀ k, zFold o v f k < 9
  | 0 => hv
  | k + 1 => zJoin_lt7 o ho _ (zFold_lt ho hv hf k) _ (hf k)
/-- the last element, ZERO of an empty word -/
def zLast (f : Nat → Nat) (N : Nat) : Nat := if N = 0 then 2 else f (N - 1)
/-- a word's elements, its last one again and again beyond its end -/
def zExt (f : Nat → Nat) (N : Nat) : Nat → Nat := fun k => if k < N then f k else zLast f N
theorem zExt_in {f : Nat → Nat} {N k : Nat} (h : k < N) : zExt f N k = f k := if_pos h
theorem zExt_out {f : Nat → Nat} {N k : Nat} (h : N ≤ k) : zExt f N k = zLast f N := if_neg (by omega)
theorem zLast_lt {f : Nat → Nat} (hf : ∀ k, f k < 9) (N : Nat) : zLast f N < 9 := by
  unfold zLast
  by_cases h : N = 0
  · rw [if_pos h]; decide
  · rw [if_neg h]; exact hf _
/-- how many bits count: all 64 where it is signed -/
def zB (b N : Nat) : Nat := if b = 1 then 64 else N
theorem zB_le (b : Nat) {N : Nat} (h : N ≤ 64) : zB b N ≤ 64 := by
  unfold zB
  split <;> omega
/-- the 64 bits of a word's number; b = 1: signed -/
def zLong (b : Nat) (f : Nat → Nat) (N : Nat) : Nat := zNum (zExt f N) (zB b N)
theorem zLong_lt (b : Nat) (f : Nat → Nat) {N : Nat} (h : N ≤ 64) : zLong b f N < 2 ^ 64 :=
  Nat.lt_of_lt_of_le (zNum_lt _ _) (Nat.pow_le_pow_right (by decide) (zB_le b h))
theorem zNum_s0 {f : Nat → Nat} {k : Nat} (h : zHigh (f k) = 0) : zNum f (k + 1) = zNum f k := by
  rw [zNum, h, Nat.zero_mul, Nat.add_zero]
/-- it can be reckoned with -/
def zCnt (f : Nat → Nat) (N : Nat) : Nat := if 0 < N ∧ zAll f N = 1 then 1 else 0
theorem zAll_01 (f : Nat → Nat) (N : Nat) : zAll f N = 0 ∨ zAll f N = 1 := by
  unfold zAll
  split
  · exact Or.inr rfl
  · exact Or.inl rfl
theorem zCnt_0 {f : Nat → Nat} {N : Nat} (h : N ≤ 0) : (0 : Int32) = nI (zCnt f N) := by
  rw [show zCnt f N = 0 from if_neg (by omega)]; rfl
theorem zCnt_1 {f : Nat → Nat} {N : Nat} (h : 0 < N) (h2 : ¬ nI (zAll f N) = 0) : (1 : Int32) = nI (zCnt f N) := by
  rcases zAll_01 f N with q | q
  · exact absurd (by rw [q]; rfl) h2
  · rw [show zCnt f N = 1 from if_pos ⟨h, q⟩]; rfl
theorem zCnt_2 {f : Nat → Nat} {N : Nat} (h2 : nI (zAll f N) = 0) : (0 : Int32) = nI (zCnt f N) := by
  rcases zAll_01 f N with q | q
  · rw [show zCnt f N = 0 from if_neg (by omega)]; rfl
  · rw [q] at h2; exact absurd h2 (by decide)
theorem va_up_eta {α : Type} (f : Nat → α) (k : Nat) : va_up f k (f k) = f := by
  funext j
  unfold va_up
  by_cases h : j = k
  · rw [if_pos h, h]
  · rw [if_neg h]
theorem nv_step (g : Nat → Nat → Nat) (i : Nat) (f h : Nat → Nat) (k : Nat) : va_up (va_up g i (pov f h 0 k)) i (va_up ((va_up g i (pov f h 0 k)) i) k (f k)) = va_up g i (pov f h 0 (k + 1)) := by
  rw [va_up_self, bx_uu, pov_s0]
theorem nv_stepA (g : Nat → Nat → Nat) (i : Nat) (f h : Nat → Nat) (a k : Nat) : va_up (va_up g i (pov f h a k)) i (va_up ((va_up g i (pov f h a k)) i) (a + k) (f (a + k))) = va_up g i (pov f h a (k + 1)) := by
  rw [va_up_self, bx_uu, pov_s]
theorem zShl1 {k : Nat} (hk : k < 64) : (1 : Int64) <<< ((nI k).toInt64 &&& 63) = lN (2 ^ k) := by
  have h := wb_shl 1 hk
  rw [Nat.one_mul] at h
  exact h
theorem zNum_s1 {f : Nat → Nat} {k : Nat} (hk : k < 64) (h : zHigh (f k) = 1) : lN (zNum f k) ||| lN (2 ^ k) = lN (zNum f (k + 1)) := by
  have h1 := zNum_lt f k
  have h2 : (2 : Nat) ^ k * 2 ≤ 2 ^ 64 := by
    rw [← Nat.pow_succ]
    exact Nat.pow_le_pow_right (by decide) (by omega)
  have h3 := g_or' (k := k) (p := 2 ^ k) (a := zNum f k) (b := 1) rfl h1 (by omega)
  rw [Nat.one_mul] at h3
  rw [h3, zNum, h, Nat.one_mul]
/-- a number's bits as values -/
def zPut (v k : Nat) : Nat := if v / 2 ^ k % 2 = 0 then 2 else 3
theorem zPut_lt (v k : Nat) : zPut v k < 9 := by
  unfold zPut
  split <;> omega
end Zp
end
section
/-! ===== the class's world: the object, its array of places, sixteen words and the answer (17 words), their arrays ===== -/
section Nv
/-- cell k: 0 the object, 1 the array of places, 2 + i word i, 19 + i its elements; word 16 is the answer -/
def nvE (cA cW : ClassId) (T : Nat → Nat) (n : Nat → Nat) (g : Nat → Nat → Nat) (k : Nat) : va_E :=
  if k = 0 then .inr (ciN, [.ref (T 1), .ref (T 18)]) else if k = 1 then .inl (cW, 16, .inr (.inr (.inr (.inr (fun j => some (T (2 + j)))))))
  else if k < 19 then .inr (ciW, [.int (nI (n (k - 2))), .ref (T (k + 17))]) else .inl (cA, 64, .inl (fun j => nI (g (k - 19) j)))
abbrev nvW (cA cW : ClassId) (T : Nat → Nat) (n : Nat → Nat) (g : Nat → Nat → Nat) : va_W := bw 36 T (nvE cA cW T n g)
/-- the addresses are apart -/
def nvT (T : Nat → Nat) : Prop := ∀ i j, i < 36 → j < 36 → T i = T j → i = j
def nvA (T : Nat → Nat) : Nat → Prop := fun q => ∃ k, k < 36 ∧ q = T k
abbrev nvTy (cA cW : ClassId) : List (ClassId × FieldType) := [(cA, .int), (cW, .object "NineValues$Word")]
variable {cA cW : ClassId} {T : Nat → Nat} {n : Nat → Nat} {g : Nat → Nat → Nat} {i : Nat}
theorem nvD (h : nvT T) : va_D (nvA T) (nvW cA cW T n g) := by
  refine ⟨fun i j p q hi hj e => ?_, fun k q hk => ?_⟩
  · obtain ⟨h1, rfl⟩ := bw_of hi
    obtain ⟨h2, rfl⟩ := bw_of hj
    exact h i j h1 h2 e
  · obtain ⟨h1, rfl⟩ := bw_of hk
    exact ⟨k, h1, rfl⟩
theorem nv_0 : (nvW cA cW T n g)[0]? = some (T 0, .inr (ciN, [.ref (T 1), .ref (T 18)])) := bw_get (by omega)
theorem nv_1 : (nvW cA cW T n g)[1]? = some (T 1, .inl (cW, 16, .inr (.inr (.inr (.inr (fun j => some (T (2 + j)))))))) := bw_get (by omega)
theorem nvE_w (hi : i < 17) : nvE cA cW T n g (2 + i) = .inr (ciW, [.int (nI (n i)), .ref (T (19 + i))]) := by
  unfold nvE
  rw [if_neg (by omega), if_neg (by omega), if_pos (by omega), show 2 + i - 2 = i by omega, show 2 + i + 17 = 19 + i by omega]
theorem nvE_a (hi : i < 17) : nvE cA cW T n g (19 + i) = .inl (cA, 64, .inl (fun j => nI (g i j))) := by
  unfold nvE
  rw [if_neg (by omega), if_neg (by omega), if_neg (by omega), show 19 + i - 19 = i by omega]
theorem nv_w (hi : i < 17) : (nvW cA cW T n g)[2 + i]? = some (T (2 + i), .inr (ciW, [.int (nI (n i)), .ref (T (19 + i))])) := by
  rw [bw_get (by omega), nvE_w hi]
theorem nv_a (hi : i < 17) : (nvW cA cW T n g)[19 + i]? = some (T (19 + i), .inl (cA, 64, .inl (fun j => nI (g i j)))) := by
  rw [bw_get (by omega), nvE_a hi]
theorem nv_setw (hi : i < 17) (N : Nat) : (nvW cA cW T n g).set (2 + i) (T (2 + i), .inr (ciW, [.int (nI N), .ref (T (19 + i))])) = nvW cA cW T (va_up n i N) g := by
  rw [bw_set (by omega)]
  refine bw_congr fun k hk => ?_
  by_cases e : k = 2 + i
  · subst e
    rw [va_up_self, nvE_w hi, va_up_self]
  · rw [va_up_ne _ _ e]
    unfold nvE
    by_cases k0 : k = 0
    · rw [if_pos k0, if_pos k0]
    · by_cases k1 : k = 1
      · rw [if_neg k0, if_neg k0, if_pos k1, if_pos k1]
      · by_cases k2 : k < 19
        · rw [if_neg k0, if_neg k0, if_neg k1, if_neg k1, if_pos k2, if_pos k2, va_up_ne _ _ (show k - 2 ≠ i by omega)]
        · rw [if_neg k0, if_neg k0, if_neg k1, if_neg k1, if_neg k2, if_neg k2]
theorem nv_seta (hi : i < 17) (f : Nat → Nat) : (nvW cA cW T n g).set (19 + i) (T (19 + i), .inl (cA, 64, .inl (fun j => nI (f j)))) = nvW cA cW T n (va_up g i f) := by
  rw [bw_set (by omega)]
  refine bw_congr fun k hk => ?_
  by_cases e : k = 19 + i
  · subst e
    rw [va_up_self, nvE_a hi, va_up_self]
  · rw [va_up_ne _ _ e]
    unfold nvE
    by_cases k0 : k = 0
    · rw [if_pos k0, if_pos k0]
    · by_cases k1 : k = 1
      · rw [if_neg k0, if_neg k0, if_pos k1, if_pos k1]
      · by_cases k2 : k < 19
        · rw [if_neg k0, if_neg k0, if_neg k1, if_neg k1, if_pos k2, if_pos k2]
        · rw [if_neg k0, if_neg k0, if_neg k1, if_neg k1, if_neg k2, if_neg k2, va_up_ne _ _ (show k - 19 ≠ i by omega)]
theorem nv_upd (f : Nat → Nat) (k v : Nat) : upd (fun j => nI (f j)) k (nI v) = fun j => nI (va_up f k v j) := by
  funext j
  unfold upd va_up
  by_cases h : j = k
  · rw [if_pos h, if_pos h]
  · rw [if_neg h, if_neg h]
/-- what a method of Word asks of the state -/
def nvP (D : va_G) (cA cW : ClassId) (w : va_W) (U : State) : Prop := va_P D vwCl w U.heap ∧ va_K D vwCl (nvTy cA cW) U
theorem nvP.bl {D : va_G} {w : va_W} : ∀ (a : Array Value) (U : State) (g : JFrame) (mk : MethodId), nvP D cA cW w U → nvP D cA cW w (U.calling g mk a) :=
  fun a U g mk q => ⟨q.1, va_K.moved (u := U) (U := U.calling g mk a) (Vm.Alike.refl U.vm) q.2⟩
theorem nvP.to {D : va_G} {w : va_W} {s : State} {H : Heap} (hP : va_P D vwCl w H) (hK : va_K D vwCl (nvTy cA cW) s) : ∀ U : State, U.heap = H → s.WarmedH U.vm → nvP D cA cW w U :=
  fun U hU hW => ⟨by rw [hU]; exact hP, va_K.moved hW.alike hK⟩
variable {D : va_G} {p : Program} {l : Launch} {e : Env} {R : Room} {s : State} {m : MethodId} {args : Array Value} {below : List Frame} {meth : Method} {c : Code} {H : Heap} {locs : List Loc} {cells slots : Nat} {Q : State → Prop}
variable {cc : ByteArray} {nL pc : Nat} {ls : Array Slot} {rest : List Value}
theorem nv_ob (hK : va_K D vwCl (nvTy cA cW) s) (hP : va_P D vwCl (nvW cA cW T n g) H) (hi : i < 17) : ∃ cellB : Cell, H[T (2 + i)]? = some cellB ∧ cellB.vm.isStatics = false ∧ s.vm.findClass RW = some cellB.cls := va_recv hK hP (ci := ciW) (q0 := 2 + i) rfl (nv_w hi)
theorem nv_ob0 (hK : va_K D vwCl (nvTy cA cW) s) (hP : va_P D vwCl (nvW cA cW T n g) H) : ∃ cellB : Cell, H[T 0]? = some cellB ∧ cellB.vm.isStatics = false ∧ s.vm.findClass RN = some cellB.cls := va_recv hK hP (ci := ciN) (q0 := 0) rfl nv_0
/-- this.size, this.elements in Word -/
theorem nv_getS (S : CallFix p m c cc nL s args nzG RW) (hK : va_K D vwCl (nvTy cA cW) s) (hP : va_P D vwCl (nvW cA cW T n g) H) (hi : i < 17) (hdg : decode cc pc = .ok (.getfield fW_size, 3))
    (kk : W p l e R s m args below meth c H locs cells slots Q (F0 m (pc + 3) ls (.int (nI (n i)) :: rest))) : W p l e R s m args below meth c H locs cells slots Q (F0 m pc ls (.ref (T (2 + i)) :: rest)) :=
  va_get (D := D) (ci := ciW) (v := .int (nI (n i))) (C := RW) (T := FW) (N := 2) S.1 S.2.1 S.2.2.2.2 in_W S.2.2.2.1 hK hP (2 + i) (nv_w hi) rfl 0 (by decide) (S.2.2.2.2 _ fl_W_size) (fun _ h9 => h9) rfl hdg kk
theorem nv_getE (S : CallFix p m c cc nL s args nzG RW) (hK : va_K D vwCl (nvTy cA cW) s) (hP : va_P D vwCl (nvW cA cW T n g) H) (hi : i < 17) (hdg : decode cc pc = .ok (.getfield fW_elements, 3))
    (kk : W p l e R s m args below meth c H locs cells slots Q (F0 m (pc + 3) ls (.ref (T (19 + i)) :: rest))) : W p l e R s m args below meth c H locs cells slots Q (F0 m pc ls (.ref (T (2 + i)) :: rest)) :=
  va_get (D := D) (ci := ciW) (v := .ref (T (19 + i))) (C := RW) (T := FW) (N := 2) S.1 S.2.1 S.2.2.2.2 in_W S.2.2.2.1 hK hP (2 + i) (nv_w hi) rfl 1 (by decide) (S.2.2.2.2 _ fl_W_elements) (fun _ h9 => h9) rfl hdg kk
theorem nv_putS {N : Nat} (S : CallFix p m c cc nL s args nzG RW) (hT : nvT T) (hK : va_K D vwCl (nvTy cA cW) s) (hP : va_P D vwCl (nvW cA cW T n g) H) (hS : va_S (nvA T) s.heap H locs) (hi : i < 17) (hdg : decode cc pc = .ok (.putfield fW_size, 3))
    (kk : ∀ (H1 : Heap) (locs1 : List Loc), va_P D vwCl (nvW cA cW T (va_up n i N) g) H1 → va_S (nvA T) s.heap H1 locs1 → W p l e R s m args below meth c H1 locs1 cells slots Q (F0 m (pc + 3) ls rest)) : W p l e R s m args below meth c H locs cells slots Q (F0 m pc ls (.int (nI N) :: .ref (T (2 + i)) :: rest)) :=
  va_put (D := D) (ci := ciW) (v := .int (nI N)) (ty := .int) (C := RW) (T := FW) (N := 2) S.1 S.2.1 S.2.2.2.2 in_W tyW tyW_ok nmW S.2.2.2.1 hK hP (nvD hT) hS (2 + i) (nv_w hi) rfl 0 (by decide) (S.2.2.2.2 _ fl_W_size) (fun _ h9 => h9) rfl (by decide +kernel) rfl rfl (Nat.le_of_ble_eq_true rfl) hdg
    (fun H1 locs1 h1 _ h3 => kk H1 locs1 (nv_setw hi N ▸ h1) h3)
/-- an element is read, an element is written -/
theorem nv_ald {k : Nat} (hx : p.tables.exec = Jvm.exec) (hb : c.code = cc) (hK : va_K D vwCl (nvTy cA cW) s) (hP : va_P D vwCl (nvW cA cW T n g) H) (hi : i < 17) (hk : k < 64) (hdg : decode cc pc = .ok (.iaload, 1))
    (kk : W p l e R s m args below meth c H locs cells slots Q (F0 m (pc + 1) ls (.int (nI (g i k)) :: rest))) : W p l e R s m args below meth c H locs cells slots Q (F0 m pc ls (.int (nI k) :: .ref (T (19 + i)) :: rest)) := by
  refine va_iald hx hb hK hP (19 + i) 0 (nv_a hi) rfl (vp_in_nI hk (by omega)) hdg ?_
  rw [nI_clamp (by omega)]
  exact kk
theorem nv_ast {k v : Nat} (hx : p.tables.exec = Jvm.exec) (hb : c.code = cc) (hT : nvT T) (hK : va_K D vwCl (nvTy cA cW) s) (hP : va_P D vwCl (nvW cA cW T n g) H) (hS : va_S (nvA T) s.heap H locs) (hi : i < 17) (hk : k < 64) (hdg : decode cc pc = .ok (.iastore, 1))
    (kk : ∀ (H1 : Heap) (locs1 : List Loc), va_P D vwCl (nvW cA cW T n (va_up g i (va_up (g i) k v))) H1 → va_S (nvA T) s.heap H1 locs1 → W p l e R s m args below meth c H1 locs1 cells slots Q (F0 m (pc + 1) ls rest)) : W p l e R s m args below meth c H locs cells slots Q (F0 m pc ls (.int (nI v) :: .int (nI k) :: .ref (T (19 + i)) :: rest)) := by
  refine va_iast hx hb hK hP (nvD hT) hS (19 + i) 0 (nv_a hi) rfl (vp_in_nI hk (by omega)) hdg ?_
  intro H1 locs1 h1 _ h3
  rw [nI_clamp (by omega), nv_upd, nv_seta hi] at h1
  exact kk H1 locs1 h1 h3
variable {own C : String} {i9 : Nat} {y : MethodName} {b : ByteArray} {mL n9 : Nat} {r : Option FieldType} {rm : Room} {As st0 : List Value}
/-- a call of a void method that writes in this world -/
theorem nv_call {w w' : va_W} {o : Nat} (S : CallFix p m c cc nL s args nzG own) (hM : Met l y (Cond.code y b mL r :: nzG) rm (va_Pc (.ref o :: As) (nvP D cA cW w)) (va_Qv (fun _ : Unit => True) (fun _ t => va_P D vwCl w' t.heap) (nvA T)) 0 0 (nvA T)) (hw : nzV own i9 C y b mL r n9) (hR : nzR rm R mL 0 0) (hc : cells ≤ R.cells ∧ slots ≤ R.slots)
    (hob : ∃ cellB : Cell, H[o]? = some cellB ∧ cellB.vm.isStatics = false ∧ s.vm.findClass C = some cellB.cls) (hP : va_P D vwCl w H) (hK : va_K D vwCl (nvTy cA cW) s) (hS : va_S (nvA T) s.heap H locs)
    (hn : As.length = n9) (hsz : ls.size = nL) (hst : st0 = As.reverse ++ .ref o :: rest) (hW : (rest.map fun v => v.category).sum ≤ 8) (hdg : decode cc pc = .ok (.invokevirtual i9, 3))
    (kk : ∀ (H1 : Heap) (locs1 : List Loc), va_P D vwCl w' H1 → va_S (nvA T) s.heap H1 locs1 → W p l e R s m args below meth c H1 locs1 cells slots Q (F0 m (pc + 3) ls rest)) : W p l e R s m args below meth c H locs cells slots Q (F0 m pc ls st0) := by
  refine va_callv (va_runV S hM (hw.cb S.2.2.2.2 hR.1 hR.2.1 hR.2.2) ⟨fun a U g mk q => ⟨q.1, nvP.bl a U g mk q.2⟩, hob, fun U hU hW => ⟨rfl, nvP.to hP hK U hU hW⟩⟩ rfl hn hsz hst (lv_room hW) hdg hc) hS (fun q _ h => h) (fun q h => h) ?_
  intro u t H1 locs1 ht hvm hw9 hB hz hk hS1
  rw [ht] at hB
  exact kk H1 locs1 hB hS1
theorem lay0 (f : Nat → Nat) : (fun x => f (0 + (x - 0))) = f := by
  funext x
  rw [Nat.sub_zero, Nat.zero_add]
end Nv
end
section
set_option maxHeartbeats 4000000 in
set_option maxRecDepth 100000 in
theorem c_Wire_isLow (l : Launch) (v : Nat) (hv : v < 9) : Met l yWire_isLow (Cond.code yWire_isLow bWire_isLow 1 (some .boolean) :: nzG) ({ frames := 0, cells := 0, slots := 0, locals := 0 }) (va_Pc [.int (nI v)] (fun _ => True)) (vp_Si (fun r => r = nI (zLow v))) 0 0 (fun _ => False) := by
  refine nz_of (own := RI) (by decide) rfl ?_
  intro p e s m args below meth c S hr hlocks _ hv9
  obtain ⟨rfl, -⟩ := hv9
  have hx := S.1
  have hb := S.2.1
  refine nz_entry (vs := [.int (nI v)]) (n := 1) (lv := [(0, .int (nI v))]) (Nat.le_of_ble_eq_true rfl) rfl (fun ls hl => ?_)
  refine lv_iload_n hx hb dWire_isLow_0 rfl (lv_at hl 0 rfl) ?_
  refine lv_iconst (v := 2) hx hb dWire_isLow_1 (by decide) ?_
  refine lv_icmp_eq (tgt := 11) hx hb dWire_isLow_2 (by decide) (fun c1 => ?_) (fun c1 => ?_)
  · refine lv_iconst (v := 1) hx hb dWire_isLow_11 (by decide) ?_
    refine lv_goto (tgt := 16) hx hb dWire_isLow_12 (by decide) ?_
    exact W.zret (v := 1) hx hb hr rfl (fun t ht hW => ⟨1, rfl, (of_decide_eq_true (ib (al1 (N := 9) ((fun v => (!decide (nI v = 2) || decide ((1 : Int32) = nI (zLow v))))) (by decide +kernel) v hv) c1)), ht⟩) (fun q h => nomatch h) dWire_isLow_16
  · refine lv_iload_n hx hb dWire_isLow_5 rfl (lv_at hl 0 rfl) ?_
    refine lv_bipush (v := 6) hx hb dWire_isLow_6 (by decide) ?_
    refine lv_icmp_ne (tgt := 15) hx hb dWire_isLow_8 (by decide) (fun c2 => ?_) (fun c2 => ?_)
    · refine lv_iconst (v := 0) hx hb dWire_isLow_15 (by decide) ?_
      exact W.zret (v := 0) hx hb hr rfl (fun t ht hW => ⟨0, rfl, (of_decide_eq_true (ib (ib (al1 (N := 9) ((fun v => (!decide (¬ nI v = 2) || (!decide (¬ nI v = 6) || decide ((0 : Int32) = nI (zLow v)))))) (by decide +kernel) v hv) c1) c2)), ht⟩) (fun q h => nomatch h) dWire_isLow_16
    · refine lv_iconst (v := 1) hx hb dWire_isLow_11 (by decide) ?_
      refine lv_goto (tgt := 16) hx hb dWire_isLow_12 (by decide) ?_
      exact W.zret (v := 1) hx hb hr rfl (fun t ht hW => ⟨1, rfl, (of_decide_eq_true (ib (ib (al1 (N := 9) ((fun v => (!decide (¬ nI v = 2) || (!decide (nI v = 6) || decide ((1 : Int32) = nI (zLow v)))))) (by decide +kernel) v hv) c1) c2)), ht⟩) (fun q h => nomatch h) dWire_isLow_16
set_option maxHeartbeats 4000000 in
set_option maxRecDepth 100000 in
theorem c_Wire_isHigh (l : Launch) (v : Nat) (hv : v < 9) : Met l yWire_isHigh (Cond.code yWire_isHigh bWire_isHigh 1 (some .boolean) :: nzG) ({ frames := 0, cells := 0, slots := 0, locals := 0 }) (va_Pc [.int (nI v)] (fun _ => True)) (vp_Si (fun r => r = nI (zHigh v))) 0 0 (fun _ => False) := by
  refine nz_of (own := RI) (by decide) rfl ?_
  intro p e s m args below meth c S hr hlocks _ hv9
  obtain ⟨rfl, -⟩ := hv9
  have hx := S.1
  have hb := S.2.1
  refine nz_entry (vs := [.int (nI v)]) (n := 1) (lv := [(0, .int (nI v))]) (Nat.le_of_ble_eq_true rfl) rfl (fun ls hl => ?_)
  refine lv_iload_n hx hb dWire_isHigh_0 rfl (lv_at hl 0 rfl) ?_
  refine lv_iconst (v := 3) hx hb dWire_isHigh_1 (by decide) ?_
  refine lv_icmp_eq (tgt := 11) hx hb dWire_isHigh_2 (by decide) (fun c1 => ?_) (fun c1 => ?_)
  · refine lv_iconst (v := 1) hx hb dWire_isHigh_11 (by decide) ?_
    refine lv_goto (tgt := 16) hx hb dWire_isHigh_12 (by decide) ?_
    exact W.zret (v := 1) hx hb hr rfl (fun t ht hW => ⟨1, rfl, (of_decide_eq_true (ib (al1 (N := 9) ((fun v => (!decide (nI v = 3) || decide ((1 : Int32) = nI (zHigh v))))) (by decide +kernel) v hv) c1)), ht⟩) (fun q h => nomatch h) dWire_isHigh_16
  · refine lv_iload_n hx hb dWire_isHigh_5 rfl (lv_at hl 0 rfl) ?_
    refine lv_bipush (v := 7) hx hb dWire_isHigh_6 (by decide) ?_
    refine lv_icmp_ne (tgt := 15) hx hb dWire_isHigh_8 (by decide) (fun c2 => ?_) (fun c2 => ?_)
    · refine lv_iconst (v := 0) hx hb dWire_isHigh_15 (by decide) ?_
      exact W.zret (v := 0) hx hb hr rfl (fun t ht hW => ⟨0, rfl, (of_decide_eq_true (ib (ib (al1 (N := 9) ((fun v => (!decide (¬ nI v = 3) || (!decide (¬ nI v = 7) || decide ((0 : Int32) = nI (zHigh v)))))) (by decide +kernel) v hv) c1) c2)), ht⟩) (fun q h => nomatch h) dWire_isHigh_16
    · refine lv_iconst (v := 1) hx hb dWire_isHigh_11 (by decide) ?_
      refine lv_goto (tgt := 16) hx hb dWire_isHigh_12 (by decide) ?_
      exact W.zret (v := 1) hx hb hr rfl (fun t ht hW => ⟨1, rfl, (of_decide_eq_true (ib (ib (al1 (N := 9) ((fun v => (!decide (¬ nI v = 3) || (!decide (nI v = 7) || decide ((1 : Int32) = nI (zHigh v)))))) (by decide +kernel) v hv) c1) c2)), ht⟩) (fun q h => nomatch h) dWire_isHigh_16
set_option maxHeartbeats 4000000 in
set_option maxRecDepth 100000 in
theorem c_Wire_isClear (l : Launch) (v : Nat) (hv : v < 9) : Met l yWire_isClear (Cond.code yWire_isClear bWire_isClear 1 (some .boolean) :: nzG) ({ frames := 1, cells := 0, slots := 0, locals := 20 }) (va_Pc [.int (nI v)] (fun _ => True)) (vp_Si (fun r => r = nI (zClear v))) 0 0 (fun _ => False) := by
  refine nz_of (own := RI) (by decide) rfl ?_
  intro p e s m args below meth c S hr hlocks _ hv9
  obtain ⟨rfl, -⟩ := hv9
  have hx := S.1
  have hb := S.2.1
  refine nz_entry (vs := [.int (nI v)]) (n := 1) (lv := [(0, .int (nI v))]) (Nat.le_of_ble_eq_true rfl) rfl (fun ls hl => ?_)
  refine lv_iload_n hx hb dWire_isClear_0 rfl (lv_at hl 0 rfl) ?_
  refine nz_si (As := [.int (nI v)]) (rest := []) S (c_Wire_isLow l v hv) kWire_9 ⟨rfl, rfl, Nat.le_of_ble_eq_true rfl, Nat.le_of_ble_eq_true rfl⟩ ⟨Nat.zero_le _, Nat.zero_le _⟩ (fun _ _ _ _ h => h) (fun _ _ _ => trivial) rfl hl.1 rfl (Nat.le_of_ble_eq_true rfl) dWire_isClear_1 (fun r1 er1 => ?_)
  subst er1
  refine lv_if_ne (tgt := 14) hx hb dWire_isClear_4 (by decide) (fun c2 => ?_) (fun c2 => ?_)
  · refine lv_iconst (v := 1) hx hb dWire_isClear_14 (by decide) ?_
    refine lv_goto (tgt := 19) hx hb dWire_isClear_15 (by decide) ?_
    exact W.zret (v := 1) hx hb hr rfl (fun t ht hW => ⟨1, rfl, (of_decide_eq_true (ib (al1 (N := 9) ((fun v => (!decide (¬ nI (zLow v) = 0) || decide ((1 : Int32) = nI (zClear v))))) (by decide +kernel) v hv) c2)), ht⟩) (fun q h => nomatch h) dWire_isClear_19
  · refine lv_iload_n hx hb dWire_isClear_7 rfl (lv_at hl 0 rfl) ?_
    refine nz_si (As := [.int (nI v)]) (rest := []) S (c_Wire_isHigh l v hv) kWire_15 ⟨rfl, rfl, Nat.le_of_ble_eq_true rfl, Nat.le_of_ble_eq_true rfl⟩ ⟨Nat.zero_le _, Nat.zero_le _⟩ (fun _ _ _ _ h => h) (fun _ _ _ => trivial) rfl hl.1 rfl (Nat.le_of_ble_eq_true rfl) dWire_isClear_8 (fun r3 er3 => ?_)
    subst er3
    refine lv_if_eq (tgt := 18) hx hb dWire_isClear_11 (by decide) (fun c4 => ?_) (fun c4 => ?_)
    · refine lv_iconst (v := 0) hx hb dWire_isClear_18 (by decide) ?_
      exact W.zret (v := 0) hx hb hr rfl (fun t ht hW => ⟨0, rfl, (of_decide_eq_true (ib (ib (al1 (N := 9) ((fun v => (!decide (nI (zLow v) = 0) || (!decide (nI (zHigh v) = 0) || decide ((0 : Int32) = nI (zClear v)))))) (by decide +kernel) v hv) c2) c4)), ht⟩) (fun q h => nomatch h) dWire_isClear_19
    · refine lv_iconst (v := 1) hx hb dWire_isClear_14 (by decide) ?_
      refine lv_goto (tgt := 19) hx hb dWire_isClear_15 (by decide) ?_
      exact W.zret (v := 1) hx hb hr rfl (fun t ht hW => ⟨1, rfl, (of_decide_eq_true (ib (ib (al1 (N := 9) ((fun v => (!decide (nI (zLow v) = 0) || (!decide (¬ nI (zHigh v) = 0) || decide ((1 : Int32) = nI (zClear v)))))) (by decide +kernel) v hv) c2) c4)), ht⟩) (fun q h => nomatch h) dWire_isClear_19
set_option maxHeartbeats 4000000 in
set_option maxRecDepth 100000 in
theorem c_Wire_not (l : Launch) (v : Nat) (hv : v < 9) : Met l yWire_not (Cond.code yWire_not bWire_not 1 (some .int) :: nzG) ({ frames := 2, cells := 0, slots := 0, locals := 40 }) (va_Pc [.int (nI v)] (fun _ => True)) (vp_Si (fun r => r = nI (zNot v))) 0 0 (fun _ => False) := by
  refine nz_of (own := RI) (by decide) rfl ?_
  intro p e s m args below meth c S hr hlocks _ hv9
  obtain ⟨rfl, -⟩ := hv9
  have hx := S.1
  have hb := S.2.1
  refine nz_entry (vs := [.int (nI v)]) (n := 1) (lv := [(0, .int (nI v))]) (Nat.le_of_ble_eq_true rfl) rfl (fun ls hl => ?_)
  refine lv_iload_n hx hb dWire_not_0 rfl (lv_at hl 0 rfl) ?_
  refine nz_si (As := [.int (nI v)]) (rest := []) S (c_Wire_isClear l v hv) kWire_35 ⟨rfl, rfl, Nat.le_of_ble_eq_true rfl, Nat.le_of_ble_eq_true rfl⟩ ⟨Nat.zero_le _, Nat.zero_le _⟩ (fun _ _ _ _ h => h) (fun _ _ _ => trivial) rfl hl.1 rfl (Nat.le_of_ble_eq_true rfl) dWire_not_1 (fun r1 er1 => ?_)
  subst er1
  refine lv_if_eq (tgt := 20) hx hb dWire_not_4 (by decide) (fun c2 => ?_) (fun c2 => ?_)
  · refine lv_iload_n hx hb dWire_not_20 rfl (lv_at hl 0 rfl) ?_
    refine lv_if_ne (tgt := 28) hx hb dWire_not_21 (by decide) (fun c3 => ?_) (fun c3 => ?_)
    · refine lv_iconst (v := 1) hx hb dWire_not_28 (by decide) ?_
      exact W.iret (v := 1) hx hb hr (fun t ht hW => ⟨_, rfl, (of_decide_eq_true (ib (ib (al1 (N := 9) ((fun v => (!decide (nI (zClear v) = 0) || (!decide (¬ nI v = 0) || decide ((1 : Int32) = nI (zNot v)))))) (by decide +kernel) v hv) c2) c3)), ht⟩) (fun q h => nomatch h) dWire_not_29
    · refine lv_iconst (v := 0) hx hb dWire_not_24 (by decide) ?_
      refine lv_goto (tgt := 29) hx hb dWire_not_25 (by decide) ?_
      exact W.iret (v := 0) hx hb hr (fun t ht hW => ⟨_, rfl, (of_decide_eq_true (ib (ib (al1 (N := 9) ((fun v => (!decide (nI (zClear v) = 0) || (!decide (nI v = 0) || decide ((0 : Int32) = nI (zNot v)))))) (by decide +kernel) v hv) c2) c3)), ht⟩) (fun q h => nomatch h) dWire_not_29
  · refine lv_iload_n hx hb dWire_not_7 rfl (lv_at hl 0 rfl) ?_
    refine nz_si (As := [.int (nI v)]) (rest := []) S (c_Wire_isLow l v hv) kWire_9 ⟨rfl, rfl, Nat.le_of_ble_eq_true rfl, Nat.le_of_ble_eq_true rfl⟩ ⟨Nat.zero_le _, Nat.zero_le _⟩ (fun _ _ _ _ h => h) (fun _ _ _ => trivial) rfl hl.1 rfl (Nat.le_of_ble_eq_true rfl) dWire_not_8 (fun r4 er4 => ?_)
    subst er4
    refine lv_if_eq (tgt := 18) hx hb dWire_not_11 (by decide) (fun c5 => ?_) (fun c5 => ?_)
    · refine lv_iconst (v := 2) hx hb dWire_not_18 (by decide) ?_
      exact W.iret (v := 2) hx hb hr (fun t ht hW => ⟨_, rfl, (of_decide_eq_true (ib (ib (al1 (N := 9) ((fun v => (!decide (¬ nI (zClear v) = 0) || (!decide (nI (zLow v) = 0) || decide ((2 : Int32) = nI (zNot v)))))) (by decide +kernel) v hv) c2) c5)), ht⟩) (fun q h => nomatch h) dWire_not_19
    · refine lv_iconst (v := 3) hx hb dWire_not_14 (by decide) ?_
      refine lv_goto (tgt := 19) hx hb dWire_not_15 (by decide) ?_
      exact W.iret (v := 3) hx hb hr (fun t ht hW => ⟨_, rfl, (of_decide_eq_true (ib (ib (al1 (N := 9) ((fun v => (!decide (¬ nI (zClear v) = 0) || (!decide (¬ nI (zLow v) = 0) || decide ((3 : Int32) = nI (zNot v)))))) (by decide +kernel) v hv) c2) c5)), ht⟩) (fun q h => nomatch h) dWire_not_19
set_option maxHeartbeats 4000000 in
set_option maxRecDepth 100000 in
theorem c_Wire_drive (l : Launch) (p1 : Nat) (hp1 : p1 < 9) (q1 : Nat) (hq1 : q1 < 9) : Met l yWire_drive (Cond.code yWire_drive bWire_drive 4 (some .int) :: nzG) ({ frames := 0, cells := 0, slots := 0, locals := 0 }) (va_Pc [.int (nI p1), .int (nI q1)] (fun _ => True)) (vp_Si (fun r => r = nI (zDrive p1 q1))) 0 0 (fun _ => False) := by
  refine nz_of (own := RI) (by decide) rfl ?_
  intro p e s m args below meth c S hr hlocks _ hv9
  obtain ⟨rfl, -⟩ := hv9
  have hx := S.1
  have hb := S.2.1
  refine nz_entry (vs := [.int (nI p1), .int (nI q1)]) (n := 4) (lv := [(0, .int (nI p1)), (1, .int (nI q1))]) (Nat.le_of_ble_eq_true rfl) rfl (fun ls hl => ?_)
  refine lv_iload_n hx hb dWire_drive_0 rfl (lv_at hl 0 rfl) ?_
  refine lv_if_eq (tgt := 8) hx hb dWire_drive_1 (by decide) (fun c1 => ?_) (fun c1 => ?_)
  · refine lv_iconst (v := 0) hx hb dWire_drive_8 (by decide) ?_
    exact W.iret (v := 0) hx hb hr (fun t ht hW => ⟨_, rfl, (of_decide_eq_true (ib (al2 (N := 9) (M := 9) ((fun p1 q1 => (!decide (nI p1 = 0) || decide ((0 : Int32) = nI (zDrive p1 q1))))) (by decide +kernel) p1 hp1 q1 hq1) c1)), ht⟩) (fun q h => nomatch h) dWire_drive_9
  · refine lv_iload_n hx hb dWire_drive_4 rfl (lv_at hl 1 rfl) ?_
    refine lv_if_ne (tgt := 10) hx hb dWire_drive_5 (by decide) (fun c2 => ?_) (fun c2 => ?_)
    · refine lv_iload_n hx hb dWire_drive_10 rfl (lv_at hl 0 rfl) ?_
      refine lv_iconst (v := 1) hx hb dWire_drive_11 (by decide) ?_
      refine lv_icmp_eq (tgt := 32) hx hb dWire_drive_12 (by decide) (fun c3 => ?_) (fun c3 => ?_)
      · refine lv_iconst (v := 1) hx hb dWire_drive_32 (by decide) ?_
        exact W.iret (v := 1) hx hb hr (fun t ht hW => ⟨_, rfl, (of_decide_eq_true (ib (ib (ib (al2 (N := 9) (M := 9) ((fun p1 q1 => (!decide (¬ nI p1 = 0) || (!decide (¬ nI q1 = 0) || (!decide (nI p1 = 1) || decide ((1 : Int32) = nI (zDrive p1 q1))))))) (by decide +kernel) p1 hp1 q1 hq1) c1) c2) c3)), ht⟩) (fun q h => nomatch h) dWire_drive_33
      · refine lv_iload_n hx hb dWire_drive_15 rfl (lv_at hl 0 rfl) ?_
        refine lv_bipush (v := 8) hx hb dWire_drive_16 (by decide) ?_
        refine lv_icmp_eq (tgt := 32) hx hb dWire_drive_18 (by decide) (fun c4 => ?_) (fun c4 => ?_)
        · refine lv_iconst (v := 1) hx hb dWire_drive_32 (by decide) ?_
          exact W.iret (v := 1) hx hb hr (fun t ht hW => ⟨_, rfl, (of_decide_eq_true (ib (ib (ib (ib (al2 (N := 9) (M := 9) ((fun p1 q1 => (!decide (¬ nI p1 = 0) || (!decide (¬ nI q1 = 0) || (!decide (¬ nI p1 = 1) || (!decide (nI p1 = 8) || decide ((1 : Int32) = nI (zDrive p1 q1)))))))) (by decide +kernel) p1 hp1 q1 hq1) c1) c2) c3) c4)), ht⟩) (fun q h => nomatch h) dWire_drive_33
        · refine lv_iload_n hx hb dWire_drive_21 rfl (lv_at hl 1 rfl) ?_
          refine lv_iconst (v := 1) hx hb dWire_drive_22 (by decide) ?_
          refine lv_icmp_eq (tgt := 32) hx hb dWire_drive_23 (by decide) (fun c5 => ?_) (fun c5 => ?_)
          · refine lv_iconst (v := 1) hx hb dWire_drive_32 (by decide) ?_
            exact W.iret (v := 1) hx hb hr (fun t ht hW => ⟨_, rfl, (of_decide_eq_true (ib (ib (ib (ib (ib (al2 (N := 9) (M := 9) ((fun p1 q1 => (!decide (¬ nI p1 = 0) || (!decide (¬ nI q1 = 0) || (!decide (¬ nI p1 = 1) || (!decide (¬ nI p1 = 8) || (!decide (nI q1 = 1) || decide ((1 : Int32) = nI (zDrive p1 q1))))))))) (by decide +kernel) p1 hp1 q1 hq1) c1) c2) c3) c4) c5)), ht⟩) (fun q h => nomatch h) dWire_drive_33
          · refine lv_iload_n hx hb dWire_drive_26 rfl (lv_at hl 1 rfl) ?_
            refine lv_bipush (v := 8) hx hb dWire_drive_27 (by decide) ?_
            refine lv_icmp_ne (tgt := 34) hx hb dWire_drive_29 (by decide) (fun c6 => ?_) (fun c6 => ?_)
            · refine lv_iload_n hx hb dWire_drive_34 rfl (lv_at hl 0 rfl) ?_
              refine lv_iconst (v := 4) hx hb dWire_drive_35 (by decide) ?_
              refine lv_icmp_eq (tgt := 44) hx hb dWire_drive_36 (by decide) (fun c7 => ?_) (fun c7 => ?_)
              · refine lv_iload_n hx hb dWire_drive_44 rfl (lv_at hl 1 rfl) ?_
                exact W.iret (v := nI q1) hx hb hr (fun t ht hW => ⟨_, rfl, (of_decide_eq_true (ib (ib (ib (ib (ib (ib (ib (al2 (N := 9) (M := 9) ((fun p1 q1 => (!decide (¬ nI p1 = 0) || (!decide (¬ nI q1 = 0) || (!decide (¬ nI p1 = 1) || (!decide (¬ nI p1 = 8) || (!decide (¬ nI q1 = 1) || (!decide (¬ nI q1 = 8) || (!decide (nI p1 = 4) || decide (nI q1 = nI (zDrive p1 q1))))))))))) (by decide +kernel) p1 hp1 q1 hq1) c1) c2) c3) c4) c5) c6) c7)), ht⟩) (fun q h => nomatch h) dWire_drive_45
              · refine lv_iload_n hx hb dWire_drive_39 rfl (lv_at hl 0 rfl) ?_
                refine lv_iload_n hx hb dWire_drive_40 rfl (lv_at hl 1 rfl) ?_
                refine lv_icmp_ne (tgt := 46) hx hb dWire_drive_41 (by decide) (fun c8 => ?_) (fun c8 => ?_)
                · refine lv_iload_n hx hb dWire_drive_46 rfl (lv_at hl 1 rfl) ?_
                  refine lv_iconst (v := 4) hx hb dWire_drive_47 (by decide) ?_
                  refine lv_icmp_ne (tgt := 53) hx hb dWire_drive_48 (by decide) (fun c9 => ?_) (fun c9 => ?_)
                  · refine lv_iload_n hx hb dWire_drive_53 rfl (lv_at hl 0 rfl) ?_
                    refine lv_iconst (v := 2) hx hb dWire_drive_54 (by decide) ?_
                    refine lv_icmp_eq (tgt := 63) hx hb dWire_drive_55 (by decide) (fun c10 => ?_) (fun c10 => ?_)
                    · refine lv_iconst (v := 1) hx hb dWire_drive_63 (by decide) ?_
                      refine lv_goto (tgt := 68) hx hb dWire_drive_64 (by decide) ?_
                      refine lv_istore_n (lv' := [(2, .int 1), (0, .int (nI p1)), (1, .int (nI q1))]) hx hb dWire_drive_68 rfl hl (by decide) rfl (fun ls hl => ?_)
                      refine lv_iload_n hx hb dWire_drive_69 rfl (lv_at hl 2 rfl) ?_
                      refine lv_iconst (v := 2) hx hb dWire_drive_70 (by decide) ?_
                      refine lv_icmp_eq (tgt := 79) hx hb dWire_drive_71 (by decide) (fun c11 => ?_) (fun c11 => ?_)
                      · refine lv_iconst (v := 1) hx hb dWire_drive_79 (by decide) ?_
                        refine lv_goto (tgt := 84) hx hb dWire_drive_80 (by decide) ?_
                        refine lv_istore_n (lv' := [(3, .int 1), (2, .int 1), (0, .int (nI p1)), (1, .int (nI q1))]) hx hb dWire_drive_84 rfl hl (by decide) rfl (fun ls hl => ?_)
                        refine lv_iload_n hx hb dWire_drive_85 rfl (lv_at hl 1 rfl) ?_
                        refine lv_if_eq (tgt := 95) hx hb dWire_drive_86 (by decide) (fun c12 => absurd c12 (by decide)) (fun _ => ?_)
                        refine lv_iload_n hx hb dWire_drive_89 rfl (lv_at hl 0 rfl) ?_
                        refine lv_if_eq (tgt := 95) hx hb dWire_drive_90 (by decide) (fun c13 => absurd c13 (by decide)) (fun _ => ?_)
                        refine lv_iconst (v := 1) hx hb dWire_drive_93 (by decide) ?_
                        exact W.iret (v := 1) hx hb hr (fun t ht hW => ⟨_, rfl, (of_decide_eq_true (ib (ib (ib (ib (ib (ib (ib (ib (ib (ib (ib (al2 (N := 9) (M := 9) ((fun p1 q1 => (!decide (¬ nI p1 = 0) || (!decide (¬ nI q1 = 0) || (!decide (¬ nI p1 = 1) || (!decide (¬ nI p1 = 8) || (!decide (¬ nI q1 = 1) || (!decide (¬ nI q1 = 8) || (!decide (¬ nI p1 = 4) || (!decide (¬ nI p1 = nI q1) || (!decide (¬ nI q1 = 4) || (!decide (nI p1 = 2) || (!decide (nI q1 = 2) || decide ((1 : Int32) = nI (zDrive p1 q1))))))))))))))) (by decide +kernel) p1 hp1 q1 hq1) c1) c2) c3) c4) c5) c6) c7) c8) c9) c10) c11)), ht⟩) (fun q h => nomatch h) dWire_drive_94
                      · refine lv_iload_n hx hb dWire_drive_74 rfl (lv_at hl 2 rfl) ?_
                        refine lv_iconst (v := 3) hx hb dWire_drive_75 (by decide) ?_
                        refine lv_icmp_ne (tgt := 83) hx hb dWire_drive_76 (by decide) (fun c14 => ?_) (fun c14 => ?_)
                        · refine lv_iconst (v := 0) hx hb dWire_drive_83 (by decide) ?_
                          refine lv_istore_n (lv' := [(3, .int 0), (2, .int 1), (0, .int (nI p1)), (1, .int (nI q1))]) hx hb dWire_drive_84 rfl hl (by decide) rfl (fun ls hl => ?_)
                          refine lv_iload_n hx hb dWire_drive_85 rfl (lv_at hl 1 rfl) ?_
                          refine lv_if_eq (tgt := 95) hx hb dWire_drive_86 (by decide) (fun c15 => absurd c15 (by decide)) (fun _ => ?_)
                          refine lv_iload_n hx hb dWire_drive_89 rfl (lv_at hl 0 rfl) ?_
                          refine lv_if_eq (tgt := 95) hx hb dWire_drive_90 (by decide) (fun _ => ?_) (fun c16 => absurd (by decide) c16)
                          refine lv_iload_n hx hb dWire_drive_95 rfl (lv_at hl 1 rfl) ?_
                          refine lv_if_eq (tgt := 101) hx hb dWire_drive_96 (by decide) (fun c17 => absurd c17 (by decide)) (fun _ => ?_)
                          refine lv_iload_n hx hb dWire_drive_99 rfl (lv_at hl 2 rfl) ?_
                          exact W.iret (v := nI p1) hx hb hr (fun t ht hW => ⟨_, rfl, (of_decide_eq_true (ib (ib (ib (ib (ib (ib (ib (ib (ib (ib (ib (ib (al2 (N := 9) (M := 9) ((fun p1 q1 => (!decide (¬ nI p1 = 0) || (!decide (¬ nI q1 = 0) || (!decide (¬ nI p1 = 1) || (!decide (¬ nI p1 = 8) || (!decide (¬ nI q1 = 1) || (!decide (¬ nI q1 = 8) || (!decide (¬ nI p1 = 4) || (!decide (¬ nI p1 = nI q1) || (!decide (¬ nI q1 = 4) || (!decide (nI p1 = 2) || (!decide (¬ nI q1 = 2) || (!decide (¬ nI q1 = 3) || decide (nI p1 = nI (zDrive p1 q1)))))))))))))))) (by decide +kernel) p1 hp1 q1 hq1) c1) c2) c3) c4) c5) c6) c7) c8) c9) c10) c11) c14)), ht⟩) (fun q h => nomatch h) dWire_drive_100
                        · refine lv_iconst (v := 1) hx hb dWire_drive_79 (by decide) ?_
                          refine lv_goto (tgt := 84) hx hb dWire_drive_80 (by decide) ?_
                          refine lv_istore_n (lv' := [(3, .int 1), (2, .int 1), (0, .int (nI p1)), (1, .int (nI q1))]) hx hb dWire_drive_84 rfl hl (by decide) rfl (fun ls hl => ?_)
                          refine lv_iload_n hx hb dWire_drive_85 rfl (lv_at hl 1 rfl) ?_
                          refine lv_if_eq (tgt := 95) hx hb dWire_drive_86 (by decide) (fun c18 => absurd c18 (by decide)) (fun _ => ?_)
                          refine lv_iload_n hx hb dWire_drive_89 rfl (lv_at hl 0 rfl) ?_
                          refine lv_if_eq (tgt := 95) hx hb dWire_drive_90 (by decide) (fun c19 => absurd c19 (by decide)) (fun _ => ?_)
                          refine lv_iconst (v := 1) hx hb dWire_drive_93 (by decide) ?_
                          exact W.iret (v := 1) hx hb hr (fun t ht hW => ⟨_, rfl, (of_decide_eq_true (ib (ib (ib (ib (ib (ib (ib (ib (ib (ib (ib (ib (al2 (N := 9) (M := 9) ((fun p1 q1 => (!decide (¬ nI p1 = 0) || (!decide (¬ nI q1 = 0) || (!decide (¬ nI p1 = 1) || (!decide (¬ nI p1 = 8) || (!decide (¬ nI q1 = 1) || (!decide (¬ nI q1 = 8) || (!decide (¬ nI p1 = 4) || (!decide (¬ nI p1 = nI q1) || (!decide (¬ nI q1 = 4) || (!decide (nI p1 = 2) || (!decide (¬ nI q1 = 2) || (!decide (nI q1 = 3) || decide ((1 : Int32) = nI (zDrive p1 q1)))))))))))))))) (by decide +kernel) p1 hp1 q1 hq1) c1) c2) c3) c4) c5) c6) c7) c8) c9) c10) c11) c14)), ht⟩) (fun q h => nomatch h) dWire_drive_94
                    · refine lv_iload_n hx hb dWire_drive_58 rfl (lv_at hl 0 rfl) ?_
                      refine lv_iconst (v := 3) hx hb dWire_drive_59 (by decide) ?_
                      refine lv_icmp_ne (tgt := 67) hx hb dWire_drive_60 (by decide) (fun c20 => ?_) (fun c20 => ?_)
                      · refine lv_iconst (v := 0) hx hb dWire_drive_67 (by decide) ?_
                        refine lv_istore_n (lv' := [(2, .int 0), (0, .int (nI p1)), (1, .int (nI q1))]) hx hb dWire_drive_68 rfl hl (by decide) rfl (fun ls hl => ?_)
                        refine lv_iload_n hx hb dWire_drive_69 rfl (lv_at hl 2 rfl) ?_
                        refine lv_iconst (v := 2) hx hb dWire_drive_70 (by decide) ?_
                        refine lv_icmp_eq (tgt := 79) hx hb dWire_drive_71 (by decide) (fun c21 => ?_) (fun c21 => ?_)
                        · refine lv_iconst (v := 1) hx hb dWire_drive_79 (by decide) ?_
                          refine lv_goto (tgt := 84) hx hb dWire_drive_80 (by decide) ?_
                          refine lv_istore_n (lv' := [(3, .int 1), (2, .int 0), (0, .int (nI p1)), (1, .int (nI q1))]) hx hb dWire_drive_84 rfl hl (by decide) rfl (fun ls hl => ?_)
                          refine lv_iload_n hx hb dWire_drive_85 rfl (lv_at hl 1 rfl) ?_
                          refine lv_if_eq (tgt := 95) hx hb dWire_drive_86 (by decide) (fun _ => ?_) (fun c22 => absurd (by decide) c22)
                          refine lv_iload_n hx hb dWire_drive_95 rfl (lv_at hl 1 rfl) ?_
                          refine lv_if_eq (tgt := 101) hx hb dWire_drive_96 (by decide) (fun _ => ?_) (fun c23 => absurd (by decide) c23)
                          refine lv_iload_n hx hb dWire_drive_101 rfl (lv_at hl 0 rfl) ?_
                          refine lv_if_eq (tgt := 109) hx hb dWire_drive_102 (by decide) (fun c24 => absurd c24 (by decide)) (fun _ => ?_)
                          refine lv_iload_n hx hb dWire_drive_105 rfl (lv_at hl 3 rfl) ?_
                          refine lv_goto (tgt := 110) hx hb dWire_drive_106 (by decide) ?_
                          exact W.iret (v := nI q1) hx hb hr (fun t ht hW => ⟨_, rfl, (of_decide_eq_true (ib (ib (ib (ib (ib (ib (ib (ib (ib (ib (ib (ib (al2 (N := 9) (M := 9) ((fun p1 q1 => (!decide (¬ nI p1 = 0) || (!decide (¬ nI q1 = 0) || (!decide (¬ nI p1 = 1) || (!decide (¬ nI p1 = 8) || (!decide (¬ nI q1 = 1) || (!decide (¬ nI q1 = 8) || (!decide (¬ nI p1 = 4) || (!decide (¬ nI p1 = nI q1) || (!decide (¬ nI q1 = 4) || (!decide (¬ nI p1 = 2) || (!decide (¬ nI p1 = 3) || (!decide (nI q1 = 2) || decide (nI q1 = nI (zDrive p1 q1)))))))))))))))) (by decide +kernel) p1 hp1 q1 hq1) c1) c2) c3) c4) c5) c6) c7) c8) c9) c10) c20) c21)), ht⟩) (fun q h => nomatch h) dWire_drive_110
                        · refine lv_iload_n hx hb dWire_drive_74 rfl (lv_at hl 2 rfl) ?_
                          refine lv_iconst (v := 3) hx hb dWire_drive_75 (by decide) ?_
                          refine lv_icmp_ne (tgt := 83) hx hb dWire_drive_76 (by decide) (fun c25 => ?_) (fun c25 => ?_)
                          · refine lv_iconst (v := 0) hx hb dWire_drive_83 (by decide) ?_
                            refine lv_istore_n (lv' := [(3, .int 0), (2, .int 0), (0, .int (nI p1)), (1, .int (nI q1))]) hx hb dWire_drive_84 rfl hl (by decide) rfl (fun ls hl => ?_)
                            refine lv_iload_n hx hb dWire_drive_85 rfl (lv_at hl 1 rfl) ?_
                            refine lv_if_eq (tgt := 95) hx hb dWire_drive_86 (by decide) (fun _ => ?_) (fun c26 => absurd (by decide) c26)
                            refine lv_iload_n hx hb dWire_drive_95 rfl (lv_at hl 1 rfl) ?_
                            refine lv_if_eq (tgt := 101) hx hb dWire_drive_96 (by decide) (fun _ => ?_) (fun c27 => absurd (by decide) c27)
                            refine lv_iload_n hx hb dWire_drive_101 rfl (lv_at hl 0 rfl) ?_
                            refine lv_if_eq (tgt := 109) hx hb dWire_drive_102 (by decide) (fun _ => ?_) (fun c28 => absurd (by decide) c28)
                            refine lv_iconst (v := 5) hx hb dWire_drive_109 (by decide) ?_
                            exact W.iret (v := 5) hx hb hr (fun t ht hW => ⟨_, rfl, (of_decide_eq_true (ib (ib (ib (ib (ib (ib (ib (ib (ib (ib (ib (ib (ib (al2 (N := 9) (M := 9) ((fun p1 q1 => (!decide (¬ nI p1 = 0) || (!decide (¬ nI q1 = 0) || (!decide (¬ nI p1 = 1) || (!decide (¬ nI p1 = 8) || (!decide (¬ nI q1 = 1) || (!decide (¬ nI q1 = 8) || (!decide (¬ nI p1 = 4) || (!decide (¬ nI p1 = nI q1) || (!decide (¬ nI q1 = 4) || (!decide (¬ nI p1 = 2) || (!decide (¬ nI p1 = 3) || (!decide (¬ nI q1 = 2) || (!decide (¬ nI q1 = 3) || decide ((5 : Int32) = nI (zDrive p1 q1))))))))))))))))) (by decide +kernel) p1 hp1 q1 hq1) c1) c2) c3) c4) c5) c6) c7) c8) c9) c10) c20) c21) c25)), ht⟩) (fun q h => nomatch h) dWire_drive_110
                          · refine lv_iconst (v := 1) hx hb dWire_drive_79 (by decide) ?_
                            refine lv_goto (tgt := 84) hx hb dWire_drive_80 (by decide) ?_
                            refine lv_istore_n (lv' := [(3, .int 1), (2, .int 0), (0, .int (nI p1)), (1, .int (nI q1))]) hx hb dWire_drive_84 rfl hl (by decide) rfl (fun ls hl => ?_)
                            refine lv_iload_n hx hb dWire_drive_85 rfl (lv_at hl 1 rfl) ?_
                            refine lv_if_eq (tgt := 95) hx hb dWire_drive_86 (by decide) (fun _ => ?_) (fun c29 => absurd (by decide) c29)
                            refine lv_iload_n hx hb dWire_drive_95 rfl (lv_at hl 1 rfl) ?_
                            refine lv_if_eq (tgt := 101) hx hb dWire_drive_96 (by decide) (fun _ => ?_) (fun c30 => absurd (by decide) c30)
                            refine lv_iload_n hx hb dWire_drive_101 rfl (lv_at hl 0 rfl) ?_
                            refine lv_if_eq (tgt := 109) hx hb dWire_drive_102 (by decide) (fun c31 => absurd c31 (by decide)) (fun _ => ?_)
                            refine lv_iload_n hx hb dWire_drive_105 rfl (lv_at hl 3 rfl) ?_
                            refine lv_goto (tgt := 110) hx hb dWire_drive_106 (by decide) ?_
                            exact W.iret (v := nI q1) hx hb hr (fun t ht hW => ⟨_, rfl, (of_decide_eq_true (ib (ib (ib (ib (ib (ib (ib (ib (ib (ib (ib (ib (ib (al2 (N := 9) (M := 9) ((fun p1 q1 => (!decide (¬ nI p1 = 0) || (!decide (¬ nI q1 = 0) || (!decide (¬ nI p1 = 1) || (!decide (¬ nI p1 = 8) || (!decide (¬ nI q1 = 1) || (!decide (¬ nI q1 = 8) || (!decide (¬ nI p1 = 4) || (!decide (¬ nI p1 = nI q1) || (!decide (¬ nI q1 = 4) || (!decide (¬ nI p1 = 2) || (!decide (¬ nI p1 = 3) || (!decide (¬ nI q1 = 2) || (!decide (nI q1 = 3) || decide (nI q1 = nI (zDrive p1 q1))))))))))))))))) (by decide +kernel) p1 hp1 q1 hq1) c1) c2) c3) c4) c5) c6) c7) c8) c9) c10) c20) c21) c25)), ht⟩) (fun q h => nomatch h) dWire_drive_110
                      · refine lv_iconst (v := 1) hx hb dWire_drive_63 (by decide) ?_
                        refine lv_goto (tgt := 68) hx hb dWire_drive_64 (by decide) ?_
                        refine lv_istore_n (lv' := [(2, .int 1), (0, .int (nI p1)), (1, .int (nI q1))]) hx hb dWire_drive_68 rfl hl (by decide) rfl (fun ls hl => ?_)
                        refine lv_iload_n hx hb dWire_drive_69 rfl (lv_at hl 2 rfl) ?_
                        refine lv_iconst (v := 2) hx hb dWire_drive_70 (by decide) ?_
                        refine lv_icmp_eq (tgt := 79) hx hb dWire_drive_71 (by decide) (fun c32 => ?_) (fun c32 => ?_)
                        · refine lv_iconst (v := 1) hx hb dWire_drive_79 (by decide) ?_
                          refine lv_goto (tgt := 84) hx hb dWire_drive_80 (by decide) ?_
                          refine lv_istore_n (lv' := [(3, .int 1), (2, .int 1), (0, .int (nI p1)), (1, .int (nI q1))]) hx hb dWire_drive_84 rfl hl (by decide) rfl (fun ls hl => ?_)
                          refine lv_iload_n hx hb dWire_drive_85 rfl (lv_at hl 1 rfl) ?_
                          refine lv_if_eq (tgt := 95) hx hb dWire_drive_86 (by decide) (fun c33 => absurd c33 (by decide)) (fun _ => ?_)
                          refine lv_iload_n hx hb dWire_drive_89 rfl (lv_at hl 0 rfl) ?_
                          refine lv_if_eq (tgt := 95) hx hb dWire_drive_90 (by decide) (fun c34 => absurd c34 (by decide)) (fun _ => ?_)
                          refine lv_iconst (v := 1) hx hb dWire_drive_93 (by decide) ?_
                          exact W.iret (v := 1) hx hb hr (fun t ht hW => ⟨_, rfl, (of_decide_eq_true (ib (ib (ib (ib (ib (ib (ib (ib (ib (ib (ib (ib (al2 (N := 9) (M := 9) ((fun p1 q1 => (!decide (¬ nI p1 = 0) || (!decide (¬ nI q1 = 0) || (!decide (¬ nI p1 = 1) || (!decide (¬ nI p1 = 8) || (!decide (¬ nI q1 = 1) || (!decide (¬ nI q1 = 8) || (!decide (¬ nI p1 = 4) || (!decide (¬ nI p1 = nI q1) || (!decide (¬ nI q1 = 4) || (!decide (¬ nI p1 = 2) || (!decide (nI p1 = 3) || (!decide (nI q1 = 2) || decide ((1 : Int32) = nI (zDrive p1 q1)))))))))))))))) (by decide +kernel) p1 hp1 q1 hq1) c1) c2) c3) c4) c5) c6) c7) c8) c9) c10) c20) c32)), ht⟩) (fun q h => nomatch h) dWire_drive_94
                        · refine lv_iload_n hx hb dWire_drive_74 rfl (lv_at hl 2 rfl) ?_
                          refine lv_iconst (v := 3) hx hb dWire_drive_75 (by decide) ?_
                          refine lv_icmp_ne (tgt := 83) hx hb dWire_drive_76 (by decide) (fun c35 => ?_) (fun c35 => ?_)
                          · refine lv_iconst (v := 0) hx hb dWire_drive_83 (by decide) ?_
                            refine lv_istore_n (lv' := [(3, .int 0), (2, .int 1), (0, .int (nI p1)), (1, .int (nI q1))]) hx hb dWire_drive_84 rfl hl (by decide) rfl (fun ls hl => ?_)
                            refine lv_iload_n hx hb dWire_drive_85 rfl (lv_at hl 1 rfl) ?_
                            refine lv_if_eq (tgt := 95) hx hb dWire_drive_86 (by decide) (fun c36 => absurd c36 (by decide)) (fun _ => ?_)
                            refine lv_iload_n hx hb dWire_drive_89 rfl (lv_at hl 0 rfl) ?_
                            refine lv_if_eq (tgt := 95) hx hb dWire_drive_90 (by decide) (fun _ => ?_) (fun c37 => absurd (by decide) c37)
                            refine lv_iload_n hx hb dWire_drive_95 rfl (lv_at hl 1 rfl) ?_
                            refine lv_if_eq (tgt := 101) hx hb dWire_drive_96 (by decide) (fun c38 => absurd c38 (by decide)) (fun _ => ?_)
                            refine lv_iload_n hx hb dWire_drive_99 rfl (lv_at hl 2 rfl) ?_
                            exact W.iret (v := nI p1) hx hb hr (fun t ht hW => ⟨_, rfl, (of_decide_eq_true (ib (ib (ib (ib (ib (ib (ib (ib (ib (ib (ib (ib (ib (al2 (N := 9) (M := 9) ((fun p1 q1 => (!decide (¬ nI p1 = 0) || (!decide (¬ nI q1 = 0) || (!decide (¬ nI p1 = 1) || (!decide (¬ nI p1 = 8) || (!decide (¬ nI q1 = 1) || (!decide (¬ nI q1 = 8) || (!decide (¬ nI p1 = 4) || (!decide (¬ nI p1 = nI q1) || (!decide (¬ nI q1 = 4) || (!decide (¬ nI p1 = 2) || (!decide (nI p1 = 3) || (!decide (¬ nI q1 = 2) || (!decide (¬ nI q1 = 3) || decide (nI p1 = nI (zDrive p1 q1))))))))))))))))) (by decide +kernel) p1 hp1 q1 hq1) c1) c2) c3) c4) c5) c6) c7) c8) c9) c10) c20) c32) c35)), ht⟩) (fun q h => nomatch h) dWire_drive_100
                          · refine lv_iconst (v := 1) hx hb dWire_drive_79 (by decide) ?_
                            refine lv_goto (tgt := 84) hx hb dWire_drive_80 (by decide) ?_
                            refine lv_istore_n (lv' := [(3, .int 1), (2, .int 1), (0, .int (nI p1)), (1, .int (nI q1))]) hx hb dWire_drive_84 rfl hl (by decide) rfl (fun ls hl => ?_)
                            refine lv_iload_n hx hb dWire_drive_85 rfl (lv_at hl 1 rfl) ?_
                            refine lv_if_eq (tgt := 95) hx hb dWire_drive_86 (by decide) (fun c39 => absurd c39 (by decide)) (fun _ => ?_)
                            refine lv_iload_n hx hb dWire_drive_89 rfl (lv_at hl 0 rfl) ?_
                            refine lv_if_eq (tgt := 95) hx hb dWire_drive_90 (by decide) (fun c40 => absurd c40 (by decide)) (fun _ => ?_)
                            refine lv_iconst (v := 1) hx hb dWire_drive_93 (by decide) ?_
                            exact W.iret (v := 1) hx hb hr (fun t ht hW => ⟨_, rfl, (of_decide_eq_true (ib (ib (ib (ib (ib (ib (ib (ib (ib (ib (ib (ib (ib (al2 (N := 9) (M := 9) ((fun p1 q1 => (!decide (¬ nI p1 = 0) || (!decide (¬ nI q1 = 0) || (!decide (¬ nI p1 = 1) || (!decide (¬ nI p1 = 8) || (!decide (¬ nI q1 = 1) || (!decide (¬ nI q1 = 8) || (!decide (¬ nI p1 = 4) || (!decide (¬ nI p1 = nI q1) || (!decide (¬ nI q1 = 4) || (!decide (¬ nI p1 = 2) || (!decide (nI p1 = 3) || (!decide (¬ nI q1 = 2) || (!decide (nI q1 = 3) || decide ((1 : Int32) = nI (zDrive p1 q1))))))))))))))))) (by decide +kernel) p1 hp1 q1 hq1) c1) c2) c3) c4) c5) c6) c7) c8) c9) c10) c20) c32) c35)), ht⟩) (fun q h => nomatch h) dWire_drive_94
                  · refine lv_iload_n hx hb dWire_drive_51 rfl (lv_at hl 0 rfl) ?_
                    exact W.iret (v := nI p1) hx hb hr (fun t ht hW => ⟨_, rfl, (of_decide_eq_true (ib (ib (ib (ib (ib (ib (ib (ib (ib (al2 (N := 9) (M := 9) ((fun p1 q1 => (!decide (¬ nI p1 = 0) || (!decide (¬ nI q1 = 0) || (!decide (¬ nI p1 = 1) || (!decide (¬ nI p1 = 8) || (!decide (¬ nI q1 = 1) || (!decide (¬ nI q1 = 8) || (!decide (¬ nI p1 = 4) || (!decide (¬ nI p1 = nI q1) || (!decide (nI q1 = 4) || decide (nI p1 = nI (zDrive p1 q1))))))))))))) (by decide +kernel) p1 hp1 q1 hq1) c1) c2) c3) c4) c5) c6) c7) c8) c9)), ht⟩) (fun q h => nomatch h) dWire_drive_52
                · refine lv_iload_n hx hb dWire_drive_44 rfl (lv_at hl 1 rfl) ?_
                  exact W.iret (v := nI q1) hx hb hr (fun t ht hW => ⟨_, rfl, (of_decide_eq_true (ib (ib (ib (ib (ib (ib (ib (ib (al2 (N := 9) (M := 9) ((fun p1 q1 => (!decide (¬ nI p1 = 0) || (!decide (¬ nI q1 = 0) || (!decide (¬ nI p1 = 1) || (!decide (¬ nI p1 = 8) || (!decide (¬ nI q1 = 1) || (!decide (¬ nI q1 = 8) || (!decide (¬ nI p1 = 4) || (!decide (nI p1 = nI q1) || decide (nI q1 = nI (zDrive p1 q1)))))))))))) (by decide +kernel) p1 hp1 q1 hq1) c1) c2) c3) c4) c5) c6) c7) c8)), ht⟩) (fun q h => nomatch h) dWire_drive_45
            · refine lv_iconst (v := 1) hx hb dWire_drive_32 (by decide) ?_
              exact W.iret (v := 1) hx hb hr (fun t ht hW => ⟨_, rfl, (of_decide_eq_true (ib (ib (ib (ib (ib (ib (al2 (N := 9) (M := 9) ((fun p1 q1 => (!decide (¬ nI p1 = 0) || (!decide (¬ nI q1 = 0) || (!decide (¬ nI p1 = 1) || (!decide (¬ nI p1 = 8) || (!decide (¬ nI q1 = 1) || (!decide (nI q1 = 8) || decide ((1 : Int32) = nI (zDrive p1 q1)))))))))) (by decide +kernel) p1 hp1 q1 hq1) c1) c2) c3) c4) c5) c6)), ht⟩) (fun q h => nomatch h) dWire_drive_33
    · refine lv_iconst (v := 0) hx hb dWire_drive_8 (by decide) ?_
      exact W.iret (v := 0) hx hb hr (fun t ht hW => ⟨_, rfl, (of_decide_eq_true (ib (ib (al2 (N := 9) (M := 9) ((fun p1 q1 => (!decide (¬ nI p1 = 0) || (!decide (nI q1 = 0) || decide ((0 : Int32) = nI (zDrive p1 q1)))))) (by decide +kernel) p1 hp1 q1 hq1) c1) c2)), ht⟩) (fun q h => nomatch h) dWire_drive_9
set_option maxHeartbeats 4000000 in
set_option maxRecDepth 100000 in
theorem c_Wire_and (l : Launch) (p1 : Nat) (hp1 : p1 < 9) (q1 : Nat) (hq1 : q1 < 9) : Met l yWire_and (Cond.code yWire_and bWire_and 2 (some .int) :: nzG) ({ frames := 1, cells := 0, slots := 0, locals := 20 }) (va_Pc [.int (nI p1), .int (nI q1)] (fun _ => True)) (vp_Si (fun r => r = nI (zAnd p1 q1))) 0 0 (fun _ => False) := by
  refine nz_of (own := RI) (by decide) rfl ?_
  intro p e s m args below meth c S hr hlocks _ hv9
  obtain ⟨rfl, -⟩ := hv9
  have hx := S.1
  have hb := S.2.1
  refine nz_entry (vs := [.int (nI p1), .int (nI q1)]) (n := 2) (lv := [(0, .int (nI p1)), (1, .int (nI q1))]) (Nat.le_of_ble_eq_true rfl) rfl (fun ls hl => ?_)
  refine lv_iload_n hx hb dWire_and_0 rfl (lv_at hl 0 rfl) ?_
  refine nz_si (As := [.int (nI p1)]) (rest := []) S (c_Wire_isLow l p1 hp1) kWire_9 ⟨rfl, rfl, Nat.le_of_ble_eq_true rfl, Nat.le_of_ble_eq_true rfl⟩ ⟨Nat.zero_le _, Nat.zero_le _⟩ (fun _ _ _ _ h => h) (fun _ _ _ => trivial) rfl hl.1 rfl (Nat.le_of_ble_eq_true rfl) dWire_and_1 (fun r1 er1 => ?_)
  subst er1
  refine lv_if_ne (tgt := 14) hx hb dWire_and_4 (by decide) (fun c2 => ?_) (fun c2 => ?_)
  · refine lv_iconst (v := 2) hx hb dWire_and_14 (by decide) ?_
    exact W.iret (v := 2) hx hb hr (fun t ht hW => ⟨_, rfl, (of_decide_eq_true (ib (al2 (N := 9) (M := 9) ((fun p1 q1 => (!decide (¬ nI (zLow p1) = 0) || decide ((2 : Int32) = nI (zAnd p1 q1))))) (by decide +kernel) p1 hp1 q1 hq1) c2)), ht⟩) (fun q h => nomatch h) dWire_and_15
  · refine lv_iload_n hx hb dWire_and_7 rfl (lv_at hl 1 rfl) ?_
    refine nz_si (As := [.int (nI q1)]) (rest := []) S (c_Wire_isLow l q1 hq1) kWire_9 ⟨rfl, rfl, Nat.le_of_ble_eq_true rfl, Nat.le_of_ble_eq_true rfl⟩ ⟨Nat.zero_le _, Nat.zero_le _⟩ (fun _ _ _ _ h => h) (fun _ _ _ => trivial) rfl hl.1 rfl (Nat.le_of_ble_eq_true rfl) dWire_and_8 (fun r3 er3 => ?_)
    subst er3
    refine lv_if_eq (tgt := 16) hx hb dWire_and_11 (by decide) (fun c4 => ?_) (fun c4 => ?_)
    · refine lv_iload_n hx hb dWire_and_16 rfl (lv_at hl 0 rfl) ?_
      refine lv_if_eq (tgt := 24) hx hb dWire_and_17 (by decide) (fun c5 => ?_) (fun c5 => ?_)
      · refine lv_iconst (v := 0) hx hb dWire_and_24 (by decide) ?_
        exact W.iret (v := 0) hx hb hr (fun t ht hW => ⟨_, rfl, (of_decide_eq_true (ib (ib (ib (al2 (N := 9) (M := 9) ((fun p1 q1 => (!decide (nI (zLow p1) = 0) || (!decide (nI (zLow q1) = 0) || (!decide (nI p1 = 0) || decide ((0 : Int32) = nI (zAnd p1 q1))))))) (by decide +kernel) p1 hp1 q1 hq1) c2) c4) c5)), ht⟩) (fun q h => nomatch h) dWire_and_25
      · refine lv_iload_n hx hb dWire_and_20 rfl (lv_at hl 1 rfl) ?_
        refine lv_if_ne (tgt := 26) hx hb dWire_and_21 (by decide) (fun c6 => ?_) (fun c6 => ?_)
        · refine lv_iload_n hx hb dWire_and_26 rfl (lv_at hl 0 rfl) ?_
          refine nz_si (As := [.int (nI p1)]) (rest := []) S (c_Wire_isHigh l p1 hp1) kWire_15 ⟨rfl, rfl, Nat.le_of_ble_eq_true rfl, Nat.le_of_ble_eq_true rfl⟩ ⟨Nat.zero_le _, Nat.zero_le _⟩ (fun _ _ _ _ h => h) (fun _ _ _ => trivial) rfl hl.1 rfl (Nat.le_of_ble_eq_true rfl) dWire_and_27 (fun r7 er7 => ?_)
          subst er7
          refine lv_if_eq (tgt := 44) hx hb dWire_and_30 (by decide) (fun c8 => ?_) (fun c8 => ?_)
          · refine lv_iconst (v := 1) hx hb dWire_and_44 (by decide) ?_
            exact W.iret (v := 1) hx hb hr (fun t ht hW => ⟨_, rfl, (of_decide_eq_true (ib (ib (ib (ib (ib (al2 (N := 9) (M := 9) ((fun p1 q1 => (!decide (nI (zLow p1) = 0) || (!decide (nI (zLow q1) = 0) || (!decide (¬ nI p1 = 0) || (!decide (¬ nI q1 = 0) || (!decide (nI (zHigh p1) = 0) || decide ((1 : Int32) = nI (zAnd p1 q1))))))))) (by decide +kernel) p1 hp1 q1 hq1) c2) c4) c5) c6) c8)), ht⟩) (fun q h => nomatch h) dWire_and_45
          · refine lv_iload_n hx hb dWire_and_33 rfl (lv_at hl 1 rfl) ?_
            refine nz_si (As := [.int (nI q1)]) (rest := []) S (c_Wire_isHigh l q1 hq1) kWire_15 ⟨rfl, rfl, Nat.le_of_ble_eq_true rfl, Nat.le_of_ble_eq_true rfl⟩ ⟨Nat.zero_le _, Nat.zero_le _⟩ (fun _ _ _ _ h => h) (fun _ _ _ => trivial) rfl hl.1 rfl (Nat.le_of_ble_eq_true rfl) dWire_and_34 (fun r9 er9 => ?_)
            subst er9
            refine lv_if_eq (tgt := 44) hx hb dWire_and_37 (by decide) (fun c10 => ?_) (fun c10 => ?_)
            · refine lv_iconst (v := 1) hx hb dWire_and_44 (by decide) ?_
              exact W.iret (v := 1) hx hb hr (fun t ht hW => ⟨_, rfl, (of_decide_eq_true (ib (ib (ib (ib (ib (ib (al2 (N := 9) (M := 9) ((fun p1 q1 => (!decide (nI (zLow p1) = 0) || (!decide (nI (zLow q1) = 0) || (!decide (¬ nI p1 = 0) || (!decide (¬ nI q1 = 0) || (!decide (¬ nI (zHigh p1) = 0) || (!decide (nI (zHigh q1) = 0) || decide ((1 : Int32) = nI (zAnd p1 q1)))))))))) (by decide +kernel) p1 hp1 q1 hq1) c2) c4) c5) c6) c8) c10)), ht⟩) (fun q h => nomatch h) dWire_and_45
            · refine lv_iconst (v := 3) hx hb dWire_and_40 (by decide) ?_
              refine lv_goto (tgt := 45) hx hb dWire_and_41 (by decide) ?_
              exact W.iret (v := 3) hx hb hr (fun t ht hW => ⟨_, rfl, (of_decide_eq_true (ib (ib (ib (ib (ib (ib (al2 (N := 9) (M := 9) ((fun p1 q1 => (!decide (nI (zLow p1) = 0) || (!decide (nI (zLow q1) = 0) || (!decide (¬ nI p1 = 0) || (!decide (¬ nI q1 = 0) || (!decide (¬ nI (zHigh p1) = 0) || (!decide (¬ nI (zHigh q1) = 0) || decide ((3 : Int32) = nI (zAnd p1 q1)))))))))) (by decide +kernel) p1 hp1 q1 hq1) c2) c4) c5) c6) c8) c10)), ht⟩) (fun q h => nomatch h) dWire_and_45
        · refine lv_iconst (v := 0) hx hb dWire_and_24 (by decide) ?_
          exact W.iret (v := 0) hx hb hr (fun t ht hW => ⟨_, rfl, (of_decide_eq_true (ib (ib (ib (ib (al2 (N := 9) (M := 9) ((fun p1 q1 => (!decide (nI (zLow p1) = 0) || (!decide (nI (zLow q1) = 0) || (!decide (¬ nI p1 = 0) || (!decide (nI q1 = 0) || decide ((0 : Int32) = nI (zAnd p1 q1)))))))) (by decide +kernel) p1 hp1 q1 hq1) c2) c4) c5) c6)), ht⟩) (fun q h => nomatch h) dWire_and_25
    · refine lv_iconst (v := 2) hx hb dWire_and_14 (by decide) ?_
      exact W.iret (v := 2) hx hb hr (fun t ht hW => ⟨_, rfl, (of_decide_eq_true (ib (ib (al2 (N := 9) (M := 9) ((fun p1 q1 => (!decide (nI (zLow p1) = 0) || (!decide (¬ nI (zLow q1) = 0) || decide ((2 : Int32) = nI (zAnd p1 q1)))))) (by decide +kernel) p1 hp1 q1 hq1) c2) c4)), ht⟩) (fun q h => nomatch h) dWire_and_15
set_option maxHeartbeats 4000000 in
set_option maxRecDepth 100000 in
theorem c_Wire_or (l : Launch) (p1 : Nat) (hp1 : p1 < 9) (q1 : Nat) (hq1 : q1 < 9) : Met l yWire_or (Cond.code yWire_or bWire_or 2 (some .int) :: nzG) ({ frames := 1, cells := 0, slots := 0, locals := 20 }) (va_Pc [.int (nI p1), .int (nI q1)] (fun _ => True)) (vp_Si (fun r => r = nI (zOr p1 q1))) 0 0 (fun _ => False) := by
  refine nz_of (own := RI) (by decide) rfl ?_
  intro p e s m args below meth c S hr hlocks _ hv9
  obtain ⟨rfl, -⟩ := hv9
  have hx := S.1
  have hb := S.2.1
  refine nz_entry (vs := [.int (nI p1), .int (nI q1)]) (n := 2) (lv := [(0, .int (nI p1)), (1, .int (nI q1))]) (Nat.le_of_ble_eq_true rfl) rfl (fun ls hl => ?_)
  refine lv_iload_n hx hb dWire_or_0 rfl (lv_at hl 0 rfl) ?_
  refine nz_si (As := [.int (nI p1)]) (rest := []) S (c_Wire_isHigh l p1 hp1) kWire_15 ⟨rfl, rfl, Nat.le_of_ble_eq_true rfl, Nat.le_of_ble_eq_true rfl⟩ ⟨Nat.zero_le _, Nat.zero_le _⟩ (fun _ _ _ _ h => h) (fun _ _ _ => trivial) rfl hl.1 rfl (Nat.le_of_ble_eq_true rfl) dWire_or_1 (fun r1 er1 => ?_)
  subst er1
  refine lv_if_ne (tgt := 14) hx hb dWire_or_4 (by decide) (fun c2 => ?_) (fun c2 => ?_)
  · refine lv_iconst (v := 3) hx hb dWire_or_14 (by decide) ?_
    exact W.iret (v := 3) hx hb hr (fun t ht hW => ⟨_, rfl, (of_decide_eq_true (ib (al2 (N := 9) (M := 9) ((fun p1 q1 => (!decide (¬ nI (zHigh p1) = 0) || decide ((3 : Int32) = nI (zOr p1 q1))))) (by decide +kernel) p1 hp1 q1 hq1) c2)), ht⟩) (fun q h => nomatch h) dWire_or_15
  · refine lv_iload_n hx hb dWire_or_7 rfl (lv_at hl 1 rfl) ?_
    refine nz_si (As := [.int (nI q1)]) (rest := []) S (c_Wire_isHigh l q1 hq1) kWire_15 ⟨rfl, rfl, Nat.le_of_ble_eq_true rfl, Nat.le_of_ble_eq_true rfl⟩ ⟨Nat.zero_le _, Nat.zero_le _⟩ (fun _ _ _ _ h => h) (fun _ _ _ => trivial) rfl hl.1 rfl (Nat.le_of_ble_eq_true rfl) dWire_or_8 (fun r3 er3 => ?_)
    subst er3
    refine lv_if_eq (tgt := 16) hx hb dWire_or_11 (by decide) (fun c4 => ?_) (fun c4 => ?_)
    · refine lv_iload_n hx hb dWire_or_16 rfl (lv_at hl 0 rfl) ?_
      refine lv_if_eq (tgt := 24) hx hb dWire_or_17 (by decide) (fun c5 => ?_) (fun c5 => ?_)
      · refine lv_iconst (v := 0) hx hb dWire_or_24 (by decide) ?_
        exact W.iret (v := 0) hx hb hr (fun t ht hW => ⟨_, rfl, (of_decide_eq_true (ib (ib (ib (al2 (N := 9) (M := 9) ((fun p1 q1 => (!decide (nI (zHigh p1) = 0) || (!decide (nI (zHigh q1) = 0) || (!decide (nI p1 = 0) || decide ((0 : Int32) = nI (zOr p1 q1))))))) (by decide +kernel) p1 hp1 q1 hq1) c2) c4) c5)), ht⟩) (fun q h => nomatch h) dWire_or_25
      · refine lv_iload_n hx hb dWire_or_20 rfl (lv_at hl 1 rfl) ?_
        refine lv_if_ne (tgt := 26) hx hb dWire_or_21 (by decide) (fun c6 => ?_) (fun c6 => ?_)
        · refine lv_iload_n hx hb dWire_or_26 rfl (lv_at hl 0 rfl) ?_
          refine nz_si (As := [.int (nI p1)]) (rest := []) S (c_Wire_isLow l p1 hp1) kWire_9 ⟨rfl, rfl, Nat.le_of_ble_eq_true rfl, Nat.le_of_ble_eq_true rfl⟩ ⟨Nat.zero_le _, Nat.zero_le _⟩ (fun _ _ _ _ h => h) (fun _ _ _ => trivial) rfl hl.1 rfl (Nat.le_of_ble_eq_true rfl) dWire_or_27 (fun r7 er7 => ?_)
          subst er7
          refine lv_if_eq (tgt := 44) hx hb dWire_or_30 (by decide) (fun c8 => ?_) (fun c8 => ?_)
          · refine lv_iconst (v := 1) hx hb dWire_or_44 (by decide) ?_
            exact W.iret (v := 1) hx hb hr (fun t ht hW => ⟨_, rfl, (of_decide_eq_true (ib (ib (ib (ib (ib (al2 (N := 9) (M := 9) ((fun p1 q1 => (!decide (nI (zHigh p1) = 0) || (!decide (nI (zHigh q1) = 0) || (!decide (¬ nI p1 = 0) || (!decide (¬ nI q1 = 0) || (!decide (nI (zLow p1) = 0) || decide ((1 : Int32) = nI (zOr p1 q1))))))))) (by decide +kernel) p1 hp1 q1 hq1) c2) c4) c5) c6) c8)), ht⟩) (fun q h => nomatch h) dWire_or_45
          · refine lv_iload_n hx hb dWire_or_33 rfl (lv_at hl 1 rfl) ?_
            refine nz_si (As := [.int (nI q1)]) (rest := []) S (c_Wire_isLow l q1 hq1) kWire_9 ⟨rfl, rfl, Nat.le_of_ble_eq_true rfl, Nat.le_of_ble_eq_true rfl⟩ ⟨Nat.zero_le _, Nat.zero_le _⟩ (fun _ _ _ _ h => h) (fun _ _ _ => trivial) rfl hl.1 rfl (Nat.le_of_ble_eq_true rfl) dWire_or_34 (fun r9 er9 => ?_)
            subst er9
            refine lv_if_eq (tgt := 44) hx hb dWire_or_37 (by decide) (fun c10 => ?_) (fun c10 => ?_)
            · refine lv_iconst (v := 1) hx hb dWire_or_44 (by decide) ?_
              exact W.iret (v := 1) hx hb hr (fun t ht hW => ⟨_, rfl, (of_decide_eq_true (ib (ib (ib (ib (ib (ib (al2 (N := 9) (M := 9) ((fun p1 q1 => (!decide (nI (zHigh p1) = 0) || (!decide (nI (zHigh q1) = 0) || (!decide (¬ nI p1 = 0) || (!decide (¬ nI q1 = 0) || (!decide (¬ nI (zLow p1) = 0) || (!decide (nI (zLow q1) = 0) || decide ((1 : Int32) = nI (zOr p1 q1)))))))))) (by decide +kernel) p1 hp1 q1 hq1) c2) c4) c5) c6) c8) c10)), ht⟩) (fun q h => nomatch h) dWire_or_45
            · refine lv_iconst (v := 2) hx hb dWire_or_40 (by decide) ?_
              refine lv_goto (tgt := 45) hx hb dWire_or_41 (by decide) ?_
              exact W.iret (v := 2) hx hb hr (fun t ht hW => ⟨_, rfl, (of_decide_eq_true (ib (ib (ib (ib (ib (ib (al2 (N := 9) (M := 9) ((fun p1 q1 => (!decide (nI (zHigh p1) = 0) || (!decide (nI (zHigh q1) = 0) || (!decide (¬ nI p1 = 0) || (!decide (¬ nI q1 = 0) || (!decide (¬ nI (zLow p1) = 0) || (!decide (¬ nI (zLow q1) = 0) || decide ((2 : Int32) = nI (zOr p1 q1)))))))))) (by decide +kernel) p1 hp1 q1 hq1) c2) c4) c5) c6) c8) c10)), ht⟩) (fun q h => nomatch h) dWire_or_45
        · refine lv_iconst (v := 0) hx hb dWire_or_24 (by decide) ?_
          exact W.iret (v := 0) hx hb hr (fun t ht hW => ⟨_, rfl, (of_decide_eq_true (ib (ib (ib (ib (al2 (N := 9) (M := 9) ((fun p1 q1 => (!decide (nI (zHigh p1) = 0) || (!decide (nI (zHigh q1) = 0) || (!decide (¬ nI p1 = 0) || (!decide (nI q1 = 0) || decide ((0 : Int32) = nI (zOr p1 q1)))))))) (by decide +kernel) p1 hp1 q1 hq1) c2) c4) c5) c6)), ht⟩) (fun q h => nomatch h) dWire_or_25
    · refine lv_iconst (v := 3) hx hb dWire_or_14 (by decide) ?_
      exact W.iret (v := 3) hx hb hr (fun t ht hW => ⟨_, rfl, (of_decide_eq_true (ib (ib (al2 (N := 9) (M := 9) ((fun p1 q1 => (!decide (nI (zHigh p1) = 0) || (!decide (¬ nI (zHigh q1) = 0) || decide ((3 : Int32) = nI (zOr p1 q1)))))) (by decide +kernel) p1 hp1 q1 hq1) c2) c4)), ht⟩) (fun q h => nomatch h) dWire_or_15
set_option maxHeartbeats 4000000 in
set_option maxRecDepth 100000 in
theorem c_Wire_xor (l : Launch) (p1 : Nat) (hp1 : p1 < 9) (q1 : Nat) (hq1 : q1 < 9) : Met l yWire_xor (Cond.code yWire_xor bWire_xor 2 (some .int) :: nzG) ({ frames := 2, cells := 0, slots := 0, locals := 40 }) (va_Pc [.int (nI p1), .int (nI q1)] (fun _ => True)) (vp_Si (fun r => r = nI (zXor p1 q1))) 0 0 (fun _ => False) := by
  refine nz_of (own := RI) (by decide) rfl ?_
  intro p e s m args below meth c S hr hlocks _ hv9
  obtain ⟨rfl, -⟩ := hv9
  have hx := S.1
  have hb := S.2.1
  refine nz_entry (vs := [.int (nI p1), .int (nI q1)]) (n := 2) (lv := [(0, .int (nI p1)), (1, .int (nI q1))]) (Nat.le_of_ble_eq_true rfl) rfl (fun ls hl => ?_)
  refine lv_iload_n hx hb dWire_xor_0 rfl (lv_at hl 0 rfl) ?_
  refine lv_if_eq (tgt := 8) hx hb dWire_xor_1 (by decide) (fun c1 => ?_) (fun c1 => ?_)
  · refine lv_iconst (v := 0) hx hb dWire_xor_8 (by decide) ?_
    exact W.iret (v := 0) hx hb hr (fun t ht hW => ⟨_, rfl, (of_decide_eq_true (ib (al2 (N := 9) (M := 9) ((fun p1 q1 => (!decide (nI p1 = 0) || decide ((0 : Int32) = nI (zXor p1 q1))))) (by decide +kernel) p1 hp1 q1 hq1) c1)), ht⟩) (fun q h => nomatch h) dWire_xor_9
  · refine lv_iload_n hx hb dWire_xor_4 rfl (lv_at hl 1 rfl) ?_
    refine lv_if_ne (tgt := 10) hx hb dWire_xor_5 (by decide) (fun c2 => ?_) (fun c2 => ?_)
    · refine lv_iload_n hx hb dWire_xor_10 rfl (lv_at hl 0 rfl) ?_
      refine nz_si (As := [.int (nI p1)]) (rest := []) S (c_Wire_isClear l p1 hp1) kWire_35 ⟨rfl, rfl, Nat.le_of_ble_eq_true rfl, Nat.le_of_ble_eq_true rfl⟩ ⟨Nat.zero_le _, Nat.zero_le _⟩ (fun _ _ _ _ h => h) (fun _ _ _ => trivial) rfl hl.1 rfl (Nat.le_of_ble_eq_true rfl) dWire_xor_11 (fun r3 er3 => ?_)
      subst er3
      refine lv_if_eq (tgt := 24) hx hb dWire_xor_14 (by decide) (fun c4 => ?_) (fun c4 => ?_)
      · refine lv_iconst (v := 1) hx hb dWire_xor_24 (by decide) ?_
        exact W.iret (v := 1) hx hb hr (fun t ht hW => ⟨_, rfl, (of_decide_eq_true (ib (ib (ib (al2 (N := 9) (M := 9) ((fun p1 q1 => (!decide (¬ nI p1 = 0) || (!decide (¬ nI q1 = 0) || (!decide (nI (zClear p1) = 0) || decide ((1 : Int32) = nI (zXor p1 q1))))))) (by decide +kernel) p1 hp1 q1 hq1) c1) c2) c4)), ht⟩) (fun q h => nomatch h) dWire_xor_25
      · refine lv_iload_n hx hb dWire_xor_17 rfl (lv_at hl 1 rfl) ?_
        refine nz_si (As := [.int (nI q1)]) (rest := []) S (c_Wire_isClear l q1 hq1) kWire_35 ⟨rfl, rfl, Nat.le_of_ble_eq_true rfl, Nat.le_of_ble_eq_true rfl⟩ ⟨Nat.zero_le _, Nat.zero_le _⟩ (fun _ _ _ _ h => h) (fun _ _ _ => trivial) rfl hl.1 rfl (Nat.le_of_ble_eq_true rfl) dWire_xor_18 (fun r5 er5 => ?_)
        subst er5
        refine lv_if_ne (tgt := 26) hx hb dWire_xor_21 (by decide) (fun c6 => ?_) (fun c6 => ?_)
        · refine lv_iload_n hx hb dWire_xor_26 rfl (lv_at hl 0 rfl) ?_
          refine nz_si (As := [.int (nI p1)]) (rest := []) S (c_Wire_isHigh l p1 hp1) kWire_15 ⟨rfl, rfl, Nat.le_of_ble_eq_true rfl, Nat.le_of_ble_eq_true rfl⟩ ⟨Nat.zero_le _, Nat.zero_le _⟩ (fun _ _ _ _ h => h) (fun _ _ _ => trivial) rfl hl.1 rfl (Nat.le_of_ble_eq_true rfl) dWire_xor_27 (fun r7 er7 => ?_)
          subst er7
          refine lv_iload_n hx hb dWire_xor_30 rfl (lv_at hl 1 rfl) ?_
          refine nz_si (As := [.int (nI q1)]) (rest := [.int (nI (zHigh p1))]) S (c_Wire_isHigh l q1 hq1) kWire_15 ⟨rfl, rfl, Nat.le_of_ble_eq_true rfl, Nat.le_of_ble_eq_true rfl⟩ ⟨Nat.zero_le _, Nat.zero_le _⟩ (fun _ _ _ _ h => h) (fun _ _ _ => trivial) rfl hl.1 rfl (Nat.le_of_ble_eq_true rfl) dWire_xor_31 (fun r8 er8 => ?_)
          subst er8
          refine lv_icmp_ne (tgt := 41) hx hb dWire_xor_34 (by decide) (fun c9 => ?_) (fun c9 => ?_)
          · refine lv_iconst (v := 3) hx hb dWire_xor_41 (by decide) ?_
            exact W.iret (v := 3) hx hb hr (fun t ht hW => ⟨_, rfl, (of_decide_eq_true (ib (ib (ib (ib (ib (al2 (N := 9) (M := 9) ((fun p1 q1 => (!decide (¬ nI p1 = 0) || (!decide (¬ nI q1 = 0) || (!decide (¬ nI (zClear p1) = 0) || (!decide (¬ nI (zClear q1) = 0) || (!decide (¬ nI (zHigh p1) = nI (zHigh q1)) || decide ((3 : Int32) = nI (zXor p1 q1))))))))) (by decide +kernel) p1 hp1 q1 hq1) c1) c2) c4) c6) c9)), ht⟩) (fun q h => nomatch h) dWire_xor_42
          · refine lv_iconst (v := 2) hx hb dWire_xor_37 (by decide) ?_
            refine lv_goto (tgt := 42) hx hb dWire_xor_38 (by decide) ?_
            exact W.iret (v := 2) hx hb hr (fun t ht hW => ⟨_, rfl, (of_decide_eq_true (ib (ib (ib (ib (ib (al2 (N := 9) (M := 9) ((fun p1 q1 => (!decide (¬ nI p1 = 0) || (!decide (¬ nI q1 = 0) || (!decide (¬ nI (zClear p1) = 0) || (!decide (¬ nI (zClear q1) = 0) || (!decide (nI (zHigh p1) = nI (zHigh q1)) || decide ((2 : Int32) = nI (zXor p1 q1))))))))) (by decide +kernel) p1 hp1 q1 hq1) c1) c2) c4) c6) c9)), ht⟩) (fun q h => nomatch h) dWire_xor_42
        · refine lv_iconst (v := 1) hx hb dWire_xor_24 (by decide) ?_
          exact W.iret (v := 1) hx hb hr (fun t ht hW => ⟨_, rfl, (of_decide_eq_true (ib (ib (ib (ib (al2 (N := 9) (M := 9) ((fun p1 q1 => (!decide (¬ nI p1 = 0) || (!decide (¬ nI q1 = 0) || (!decide (¬ nI (zClear p1) = 0) || (!decide (nI (zClear q1) = 0) || decide ((1 : Int32) = nI (zXor p1 q1)))))))) (by decide +kernel) p1 hp1 q1 hq1) c1) c2) c4) c6)), ht⟩) (fun q h => nomatch h) dWire_xor_25
    · refine lv_iconst (v := 0) hx hb dWire_xor_8 (by decide) ?_
      exact W.iret (v := 0) hx hb hr (fun t ht hW => ⟨_, rfl, (of_decide_eq_true (ib (ib (al2 (N := 9) (M := 9) ((fun p1 q1 => (!decide (¬ nI p1 = 0) || (!decide (nI q1 = 0) || decide ((0 : Int32) = nI (zXor p1 q1)))))) (by decide +kernel) p1 hp1 q1 hq1) c1) c2)), ht⟩) (fun q h => nomatch h) dWire_xor_9
set_option maxHeartbeats 4000000 in
set_option maxRecDepth 100000 in
theorem c_Wire_join (l : Launch) (o1 : Nat) (ho1 : o1 < 7) (p1 : Nat) (hp1 : p1 < 9) (q1 : Nat) (hq1 : q1 < 9) : Met l yWire_join (Cond.code yWire_join bWire_join 3 (some .int) :: nzG) ({ frames := 3, cells := 0, slots := 0, locals := 61 }) (va_Pc [.int (nI o1), .int (nI p1), .int (nI q1)] (fun _ => True)) (vp_Si (fun r => r = nI (zJoin o1 p1 q1))) 0 0 (fun _ => False) := by
  refine nz_of (own := RI) (by decide) rfl ?_
  intro p e s m args below meth c S hr hlocks _ hv9
  obtain ⟨rfl, -⟩ := hv9
  have hx := S.1
  have hb := S.2.1
  refine nz_entry (vs := [.int (nI o1), .int (nI p1), .int (nI q1)]) (n := 3) (lv := [(0, .int (nI o1)), (1, .int (nI p1)), (2, .int (nI q1))]) (Nat.le_of_ble_eq_true rfl) rfl (fun ls hl => ?_)
  refine lv_iload_n hx hb dWire_join_0 rfl (lv_at hl 0 rfl) ?_
  rcases (show o1 = 0 ∨ o1 = 1 ∨ o1 = 2 ∨ o1 = 3 ∨ o1 = 4 ∨ o1 = 5 ∨ o1 = 6 by omega) with rfl | rfl | rfl | rfl | rfl | rfl | rfl
  · refine lv_tableIn (tgt := 40) hx hb dWire_join_1 (by decide) (by decide) rfl (by decide) ?_
    refine lv_iload_n hx hb dWire_join_40 rfl (lv_at hl 1 rfl) ?_
    refine lv_iload_n hx hb dWire_join_41 rfl (lv_at hl 2 rfl) ?_
    refine nz_si (As := [.int (nI p1), .int (nI q1)]) (rest := []) S (c_Wire_drive l p1 hp1 q1 hq1) kWire_18 ⟨rfl, rfl, Nat.le_of_ble_eq_true rfl, Nat.le_of_ble_eq_true rfl⟩ ⟨Nat.zero_le _, Nat.zero_le _⟩ (fun _ _ _ _ h => h) (fun _ _ _ => trivial) rfl hl.1 rfl (Nat.le_of_ble_eq_true rfl) dWire_join_42 (fun r1 er1 => ?_)
    subst er1
    exact W.iret (v := nI (zDrive p1 q1)) hx hb hr (fun t ht hW => ⟨_, rfl, (of_decide_eq_true (al2 (N := 9) (M := 9) ((fun p1 q1 => decide (nI (zDrive p1 q1) = nI (zJoin 0 p1 q1)))) (by decide +kernel) p1 hp1 q1 hq1)), ht⟩) (fun q h => nomatch h) dWire_join_45
  · refine lv_tableIn (tgt := 46) hx hb dWire_join_1 (by decide) (by decide) rfl (by decide) ?_
    refine lv_iload_n hx hb dWire_join_46 rfl (lv_at hl 1 rfl) ?_
    refine lv_iload_n hx hb dWire_join_47 rfl (lv_at hl 2 rfl) ?_
    refine nz_si (As := [.int (nI p1), .int (nI q1)]) (rest := []) S (c_Wire_and l p1 hp1 q1 hq1) kWire_22 ⟨rfl, rfl, Nat.le_of_ble_eq_true rfl, Nat.le_of_ble_eq_true rfl⟩ ⟨Nat.zero_le _, Nat.zero_le _⟩ (fun _ _ _ _ h => h) (fun _ _ _ => trivial) rfl hl.1 rfl (Nat.le_of_ble_eq_true rfl) dWire_join_48 (fun r2 er2 => ?_)
    subst er2
    exact W.iret (v := nI (zAnd p1 q1)) hx hb hr (fun t ht hW => ⟨_, rfl, (of_decide_eq_true (al2 (N := 9) (M := 9) ((fun p1 q1 => decide (nI (zAnd p1 q1) = nI (zJoin 1 p1 q1)))) (by decide +kernel) p1 hp1 q1 hq1)), ht⟩) (fun q h => nomatch h) dWire_join_51
  · refine lv_tableIn (tgt := 52) hx hb dWire_join_1 (by decide) (by decide) rfl (by decide) ?_
    refine lv_iload_n hx hb dWire_join_52 rfl (lv_at hl 1 rfl) ?_
    refine lv_iload_n hx hb dWire_join_53 rfl (lv_at hl 2 rfl) ?_
    refine nz_si (As := [.int (nI p1), .int (nI q1)]) (rest := []) S (c_Wire_or l p1 hp1 q1 hq1) kWire_25 ⟨rfl, rfl, Nat.le_of_ble_eq_true rfl, Nat.le_of_ble_eq_true rfl⟩ ⟨Nat.zero_le _, Nat.zero_le _⟩ (fun _ _ _ _ h => h) (fun _ _ _ => trivial) rfl hl.1 rfl (Nat.le_of_ble_eq_true rfl) dWire_join_54 (fun r3 er3 => ?_)
    subst er3
    exact W.iret (v := nI (zOr p1 q1)) hx hb hr (fun t ht hW => ⟨_, rfl, (of_decide_eq_true (al2 (N := 9) (M := 9) ((fun p1 q1 => decide (nI (zOr p1 q1) = nI (zJoin 2 p1 q1)))) (by decide +kernel) p1 hp1 q1 hq1)), ht⟩) (fun q h => nomatch h) dWire_join_57
  · refine lv_tableIn (tgt := 58) hx hb dWire_join_1 (by decide) (by decide) rfl (by decide) ?_
    refine lv_iload_n hx hb dWire_join_58 rfl (lv_at hl 1 rfl) ?_
    refine lv_iload_n hx hb dWire_join_59 rfl (lv_at hl 2 rfl) ?_
    refine nz_si (As := [.int (nI p1), .int (nI q1)]) (rest := []) S (c_Wire_xor l p1 hp1 q1 hq1) kWire_28 ⟨rfl, rfl, Nat.le_of_ble_eq_true rfl, Nat.le_of_ble_eq_true rfl⟩ ⟨Nat.zero_le _, Nat.zero_le _⟩ (fun _ _ _ _ h => h) (fun _ _ _ => trivial) rfl hl.1 rfl (Nat.le_of_ble_eq_true rfl) dWire_join_60 (fun r4 er4 => ?_)
    subst er4
    exact W.iret (v := nI (zXor p1 q1)) hx hb hr (fun t ht hW => ⟨_, rfl, (of_decide_eq_true (al2 (N := 9) (M := 9) ((fun p1 q1 => decide (nI (zXor p1 q1) = nI (zJoin 3 p1 q1)))) (by decide +kernel) p1 hp1 q1 hq1)), ht⟩) (fun q h => nomatch h) dWire_join_63
  · refine lv_tableIn (tgt := 64) hx hb dWire_join_1 (by decide) (by decide) rfl (by decide) ?_
    refine lv_iload_n hx hb dWire_join_64 rfl (lv_at hl 1 rfl) ?_
    refine lv_iload_n hx hb dWire_join_65 rfl (lv_at hl 2 rfl) ?_
    refine nz_si (As := [.int (nI p1), .int (nI q1)]) (rest := []) S (c_Wire_and l p1 hp1 q1 hq1) kWire_22 ⟨rfl, rfl, Nat.le_of_ble_eq_true rfl, Nat.le_of_ble_eq_true rfl⟩ ⟨Nat.zero_le _, Nat.zero_le _⟩ (fun _ _ _ _ h => h) (fun _ _ _ => trivial) rfl hl.1 rfl (Nat.le_of_ble_eq_true rfl) dWire_join_66 (fun r5 er5 => ?_)
    subst er5
    refine nz_si (As := [.int (nI (zAnd p1 q1))]) (rest := []) S (c_Wire_not l (zAnd p1 q1) (zAnd_lt p1 hp1 q1 hq1)) kWire_31 ⟨rfl, rfl, Nat.le_of_ble_eq_true rfl, Nat.le_of_ble_eq_true rfl⟩ ⟨Nat.zero_le _, Nat.zero_le _⟩ (fun _ _ _ _ h => h) (fun _ _ _ => trivial) rfl hl.1 rfl (Nat.le_of_ble_eq_true rfl) dWire_join_69 (fun r6 er6 => ?_)
    subst er6
    exact W.iret (v := nI (zNot (zAnd p1 q1))) hx hb hr (fun t ht hW => ⟨_, rfl, (of_decide_eq_true (al2 (N := 9) (M := 9) ((fun p1 q1 => decide (nI (zNot (zAnd p1 q1)) = nI (zJoin 4 p1 q1)))) (by decide +kernel) p1 hp1 q1 hq1)), ht⟩) (fun q h => nomatch h) dWire_join_72
  · refine lv_tableIn (tgt := 73) hx hb dWire_join_1 (by decide) (by decide) rfl (by decide) ?_
    refine lv_iload_n hx hb dWire_join_73 rfl (lv_at hl 1 rfl) ?_
    refine lv_iload_n hx hb dWire_join_74 rfl (lv_at hl 2 rfl) ?_
    refine nz_si (As := [.int (nI p1), .int (nI q1)]) (rest := []) S (c_Wire_or l p1 hp1 q1 hq1) kWire_25 ⟨rfl, rfl, Nat.le_of_ble_eq_true rfl, Nat.le_of_ble_eq_true rfl⟩ ⟨Nat.zero_le _, Nat.zero_le _⟩ (fun _ _ _ _ h => h) (fun _ _ _ => trivial) rfl hl.1 rfl (Nat.le_of_ble_eq_true rfl) dWire_join_75 (fun r7 er7 => ?_)
    subst er7
    refine nz_si (As := [.int (nI (zOr p1 q1))]) (rest := []) S (c_Wire_not l (zOr p1 q1) (zOr_lt p1 hp1 q1 hq1)) kWire_31 ⟨rfl, rfl, Nat.le_of_ble_eq_true rfl, Nat.le_of_ble_eq_true rfl⟩ ⟨Nat.zero_le _, Nat.zero_le _⟩ (fun _ _ _ _ h => h) (fun _ _ _ => trivial) rfl hl.1 rfl (Nat.le_of_ble_eq_true rfl) dWire_join_78 (fun r8 er8 => ?_)
    subst er8
    exact W.iret (v := nI (zNot (zOr p1 q1))) hx hb hr (fun t ht hW => ⟨_, rfl, (of_decide_eq_true (al2 (N := 9) (M := 9) ((fun p1 q1 => decide (nI (zNot (zOr p1 q1)) = nI (zJoin 5 p1 q1)))) (by decide +kernel) p1 hp1 q1 hq1)), ht⟩) (fun q h => nomatch h) dWire_join_81
  · refine lv_tableOut (tgt := 82) hx hb dWire_join_1 (by decide) (by decide) ?_
    refine lv_iload_n hx hb dWire_join_82 rfl (lv_at hl 1 rfl) ?_
    refine lv_iload_n hx hb dWire_join_83 rfl (lv_at hl 2 rfl) ?_
    refine nz_si (As := [.int (nI p1), .int (nI q1)]) (rest := []) S (c_Wire_xor l p1 hp1 q1 hq1) kWire_28 ⟨rfl, rfl, Nat.le_of_ble_eq_true rfl, Nat.le_of_ble_eq_true rfl⟩ ⟨Nat.zero_le _, Nat.zero_le _⟩ (fun _ _ _ _ h => h) (fun _ _ _ => trivial) rfl hl.1 rfl (Nat.le_of_ble_eq_true rfl) dWire_join_84 (fun r9 er9 => ?_)
    subst er9
    refine nz_si (As := [.int (nI (zXor p1 q1))]) (rest := []) S (c_Wire_not l (zXor p1 q1) (zXor_lt p1 hp1 q1 hq1)) kWire_31 ⟨rfl, rfl, Nat.le_of_ble_eq_true rfl, Nat.le_of_ble_eq_true rfl⟩ ⟨Nat.zero_le _, Nat.zero_le _⟩ (fun _ _ _ _ h => h) (fun _ _ _ => trivial) rfl hl.1 rfl (Nat.le_of_ble_eq_true rfl) dWire_join_87 (fun r10 er10 => ?_)
    subst er10
    exact W.iret (v := nI (zNot (zXor p1 q1))) hx hb hr (fun t ht hW => ⟨_, rfl, (of_decide_eq_true (al2 (N := 9) (M := 9) ((fun p1 q1 => decide (nI (zNot (zXor p1 q1)) = nI (zJoin 6 p1 q1)))) (by decide +kernel) p1 hp1 q1 hq1)), ht⟩) (fun q h => nomatch h) dWire_join_90
set_option maxHeartbeats 4000000 in
set_option maxRecDepth 100000 in
theorem c_Wire_strip (l : Launch) (o1 : Nat) (ho1 : o1 < 4) (v : Nat) (hv : v < 9) : Met l yWire_strip (Cond.code yWire_strip bWire_strip 2 (some .int) :: nzG) ({ frames := 2, cells := 0, slots := 0, locals := 40 }) (va_Pc [.int (nI o1), .int (nI v)] (fun _ => True)) (vp_Si (fun r => r = nI (zStrip o1 v))) 0 0 (fun _ => False) := by
  refine nz_of (own := RI) (by decide) rfl ?_
  intro p e s m args below meth c S hr hlocks _ hv9
  obtain ⟨rfl, -⟩ := hv9
  have hx := S.1
  have hb := S.2.1
  refine nz_entry (vs := [.int (nI o1), .int (nI v)]) (n := 2) (lv := [(0, .int (nI o1)), (1, .int (nI v))]) (Nat.le_of_ble_eq_true rfl) rfl (fun ls hl => ?_)
  refine lv_iload_n hx hb dWire_strip_0 rfl (lv_at hl 1 rfl) ?_
  refine nz_si (As := [.int (nI v)]) (rest := []) S (c_Wire_isClear l v hv) kWire_35 ⟨rfl, rfl, Nat.le_of_ble_eq_true rfl, Nat.le_of_ble_eq_true rfl⟩ ⟨Nat.zero_le _, Nat.zero_le _⟩ (fun _ _ _ _ h => h) (fun _ _ _ => trivial) rfl hl.1 rfl (Nat.le_of_ble_eq_true rfl) dWire_strip_1 (fun r1 er1 => ?_)
  subst er1
  refine lv_if_eq (tgt := 20) hx hb dWire_strip_4 (by decide) (fun c2 => ?_) (fun c2 => ?_)
  · refine lv_iload_n hx hb dWire_strip_20 rfl (lv_at hl 0 rfl) ?_
    refine lv_iconst (v := 1) hx hb dWire_strip_21 (by decide) ?_
    refine lv_icmp_ne (tgt := 30) hx hb dWire_strip_22 (by decide) (fun c3 => ?_) (fun c3 => ?_)
    · refine lv_iload_n hx hb dWire_strip_30 rfl (lv_at hl 0 rfl) ?_
      refine lv_iconst (v := 2) hx hb dWire_strip_31 (by decide) ?_
      refine lv_icmp_ne (tgt := 41) hx hb dWire_strip_32 (by decide) (fun c4 => ?_) (fun c4 => ?_)
      · refine lv_iload_n hx hb dWire_strip_41 rfl (lv_at hl 0 rfl) ?_
        refine lv_iconst (v := 3) hx hb dWire_strip_42 (by decide) ?_
        refine lv_icmp_ne (tgt := 50) hx hb dWire_strip_43 (by decide) (fun c5 => ?_) (fun c5 => ?_)
        · refine lv_iconst (v := 1) hx hb dWire_strip_50 (by decide) ?_
          exact W.iret (v := 1) hx hb hr (fun t ht hW => ⟨_, rfl, (of_decide_eq_true (ib (ib (ib (ib (al2 (N := 4) (M := 9) ((fun o1 v => (!decide (nI (zClear v) = 0) || (!decide (¬ nI o1 = 1) || (!decide (¬ nI o1 = 2) || (!decide (¬ nI o1 = 3) || decide ((1 : Int32) = nI (zStrip o1 v)))))))) (by decide +kernel) o1 ho1 v hv) c2) c3) c4) c5)), ht⟩) (fun q h => nomatch h) dWire_strip_51
        · refine lv_iconst (v := 2) hx hb dWire_strip_46 (by decide) ?_
          refine lv_goto (tgt := 51) hx hb dWire_strip_47 (by decide) ?_
          exact W.iret (v := 2) hx hb hr (fun t ht hW => ⟨_, rfl, (of_decide_eq_true (ib (ib (ib (ib (al2 (N := 4) (M := 9) ((fun o1 v => (!decide (nI (zClear v) = 0) || (!decide (¬ nI o1 = 1) || (!decide (¬ nI o1 = 2) || (!decide (nI o1 = 3) || decide ((2 : Int32) = nI (zStrip o1 v)))))))) (by decide +kernel) o1 ho1 v hv) c2) c3) c4) c5)), ht⟩) (fun q h => nomatch h) dWire_strip_51
      · refine lv_iload_n hx hb dWire_strip_35 rfl (lv_at hl 1 rfl) ?_
        refine lv_if_ne (tgt := 41) hx hb dWire_strip_36 (by decide) (fun c6 => ?_) (fun c6 => ?_)
        · refine lv_iload_n hx hb dWire_strip_41 rfl (lv_at hl 0 rfl) ?_
          refine lv_iconst (v := 3) hx hb dWire_strip_42 (by decide) ?_
          refine lv_icmp_ne (tgt := 50) hx hb dWire_strip_43 (by decide) (fun c7 => ?_) (fun c7 => ?_)
          · refine lv_iconst (v := 1) hx hb dWire_strip_50 (by decide) ?_
            exact W.iret (v := 1) hx hb hr (fun t ht hW => ⟨_, rfl, (of_decide_eq_true (ib (ib (ib (ib (ib (al2 (N := 4) (M := 9) ((fun o1 v => (!decide (nI (zClear v) = 0) || (!decide (¬ nI o1 = 1) || (!decide (nI o1 = 2) || (!decide (¬ nI v = 0) || (!decide (¬ nI o1 = 3) || decide ((1 : Int32) = nI (zStrip o1 v))))))))) (by decide +kernel) o1 ho1 v hv) c2) c3) c4) c6) c7)), ht⟩) (fun q h => nomatch h) dWire_strip_51
          · refine lv_iconst (v := 2) hx hb dWire_strip_46 (by decide) ?_
            refine lv_goto (tgt := 51) hx hb dWire_strip_47 (by decide) ?_
            exact W.iret (v := 2) hx hb hr (fun t ht hW => ⟨_, rfl, (of_decide_eq_true (ib (ib (ib (ib (ib (al2 (N := 4) (M := 9) ((fun o1 v => (!decide (nI (zClear v) = 0) || (!decide (¬ nI o1 = 1) || (!decide (nI o1 = 2) || (!decide (¬ nI v = 0) || (!decide (nI o1 = 3) || decide ((2 : Int32) = nI (zStrip o1 v))))))))) (by decide +kernel) o1 ho1 v hv) c2) c3) c4) c6) c7)), ht⟩) (fun q h => nomatch h) dWire_strip_51
        · refine lv_iload_n hx hb dWire_strip_39 rfl (lv_at hl 1 rfl) ?_
          exact W.iret (v := nI v) hx hb hr (fun t ht hW => ⟨_, rfl, (of_decide_eq_true (ib (ib (ib (ib (al2 (N := 4) (M := 9) ((fun o1 v => (!decide (nI (zClear v) = 0) || (!decide (¬ nI o1 = 1) || (!decide (nI o1 = 2) || (!decide (nI v = 0) || decide (nI v = nI (zStrip o1 v)))))))) (by decide +kernel) o1 ho1 v hv) c2) c3) c4) c6)), ht⟩) (fun q h => nomatch h) dWire_strip_40
    · refine lv_iload_n hx hb dWire_strip_25 rfl (lv_at hl 1 rfl) ?_
      refine lv_iconst (v := 4) hx hb dWire_strip_26 (by decide) ?_
      refine lv_icmp_eq (tgt := 39) hx hb dWire_strip_27 (by decide) (fun c8 => ?_) (fun c8 => ?_)
      · refine lv_iload_n hx hb dWire_strip_39 rfl (lv_at hl 1 rfl) ?_
        exact W.iret (v := nI v) hx hb hr (fun t ht hW => ⟨_, rfl, (of_decide_eq_true (ib (ib (ib (al2 (N := 4) (M := 9) ((fun o1 v => (!decide (nI (zClear v) = 0) || (!decide (nI o1 = 1) || (!decide (nI v = 4) || decide (nI v = nI (zStrip o1 v))))))) (by decide +kernel) o1 ho1 v hv) c2) c3) c8)), ht⟩) (fun q h => nomatch h) dWire_strip_40
      · refine lv_iload_n hx hb dWire_strip_30 rfl (lv_at hl 0 rfl) ?_
        refine lv_iconst (v := 2) hx hb dWire_strip_31 (by decide) ?_
        refine lv_icmp_ne (tgt := 41) hx hb dWire_strip_32 (by decide) (fun c9 => ?_) (fun c9 => ?_)
        · refine lv_iload_n hx hb dWire_strip_41 rfl (lv_at hl 0 rfl) ?_
          refine lv_iconst (v := 3) hx hb dWire_strip_42 (by decide) ?_
          refine lv_icmp_ne (tgt := 50) hx hb dWire_strip_43 (by decide) (fun c10 => ?_) (fun c10 => ?_)
          · refine lv_iconst (v := 1) hx hb dWire_strip_50 (by decide) ?_
            exact W.iret (v := 1) hx hb hr (fun t ht hW => ⟨_, rfl, (of_decide_eq_true (ib (ib (ib (ib (ib (al2 (N := 4) (M := 9) ((fun o1 v => (!decide (nI (zClear v) = 0) || (!decide (nI o1 = 1) || (!decide (¬ nI v = 4) || (!decide (¬ nI o1 = 2) || (!decide (¬ nI o1 = 3) || decide ((1 : Int32) = nI (zStrip o1 v))))))))) (by decide +kernel) o1 ho1 v hv) c2) c3) c8) c9) c10)), ht⟩) (fun q h => nomatch h) dWire_strip_51
          · refine lv_iconst (v := 2) hx hb dWire_strip_46 (by decide) ?_
            refine lv_goto (tgt := 51) hx hb dWire_strip_47 (by decide) ?_
            exact W.iret (v := 2) hx hb hr (fun t ht hW => ⟨_, rfl, (of_decide_eq_true (ib (ib (ib (ib (ib (al2 (N := 4) (M := 9) ((fun o1 v => (!decide (nI (zClear v) = 0) || (!decide (nI o1 = 1) || (!decide (¬ nI v = 4) || (!decide (¬ nI o1 = 2) || (!decide (nI o1 = 3) || decide ((2 : Int32) = nI (zStrip o1 v))))))))) (by decide +kernel) o1 ho1 v hv) c2) c3) c8) c9) c10)), ht⟩) (fun q h => nomatch h) dWire_strip_51
        · refine lv_iload_n hx hb dWire_strip_35 rfl (lv_at hl 1 rfl) ?_
          refine lv_if_ne (tgt := 41) hx hb dWire_strip_36 (by decide) (fun c11 => ?_) (fun c11 => ?_)
          · refine lv_iload_n hx hb dWire_strip_41 rfl (lv_at hl 0 rfl) ?_
            refine lv_iconst (v := 3) hx hb dWire_strip_42 (by decide) ?_
            refine lv_icmp_ne (tgt := 50) hx hb dWire_strip_43 (by decide) (fun c12 => ?_) (fun c12 => ?_)
            · refine lv_iconst (v := 1) hx hb dWire_strip_50 (by decide) ?_
              exact W.iret (v := 1) hx hb hr (fun t ht hW => ⟨_, rfl, (of_decide_eq_true (ib (ib (ib (ib (ib (ib (al2 (N := 4) (M := 9) ((fun o1 v => (!decide (nI (zClear v) = 0) || (!decide (nI o1 = 1) || (!decide (¬ nI v = 4) || (!decide (nI o1 = 2) || (!decide (¬ nI v = 0) || (!decide (¬ nI o1 = 3) || decide ((1 : Int32) = nI (zStrip o1 v)))))))))) (by decide +kernel) o1 ho1 v hv) c2) c3) c8) c9) c11) c12)), ht⟩) (fun q h => nomatch h) dWire_strip_51
            · refine lv_iconst (v := 2) hx hb dWire_strip_46 (by decide) ?_
              refine lv_goto (tgt := 51) hx hb dWire_strip_47 (by decide) ?_
              exact W.iret (v := 2) hx hb hr (fun t ht hW => ⟨_, rfl, (of_decide_eq_true (ib (ib (ib (ib (ib (ib (al2 (N := 4) (M := 9) ((fun o1 v => (!decide (nI (zClear v) = 0) || (!decide (nI o1 = 1) || (!decide (¬ nI v = 4) || (!decide (nI o1 = 2) || (!decide (¬ nI v = 0) || (!decide (nI o1 = 3) || decide ((2 : Int32) = nI (zStrip o1 v)))))))))) (by decide +kernel) o1 ho1 v hv) c2) c3) c8) c9) c11) c12)), ht⟩) (fun q h => nomatch h) dWire_strip_51
          · refine lv_iload_n hx hb dWire_strip_39 rfl (lv_at hl 1 rfl) ?_
            exact W.iret (v := nI v) hx hb hr (fun t ht hW => ⟨_, rfl, (of_decide_eq_true (ib (ib (ib (ib (ib (al2 (N := 4) (M := 9) ((fun o1 v => (!decide (nI (zClear v) = 0) || (!decide (nI o1 = 1) || (!decide (¬ nI v = 4) || (!decide (nI o1 = 2) || (!decide (nI v = 0) || decide (nI v = nI (zStrip o1 v))))))))) (by decide +kernel) o1 ho1 v hv) c2) c3) c8) c9) c11)), ht⟩) (fun q h => nomatch h) dWire_strip_40
  · refine lv_iload_n hx hb dWire_strip_7 rfl (lv_at hl 1 rfl) ?_
    refine nz_si (As := [.int (nI v)]) (rest := []) S (c_Wire_isLow l v hv) kWire_9 ⟨rfl, rfl, Nat.le_of_ble_eq_true rfl, Nat.le_of_ble_eq_true rfl⟩ ⟨Nat.zero_le _, Nat.zero_le _⟩ (fun _ _ _ _ h => h) (fun _ _ _ => trivial) rfl hl.1 rfl (Nat.le_of_ble_eq_true rfl) dWire_strip_8 (fun r13 er13 => ?_)
    subst er13
    refine lv_if_eq (tgt := 18) hx hb dWire_strip_11 (by decide) (fun c14 => ?_) (fun c14 => ?_)
    · refine lv_iconst (v := 3) hx hb dWire_strip_18 (by decide) ?_
      exact W.iret (v := 3) hx hb hr (fun t ht hW => ⟨_, rfl, (of_decide_eq_true (ib (ib (al2 (N := 4) (M := 9) ((fun o1 v => (!decide (¬ nI (zClear v) = 0) || (!decide (nI (zLow v) = 0) || decide ((3 : Int32) = nI (zStrip o1 v)))))) (by decide +kernel) o1 ho1 v hv) c2) c14)), ht⟩) (fun q h => nomatch h) dWire_strip_19
    · refine lv_iconst (v := 2) hx hb dWire_strip_14 (by decide) ?_
      refine lv_goto (tgt := 19) hx hb dWire_strip_15 (by decide) ?_
      exact W.iret (v := 2) hx hb hr (fun t ht hW => ⟨_, rfl, (of_decide_eq_true (ib (ib (al2 (N := 4) (M := 9) ((fun o1 v => (!decide (¬ nI (zClear v) = 0) || (!decide (¬ nI (zLow v) = 0) || decide ((2 : Int32) = nI (zStrip o1 v)))))) (by decide +kernel) o1 ho1 v hv) c2) c14)), ht⟩) (fun q h => nomatch h) dWire_strip_19
set_option maxHeartbeats 4000000 in
set_option maxRecDepth 100000 in
theorem c_Wire_goTogether (l : Launch) (p1 : Nat) (hp1 : p1 < 9) (q1 : Nat) (hq1 : q1 < 9) : Met l yWire_goTogether (Cond.code yWire_goTogether bWire_goTogether 2 (some .boolean) :: nzG) ({ frames := 1, cells := 0, slots := 0, locals := 20 }) (va_Pc [.int (nI p1), .int (nI q1)] (fun _ => True)) (vp_Si (fun r => r = nI (zMatch p1 q1))) 0 0 (fun _ => False) := by
  refine nz_of (own := RI) (by decide) rfl ?_
  intro p e s m args below meth c S hr hlocks _ hv9
  obtain ⟨rfl, -⟩ := hv9
  have hx := S.1
  have hb := S.2.1
  refine nz_entry (vs := [.int (nI p1), .int (nI q1)]) (n := 2) (lv := [(0, .int (nI p1)), (1, .int (nI q1))]) (Nat.le_of_ble_eq_true rfl) rfl (fun ls hl => ?_)
  refine lv_iload_n hx hb dWire_goTogether_0 rfl (lv_at hl 0 rfl) ?_
  refine lv_bipush (v := 8) hx hb dWire_goTogether_1 (by decide) ?_
  refine lv_icmp_eq (tgt := 40) hx hb dWire_goTogether_3 (by decide) (fun c1 => ?_) (fun c1 => ?_)
  · refine lv_iconst (v := 1) hx hb dWire_goTogether_40 (by decide) ?_
    refine lv_goto (tgt := 45) hx hb dWire_goTogether_41 (by decide) ?_
    exact W.zret (v := 1) hx hb hr rfl (fun t ht hW => ⟨1, rfl, (of_decide_eq_true (ib (al2 (N := 9) (M := 9) ((fun p1 q1 => (!decide (nI p1 = 8) || decide ((1 : Int32) = nI (zMatch p1 q1))))) (by decide +kernel) p1 hp1 q1 hq1) c1)), ht⟩) (fun q h => nomatch h) dWire_goTogether_45
  · refine lv_iload_n hx hb dWire_goTogether_6 rfl (lv_at hl 1 rfl) ?_
    refine lv_bipush (v := 8) hx hb dWire_goTogether_7 (by decide) ?_
    refine lv_icmp_eq (tgt := 40) hx hb dWire_goTogether_9 (by decide) (fun c2 => ?_) (fun c2 => ?_)
    · refine lv_iconst (v := 1) hx hb dWire_goTogether_40 (by decide) ?_
      refine lv_goto (tgt := 45) hx hb dWire_goTogether_41 (by decide) ?_
      exact W.zret (v := 1) hx hb hr rfl (fun t ht hW => ⟨1, rfl, (of_decide_eq_true (ib (ib (al2 (N := 9) (M := 9) ((fun p1 q1 => (!decide (¬ nI p1 = 8) || (!decide (nI q1 = 8) || decide ((1 : Int32) = nI (zMatch p1 q1)))))) (by decide +kernel) p1 hp1 q1 hq1) c1) c2)), ht⟩) (fun q h => nomatch h) dWire_goTogether_45
    · refine lv_iload_n hx hb dWire_goTogether_12 rfl (lv_at hl 0 rfl) ?_
      refine nz_si (As := [.int (nI p1)]) (rest := []) S (c_Wire_isLow l p1 hp1) kWire_9 ⟨rfl, rfl, Nat.le_of_ble_eq_true rfl, Nat.le_of_ble_eq_true rfl⟩ ⟨Nat.zero_le _, Nat.zero_le _⟩ (fun _ _ _ _ h => h) (fun _ _ _ => trivial) rfl hl.1 rfl (Nat.le_of_ble_eq_true rfl) dWire_goTogether_13 (fun r3 er3 => ?_)
      subst er3
      refine lv_if_eq (tgt := 26) hx hb dWire_goTogether_16 (by decide) (fun c4 => ?_) (fun c4 => ?_)
      · refine lv_iload_n hx hb dWire_goTogether_26 rfl (lv_at hl 0 rfl) ?_
        refine nz_si (As := [.int (nI p1)]) (rest := []) S (c_Wire_isHigh l p1 hp1) kWire_15 ⟨rfl, rfl, Nat.le_of_ble_eq_true rfl, Nat.le_of_ble_eq_true rfl⟩ ⟨Nat.zero_le _, Nat.zero_le _⟩ (fun _ _ _ _ h => h) (fun _ _ _ => trivial) rfl hl.1 rfl (Nat.le_of_ble_eq_true rfl) dWire_goTogether_27 (fun r5 er5 => ?_)
        subst er5
        refine lv_if_eq (tgt := 44) hx hb dWire_goTogether_30 (by decide) (fun c6 => ?_) (fun c6 => ?_)
        · refine lv_iconst (v := 0) hx hb dWire_goTogether_44 (by decide) ?_
          exact W.zret (v := 0) hx hb hr rfl (fun t ht hW => ⟨0, rfl, (of_decide_eq_true (ib (ib (ib (ib (al2 (N := 9) (M := 9) ((fun p1 q1 => (!decide (¬ nI p1 = 8) || (!decide (¬ nI q1 = 8) || (!decide (nI (zLow p1) = 0) || (!decide (nI (zHigh p1) = 0) || decide ((0 : Int32) = nI (zMatch p1 q1)))))))) (by decide +kernel) p1 hp1 q1 hq1) c1) c2) c4) c6)), ht⟩) (fun q h => nomatch h) dWire_goTogether_45
        · refine lv_iload_n hx hb dWire_goTogether_33 rfl (lv_at hl 1 rfl) ?_
          refine nz_si (As := [.int (nI q1)]) (rest := []) S (c_Wire_isHigh l q1 hq1) kWire_15 ⟨rfl, rfl, Nat.le_of_ble_eq_true rfl, Nat.le_of_ble_eq_true rfl⟩ ⟨Nat.zero_le _, Nat.zero_le _⟩ (fun _ _ _ _ h => h) (fun _ _ _ => trivial) rfl hl.1 rfl (Nat.le_of_ble_eq_true rfl) dWire_goTogether_34 (fun r7 er7 => ?_)
          subst er7
          refine lv_if_eq (tgt := 44) hx hb dWire_goTogether_37 (by decide) (fun c8 => ?_) (fun c8 => ?_)
          · refine lv_iconst (v := 0) hx hb dWire_goTogether_44 (by decide) ?_
            exact W.zret (v := 0) hx hb hr rfl (fun t ht hW => ⟨0, rfl, (of_decide_eq_true (ib (ib (ib (ib (ib (al2 (N := 9) (M := 9) ((fun p1 q1 => (!decide (¬ nI p1 = 8) || (!decide (¬ nI q1 = 8) || (!decide (nI (zLow p1) = 0) || (!decide (¬ nI (zHigh p1) = 0) || (!decide (nI (zHigh q1) = 0) || decide ((0 : Int32) = nI (zMatch p1 q1))))))))) (by decide +kernel) p1 hp1 q1 hq1) c1) c2) c4) c6) c8)), ht⟩) (fun q h => nomatch h) dWire_goTogether_45
          · refine lv_iconst (v := 1) hx hb dWire_goTogether_40 (by decide) ?_
            refine lv_goto (tgt := 45) hx hb dWire_goTogether_41 (by decide) ?_
            exact W.zret (v := 1) hx hb hr rfl (fun t ht hW => ⟨1, rfl, (of_decide_eq_true (ib (ib (ib (ib (ib (al2 (N := 9) (M := 9) ((fun p1 q1 => (!decide (¬ nI p1 = 8) || (!decide (¬ nI q1 = 8) || (!decide (nI (zLow p1) = 0) || (!decide (¬ nI (zHigh p1) = 0) || (!decide (¬ nI (zHigh q1) = 0) || decide ((1 : Int32) = nI (zMatch p1 q1))))))))) (by decide +kernel) p1 hp1 q1 hq1) c1) c2) c4) c6) c8)), ht⟩) (fun q h => nomatch h) dWire_goTogether_45
      · refine lv_iload_n hx hb dWire_goTogether_19 rfl (lv_at hl 1 rfl) ?_
        refine nz_si (As := [.int (nI q1)]) (rest := []) S (c_Wire_isLow l q1 hq1) kWire_9 ⟨rfl, rfl, Nat.le_of_ble_eq_true rfl, Nat.le_of_ble_eq_true rfl⟩ ⟨Nat.zero_le _, Nat.zero_le _⟩ (fun _ _ _ _ h => h) (fun _ _ _ => trivial) rfl hl.1 rfl (Nat.le_of_ble_eq_true rfl) dWire_goTogether_20 (fun r9 er9 => ?_)
        subst er9
        refine lv_if_ne (tgt := 40) hx hb dWire_goTogether_23 (by decide) (fun c10 => ?_) (fun c10 => ?_)
        · refine lv_iconst (v := 1) hx hb dWire_goTogether_40 (by decide) ?_
          refine lv_goto (tgt := 45) hx hb dWire_goTogether_41 (by decide) ?_
          exact W.zret (v := 1) hx hb hr rfl (fun t ht hW => ⟨1, rfl, (of_decide_eq_true (ib (ib (ib (ib (al2 (N := 9) (M := 9) ((fun p1 q1 => (!decide (¬ nI p1 = 8) || (!decide (¬ nI q1 = 8) || (!decide (¬ nI (zLow p1) = 0) || (!decide (¬ nI (zLow q1) = 0) || decide ((1 : Int32) = nI (zMatch p1 q1)))))))) (by decide +kernel) p1 hp1 q1 hq1) c1) c2) c4) c10)), ht⟩) (fun q h => nomatch h) dWire_goTogether_45
        · refine lv_iload_n hx hb dWire_goTogether_26 rfl (lv_at hl 0 rfl) ?_
          refine nz_si (As := [.int (nI p1)]) (rest := []) S (c_Wire_isHigh l p1 hp1) kWire_15 ⟨rfl, rfl, Nat.le_of_ble_eq_true rfl, Nat.le_of_ble_eq_true rfl⟩ ⟨Nat.zero_le _, Nat.zero_le _⟩ (fun _ _ _ _ h => h) (fun _ _ _ => trivial) rfl hl.1 rfl (Nat.le_of_ble_eq_true rfl) dWire_goTogether_27 (fun r11 er11 => ?_)
          subst er11
          refine lv_if_eq (tgt := 44) hx hb dWire_goTogether_30 (by decide) (fun c12 => ?_) (fun c12 => ?_)
          · refine lv_iconst (v := 0) hx hb dWire_goTogether_44 (by decide) ?_
            exact W.zret (v := 0) hx hb hr rfl (fun t ht hW => ⟨0, rfl, (of_decide_eq_true (ib (ib (ib (ib (ib (al2 (N := 9) (M := 9) ((fun p1 q1 => (!decide (¬ nI p1 = 8) || (!decide (¬ nI q1 = 8) || (!decide (¬ nI (zLow p1) = 0) || (!decide (nI (zLow q1) = 0) || (!decide (nI (zHigh p1) = 0) || decide ((0 : Int32) = nI (zMatch p1 q1))))))))) (by decide +kernel) p1 hp1 q1 hq1) c1) c2) c4) c10) c12)), ht⟩) (fun q h => nomatch h) dWire_goTogether_45
          · refine lv_iload_n hx hb dWire_goTogether_33 rfl (lv_at hl 1 rfl) ?_
            refine nz_si (As := [.int (nI q1)]) (rest := []) S (c_Wire_isHigh l q1 hq1) kWire_15 ⟨rfl, rfl, Nat.le_of_ble_eq_true rfl, Nat.le_of_ble_eq_true rfl⟩ ⟨Nat.zero_le _, Nat.zero_le _⟩ (fun _ _ _ _ h => h) (fun _ _ _ => trivial) rfl hl.1 rfl (Nat.le_of_ble_eq_true rfl) dWire_goTogether_34 (fun r13 er13 => ?_)
            subst er13
            refine lv_if_eq (tgt := 44) hx hb dWire_goTogether_37 (by decide) (fun c14 => ?_) (fun c14 => ?_)
            · refine lv_iconst (v := 0) hx hb dWire_goTogether_44 (by decide) ?_
              exact W.zret (v := 0) hx hb hr rfl (fun t ht hW => ⟨0, rfl, (of_decide_eq_true (ib (ib (ib (ib (ib (ib (al2 (N := 9) (M := 9) ((fun p1 q1 => (!decide (¬ nI p1 = 8) || (!decide (¬ nI q1 = 8) || (!decide (¬ nI (zLow p1) = 0) || (!decide (nI (zLow q1) = 0) || (!decide (¬ nI (zHigh p1) = 0) || (!decide (nI (zHigh q1) = 0) || decide ((0 : Int32) = nI (zMatch p1 q1)))))))))) (by decide +kernel) p1 hp1 q1 hq1) c1) c2) c4) c10) c12) c14)), ht⟩) (fun q h => nomatch h) dWire_goTogether_45
            · refine lv_iconst (v := 1) hx hb dWire_goTogether_40 (by decide) ?_
              refine lv_goto (tgt := 45) hx hb dWire_goTogether_41 (by decide) ?_
              exact W.zret (v := 1) hx hb hr rfl (fun t ht hW => ⟨1, rfl, (of_decide_eq_true (ib (ib (ib (ib (ib (ib (al2 (N := 9) (M := 9) ((fun p1 q1 => (!decide (¬ nI p1 = 8) || (!decide (¬ nI q1 = 8) || (!decide (¬ nI (zLow p1) = 0) || (!decide (nI (zLow q1) = 0) || (!decide (¬ nI (zHigh p1) = 0) || (!decide (¬ nI (zHigh q1) = 0) || decide ((1 : Int32) = nI (zMatch p1 q1)))))))))) (by decide +kernel) p1 hp1 q1 hq1) c1) c2) c4) c10) c12) c14)), ht⟩) (fun q h => nomatch h) dWire_goTogether_45
end
section
set_option maxHeartbeats 4000000 in
set_option maxRecDepth 100000 in
theorem c_Word_last (l : Launch) (D : va_G) (cA cW : ClassId) (T : Nat → Nat) (hT : nvT T) (n : Nat → Nat) (g : Nat → Nat → Nat) (i : Nat) (hi : i < 17) (hn : n i ≤ 64) : Met l yWord_last (Cond.code yWord_last bWord_last 1 (some .int) :: nzG) ({ frames := 0, cells := 0, slots := 0, locals := 0 }) (va_Pc [.ref (T (2 + i))] (nvP D cA cW (nvW cA cW T n g))) (vp_Si (fun r => r = nI (zLast (g i) (n i)))) 0 0 (fun _ => False) := by
  refine nz_of (own := RW) (by decide) rfl ?_
  intro p e s m args below meth c S hr hlocks _ hv9
  obtain ⟨rfl, hP, hK⟩ := hv9
  have hx := S.1
  have hb := S.2.1
  refine nz_entry (vs := [.ref (T (2 + i))]) (n := 1) (lv := [(0, .ref (T (2 + i)))]) (Nat.le_of_ble_eq_true rfl) rfl (fun ls hl => ?_)
  refine lv_aload_n hx hb dWord_last_0 rfl (lv_at hl 0 rfl) ?_
  refine nv_getS S hK hP hi dWord_last_1 ?_
  refine lv_if_ne (tgt := 11) hx hb dWord_last_4 (by decide) (fun c1 => ?_) (fun c1 => ?_)
  · have mc1 : ¬ (n i) = 0 := fun h => c1 ((nI_eq (a := (n i)) (b := 0) (by omega) (by omega)).mpr h)
    refine lv_aload_n hx hb dWord_last_11 rfl (lv_at hl 0 rfl) ?_
    refine nv_getE S hK hP hi dWord_last_12 ?_
    refine lv_aload_n hx hb dWord_last_15 rfl (lv_at hl 0 rfl) ?_
    refine nv_getS S hK hP hi dWord_last_16 ?_
    refine lv_iconst (v := 1) hx hb dWord_last_19 (by decide) ?_
    refine lv_isub hx hb dWord_last_20 ?_
    refine nz_eqi (show nI (n i) - nI 1 = nI (n i - 1) from pk_sub (by omega)) ?_
    refine nv_ald (k := n i - 1) hx hb hK hP hi (by omega) dWord_last_21 ?_
    exact W.iret (v := nI (g i (n i - 1))) hx hb hr (fun t ht hW => ⟨_, rfl, (by rw [show zLast (g i) (n i) = g i (n i - 1) from if_neg mc1]), ht⟩) (fun q h => nomatch h) dWord_last_22
  · have mc1 : (n i) = 0 := (nI_eq (a := (n i)) (b := 0) (by omega) (by omega)).mp c1
    refine lv_iconst (v := 2) hx hb dWord_last_7 (by decide) ?_
    refine lv_goto (tgt := 22) hx hb dWord_last_8 (by decide) ?_
    exact W.iret (v := 2) hx hb hr (fun t ht hW => ⟨_, rfl, (by rw [show zLast (g i) (n i) = 2 from if_pos mc1]; rfl), ht⟩) (fun q h => nomatch h) dWord_last_22
set_option maxHeartbeats 4000000 in
set_option maxRecDepth 100000 in
theorem lp_Word_isClear {p : Program} {e : Env} {s : State} {m : MethodId} {args : Array Value} {below : List Frame} {meth : Method} {c : Code} (l : Launch) (D : va_G) (cA cW : ClassId) (T : Nat → Nat) (hT : nvT T) (n : Nat → Nat) (g : Nat → Nat → Nat) (i : Nat) (hi : i < 17) (hg : ∀ j k, g j k < 9) (hn : n i ≤ 64) (S : CallFix p m c bWord_isClear 2 s args nzG RW) (hr : meth.sig.returnType = (some .boolean)) (hlocks : meth.locks = false) (hK : va_K D vwCl (nvTy cA cW) s) (hP : va_P D vwCl (nvW cA cW T n g) s.heap) : ∀ (fuel : Nat) (k : Nat), k ≤ n i → n i < k + fuel → (∀ j, j < k → zClear (g i j) = 1) → ∀ (ls : Array Slot), lv_has ls 2 [(0, .ref (T (2 + i))), (1, .int (nI k))] → W p l e ({ frames := 2, cells := 0, slots := 0, locals := 40 }) s m args below meth c s.heap [] 0 0 (MQ below (vp_Si (fun r => r = nI (zAll (g i) (n i)))) args s 0 0 (fun _ => False)) (F0 m 2 ls []) := by
  have hx := S.1
  have hb := S.2.1
  intro fuel
  induction fuel with
  | zero =>
    intro k hk hfu hcl
    exact absurd hfu (by omega)
  | succ fuel ih =>
    intro k hk hfu hcl ls hl
    refine lv_iload_n hx hb dWord_isClear_2 rfl (lv_at hl 1 rfl) ?_
    refine lv_aload_n hx hb dWord_isClear_3 rfl (lv_at hl 0 rfl) ?_
    refine nv_getS S hK hP hi dWord_isClear_4 ?_
    refine lv_icmp_ge (tgt := 30) hx hb dWord_isClear_7 (by decide) (fun c1 => ?_) (fun c1 => ?_)
    · have mc1 : (n i) ≤ k := (nI_leI (a := (n i)) (b := k) (by omega) (by omega)).mp c1
      refine lv_iconst (v := 1) hx hb dWord_isClear_30 (by decide) ?_
      exact W.zret (v := 1) hx hb hr rfl (fun t ht hW => ⟨_, rfl, (by rw [show zAll (g i) (n i) = 1 from if_pos (fun j hj => hcl j (by omega))]; rfl), ht⟩) (fun q h => nomatch h) dWord_isClear_31
    · have mc1 : k < (n i) := Nat.lt_of_not_le (fun h => c1 ((nI_leI (a := (n i)) (b := k) (by omega) (by omega)).mpr h))
      refine lv_aload_n hx hb dWord_isClear_10 rfl (lv_at hl 0 rfl) ?_
      refine nv_getE S hK hP hi dWord_isClear_11 ?_
      refine lv_iload_n hx hb dWord_isClear_14 rfl (lv_at hl 1 rfl) ?_
      refine nv_ald (k := k) hx hb hK hP hi (by omega) dWord_isClear_15 ?_
      refine nz_si (As := [.int (nI (g i k))]) (rest := []) S (c_Wire_isClear l (g i k) (hg i k)) kWord_23 ⟨rfl, rfl, Nat.le_of_ble_eq_true rfl, Nat.le_of_ble_eq_true rfl⟩ ⟨Nat.zero_le _, Nat.zero_le _⟩ (fun _ _ _ _ h => h) (fun _ _ _ => trivial) rfl hl.1 rfl (Nat.le_of_ble_eq_true rfl) dWord_isClear_16 (fun r2 er2 => ?_)
      subst er2
      refine lv_if_ne (tgt := 24) hx hb dWord_isClear_19 (by decide) (fun c3 => ?_) (fun c3 => ?_)
      · refine lv_iinc (v := nI (k + 1)) (lv' := [(1, .int (nI (k + 1))), (0, .ref (T (2 + i)))]) hx hb dWord_isClear_24 hl (k := 1) rfl (nI_1 k) (by decide) rfl (fun ls hl => ?_)
        refine lv_goto (tgt := 2) hx hb dWord_isClear_27 (by decide) ?_
        refine ih (k + 1) (by omega) (by omega) (fun j hj => ?_) ls (lv_sub hl [1, 0] rfl)
        rcases Nat.lt_or_ge j k with q | q
        · exact hcl j q
        · rw [show j = k by omega]; exact (by decide +kernel : ∀ v, v < 9 → ¬ nI (zClear v) = 0 → zClear v = 1) _ (hg i k) c3
      · refine lv_iconst (v := 0) hx hb dWord_isClear_22 (by decide) ?_
        exact W.zret (v := 0) hx hb hr rfl (fun t ht hW => ⟨_, rfl, (by rw [show zAll (g i) (n i) = 0 from if_neg (fun q => absurd (q k (by omega)) ((by decide +kernel : ∀ v, v < 9 → nI (zClear v) = 0 → ¬ zClear v = 1) _ (hg i k) c3))]; rfl), ht⟩) (fun q h => nomatch h) dWord_isClear_23
set_option maxHeartbeats 4000000 in
set_option maxRecDepth 100000 in
theorem c_Word_isClear (l : Launch) (D : va_G) (cA cW : ClassId) (T : Nat → Nat) (hT : nvT T) (n : Nat → Nat) (g : Nat → Nat → Nat) (i : Nat) (hi : i < 17) (hg : ∀ j k, g j k < 9) (hn : n i ≤ 64) : Met l yWord_isClear (Cond.code yWord_isClear bWord_isClear 2 (some .boolean) :: nzG) ({ frames := 2, cells := 0, slots := 0, locals := 40 }) (va_Pc [.ref (T (2 + i))] (nvP D cA cW (nvW cA cW T n g))) (vp_Si (fun r => r = nI (zAll (g i) (n i)))) 0 0 (fun _ => False) := by
  refine nz_of (own := RW) (by decide) rfl ?_
  intro p e s m args below meth c S hr hlocks _ hv9
  obtain ⟨rfl, hP, hK⟩ := hv9
  have hx := S.1
  have hb := S.2.1
  refine nz_entry (vs := [.ref (T (2 + i))]) (n := 2) (lv := [(0, .ref (T (2 + i)))]) (Nat.le_of_ble_eq_true rfl) rfl (fun ls hl => ?_)
  refine lv_iconst (v := 0) hx hb dWord_isClear_0 (by decide) ?_
  refine lv_istore_n (lv' := [(1, .int 0), (0, .ref (T (2 + i)))]) hx hb dWord_isClear_1 rfl hl (by decide) rfl (fun ls hl => ?_)
  exact lp_Word_isClear l D cA cW T hT n g i hi hg hn S hr hlocks hK hP (n i + 1) 0 (by omega) (by omega) (fun j hj => absurd hj (by omega)) ls (lv_sub hl [1, 0] rfl)
set_option maxHeartbeats 4000000 in
set_option maxRecDepth 100000 in
theorem c_Word_counts (l : Launch) (D : va_G) (cA cW : ClassId) (T : Nat → Nat) (hT : nvT T) (n : Nat → Nat) (g : Nat → Nat → Nat) (i : Nat) (hi : i < 17) (hg : ∀ j k, g j k < 9) (hn : n i ≤ 64) : Met l yWord_counts (Cond.code yWord_counts bWord_counts 1 (some .boolean) :: nzG) ({ frames := 3, cells := 0, slots := 0, locals := 61 }) (va_Pc [.ref (T (2 + i))] (nvP D cA cW (nvW cA cW T n g))) (vp_Si (fun r => r = nI (zCnt (g i) (n i)))) 0 0 (fun _ => False) := by
  refine nz_of (own := RW) (by decide) rfl ?_
  intro p e s m args below meth c S hr hlocks _ hv9
  obtain ⟨rfl, hP, hK⟩ := hv9
  have hx := S.1
  have hb := S.2.1
  refine nz_entry (vs := [.ref (T (2 + i))]) (n := 1) (lv := [(0, .ref (T (2 + i)))]) (Nat.le_of_ble_eq_true rfl) rfl (fun ls hl => ?_)
  refine lv_aload_n hx hb dWord_counts_0 rfl (lv_at hl 0 rfl) ?_
  refine nv_getS S hK hP hi dWord_counts_1 ?_
  refine lv_if_le (tgt := 18) hx hb dWord_counts_4 (by decide) (fun c1 => ?_) (fun c1 => ?_)
  · have mc1 : (n i) ≤ 0 := (nI_leI (a := (n i)) (b := 0) (by omega) (by omega)).mp c1
    refine lv_iconst (v := 0) hx hb dWord_counts_18 (by decide) ?_
    exact W.zret (v := 0) hx hb hr rfl (fun t ht hW => ⟨_, rfl, (zCnt_0 mc1), ht⟩) (fun q h => nomatch h) dWord_counts_19
  · have mc1 : 0 < (n i) := Nat.lt_of_not_le (fun h => c1 ((nI_leI (a := (n i)) (b := 0) (by omega) (by omega)).mpr h))
    refine lv_aload_n hx hb dWord_counts_7 rfl (lv_at hl 0 rfl) ?_
    refine nz_vi (As := []) (rest := []) S (c_Word_isClear l D cA cW T hT n g i hi hg hn) kWord_29 ⟨rfl, rfl, Nat.le_of_ble_eq_true rfl, Nat.le_of_ble_eq_true rfl⟩ ⟨Nat.zero_le _, Nat.zero_le _⟩ nvP.bl (nv_ob hK hP hi) (nvP.to hP hK) rfl hl.1 rfl (Nat.le_of_ble_eq_true rfl) dWord_counts_8 (fun r2 er2 => ?_)
    subst er2
    refine lv_if_eq (tgt := 18) hx hb dWord_counts_11 (by decide) (fun c3 => ?_) (fun c3 => ?_)
    · refine lv_iconst (v := 0) hx hb dWord_counts_18 (by decide) ?_
      exact W.zret (v := 0) hx hb hr rfl (fun t ht hW => ⟨_, rfl, (zCnt_2 c3), ht⟩) (fun q h => nomatch h) dWord_counts_19
    · refine lv_iconst (v := 1) hx hb dWord_counts_14 (by decide) ?_
      refine lv_goto (tgt := 19) hx hb dWord_counts_15 (by decide) ?_
      exact W.zret (v := 1) hx hb hr rfl (fun t ht hW => ⟨_, rfl, (zCnt_1 mc1 c3), ht⟩) (fun q h => nomatch h) dWord_counts_19
set_option maxHeartbeats 4000000 in
set_option maxRecDepth 100000 in
theorem lp_Word_asLong {p : Program} {e : Env} {s : State} {m : MethodId} {args : Array Value} {below : List Frame} {meth : Method} {c : Code} (l : Launch) (D : va_G) (cA cW : ClassId) (T : Nat → Nat) (hT : nvT T) (n : Nat → Nat) (g : Nat → Nat → Nat) (i : Nat) (hi : i < 17) (hg : ∀ j k, g j k < 9) (hn : n i ≤ 64) (b1 : Nat) (hb1 : b1 < 2) (S : CallFix p m c bWord_asLong 7 s args nzG RW) (hr : meth.sig.returnType = (some .long)) (hlocks : meth.locks = false) (hK : va_K D vwCl (nvTy cA cW) s) (hP : va_P D vwCl (nvW cA cW T n g) s.heap) : ∀ (fuel : Nat) (k : Nat), k ≤ zB b1 (n i) → zB b1 (n i) < k + fuel → ∀ (ls : Array Slot), lv_has ls 7 [(0, .ref (T (2 + i))), (1, .int (nI b1)), (2, .long (lN (zNum (zExt (g i) (n i)) k))), (4, .int (nI (zB b1 (n i)))), (5, .int (nI k))] → W p l e ({ frames := 1, cells := 0, slots := 0, locals := 20 }) s m args below meth c s.heap [] 0 0 (MQ below (vp_Sl (fun r => r = lN (zLong b1 (g i) (n i)))) args s 0 0 (fun _ => False)) (F0 m 20 ls []) := by
  have hx := S.1
  have hb := S.2.1
  have hB : zB b1 (n i) ≤ 64 := zB_le b1 hn
  intro fuel
  induction fuel with
  | zero =>
    intro k hk hfu
    exact absurd hfu (by omega)
  | succ fuel ih =>
    intro k hk hfu ls hl
    refine lv_iload hx hb dWord_asLong_20 (lv_at hl 4 rfl) ?_
    refine lv_iload hx hb dWord_asLong_22 (lv_at hl 3 rfl) ?_
    refine lv_icmp_ge (tgt := 73) hx hb dWord_asLong_24 (by decide) (fun c1 => ?_) (fun c1 => ?_)
    · have mc1 : (zB b1 (n i)) ≤ k := (nI_leI (a := (zB b1 (n i))) (b := k) (by omega) (by omega)).mp c1
      refine lv_lload_n hx hb dWord_asLong_73 rfl (lv_at hl 2 rfl) ?_
      exact W.lret (v := lN (zNum (zExt (g i) (n i)) k)) hx hb hr (fun t ht hW => ⟨_, rfl, (by rw [show k = zB b1 (n i) by omega]; rfl), ht⟩) (fun q h => nomatch h) dWord_asLong_74
    · have mc1 : k < (zB b1 (n i)) := Nat.lt_of_not_le (fun h => c1 ((nI_leI (a := (zB b1 (n i))) (b := k) (by omega) (by omega)).mpr h))
      refine lv_iload hx hb dWord_asLong_27 (lv_at hl 4 rfl) ?_
      refine lv_aload_n hx hb dWord_asLong_29 rfl (lv_at hl 0 rfl) ?_
      refine nv_getS S hK hP hi dWord_asLong_30 ?_
      refine lv_icmp_ge (tgt := 46) hx hb dWord_asLong_33 (by decide) (fun c2 => ?_) (fun c2 => ?_)
      · have mc2 : (n i) ≤ k := (nI_leI (a := (n i)) (b := k) (by omega) (by omega)).mp c2
        refine lv_aload_n hx hb dWord_asLong_46 rfl (lv_at hl 0 rfl) ?_
        refine nz_vi (As := []) (rest := []) S (c_Word_last l D cA cW T hT n g i hi hn) kWord_32 ⟨rfl, rfl, Nat.le_of_ble_eq_true rfl, Nat.le_of_ble_eq_true rfl⟩ ⟨Nat.zero_le _, Nat.zero_le _⟩ nvP.bl (nv_ob hK hP hi) (nvP.to hP hK) rfl hl.1 rfl (Nat.le_of_ble_eq_true rfl) dWord_asLong_47 (fun r3 er3 => ?_)
        subst er3
        refine lv_istore (lv' := [(6, .int (nI (zLast (g i) (n i)))), (0, .ref (T (2 + i))), (1, .int (nI b1)), (2, .long (lN (zNum (zExt (g i) (n i)) k))), (4, .int (nI (zB b1 (n i)))), (5, .int (nI k))]) hx hb dWord_asLong_50 hl (by decide) rfl (fun ls hl => ?_)
        refine lv_iload hx hb dWord_asLong_52 (lv_at hl 0 rfl) ?_
        refine nz_si (As := [.int (nI (zLast (g i) (n i)))]) (rest := []) S (c_Wire_isHigh l (zLast (g i) (n i)) (zLast_lt (hg i) (n i))) kWord_36 ⟨rfl, rfl, Nat.le_of_ble_eq_true rfl, Nat.le_of_ble_eq_true rfl⟩ ⟨Nat.zero_le _, Nat.zero_le _⟩ (fun _ _ _ _ h => h) (fun _ _ _ => trivial) rfl hl.1 rfl (Nat.le_of_ble_eq_true rfl) dWord_asLong_54 (fun r4 er4 => ?_)
        subst er4
        refine lv_if_eq (tgt := 67) hx hb dWord_asLong_57 (by decide) (fun c5 => ?_) (fun c5 => ?_)
        · refine lv_iinc (v := nI (k + 1)) (lv' := [(5, .int (nI (k + 1))), (6, .int (nI (zLast (g i) (n i)))), (0, .ref (T (2 + i))), (1, .int (nI b1)), (2, .long (lN (zNum (zExt (g i) (n i)) k))), (4, .int (nI (zB b1 (n i))))]) hx hb dWord_asLong_67 hl (k := 5) rfl (nI_1 k) (by decide) rfl (fun ls hl => ?_)
          refine lv_goto (tgt := 20) hx hb dWord_asLong_70 (by decide) ?_
          rw [← zNum_s0 (f := (zExt (g i) (n i))) (k := k) (by rw [zExt_out mc2]; exact (by decide +kernel : ∀ v, v < 9 → nI (zHigh v) = 0 → zHigh v = 0) _ (zLast_lt (hg i) (n i)) c5)] at hl
          exact ih (k + 1) (by omega) (by omega) ls (lv_sub hl [2, 3, 4, 5, 0] rfl)
        · refine lv_lload_n hx hb dWord_asLong_60 rfl (lv_at hl 3 rfl) ?_
          refine lv_lconst (v := 1) hx hb dWord_asLong_61 (by decide) ?_
          refine lv_iload hx hb dWord_asLong_62 (lv_at hl 5 rfl) ?_
          refine lv_lshl (v := lN (2 ^ k)) hx hb dWord_asLong_64 (zShl1 (by omega)) ?_
          refine lv_lor hx hb dWord_asLong_65 ?_
          refine nz_eql (zNum_s1 (f := (zExt (g i) (n i))) (k := k) (by omega) (by rw [zExt_out mc2]; exact (by decide +kernel : ∀ v, v < 9 → ¬ nI (zHigh v) = 0 → zHigh v = 1) _ (zLast_lt (hg i) (n i)) c5)) ?_
          refine lv_lstore_n (lv' := [(2, .long (lN (zNum (zExt (g i) (n i)) (k + 1)))), (6, .int (nI (zLast (g i) (n i)))), (0, .ref (T (2 + i))), (1, .int (nI b1)), (4, .int (nI (zB b1 (n i)))), (5, .int (nI k))]) hx hb dWord_asLong_66 rfl hl (by decide) rfl (fun ls hl => ?_)
          refine lv_iinc (v := nI (k + 1)) (lv' := [(5, .int (nI (k + 1))), (2, .long (lN (zNum (zExt (g i) (n i)) (k + 1)))), (6, .int (nI (zLast (g i) (n i)))), (0, .ref (T (2 + i))), (1, .int (nI b1)), (4, .int (nI (zB b1 (n i))))]) hx hb dWord_asLong_67 hl (k := 5) rfl (nI_1 k) (by decide) rfl (fun ls hl => ?_)
          refine lv_goto (tgt := 20) hx hb dWord_asLong_70 (by decide) ?_
          exact ih (k + 1) (by omega) (by omega) ls (lv_sub hl [3, 4, 1, 5, 0] rfl)
      · have mc2 : k < (n i) := Nat.lt_of_not_le (fun h => c2 ((nI_leI (a := (n i)) (b := k) (by omega) (by omega)).mpr h))
        refine lv_aload_n hx hb dWord_asLong_36 rfl (lv_at hl 0 rfl) ?_
        refine nv_getE S hK hP hi dWord_asLong_37 ?_
        refine lv_iload hx hb dWord_asLong_40 (lv_at hl 4 rfl) ?_
        refine nv_ald (k := k) hx hb hK hP hi (by omega) dWord_asLong_42 ?_
        refine lv_goto (tgt := 50) hx hb dWord_asLong_43 (by decide) ?_
        refine lv_istore (lv' := [(6, .int (nI (g i k))), (0, .ref (T (2 + i))), (1, .int (nI b1)), (2, .long (lN (zNum (zExt (g i) (n i)) k))), (4, .int (nI (zB b1 (n i)))), (5, .int (nI k))]) hx hb dWord_asLong_50 hl (by decide) rfl (fun ls hl => ?_)
        refine lv_iload hx hb dWord_asLong_52 (lv_at hl 0 rfl) ?_
        refine nz_si (As := [.int (nI (g i k))]) (rest := []) S (c_Wire_isHigh l (g i k) (hg i k)) kWord_36 ⟨rfl, rfl, Nat.le_of_ble_eq_true rfl, Nat.le_of_ble_eq_true rfl⟩ ⟨Nat.zero_le _, Nat.zero_le _⟩ (fun _ _ _ _ h => h) (fun _ _ _ => trivial) rfl hl.1 rfl (Nat.le_of_ble_eq_true rfl) dWord_asLong_54 (fun r6 er6 => ?_)
        subst er6
        refine lv_if_eq (tgt := 67) hx hb dWord_asLong_57 (by decide) (fun c7 => ?_) (fun c7 => ?_)
        · refine lv_iinc (v := nI (k + 1)) (lv' := [(5, .int (nI (k + 1))), (6, .int (nI (g i k))), (0, .ref (T (2 + i))), (1, .int (nI b1)), (2, .long (lN (zNum (zExt (g i) (n i)) k))), (4, .int (nI (zB b1 (n i))))]) hx hb dWord_asLong_67 hl (k := 5) rfl (nI_1 k) (by decide) rfl (fun ls hl => ?_)
          refine lv_goto (tgt := 20) hx hb dWord_asLong_70 (by decide) ?_
          rw [← zNum_s0 (f := (zExt (g i) (n i))) (k := k) (by rw [zExt_in mc2]; exact (by decide +kernel : ∀ v, v < 9 → nI (zHigh v) = 0 → zHigh v = 0) _ (hg i k) c7)] at hl
          exact ih (k + 1) (by omega) (by omega) ls (lv_sub hl [2, 3, 4, 5, 0] rfl)
        · refine lv_lload_n hx hb dWord_asLong_60 rfl (lv_at hl 3 rfl) ?_
          refine lv_lconst (v := 1) hx hb dWord_asLong_61 (by decide) ?_
          refine lv_iload hx hb dWord_asLong_62 (lv_at hl 5 rfl) ?_
          refine lv_lshl (v := lN (2 ^ k)) hx hb dWord_asLong_64 (zShl1 (by omega)) ?_
          refine lv_lor hx hb dWord_asLong_65 ?_
          refine nz_eql (zNum_s1 (f := (zExt (g i) (n i))) (k := k) (by omega) (by rw [zExt_in mc2]; exact (by decide +kernel : ∀ v, v < 9 → ¬ nI (zHigh v) = 0 → zHigh v = 1) _ (hg i k) c7)) ?_
          refine lv_lstore_n (lv' := [(2, .long (lN (zNum (zExt (g i) (n i)) (k + 1)))), (6, .int (nI (g i k))), (0, .ref (T (2 + i))), (1, .int (nI b1)), (4, .int (nI (zB b1 (n i)))), (5, .int (nI k))]) hx hb dWord_asLong_66 rfl hl (by decide) rfl (fun ls hl => ?_)
          refine lv_iinc (v := nI (k + 1)) (lv' := [(5, .int (nI (k + 1))), (2, .long (lN (zNum (zExt (g i) (n i)) (k + 1)))), (6, .int (nI (g i k))), (0, .ref (T (2 + i))), (1, .int (nI b1)), (4, .int (nI (zB b1 (n i))))]) hx hb dWord_asLong_67 hl (k := 5) rfl (nI_1 k) (by decide) rfl (fun ls hl => ?_)
          refine lv_goto (tgt := 20) hx hb dWord_asLong_70 (by decide) ?_
          exact ih (k + 1) (by omega) (by omega) ls (lv_sub hl [3, 4, 1, 5, 0] rfl)
set_option maxHeartbeats 4000000 in
set_option maxRecDepth 100000 in
theorem c_Word_asLong (l : Launch) (D : va_G) (cA cW : ClassId) (T : Nat → Nat) (hT : nvT T) (n : Nat → Nat) (g : Nat → Nat → Nat) (i : Nat) (hi : i < 17) (hg : ∀ j k, g j k < 9) (hn : n i ≤ 64) (b1 : Nat) (hb1 : b1 < 2) : Met l yWord_asLong (Cond.code yWord_asLong bWord_asLong 7 (some .long) :: nzG) ({ frames := 1, cells := 0, slots := 0, locals := 20 }) (va_Pc [.ref (T (2 + i)), .int (nI b1)] (nvP D cA cW (nvW cA cW T n g))) (vp_Sl (fun r => r = lN (zLong b1 (g i) (n i)))) 0 0 (fun _ => False) := by
  refine nz_of (own := RW) (by decide) rfl ?_
  intro p e s m args below meth c S hr hlocks _ hv9
  obtain ⟨rfl, hP, hK⟩ := hv9
  have hx := S.1
  have hb := S.2.1
  refine nz_entry (vs := [.ref (T (2 + i)), .int (nI b1)]) (n := 7) (lv := [(0, .ref (T (2 + i))), (1, .int (nI b1))]) (Nat.le_of_ble_eq_true rfl) rfl (fun ls hl => ?_)
  refine lv_lconst (v := 0) hx hb dWord_asLong_0 (by decide) ?_
  refine lv_lstore_n (lv' := [(2, .long 0), (0, .ref (T (2 + i))), (1, .int (nI b1))]) hx hb dWord_asLong_1 rfl hl (by decide) rfl (fun ls hl => ?_)
  refine lv_iload_n hx hb dWord_asLong_2 rfl (lv_at hl 2 rfl) ?_
  refine lv_if_eq (tgt := 11) hx hb dWord_asLong_3 (by decide) (fun c1 => ?_) (fun c1 => ?_)
  · have mc1 : b1 = 0 := (nI_eq (a := b1) (b := 0) (by omega) (by omega)).mp c1
    refine lv_aload_n hx hb dWord_asLong_11 rfl (lv_at hl 1 rfl) ?_
    refine nv_getS S hK hP hi dWord_asLong_12 ?_
    refine lv_istore (lv' := [(4, .int (nI (n i))), (2, .long 0), (0, .ref (T (2 + i))), (1, .int (nI b1))]) hx hb dWord_asLong_15 hl (by decide) rfl (fun ls hl => ?_)
    refine lv_iconst (v := 0) hx hb dWord_asLong_17 (by decide) ?_
    refine lv_istore (lv' := [(5, .int 0), (4, .int (nI (n i))), (2, .long 0), (0, .ref (T (2 + i))), (1, .int (nI b1))]) hx hb dWord_asLong_18 hl (by decide) rfl (fun ls hl => ?_)
    rw [show nI (n i) = nI (zB b1 (n i)) by rw [show zB b1 (n i) = n i from if_neg (by omega)]] at hl
    exact lp_Word_asLong l D cA cW T hT n g i hi hg hn b1 hb1 S hr hlocks hK hP (zB b1 (n i) + 1) 0 (by omega) (by omega) ls (lv_sub hl [3, 4, 2, 1, 0] rfl)
  · have mc1 : ¬ b1 = 0 := fun h => c1 ((nI_eq (a := b1) (b := 0) (by omega) (by omega)).mpr h)
    refine lv_bipush (v := 64) hx hb dWord_asLong_6 (by decide) ?_
    refine lv_goto (tgt := 15) hx hb dWord_asLong_8 (by decide) ?_
    refine lv_istore (lv' := [(4, .int 64), (2, .long 0), (0, .ref (T (2 + i))), (1, .int (nI b1))]) hx hb dWord_asLong_15 hl (by decide) rfl (fun ls hl => ?_)
    refine lv_iconst (v := 0) hx hb dWord_asLong_17 (by decide) ?_
    refine lv_istore (lv' := [(5, .int 0), (4, .int 64), (2, .long 0), (0, .ref (T (2 + i))), (1, .int (nI b1))]) hx hb dWord_asLong_18 hl (by decide) rfl (fun ls hl => ?_)
    rw [show (64 : Int32) = nI (zB b1 (n i)) by rw [show zB b1 (n i) = 64 from if_pos (by omega)]; rfl] at hl
    exact lp_Word_asLong l D cA cW T hT n g i hi hg hn b1 hb1 S hr hlocks hK hP (zB b1 (n i) + 1) 0 (by omega) (by omega) ls (lv_sub hl [3, 4, 2, 1, 0] rfl)
set_option maxHeartbeats 4000000 in
set_option maxRecDepth 100000 in
theorem lp_Word_joined {p : Program} {e : Env} {s : State} {m : MethodId} {args : Array Value} {below : List Frame} {meth : Method} {c : Code} (l : Launch) (D : va_G) (cA cW : ClassId) (T : Nat → Nat) (hT : nvT T) (n : Nat → Nat) (g : Nat → Nat → Nat) (i : Nat) (hi : i < 17) (hg : ∀ j k, g j k < 9) (hn : n i ≤ 64) (o1 : Nat) (ho1 : o1 < 7) (v1 : Nat) (hv1 : v1 < 9) (S : CallFix p m c bWord_joined 5 s args nzG RW) (hr : meth.sig.returnType = (some .int)) (hlocks : meth.locks = false) (hK : va_K D vwCl (nvTy cA cW) s) (hP : va_P D vwCl (nvW cA cW T n g) s.heap) : ∀ (fuel : Nat) (k : Nat), k ≤ n i → n i < k + fuel → ∀ (ls : Array Slot), lv_has ls 5 [(0, .ref (T (2 + i))), (1, .int (nI o1)), (3, .int (nI (zFold o1 v1 (g i) k))), (4, .int (nI k))] → W p l e ({ frames := 4, cells := 0, slots := 0, locals := 83 }) s m args below meth c s.heap [] 0 0 (MQ below (vp_Si (fun r => r = nI (zFold o1 v1 (g i) (n i)))) args s 0 0 (fun _ => False)) (F0 m 5 ls []) := by
  have hx := S.1
  have hb := S.2.1
  intro fuel
  induction fuel with
  | zero =>
    intro k hk hfu
    exact absurd hfu (by omega)
  | succ fuel ih =>
    intro k hk hfu ls hl
    refine lv_iload hx hb dWord_joined_5 (lv_at hl 3 rfl) ?_
    refine lv_aload_n hx hb dWord_joined_7 rfl (lv_at hl 0 rfl) ?_
    refine nv_getS S hK hP hi dWord_joined_8 ?_
    refine lv_icmp_ge (tgt := 33) hx hb dWord_joined_11 (by decide) (fun c1 => ?_) (fun c1 => ?_)
    · have mc1 : (n i) ≤ k := (nI_leI (a := (n i)) (b := k) (by omega) (by omega)).mp c1
      refine lv_iload_n hx hb dWord_joined_33 rfl (lv_at hl 2 rfl) ?_
      exact W.iret (v := nI (zFold o1 v1 (g i) k)) hx hb hr (fun t ht hW => ⟨_, rfl, (by rw [show k = n i by omega]), ht⟩) (fun q h => nomatch h) dWord_joined_34
    · have mc1 : k < (n i) := Nat.lt_of_not_le (fun h => c1 ((nI_leI (a := (n i)) (b := k) (by omega) (by omega)).mpr h))
      refine lv_iload_n hx hb dWord_joined_14 rfl (lv_at hl 1 rfl) ?_
      refine lv_iload_n hx hb dWord_joined_15 rfl (lv_at hl 2 rfl) ?_
      refine lv_aload_n hx hb dWord_joined_16 rfl (lv_at hl 0 rfl) ?_
      refine nv_getE S hK hP hi dWord_joined_17 ?_
      refine lv_iload hx hb dWord_joined_20 (lv_at hl 3 rfl) ?_
      refine nv_ald (k := k) hx hb hK hP hi (by omega) dWord_joined_22 ?_
      refine nz_si (As := [.int (nI o1), .int (nI (zFold o1 v1 (g i) k)), .int (nI (g i k))]) (rest := []) S (c_Wire_join l o1 ho1 (zFold o1 v1 (g i) k) (zFold_lt ho1 hv1 (hg i) k) (g i k) (hg i k)) kWord_39 ⟨rfl, rfl, Nat.le_of_ble_eq_true rfl, Nat.le_of_ble_eq_true rfl⟩ ⟨Nat.zero_le _, Nat.zero_le _⟩ (fun _ _ _ _ h => h) (fun _ _ _ => trivial) rfl hl.1 rfl (Nat.le_of_ble_eq_true rfl) dWord_joined_23 (fun r2 er2 => ?_)
      subst er2
      refine lv_istore_n (lv' := [(3, .int (nI (zJoin o1 (zFold o1 v1 (g i) k) (g i k)))), (0, .ref (T (2 + i))), (1, .int (nI o1)), (4, .int (nI k))]) hx hb dWord_joined_26 rfl hl (by decide) rfl (fun ls hl => ?_)
      refine lv_iinc (v := nI (k + 1)) (lv' := [(4, .int (nI (k + 1))), (3, .int (nI (zJoin o1 (zFold o1 v1 (g i) k) (g i k)))), (0, .ref (T (2 + i))), (1, .int (nI o1))]) hx hb dWord_joined_27 hl (k := 3) rfl (nI_1 k) (by decide) rfl (fun ls hl => ?_)
      refine lv_goto (tgt := 5) hx hb dWord_joined_30 (by decide) ?_
      exact ih (k + 1) (by omega) (by omega) ls (lv_sub hl [2, 3, 1, 0] rfl)
set_option maxHeartbeats 4000000 in
set_option maxRecDepth 100000 in
theorem c_Word_joined (l : Launch) (D : va_G) (cA cW : ClassId) (T : Nat → Nat) (hT : nvT T) (n : Nat → Nat) (g : Nat → Nat → Nat) (i : Nat) (hi : i < 17) (hg : ∀ j k, g j k < 9) (hn : n i ≤ 64) (o1 : Nat) (ho1 : o1 < 7) (v1 : Nat) (hv1 : v1 < 9) : Met l yWord_joined (Cond.code yWord_joined bWord_joined 5 (some .int) :: nzG) ({ frames := 4, cells := 0, slots := 0, locals := 83 }) (va_Pc [.ref (T (2 + i)), .int (nI o1), .int (nI v1)] (nvP D cA cW (nvW cA cW T n g))) (vp_Si (fun r => r = nI (zFold o1 v1 (g i) (n i)))) 0 0 (fun _ => False) := by
  refine nz_of (own := RW) (by decide) rfl ?_
  intro p e s m args below meth c S hr hlocks _ hv9
  obtain ⟨rfl, hP, hK⟩ := hv9
  have hx := S.1
  have hb := S.2.1
  refine nz_entry (vs := [.ref (T (2 + i)), .int (nI o1), .int (nI v1)]) (n := 5) (lv := [(0, .ref (T (2 + i))), (1, .int (nI o1)), (2, .int (nI v1))]) (Nat.le_of_ble_eq_true rfl) rfl (fun ls hl => ?_)
  refine lv_iload_n hx hb dWord_joined_0 rfl (lv_at hl 2 rfl) ?_
  refine lv_istore_n (lv' := [(3, .int (nI v1)), (0, .ref (T (2 + i))), (1, .int (nI o1)), (2, .int (nI v1))]) hx hb dWord_joined_1 rfl hl (by decide) rfl (fun ls hl => ?_)
  refine lv_iconst (v := 0) hx hb dWord_joined_2 (by decide) ?_
  refine lv_istore (lv' := [(4, .int 0), (3, .int (nI v1)), (0, .ref (T (2 + i))), (1, .int (nI o1)), (2, .int (nI v1))]) hx hb dWord_joined_3 hl (by decide) rfl (fun ls hl => ?_)
  exact lp_Word_joined l D cA cW T hT n g i hi hg hn o1 ho1 v1 hv1 S hr hlocks hK hP (n i + 1) 0 (by omega) (by omega) ls (lv_sub hl [2, 3, 1, 0] rfl)
set_option maxHeartbeats 4000000 in
set_option maxRecDepth 100000 in
theorem lp_Word_become {p : Program} {e : Env} {s : State} {m : MethodId} {args : Array Value} {below : List Frame} {meth : Method} {c : Code} (l : Launch) (D : va_G) (cA cW : ClassId) (T : Nat → Nat) (hT : nvT T) (n : Nat → Nat) (g : Nat → Nat → Nat) (i : Nat) (hi : i < 17) (N : Nat) (hN : N ≤ 64) (v1 : Nat) (S : CallFix p m c bWord_become 4 s args nzG RW) (hr : meth.sig.returnType = none) (hlocks : meth.locks = false) (hK : va_K D vwCl (nvTy cA cW) s) : ∀ (fuel : Nat) (k : Nat), k ≤ N → N < k + fuel → ∀ (H : Heap) (locs : List Loc), va_P D vwCl (nvW cA cW T (va_up n i N) (va_up g i (pov (fun _ => v1) (g i) 0 k))) H → va_S (nvA T) s.heap H locs → ∀ (ls : Array Slot), lv_has ls 4 [(0, .ref (T (2 + i))), (1, .int (nI N)), (2, .int (nI v1)), (3, .int (nI k))] → W p l e ({ frames := 0, cells := 0, slots := 0, locals := 0 }) s m args below meth c H locs 0 0 (MQ below (va_Qv (fun _ : Unit => True) (fun _ t => va_P D vwCl (nvW cA cW T (va_up n i N) (va_up g i (pov (fun _ => v1) (g i) 0 N))) t.heap) (nvA T)) args s 0 0 (nvA T)) (F0 m 7 ls []) := by
  have hx := S.1
  have hb := S.2.1
  intro fuel
  induction fuel with
  | zero =>
    intro k hk hfu
    exact absurd hfu (by omega)
  | succ fuel ih =>
    intro k hk hfu H locs hP hS ls hl
    refine lv_iload_n hx hb dWord_become_7 rfl (lv_at hl 3 rfl) ?_
    refine lv_iload_n hx hb dWord_become_8 rfl (lv_at hl 1 rfl) ?_
    refine lv_icmp_ge (tgt := 25) hx hb dWord_become_9 (by decide) (fun c1 => ?_) (fun c1 => ?_)
    · have mc1 : N ≤ k := (nI_leI (a := N) (b := k) (by omega) (by omega)).mp c1
      obtain rfl : k = N := by omega
      exact W.vret hx hb hr (fun t ht hW => ⟨⟨(), rfl, trivial, (show va_P D vwCl _ t.heap by rw [ht]; exact hP)⟩, hS.F ht⟩) hS.2.2 dWord_become_25
    · have mc1 : k < N := Nat.lt_of_not_le (fun h => c1 ((nI_leI (a := N) (b := k) (by omega) (by omega)).mpr h))
      refine lv_aload_n hx hb dWord_become_12 rfl (lv_at hl 0 rfl) ?_
      refine nv_getE S hK hP hi dWord_become_13 ?_
      refine lv_iload_n hx hb dWord_become_16 rfl (lv_at hl 3 rfl) ?_
      refine lv_iload_n hx hb dWord_become_17 rfl (lv_at hl 2 rfl) ?_
      refine nv_ast (k := k) (v := v1) hx hb hT hK hP hS hi (by omega) dWord_become_18 (fun H locs hP hS => ?_)
      rw [nv_step g i (fun _ => v1) (g i) k] at hP
      refine lv_iinc (v := nI (k + 1)) (lv' := [(3, .int (nI (k + 1))), (0, .ref (T (2 + i))), (1, .int (nI N)), (2, .int (nI v1))]) hx hb dWord_become_19 hl (k := 3) rfl (nI_1 k) (by decide) rfl (fun ls hl => ?_)
      refine lv_goto (tgt := 7) hx hb dWord_become_22 (by decide) ?_
      exact ih (k + 1) (by omega) (by omega) _ _ hP hS ls (lv_sub hl [1, 2, 3, 0] rfl)
set_option maxHeartbeats 4000000 in
set_option maxRecDepth 100000 in
theorem c_Word_become (l : Launch) (D : va_G) (cA cW : ClassId) (T : Nat → Nat) (hT : nvT T) (n : Nat → Nat) (g : Nat → Nat → Nat) (i : Nat) (hi : i < 17) (N : Nat) (hN : N ≤ 64) (v1 : Nat) : Met l yWord_become (Cond.code yWord_become bWord_become 4 none :: nzG) ({ frames := 0, cells := 0, slots := 0, locals := 0 }) (va_Pc [.ref (T (2 + i)), .int (nI N), .int (nI v1)] (nvP D cA cW (nvW cA cW T n g))) (va_Qv (fun _ : Unit => True) (fun _ t => va_P D vwCl (nvW cA cW T (va_up n i N) (va_up g i (pov (fun _ => v1) (g i) 0 N))) t.heap) (nvA T)) 0 0 (nvA T) := by
  refine nz_of (own := RW) (by decide) rfl ?_
  intro p e s m args below meth c S hr hlocks _ hv9
  obtain ⟨rfl, hP, hK⟩ := hv9
  have hx := S.1
  have hb := S.2.1
  refine nz_entry (vs := [.ref (T (2 + i)), .int (nI N), .int (nI v1)]) (n := 4) (lv := [(0, .ref (T (2 + i))), (1, .int (nI N)), (2, .int (nI v1))]) (Nat.le_of_ble_eq_true rfl) rfl (fun ls hl => ?_)
  have hS : va_S (nvA T) s.heap s.heap [] := va_S.rf
  refine lv_aload_n hx hb dWord_become_0 rfl (lv_at hl 0 rfl) ?_
  refine lv_iload_n hx hb dWord_become_1 rfl (lv_at hl 1 rfl) ?_
  refine nv_putS (N := N) S hT hK hP hS hi dWord_become_2 (fun H locs hP hS => ?_)
  refine lv_iconst (v := 0) hx hb dWord_become_5 (by decide) ?_
  refine lv_istore_n (lv' := [(3, .int 0), (0, .ref (T (2 + i))), (1, .int (nI N)), (2, .int (nI v1))]) hx hb dWord_become_6 rfl hl (by decide) rfl (fun ls hl => ?_)
  rw [show g = va_up g i (pov (fun _ => v1) (g i) 0 0) by rw [pov_0, va_up_eta]] at hP
  exact lp_Word_become l D cA cW T hT n g i hi N hN v1 S hr hlocks hK (N + 1) 0 (by omega) (by omega) _ _ hP hS ls (lv_sub hl [1, 2, 3, 0] rfl)
set_option maxHeartbeats 4000000 in
set_option maxRecDepth 100000 in
theorem lp_Word_hold {p : Program} {e : Env} {s : State} {m : MethodId} {args : Array Value} {below : List Frame} {meth : Method} {c : Code} (l : Launch) (D : va_G) (cA cW : ClassId) (T : Nat → Nat) (hT : nvT T) (n : Nat → Nat) (g : Nat → Nat → Nat) (i : Nat) (hi : i < 17) (N : Nat) (hN : N ≤ 64) (v1 : Nat) (hv1 : v1 < 2 ^ 64) (S : CallFix p m c bWord_hold 5 s args nzG RW) (hr : meth.sig.returnType = none) (hlocks : meth.locks = false) (hK : va_K D vwCl (nvTy cA cW) s) : ∀ (fuel : Nat) (k : Nat), k ≤ N → N < k + fuel → ∀ (H : Heap) (locs : List Loc), va_P D vwCl (nvW cA cW T (va_up n i N) (va_up g i (pov (zPut v1) (g i) 0 k))) H → va_S (nvA T) s.heap H locs → ∀ (ls : Array Slot), lv_has ls 5 [(0, .ref (T (2 + i))), (1, .int (nI N)), (2, .long (lN v1)), (4, .int (nI k))] → W p l e ({ frames := 0, cells := 0, slots := 0, locals := 0 }) s m args below meth c H locs 0 0 (MQ below (va_Qv (fun _ : Unit => True) (fun _ t => va_P D vwCl (nvW cA cW T (va_up n i N) (va_up g i (pov (zPut v1) (g i) 0 N))) t.heap) (nvA T)) args s 0 0 (nvA T)) (F0 m 8 ls []) := by
  have hx := S.1
  have hb := S.2.1
  intro fuel
  induction fuel with
  | zero =>
    intro k hk hfu
    exact absurd hfu (by omega)
  | succ fuel ih =>
    intro k hk hfu H locs hP hS ls hl
    refine lv_iload hx hb dWord_hold_8 (lv_at hl 3 rfl) ?_
    refine lv_iload_n hx hb dWord_hold_10 rfl (lv_at hl 1 rfl) ?_
    refine lv_icmp_ge (tgt := 43) hx hb dWord_hold_11 (by decide) (fun c1 => ?_) (fun c1 => ?_)
    · have mc1 : N ≤ k := (nI_leI (a := N) (b := k) (by omega) (by omega)).mp c1
      obtain rfl : k = N := by omega
      exact W.vret hx hb hr (fun t ht hW => ⟨⟨(), rfl, trivial, (show va_P D vwCl _ t.heap by rw [ht]; exact hP)⟩, hS.F ht⟩) hS.2.2 dWord_hold_43
    · have mc1 : k < N := Nat.lt_of_not_le (fun h => c1 ((nI_leI (a := N) (b := k) (by omega) (by omega)).mpr h))
      refine lv_aload_n hx hb dWord_hold_14 rfl (lv_at hl 0 rfl) ?_
      refine nv_getE S hK hP hi dWord_hold_15 ?_
      refine lv_iload hx hb dWord_hold_18 (lv_at hl 3 rfl) ?_
      refine lv_lload_n hx hb dWord_hold_20 rfl (lv_at hl 2 rfl) ?_
      refine lv_iload hx hb dWord_hold_21 (lv_at hl 3 rfl) ?_
      refine lv_lushr (v := lN (v1 / 2 ^ k)) hx hb dWord_hold_23 (wb_shr hv1 (by omega)) ?_
      refine lv_lconst (v := 1) hx hb dWord_hold_24 (by decide) ?_
      refine lv_land hx hb dWord_hold_25 ?_
      refine nz_eql (wb_a1 (n := v1 / 2 ^ k) (Nat.lt_of_le_of_lt (Nat.div_le_self _ _) hv1)) ?_
      refine lv_lconst (v := 0) hx hb dWord_hold_26 (by decide) ?_
      refine W.lcmp hx hb dWord_hold_27 ?_
      refine lv_if_ne (tgt := 35) hx hb dWord_hold_28 (by decide) (fun c2 => ?_) (fun c2 => ?_)
      · refine lv_iconst (v := 3) hx hb dWord_hold_35 (by decide) ?_
        refine nz_eqi (y := nI (zPut v1 k)) (by rw [show zPut v1 k = 3 from if_neg ((by decide +kernel : ∀ b, b < 2 → ¬ lg_cmp (lN b) 0 = 0 → ¬ b = 0) _ (Nat.mod_lt _ (by decide)) c2)]; rfl) ?_
        refine nv_ast (k := k) (v := zPut v1 k) hx hb hT hK hP hS hi (by omega) dWord_hold_36 (fun H locs hP hS => ?_)
        rw [nv_step g i (zPut v1) (g i) k] at hP
        refine lv_iinc (v := nI (k + 1)) (lv' := [(4, .int (nI (k + 1))), (0, .ref (T (2 + i))), (1, .int (nI N)), (2, .long (lN v1))]) hx hb dWord_hold_37 hl (k := 3) rfl (nI_1 k) (by decide) rfl (fun ls hl => ?_)
        refine lv_goto (tgt := 8) hx hb dWord_hold_40 (by decide) ?_
        exact ih (k + 1) (by omega) (by omega) _ _ hP hS ls (lv_sub hl [1, 2, 3, 0] rfl)
      · refine lv_iconst (v := 2) hx hb dWord_hold_31 (by decide) ?_
        refine lv_goto (tgt := 36) hx hb dWord_hold_32 (by decide) ?_
        refine nz_eqi (y := nI (zPut v1 k)) (by rw [show zPut v1 k = 2 from if_pos ((by decide +kernel : ∀ b, b < 2 → lg_cmp (lN b) 0 = 0 → b = 0) _ (Nat.mod_lt _ (by decide)) c2)]; rfl) ?_
        refine nv_ast (k := k) (v := zPut v1 k) hx hb hT hK hP hS hi (by omega) dWord_hold_36 (fun H locs hP hS => ?_)
        rw [nv_step g i (zPut v1) (g i) k] at hP
        refine lv_iinc (v := nI (k + 1)) (lv' := [(4, .int (nI (k + 1))), (0, .ref (T (2 + i))), (1, .int (nI N)), (2, .long (lN v1))]) hx hb dWord_hold_37 hl (k := 3) rfl (nI_1 k) (by decide) rfl (fun ls hl => ?_)
        refine lv_goto (tgt := 8) hx hb dWord_hold_40 (by decide) ?_
        exact ih (k + 1) (by omega) (by omega) _ _ hP hS ls (lv_sub hl [1, 2, 3, 0] rfl)
set_option maxHeartbeats 4000000 in
set_option maxRecDepth 100000 in
theorem c_Word_hold (l : Launch) (D : va_G) (cA cW : ClassId) (T : Nat → Nat) (hT : nvT T) (n : Nat → Nat) (g : Nat → Nat → Nat) (i : Nat) (hi : i < 17) (N : Nat) (hN : N ≤ 64) (v1 : Nat) (hv1 : v1 < 2 ^ 64) : Met l yWord_hold (Cond.code yWord_hold bWord_hold 5 none :: nzG) ({ frames := 0, cells := 0, slots := 0, locals := 0 }) (va_Pc [.ref (T (2 + i)), .int (nI N), .long (lN v1)] (nvP D cA cW (nvW cA cW T n g))) (va_Qv (fun _ : Unit => True) (fun _ t => va_P D vwCl (nvW cA cW T (va_up n i N) (va_up g i (pov (zPut v1) (g i) 0 N))) t.heap) (nvA T)) 0 0 (nvA T) := by
  refine nz_of (own := RW) (by decide) rfl ?_
  intro p e s m args below meth c S hr hlocks _ hv9
  obtain ⟨rfl, hP, hK⟩ := hv9
  have hx := S.1
  have hb := S.2.1
  refine nz_entry (vs := [.ref (T (2 + i)), .int (nI N), .long (lN v1)]) (n := 5) (lv := [(0, .ref (T (2 + i))), (1, .int (nI N)), (2, .long (lN v1))]) (Nat.le_of_ble_eq_true rfl) rfl (fun ls hl => ?_)
  have hS : va_S (nvA T) s.heap s.heap [] := va_S.rf
  refine lv_aload_n hx hb dWord_hold_0 rfl (lv_at hl 0 rfl) ?_
  refine lv_iload_n hx hb dWord_hold_1 rfl (lv_at hl 1 rfl) ?_
  refine nv_putS (N := N) S hT hK hP hS hi dWord_hold_2 (fun H locs hP hS => ?_)
  refine lv_iconst (v := 0) hx hb dWord_hold_5 (by decide) ?_
  refine lv_istore (lv' := [(4, .int 0), (0, .ref (T (2 + i))), (1, .int (nI N)), (2, .long (lN v1))]) hx hb dWord_hold_6 hl (by decide) rfl (fun ls hl => ?_)
  rw [show g = va_up g i (pov (zPut v1) (g i) 0 0) by rw [pov_0, va_up_eta]] at hP
  exact lp_Word_hold l D cA cW T hT n g i hi N hN v1 hv1 S hr hlocks hK (N + 1) 0 (by omega) (by omega) _ _ hP hS ls (lv_sub hl [1, 2, 3, 0] rfl)
set_option maxHeartbeats 4000000 in
set_option maxRecDepth 100000 in
theorem lp_Word_lay {p : Program} {e : Env} {s : State} {m : MethodId} {args : Array Value} {below : List Frame} {meth : Method} {c : Code} (l : Launch) (D : va_G) (cA cW : ClassId) (T : Nat → Nat) (hT : nvT T) (n : Nat → Nat) (g : Nat → Nat → Nat) (i : Nat) (hi : i < 17) (i2 : Nat) (hi2 : i2 < 17) (hne : i2 ≠ i) (k1 N a1 : Nat) (hk1 : k1 + N ≤ 64) (ha1 : a1 + N ≤ 64) (S : CallFix p m c bWord_lay 6 s args nzG RW) (hr : meth.sig.returnType = none) (hlocks : meth.locks = false) (hK : va_K D vwCl (nvTy cA cW) s) : ∀ (fuel : Nat) (k : Nat), k ≤ N → N < k + fuel → ∀ (H : Heap) (locs : List Loc), va_P D vwCl (nvW cA cW T n (va_up g i (pov (fun x => g i2 (k1 + (x - a1))) (g i) a1 k))) H → va_S (nvA T) s.heap H locs → ∀ (ls : Array Slot), lv_has ls 6 [(0, .ref (T (2 + i))), (1, .ref (T (2 + i2))), (2, .int (nI k1)), (3, .int (nI N)), (4, .int (nI a1)), (5, .int (nI k))] → W p l e ({ frames := 0, cells := 0, slots := 0, locals := 0 }) s m args below meth c H locs 0 0 (MQ below (va_Qv (fun _ : Unit => True) (fun _ t => va_P D vwCl (nvW cA cW T n (va_up g i (pov (fun x => g i2 (k1 + (x - a1))) (g i) a1 N))) t.heap) (nvA T)) args s 0 0 (nvA T)) (F0 m 3 ls []) := by
  have hx := S.1
  have hb := S.2.1
  intro fuel
  induction fuel with
  | zero =>
    intro k hk hfu
    exact absurd hfu (by omega)
  | succ fuel ih =>
    intro k hk hfu H locs hP hS ls hl
    refine lv_iload hx hb dWord_lay_3 (lv_at hl 5 rfl) ?_
    refine lv_iload_n hx hb dWord_lay_5 rfl (lv_at hl 3 rfl) ?_
    refine lv_icmp_ge (tgt := 34) hx hb dWord_lay_6 (by decide) (fun c1 => ?_) (fun c1 => ?_)
    · have mc1 : N ≤ k := (nI_leI (a := N) (b := k) (by omega) (by omega)).mp c1
      obtain rfl : k = N := by omega
      exact W.vret hx hb hr (fun t ht hW => ⟨⟨(), rfl, trivial, (show va_P D vwCl _ t.heap by rw [ht]; exact hP)⟩, hS.F ht⟩) hS.2.2 dWord_lay_34
    · have mc1 : k < N := Nat.lt_of_not_le (fun h => c1 ((nI_leI (a := N) (b := k) (by omega) (by omega)).mpr h))
      refine lv_aload_n hx hb dWord_lay_9 rfl (lv_at hl 0 rfl) ?_
      refine nv_getE S hK hP hi dWord_lay_10 ?_
      refine lv_iload hx hb dWord_lay_13 (lv_at hl 4 rfl) ?_
      refine lv_iload hx hb dWord_lay_15 (lv_at hl 5 rfl) ?_
      refine lv_iadd hx hb dWord_lay_17 ?_
      refine nz_eqi (nI_add a1 k) ?_
      refine lv_aload_n hx hb dWord_lay_18 rfl (lv_at hl 1 rfl) ?_
      refine nv_getE S hK hP hi2 dWord_lay_19 ?_
      refine lv_iload_n hx hb dWord_lay_22 rfl (lv_at hl 2 rfl) ?_
      refine lv_iload hx hb dWord_lay_23 (lv_at hl 5 rfl) ?_
      refine lv_iadd hx hb dWord_lay_25 ?_
      refine nz_eqi (nI_add k1 k) ?_
      refine nv_ald (k := k1 + k) hx hb hK hP hi2 (by omega) dWord_lay_26 ?_
      refine nz_eqi (y := nI ((fun x => g i2 (k1 + (x - a1))) (a1 + k))) (by show _ = nI (g i2 (k1 + (a1 + k - a1))); rw [va_up_ne _ _ hne, Nat.add_sub_cancel_left]) ?_
      refine nv_ast (k := a1 + k) (v := (fun x => g i2 (k1 + (x - a1))) (a1 + k)) hx hb hT hK hP hS hi (by omega) dWord_lay_27 (fun H locs hP hS => ?_)
      rw [nv_stepA g i (fun x => g i2 (k1 + (x - a1))) (g i) a1 k] at hP
      refine lv_iinc (v := nI (k + 1)) (lv' := [(5, .int (nI (k + 1))), (0, .ref (T (2 + i))), (1, .ref (T (2 + i2))), (2, .int (nI k1)), (3, .int (nI N)), (4, .int (nI a1))]) hx hb dWord_lay_28 hl (k := 5) rfl (nI_1 k) (by decide) rfl (fun ls hl => ?_)
      refine lv_goto (tgt := 3) hx hb dWord_lay_31 (by decide) ?_
      exact ih (k + 1) (by omega) (by omega) _ _ hP hS ls (lv_sub hl [1, 2, 3, 4, 5, 0] rfl)
set_option maxHeartbeats 4000000 in
set_option maxRecDepth 100000 in
theorem c_Word_lay (l : Launch) (D : va_G) (cA cW : ClassId) (T : Nat → Nat) (hT : nvT T) (n : Nat → Nat) (g : Nat → Nat → Nat) (i : Nat) (hi : i < 17) (i2 : Nat) (hi2 : i2 < 17) (hne : i2 ≠ i) (k1 N a1 : Nat) (hk1 : k1 + N ≤ 64) (ha1 : a1 + N ≤ 64) : Met l yWord_lay (Cond.code yWord_lay bWord_lay 6 none :: nzG) ({ frames := 0, cells := 0, slots := 0, locals := 0 }) (va_Pc [.ref (T (2 + i)), .ref (T (2 + i2)), .int (nI k1), .int (nI N), .int (nI a1)] (nvP D cA cW (nvW cA cW T n g))) (va_Qv (fun _ : Unit => True) (fun _ t => va_P D vwCl (nvW cA cW T n (va_up g i (pov (fun x => g i2 (k1 + (x - a1))) (g i) a1 N))) t.heap) (nvA T)) 0 0 (nvA T) := by
  refine nz_of (own := RW) (by decide) rfl ?_
  intro p e s m args below meth c S hr hlocks _ hv9
  obtain ⟨rfl, hP, hK⟩ := hv9
  have hx := S.1
  have hb := S.2.1
  refine nz_entry (vs := [.ref (T (2 + i)), .ref (T (2 + i2)), .int (nI k1), .int (nI N), .int (nI a1)]) (n := 6) (lv := [(0, .ref (T (2 + i))), (1, .ref (T (2 + i2))), (2, .int (nI k1)), (3, .int (nI N)), (4, .int (nI a1))]) (Nat.le_of_ble_eq_true rfl) rfl (fun ls hl => ?_)
  have hS : va_S (nvA T) s.heap s.heap [] := va_S.rf
  refine lv_iconst (v := 0) hx hb dWord_lay_0 (by decide) ?_
  refine lv_istore (lv' := [(5, .int 0), (0, .ref (T (2 + i))), (1, .ref (T (2 + i2))), (2, .int (nI k1)), (3, .int (nI N)), (4, .int (nI a1))]) hx hb dWord_lay_1 hl (by decide) rfl (fun ls hl => ?_)
  rw [show g = va_up g i (pov (fun x => g i2 (k1 + (x - a1))) (g i) a1 0) by rw [pov_0, va_up_eta]] at hP
  exact lp_Word_lay l D cA cW T hT n g i hi i2 hi2 hne k1 N a1 hk1 ha1 S hr hlocks hK (N + 1) 0 (by omega) (by omega) _ _ hP hS ls (lv_sub hl [1, 2, 3, 4, 5, 0] rfl)
set_option maxHeartbeats 4000000 in
set_option maxRecDepth 100000 in
theorem c_Word_copy (l : Launch) (D : va_G) (cA cW : ClassId) (T : Nat → Nat) (hT : nvT T) (n : Nat → Nat) (g : Nat → Nat → Nat) (i : Nat) (hi : i < 17) (i2 : Nat) (hi2 : i2 < 17) (hne : i2 ≠ i) (hn2 : n i2 ≤ 64) : Met l yWord_copy (Cond.code yWord_copy bWord_copy 2 none :: nzG) ({ frames := 1, cells := 0, slots := 0, locals := 25 }) (va_Pc [.ref (T (2 + i)), .ref (T (2 + i2))] (nvP D cA cW (nvW cA cW T n g))) (va_Qv (fun _ : Unit => True) (fun _ t => va_P D vwCl (nvW cA cW T (va_up n i (n i2)) (va_up g i (pov (g i2) (g i) 0 (n i2)))) t.heap) (nvA T)) 0 0 (nvA T) := by
  refine nz_of (own := RW) (by decide) rfl ?_
  intro p e s m args below meth c S hr hlocks _ hv9
  obtain ⟨rfl, hP, hK⟩ := hv9
  have hx := S.1
  have hb := S.2.1
  refine nz_entry (vs := [.ref (T (2 + i)), .ref (T (2 + i2))]) (n := 2) (lv := [(0, .ref (T (2 + i))), (1, .ref (T (2 + i2)))]) (Nat.le_of_ble_eq_true rfl) rfl (fun ls hl => ?_)
  have hS : va_S (nvA T) s.heap s.heap [] := va_S.rf
  refine lv_aload_n hx hb dWord_copy_0 rfl (lv_at hl 0 rfl) ?_
  refine lv_aload_n hx hb dWord_copy_1 rfl (lv_at hl 1 rfl) ?_
  refine nv_getS S hK hP hi2 dWord_copy_2 ?_
  refine nv_putS (N := n i2) S hT hK hP hS hi dWord_copy_5 (fun H locs hP hS => ?_)
  refine lv_aload_n hx hb dWord_copy_8 rfl (lv_at hl 0 rfl) ?_
  refine lv_aload_n hx hb dWord_copy_9 rfl (lv_at hl 1 rfl) ?_
  refine lv_iconst (v := 0) hx hb dWord_copy_10 (by decide) ?_
  refine lv_aload_n hx hb dWord_copy_11 rfl (lv_at hl 1 rfl) ?_
  refine nv_getS S hK hP hi2 dWord_copy_12 ?_
  refine nz_eqi (y := nI (n i2)) (by rw [va_up_ne _ _ hne]) ?_
  refine lv_iconst (v := 0) hx hb dWord_copy_15 (by decide) ?_
  refine nv_call (As := [.ref (T (2 + i2)), .int 0, .int (nI (n i2)), .int 0]) (rest := []) S (c_Word_lay l D cA cW T hT (va_up n i (n i2)) g i hi i2 hi2 hne 0 (n i2) 0 (by omega) (by omega)) kWord_19 ⟨rfl, rfl, Nat.le_of_ble_eq_true rfl, Nat.le_of_ble_eq_true rfl⟩ ⟨Nat.zero_le _, Nat.zero_le _⟩ (nv_ob hK hP hi) hP hK hS rfl hl.1 rfl (Nat.le_of_ble_eq_true rfl) dWord_copy_16 (fun H locs hP hS => ?_)
  rw [lay0 (g i2)] at hP
  exact W.vret hx hb hr (fun t ht hW => ⟨⟨(), rfl, trivial, (show va_P D vwCl _ t.heap by rw [ht]; exact hP)⟩, hS.F ht⟩) hS.2.2 dWord_copy_19
end
section
/-! ===== methods of the class that may throw: what they ask, how they end, calls of them ===== -/
section Nx
/-- returned: ret; thrown: an object of a class that exc names, all else as it was -/
def nxQ (ret : Option Value → State → State → Prop) (exc : String → Prop) : Array Value → State → Outcome → State → Prop := fun _ st o t => match o with
  | .returned v => ret v st t
  | .threw q => ∃ E : String, exc E ∧ ny_Thr E st q t
theorem ny_Thr.up {E : String} {s st t : State} {q : Addr} (hh : st.heap = s.heap) (hW : s.WarmedH st.vm) (h : ny_Thr E st q t) : ny_Thr E s q t := by
  obtain ⟨ce, h1, h2, h3, h4, h5⟩ := h
  rw [hh] at h4 h5
  exact ⟨ce, h1, h2, by rw [hW.alike.findClass] at h3; exact h3, h4, h5⟩
variable {p : Program} {l : Launch} {e : Env} {R : Room} {s : State} {m : MethodId} {args : Array Value} {below : List Frame} {meth : Method} {c : Code}
variable {own C : String} {i : Nat} {y : MethodName} {b cc : ByteArray} {mL nL n pc : Nat} {r : Option FieldType} {rm : Room} {As rest st0 : List Value} {ls : Array Slot} {free : Addr → Prop} {Pre : State → Prop}
variable {ret : Option Value → State → State → Prop} {exc : String → Prop} {rt : Option Value → State → State → Prop} {ex : String → Prop}
/-- what came out of a callee goes on to my caller -/
theorem nx_out {q : Addr} {st t : State} {H1 : Heap} (hno : ∀ x ∈ c.exceptionTable.toList, ∀ pc, covers x pc = false) (hlocks : meth.locks = false) (h0 : st.heap = s.heap) (hw : s.WarmedH st.vm) (ht : t.heap = H1) (hq : ∃ E : String, exc E ∧ ny_Thr E st q t) (hE : ∀ E, exc E → ex E) :
    ny_W p l e R s m args below meth c H1 [] 1 6 (ny_MQ below (nxQ rt ex) args s 0 0 1 6 free) (F0 m pc ls rest) q := by
  obtain ⟨E, h1, h2⟩ := hq
  refine ny_out (fun x hx => hno x hx _) hlocks (fun t9 ht9 hW9 => ⟨E, hE E h1, ?_⟩) (fun z hz => nomatch hz) (Nat.le_refl _) (Nat.le_refl _)
  obtain ⟨ce, g1, g2, g3, g4, g5⟩ := h2.up h0 hw
  have e9 : t9.heap = t.heap := by rw [ht9, ht]
  exact ⟨ce, by rw [e9]; exact g1, g2, g3, by rw [e9]; exact g4, fun z hz => by rw [e9]; exact g5 z hz⟩
/-- a static method that only looks, and may throw -/
theorem nx_sv {post : Prop} (S : CallFix p m c cc nL s args nzG own) (hM : ny_Met l y (Cond.code y b mL r :: nzG) rm (va_Pc As Pre) (nxQ (fun v st t => v = none ∧ t.heap = st.heap ∧ post) exc) 0 0 1 6 (fun _ => False)) (hw : nzS own i y b mL r n) (hR : nzR rm R mL 1 6) (hc : 1 ≤ R.cells ∧ 6 ≤ R.slots)
    (hbl : ∀ (a : Array Value) (U : State) (g : JFrame) (mk : MethodId), Pre U → Pre (U.calling g mk a)) (hpre : ∀ U : State, U.heap = s.heap → s.WarmedH U.vm → Pre U)
    (hn : As.length = n) (hsz : ls.size = nL) (hst : st0 = As.reverse ++ rest) (hW : (rest.map fun v => v.category).sum ≤ 8) (hdg : decode cc pc = .ok (.invokestatic i, 3))
    (hno : ∀ x ∈ c.exceptionTable.toList, ∀ pc, covers x pc = false) (hlocks : meth.locks = false) (hE : ∀ E, exc E → ex E)
    (kk : post → W p l e R s m args below meth c s.heap [] 0 0 (ny_MQ below (nxQ rt ex) args s 0 0 1 6 free) (F0 m (pc + 3) ls rest)) : W p l e R s m args below meth c s.heap [] 0 0 (ny_MQ below (nxQ rt ex) args s 0 0 1 6 free) (F0 m pc ls st0) := by
  refine ny_call (ny_runS S hM (hw.cb S.2.2.2.2 hR.1 hR.2.1 hR.2.2) ⟨fun a U g mk q => ⟨q.1, hbl a U g mk q.2⟩, fun U hU hW => ⟨rfl, hpre U hU hW⟩⟩ rfl hn hsz hst (lv_room hW) hdg ⟨by omega, by omega⟩) ?_ ?_
  · intro v st₀ t H1 L h0 hw0 ht hwt hL hq
    obtain ⟨rfl, hh, hp⟩ := hq
    have hL0 : L = [] := by
      cases L with
      | nil => rfl
      | cons a L => exact (hL a List.mem_cons_self).elim
    subst hL0
    have e9 : H1 = s.heap := by rw [← ht, hh, h0]
    subst e9
    exact kk hp
  · intro q st₀ t H1 L h0 hw0 ht hwt hL hq
    have hL0 : L = [] := by
      cases L with
      | nil => rfl
      | cons a L => exact (hL a List.mem_cons_self).elim
    subst hL0
    exact nx_out hno hlocks h0 hw0 ht hq hE
/-- .. a virtual one -/
theorem nx_vv {post : Prop} {o : Nat} (S : CallFix p m c cc nL s args nzG own) (hM : ny_Met l y (Cond.code y b mL r :: nzG) rm (va_Pc (.ref o :: As) Pre) (nxQ (fun v st t => v = none ∧ t.heap = st.heap ∧ post) exc) 0 0 1 6 (fun _ => False)) (hw : nzV own i C y b mL r n) (hR : nzR rm R mL 1 6) (hc : 1 ≤ R.cells ∧ 6 ≤ R.slots)
    (hbl : ∀ (a : Array Value) (U : State) (g : JFrame) (mk : MethodId), Pre U → Pre (U.calling g mk a)) (hob : ∃ cellB : Cell, s.heap[o]? = some cellB ∧ cellB.vm.isStatics = false ∧ s.vm.findClass C = some cellB.cls) (hpre : ∀ U : State, U.heap = s.heap → s.WarmedH U.vm → Pre U)
    (hn : As.length = n) (hsz : ls.size = nL) (hst : st0 = As.reverse ++ .ref o :: rest) (hW : (rest.map fun v => v.category).sum ≤ 8) (hdg : decode cc pc = .ok (.invokevirtual i, 3))
    (hno : ∀ x ∈ c.exceptionTable.toList, ∀ pc, covers x pc = false) (hlocks : meth.locks = false) (hE : ∀ E, exc E → ex E)
    (kk : post → W p l e R s m args below meth c s.heap [] 0 0 (ny_MQ below (nxQ rt ex) args s 0 0 1 6 free) (F0 m (pc + 3) ls rest)) : W p l e R s m args below meth c s.heap [] 0 0 (ny_MQ below (nxQ rt ex) args s 0 0 1 6 free) (F0 m pc ls st0) := by
  refine ny_call (ny_runV S hM (hw.cb S.2.2.2.2 hR.1 hR.2.1 hR.2.2) ⟨fun a U g mk q => ⟨q.1, hbl a U g mk q.2⟩, hob, fun U hU hW => ⟨rfl, hpre U hU hW⟩⟩ rfl hn hsz hst (lv_room hW) hdg ⟨by omega, by omega⟩) ?_ ?_
  · intro v st₀ t H1 L h0 hw0 ht hwt hL hq
    obtain ⟨rfl, hh, hp⟩ := hq
    have hL0 : L = [] := by
      cases L with
      | nil => rfl
      | cons a L => exact (hL a List.mem_cons_self).elim
    subst hL0
    have e9 : H1 = s.heap := by rw [← ht, hh, h0]
    subst e9
    exact kk hp
  · intro q st₀ t H1 L h0 hw0 ht hwt hL hq
    have hL0 : L = [] := by
      cases L with
      | nil => rfl
      | cons a L => exact (hL a List.mem_cons_self).elim
    subst hL0
    exact nx_out hno hlocks h0 hw0 ht hq hE
end Nx
end
section
/-! ===== the methods of NineValues: what they ask of the state, the rows of its own instructions ===== -/
section Nm
/-- the words of a nest mate's fields -/
abbrev nmS : Cond := .fieldLinkNest RN fN_size RW "size" "I" nmHost
abbrev nmE : Cond := .fieldLinkNest RN fN_elements RW "elements" "[I" nmHost
def nmEx : List String := ["java/lang/IndexOutOfBoundsException", "java/lang/IllegalArgumentException", "java/lang/IllegalStateException", "java/lang/ArithmeticException"]
/-- beside the world: what links, throws and texts ask -/
def nmDc : List MethodName := [Bundle.initS "java/lang/RuntimeException", Bundle.initS "java/lang/Exception", Bundle.initS Bundle.tN]
def nmX (U : State) : Prop := va_Nw nmS U ∧ va_Nw nmE U ∧ (∀ E ∈ nmEx, va_Nw (.castable E E) U) ∧ (∀ q ∈ nmStr, ∃ sa, vk_R RN q.1 q.2 sa U) ∧ ny_J U ∧ ∀ y ∈ nmDc, va_Nw (.declares y) U
theorem nmX.to {u U : State} (hW : u.WarmedH U.vm) (hh : ∀ q, q < u.heap.size → U.heap[q]? = u.heap[q]?) (h : nmX u) : nmX U :=
  ⟨va_Nw.warmF hW h.1, va_Nw.warmF hW h.2.1, fun E hE => va_Nw.warmC hW (h.2.2.1 E hE), fun q hq => Exists.elim (h.2.2.2.1 q hq) fun sa g => ⟨sa, g.warm hW⟩, h.2.2.2.2.1.to hW.alike hh, fun y hy => va_Nw.warmD hW (h.2.2.2.2.2 y hy)⟩
theorem nmX.bl : ∀ (a : Array Value) (U : State) (g : JFrame) (mk : MethodId), nmX U → nmX (U.calling g mk a) := fun a U g mk h =>
  ⟨va_Nw.same rfl rfl h.1, va_Nw.same rfl rfl h.2.1, fun E hE => va_Nw.same rfl rfl (h.2.2.1 E hE), fun q hq => Exists.elim (h.2.2.2.1 q hq) fun sa g => ⟨sa, vk_R.same rfl g⟩, ny_J.to (u := U) (U := U.calling g mk a) (Vm.Alike.refl U.vm) (fun _ _ => rfl) h.2.2.2.2.1, fun y hy => va_Nw.same rfl rfl (h.2.2.2.2.2 y hy)⟩
theorem nmX.at {s : State} {H : Heap} (h : nmX s) (hH : H = s.heap) : ∀ U : State, U.heap = H → s.WarmedH U.vm → nmX U := fun U hU hW => h.to hW (fun q _ => by rw [hU, hH])
def nmP (D : va_G) (cA cW : ClassId) (w : va_W) (U : State) : Prop := va_P D vwCl w U.heap ∧ va_K D vwCl (nvTy cA cW) U ∧ nmX U
variable {cA cW : ClassId} {T : Nat → Nat} {n : Nat → Nat} {g : Nat → Nat → Nat} {i : Nat}
theorem nmP.bl {D : va_G} {w : va_W} : ∀ (a : Array Value) (U : State) (g : JFrame) (mk : MethodId), nmP D cA cW w U → nmP D cA cW w (U.calling g mk a) :=
  fun a U g mk q => ⟨q.1, va_K.moved (u := U) (U := U.calling g mk a) (Vm.Alike.refl U.vm) q.2.1, nmX.bl a U g mk q.2.2⟩
theorem nmP.to {D : va_G} {w : va_W} {s : State} (hP : va_P D vwCl w s.heap) (hK : va_K D vwCl (nvTy cA cW) s) (hX : nmX s) : ∀ U : State, U.heap = s.heap → s.WarmedH U.vm → nmP D cA cW w U :=
  fun U hU hW => ⟨by rw [hU]; exact hP, va_K.moved hW.alike hK, hX.at rfl U hU hW⟩
variable {D : va_G} {p : Program} {l : Launch} {e : Env} {R : Room} {s : State} {m : MethodId} {args : Array Value} {below : List Frame} {meth : Method} {c : Code} {H : Heap} {locs : List Loc} {cells slots : Nat} {Q : State → Prop}
variable {cc : ByteArray} {nL pc : Nat} {ls : Array Slot} {rest : List Value}
/-- this.places, this.answer -/
theorem nm_getP (S : CallFix p m c cc nL s args nzG RN) (hK : va_K D vwCl (nvTy cA cW) s) (hP : va_P D vwCl (nvW cA cW T n g) H) (hdg : decode cc pc = .ok (.getfield fN_places, 3))
    (kk : W p l e R s m args below meth c H locs cells slots Q (F0 m (pc + 3) ls (.ref (T 1) :: rest))) : W p l e R s m args below meth c H locs cells slots Q (F0 m pc ls (.ref (T 0) :: rest)) :=
  va_get (D := D) (ci := ciN) (v := .ref (T 1)) (C := RN) (T := FN) (N := 2) S.1 S.2.1 S.2.2.2.2 in_N S.2.2.2.1 hK hP 0 nv_0 rfl 0 (by decide) (S.2.2.2.2 _ fl_N_places) (fun _ h9 => h9) rfl hdg kk
theorem nm_getA (S : CallFix p m c cc nL s args nzG RN) (hK : va_K D vwCl (nvTy cA cW) s) (hP : va_P D vwCl (nvW cA cW T n g) H) (hdg : decode cc pc = .ok (.getfield fN_answer, 3))
    (kk : W p l e R s m args below meth c H locs cells slots Q (F0 m (pc + 3) ls (.ref (T (2 + 16)) :: rest))) : W p l e R s m args below meth c H locs cells slots Q (F0 m pc ls (.ref (T 0) :: rest)) :=
  va_get (D := D) (ci := ciN) (v := .ref (T 18)) (C := RN) (T := FN) (N := 2) S.1 S.2.1 S.2.2.2.2 in_N S.2.2.2.1 hK hP 0 nv_0 rfl 1 (by decide) (S.2.2.2.2 _ fl_N_answer) (fun _ h9 => h9) rfl hdg kk
/-- places[j] -/
theorem nm_ald {j : Nat} (hx : p.tables.exec = Jvm.exec) (hb : c.code = cc) (hK : va_K D vwCl (nvTy cA cW) s) (hP : va_P D vwCl (nvW cA cW T n g) H) (hj : j < 16) (hdg : decode cc pc = .ok (.aaload, 1))
    (kk : W p l e R s m args below meth c H locs cells slots Q (F0 m (pc + 1) ls (.ref (T (2 + j)) :: rest))) : W p l e R s m args below meth c H locs cells slots Q (F0 m pc ls (.int (nI j) :: .ref (T 1) :: rest)) := by
  refine va_aldq hx hb hK hP 1 1 nv_1 rfl (vp_in_nI hj (by omega)) hdg ?_
  rw [nI_clamp (by omega)]
  exact kk
/-- a word's size and elements, from outside -/
theorem nm_getS (S : CallFix p m c cc nL s args nzG RN) (hX : nmX s) (hK : va_K D vwCl (nvTy cA cW) s) (hP : va_P D vwCl (nvW cA cW T n g) H) (hi : i < 17) (hdg : decode cc pc = .ok (.getfield fN_size, 3))
    (kk : W p l e R s m args below meth c H locs cells slots Q (F0 m (pc + 3) ls (.int (nI (n i)) :: rest))) : W p l e R s m args below meth c H locs cells slots Q (F0 m pc ls (.ref (T (2 + i)) :: rest)) :=
  va_getN (D := D) (ci := ciW) (v := .int (nI (n i))) (own := RN) (ref := RW) (C := RW) (T := FW) (N := 2) (host := nmHost) S.1 S.2.1 S.2.2.2.2 in_W S.2.2.2.1 hK hP (2 + i) (nv_w hi) rfl 0 (by decide) (va_Nw.use rfl hX.1) (fun _ h9 => h9) rfl hdg kk
theorem nm_getE (S : CallFix p m c cc nL s args nzG RN) (hX : nmX s) (hK : va_K D vwCl (nvTy cA cW) s) (hP : va_P D vwCl (nvW cA cW T n g) H) (hi : i < 17) (hdg : decode cc pc = .ok (.getfield fN_elements, 3))
    (kk : W p l e R s m args below meth c H locs cells slots Q (F0 m (pc + 3) ls (.ref (T (19 + i)) :: rest))) : W p l e R s m args below meth c H locs cells slots Q (F0 m pc ls (.ref (T (2 + i)) :: rest)) :=
  va_getN (D := D) (ci := ciW) (v := .ref (T (19 + i))) (own := RN) (ref := RW) (C := RW) (T := FW) (N := 2) (host := nmHost) S.1 S.2.1 S.2.2.2.2 in_W S.2.2.2.1 hK hP (2 + i) (nv_w hi) rfl 1 (by decide) (va_Nw.use rfl hX.2.1) (fun _ h9 => h9) rfl hdg kk
theorem nm_putS {N : Nat} (S : CallFix p m c cc nL s args nzG RN) (hX : nmX s) (hT : nvT T) (hK : va_K D vwCl (nvTy cA cW) s) (hP : va_P D vwCl (nvW cA cW T n g) H) (hS : va_S (nvA T) s.heap H locs) (hi : i < 17) (hdg : decode cc pc = .ok (.putfield fN_size, 3))
    (kk : ∀ (H1 : Heap) (locs1 : List Loc), va_P D vwCl (nvW cA cW T (va_up n i N) g) H1 → va_S (nvA T) s.heap H1 locs1 → W p l e R s m args below meth c H1 locs1 cells slots Q (F0 m (pc + 3) ls rest)) : W p l e R s m args below meth c H locs cells slots Q (F0 m pc ls (.int (nI N) :: .ref (T (2 + i)) :: rest)) :=
  va_putN (D := D) (ci := ciW) (v := .int (nI N)) (ty := .int) (own := RN) (ref := RW) (C := RW) (T := FW) (N := 2) (host := nmHost) S.1 S.2.1 S.2.2.2.2 in_W tyW tyW_ok nmW S.2.2.2.1 hK hP (nvD hT) hS (2 + i) (nv_w hi) rfl 0 (by decide) (va_Nw.use rfl hX.1) (fun _ h9 => h9) rfl (by decide +kernel) rfl rfl (Nat.le_of_ble_eq_true rfl) hdg
    (fun H1 locs1 h1 _ h3 => kk H1 locs1 (nv_setw hi N ▸ h1) h3)
/-- throw new E("text") -/
theorem nm_throw {E tx : String} {ik is ic : Nat} {free : Addr → Prop} {Qc : Array Value → State → Outcome → State → Prop} (S : CallFix p m c cc nL s args nzG RN) (hfl : l.flags = pinnedFlags ++ [noTraceFlag]) (hX : nmX s) (hE : E ∈ nmEx) (hfit : Bundle.fit E = true) (hk : Cond.classLink RN ik E ∈ nzG) (hini : Cond.initialized E ∈ nzG) (hs : (is, tx) ∈ nmStr)
    (hat : ∀ w ∈ Bundle.ownAtoms RN ic E ["java/lang/RuntimeException", "java/lang/Exception"], w ∈ nmSp E ∨ w ∈ nzG)
    (hl : ls.size = nL) (hR : 5 < R.frames ∧ 8 + 82 ≤ R.locals ∧ 1 ≤ R.cells ∧ 6 ≤ R.slots) (hW : (rest.map fun v => v.category).sum ≤ 8) (hlocks : meth.locks = false) (hno : ∀ x ∈ c.exceptionTable.toList, ∀ pc, covers x pc = false)
    (d0 : decode cc pc = .ok (.new ik, 3)) (d3 : decode cc (pc + 3) = .ok (.dup, 1)) (d4 : decode cc (pc + 4) = .ok (.ldc is, 2)) (d6 : decode cc (pc + 6) = .ok (.invokespecial ic, 3)) (d9 : decode cc (pc + 9) = .ok (.athrow, 1))
    (hx : ∀ (t : State) (q : Addr), s.WarmedH t.vm → ny_Thr E s q t → Qc args s (.threw q) t) :
    W p l e R s m args below meth c s.heap [] 0 0 (ny_MQ below Qc args s 0 0 1 6 free) (F0 m pc ls rest) := by
  obtain ⟨sa, hstr⟩ := hX.2.2.2.1 _ hs
  refine ny_throw (names := ["java/lang/RuntimeException", "java/lang/Exception"]) S.1 S.2.1 hfl S.2.2.2.1 hfit (by decide) (S.2.2.2.2 _ hk) (S.2.2.2.2 _ hini) hstr ?_ (hl.trans S.2.2.1.symm) d0 d3 d4 d6 d9 hno ?_ ?_ hR.2.2.1 hR.2.2.2 hlocks hx
  · refine ny_own hX.2.2.2.2.1 (fun w hw => ?_)
    rcases hat w hw with h | h
    · have h9 : w = .isRef (.static Bundle.tN "UNASSIGNED_STACK" Bundle.steD) ∨ w = .isRef (.static Bundle.tN "SUPPRESSED_SENTINEL" Bundle.listD) ∨ w = .laysStatic Bundle.tN "UNASSIGNED_STACK" Bundle.steD ∨ w = .laysStatic Bundle.tN "SUPPRESSED_SENTINEL" Bundle.listD ∨ w = .castable E E ∨ w = .declares (Bundle.initS "java/lang/RuntimeException") ∨ w = .declares (Bundle.initS "java/lang/Exception") ∨ w = .declares (Bundle.initS Bundle.tN) := by simpa [nmSp] using h
      rcases h9 with h | h | h | h | h | h | h | h
      · exact Or.inl h
      · exact Or.inr (Or.inl h)
      · exact Or.inr (Or.inr (Or.inl h))
      · exact Or.inr (Or.inr (Or.inr (Or.inl h)))
      · exact Or.inr (Or.inr (Or.inr (Or.inr (by rw [h]; exact va_Nw.use rfl (hX.2.2.1 E hE)))))
      · exact Or.inr (Or.inr (Or.inr (Or.inr (by rw [h]; exact va_Nw.use rfl (hX.2.2.2.2.2 _ (List.mem_cons_self))))))
      · exact Or.inr (Or.inr (Or.inr (Or.inr (by rw [h]; exact va_Nw.use rfl (hX.2.2.2.2.2 _ (List.mem_cons_of_mem _ List.mem_cons_self))))))
      · exact Or.inr (Or.inr (Or.inr (Or.inr (by rw [h]; exact va_Nw.use rfl (hX.2.2.2.2.2 _ (List.mem_cons_of_mem _ (List.mem_cons_of_mem _ List.mem_cons_self)))))))
    · exact Or.inr (Or.inr (Or.inr (Or.inr (S.2.2.2.2 w h))))
  · exact hR.1
  · have h9 : (["java/lang/RuntimeException", "java/lang/Exception"] : List String).length = 2 := rfl
    rw [h9]
    omega
end Nm
/-! ===== calls of methods that may throw or write in the class's world ===== -/
section Nxm
variable {p : Program} {l : Launch} {e : Env} {R : Room} {s : State} {m : MethodId} {args : Array Value} {below : List Frame} {meth : Method} {c : Code}
variable {own C : String} {i : Nat} {y : MethodName} {b cc : ByteArray} {mL nL n pc : Nat} {r : Option FieldType} {rm : Room} {As rest st0 : List Value} {ls : Array Slot} {Pre : State → Prop}
variable {exc : String → Prop} {rt : Option Value → State → State → Prop} {ex : String → Prop} {A : Nat → Prop}
theorem nx_outL {q : Addr} {st t : State} {H1 : Heap} {L : List Loc} (hno : ∀ x ∈ c.exceptionTable.toList, ∀ pc, covers x pc = false) (hlocks : meth.locks = false) (h0 : st.heap = s.heap) (hw : s.WarmedH st.vm) (ht : t.heap = H1) (hL : ∀ z ∈ L, A z.base) (hq : ∃ E : String, exc E ∧ ny_Thr E st q t) (hE : ∀ E, exc E → ex E) :
    ny_W p l e R s m args below meth c H1 L 1 6 (ny_MQ below (nxQ rt ex) args s 0 0 1 6 A) (F0 m pc ls rest) q := by
  obtain ⟨E, h1, h2⟩ := hq
  refine ny_out (fun x hx => hno x hx _) hlocks (fun t9 ht9 hW9 => ⟨E, hE E h1, ?_⟩) hL (Nat.le_refl _) (Nat.le_refl _)
  obtain ⟨ce, g1, g2, g3, g4, g5⟩ := h2.up h0 hw
  have e9 : t9.heap = t.heap := by rw [ht9, ht]
  exact ⟨ce, by rw [e9]; exact g1, g2, g3, by rw [e9]; exact g4, fun z hz => by rw [e9]; exact g5 z hz⟩
/-- a void method that may throw, or else writes within A -/
theorem nx_mv {B : Heap → Prop} {K : Prop} {o : Nat} (S : CallFix p m c cc nL s args nzG own) (hM : ny_Met l y (Cond.code y b mL r :: nzG) rm (va_Pc (.ref o :: As) Pre) (nxQ (fun v st t => v = none ∧ K ∧ B t.heap ∧ va_F A st t) exc) 0 0 1 6 A) (hw : nzV own i C y b mL r n) (hR : nzR rm R mL 1 6) (hc : 1 ≤ R.cells ∧ 6 ≤ R.slots)
    (hbl : ∀ (a : Array Value) (U : State) (g : JFrame) (mk : MethodId), Pre U → Pre (U.calling g mk a)) (hob : ∃ cellB : Cell, s.heap[o]? = some cellB ∧ cellB.vm.isStatics = false ∧ s.vm.findClass C = some cellB.cls) (hpre : ∀ U : State, U.heap = s.heap → s.WarmedH U.vm → Pre U)
    (hn : As.length = n) (hsz : ls.size = nL) (hst : st0 = As.reverse ++ .ref o :: rest) (hW : (rest.map fun v => v.category).sum ≤ 8) (hdg : decode cc pc = .ok (.invokevirtual i, 3))
    (hno : ∀ x ∈ c.exceptionTable.toList, ∀ pc, covers x pc = false) (hlocks : meth.locks = false) (hE : ∀ E, exc E → ex E)
    (kk : ∀ (H1 : Heap) (locs1 : List Loc), K → B H1 → va_S A s.heap H1 locs1 → W p l e R s m args below meth c H1 locs1 0 0 (ny_MQ below (nxQ rt ex) args s 0 0 1 6 A) (F0 m (pc + 3) ls rest)) : W p l e R s m args below meth c s.heap [] 0 0 (ny_MQ below (nxQ rt ex) args s 0 0 1 6 A) (F0 m pc ls st0) := by
  refine ny_call (ny_runV S hM (hw.cb S.2.2.2.2 hR.1 hR.2.1 hR.2.2) ⟨fun a U g mk q => ⟨q.1, hbl a U g mk q.2⟩, hob, fun U hU hW => ⟨rfl, hpre U hU hW⟩⟩ rfl hn hsz hst (lv_room hW) hdg ⟨by omega, by omega⟩) ?_ ?_
  · intro v st₀ t H1 L h0 hw0 ht hwt hL hq
    obtain ⟨rfl, hk, hB, hF⟩ := hq
    rw [ht] at hB
    refine kk H1 ([] ++ L) hk hB ⟨?_, fun q h1 h2 => ?_, fun z hz => hL z (by simpa using hz)⟩
    · rw [← ht, ← h0]; exact hF.1
    · rw [← ht, ← h0]; exact hF.2 q (by rw [h0]; exact h1) h2
  · intro q st₀ t H1 L h0 hw0 ht hwt hL hq
    exact nx_outL hno hlocks h0 hw0 ht (fun z hz => hL z (by simpa using hz)) hq hE
end Nxm
section Nmb
variable {cA cW : ClassId} {T : Nat → Nat} {D : va_G} {p : Program} {l : Launch} {e : Env} {R : Room} {s : State} {m : MethodId} {args : Array Value} {below : List Frame} {meth : Method} {c : Code} {cells slots : Nat} {Q : State → Prop}
variable {cc : ByteArray} {nL pc : Nat} {ls : Array Slot} {rest : List Value} {own C : String} {i9 : Nat} {y : MethodName} {b : ByteArray} {mL n9 : Nat} {r : Option FieldType} {rm : Room} {As st0 : List Value}
/-- a method that doesn't throw and writes in the class's world, called before anything was written -/
theorem nm_callB {B : Heap → Prop} {w : va_W} {o : Nat} (S : CallFix p m c cc nL s args nzG own) (hM : Met l y (Cond.code y b mL r :: nzG) rm (va_Pc (.ref o :: As) (nmP D cA cW w)) (va_Qv (fun _ : Unit => True) (fun _ t => B t.heap) (nvA T)) 0 0 (nvA T)) (hw : nzV own i9 C y b mL r n9) (hR : nzR rm R mL 0 0) (hc : cells ≤ R.cells ∧ slots ≤ R.slots)
    (hob : ∃ cellB : Cell, s.heap[o]? = some cellB ∧ cellB.vm.isStatics = false ∧ s.vm.findClass C = some cellB.cls) (hP : va_P D vwCl w s.heap) (hK : va_K D vwCl (nvTy cA cW) s) (hX : nmX s)
    (hn : As.length = n9) (hsz : ls.size = nL) (hst : st0 = As.reverse ++ .ref o :: rest) (hW : (rest.map fun v => v.category).sum ≤ 8) (hdg : decode cc pc = .ok (.invokevirtual i9, 3))
    (kk : ∀ (H1 : Heap) (locs1 : List Loc), B H1 → va_S (nvA T) s.heap H1 locs1 → W p l e R s m args below meth c H1 locs1 cells slots Q (F0 m (pc + 3) ls rest)) : W p l e R s m args below meth c s.heap [] cells slots Q (F0 m pc ls st0) := by
  refine va_callv (A0 := nvA T) (H0 := s.heap) (va_runV S hM (hw.cb S.2.2.2.2 hR.1 hR.2.1 hR.2.2) ⟨fun a U g mk q => ⟨q.1, nmP.bl a U g mk q.2⟩, hob, fun U hU hW => ⟨rfl, nmP.to hP hK hX U hU hW⟩⟩ rfl hn hsz hst (lv_room hW) hdg hc) va_S.rf (fun q _ h => h) (fun q h => h) ?_
  intro u t H1 locs1 ht hvm hw9 hB hz hk hS1
  rw [ht] at hB
  exact kk H1 locs1 hB hS1
end Nmb
end
section
/-! ===== what the methods of NineValues answer: codes, new states ===== -/
section Sp
abbrev eIO : String := "java/lang/IndexOutOfBoundsException"
abbrev eIA : String := "java/lang/IllegalArgumentException"
abbrev eIS : String := "java/lang/IllegalStateException"
abbrev eAR : String := "java/lang/ArithmeticException"
def exI (k : Nat) : String := if k = 1 then eIO else if k = 2 then eIA else eAR
def exS (k : Nat) : String := if k = 1 then eIO else eIS
/-- code K is told by an exception -/
def exK (ex : Nat → String) (K : Nat) : String → Prop := fun E => K ≠ 0 ∧ E = ex K
theorem exK_of {ex : Nat → String} {K k : Nat} (hk : K = k) (h0 : k ≠ 0) {E : String} (hE : E = ex k) : exK ex K E := by
  subst hk
  exact ⟨h0, hE⟩
/-- an index as a number -/
def ix (x : Int32) : Nat := x.toNatClampNeg
theorem ix_nI {j : Nat} (h : j < 2 ^ 31) : ix (nI j) = j := nI_clamp h
abbrev plB (x : Int32) : Prop := x < 0 ∨ 16 ≤ x
abbrev lenB (x : Int32) : Prop := x < 0 ∨ 64 < x
abbrev valB (x : Int32) : Prop := x < 0 ∨ 8 < x
theorem in_not {x : Int32} {c : Int32} {N : Nat} (hc : c = nI N) (hN : N < 2 ^ 31) (h : ¬ (x < 0 ∨ c ≤ x)) : ∃ j : Nat, j < N ∧ x = nI j := by
  subst hc
  rcases pk_ix x hN with q | q | q
  · exact absurd (Or.inl q) h
  · exact absurd (Or.inr q) h
  · exact q
theorem in_not' {x : Int32} {c : Int32} {N : Nat} (hc : c = nI N) (hN : N + 1 < 2 ^ 31) (h : ¬ (x < 0 ∨ c < x)) : ∃ j : Nat, j ≤ N ∧ x = nI j := by
  subst hc
  rcases pk_ix x hN with q | q | ⟨j, q1, q2⟩
  · exact absurd (Or.inl q) h
  · exfalso
    refine h (Or.inr ?_)
    rcases pk_ix x (n := 2147483647) (by decide) with w | w | ⟨j, w1, w2⟩
    · exact absurd (Or.inl w) h
    · have h1 : x.toInt ≤ 2147483647 := by have := x.toInt_lt; omega
      have h2 : (nI 2147483647) ≤ x := w
      rw [Int32.le_iff_toInt_le, nI_toInt (by decide)] at h2
      rw [Int32.lt_iff_toInt_lt, nI_toInt (by omega)]
      omega
    · subst w2
      exact (nI_ltI (by omega) (by omega)).mpr (by have := (nI_leI (by omega) (by omega)).mp q; omega)
  · exact ⟨j, by omega, q2⟩
theorem plB_not {x : Int32} (h : ¬ plB x) : ∃ j : Nat, j < 16 ∧ x = nI j := in_not rfl (by decide) h
theorem lenB_not {x : Int32} (h : ¬ lenB x) : ∃ j : Nat, j ≤ 64 ∧ x = nI j := in_not' rfl (by decide) h
theorem valB_not {x : Int32} (h : ¬ valB x) : ∃ j : Nat, j < 9 ∧ x = nI j := by
  obtain ⟨j, h1, h2⟩ := in_not' (N := 8) rfl (by decide) h
  exact ⟨j, by omega, h2⟩
theorem plB_nI {j : Nat} (h : j < 16) : ¬ plB (nI j) := by
  rintro (q | q)
  · exact nI_pos (by omega) q
  · have := (nI_leI (a := 16) (b := j) (by decide) (by omega)).mp q
    omega
/-- lengths and values are such -/
def nvOk (n : Nat → Nat) (g : Nat → Nat → Nat) : Prop := (∀ j, n j ≤ 64) ∧ ∀ j k, g j k < 9
/-- the word 'to' has become N elements F; of the first M words no other has changed -/
def nvU (M : Nat) (n : Nat → Nat) (g : Nat → Nat → Nat) (to N : Nat) (F : Nat → Nat) (n' : Nat → Nat) (g' : Nat → Nat → Nat) : Prop :=
  n' to = N ∧ (∀ k, k < N → g' to k = F k) ∧ (∀ j, j < M → j ≠ to → n' j = n j ∧ g' j = g j) ∧ nvOk n' g'
variable {M N N' to : Nat} {n n1 n2 : Nat → Nat} {g g1 g2 : Nat → Nat → Nat} {F F' : Nat → Nat}
theorem nvOk_up (ok : nvOk n g) (hN : N ≤ 64) (h : ∀ k, F k < 9) : nvOk (va_up n to N) (va_up g to F) := by
  refine ⟨fun j => ?_, fun j k => ?_⟩
  · by_cases h1 : j = to
    · subst h1; rw [va_up_self]; exact hN
    · rw [va_up_ne _ _ h1]; exact ok.1 j
  · by_cases h1 : j = to
    · subst h1; rw [va_up_self]; exact h k
    · rw [va_up_ne _ _ h1]; exact ok.2 j k
theorem nvU_lay (ok : nvOk n g) (hN : N ≤ 64) (hF : ∀ k, k < N → F k < 9) : nvU M n g to N F (va_up n to N) (va_up g to (pov F (g to) 0 N)) := by
  refine ⟨va_up_self _ _ _, fun k hk => ?_, fun j _ hj => ⟨va_up_ne _ _ hj, va_up_ne _ _ hj⟩, nvOk_up ok hN (pov_lt (fun k _ h2 => hF k (by omega)) (ok.2 _))⟩
  rw [va_up_self]
  exact pov_in (Nat.zero_le _) (by omega)
theorem nvU_copy (h : nvU 17 n g 16 N F n1 g1) (ht : to < 16) (h2 : nvU 17 n1 g1 to (n1 16) (g1 16) n2 g2) : nvU 16 n g to N F n2 g2 :=
  ⟨h2.1.trans h.1, fun k hk => (h2.2.1 k (by rw [h.1]; exact hk)).trans (h.2.1 k hk), fun j hj hne => ⟨((h2.2.2.1 j (by omega) hne).1).trans (h.2.2.1 j (by omega) (by omega)).1, ((h2.2.2.1 j (by omega) hne).2).trans (h.2.2.1 j (by omega) (by omega)).2⟩, h2.2.2.2⟩
theorem nvU_eq (h : nvU M n g to N F n1 g1) (hN : N = N') (hF : ∀ k, k < N' → F k = F' k) : nvU M n g to N' F' n1 g1 := by
  subst hN
  exact ⟨h.1, fun k hk => (h.2.1 k hk).trans (hF k hk), h.2.2⟩
theorem nvU_le (h : nvU M n g to N F n1 g1) {M' : Nat} (hM : M' ≤ M) : nvU M' n g to N F n1 g1 := ⟨h.1, h.2.1, fun j hj => h.2.2.1 j (by omega), h.2.2.2⟩
end Sp
section Sq
variable {M N N' to a at0 k0 L v : Nat} {n n1 n2 : Nat → Nat} {g g1 g2 : Nat → Nat → Nat} {F F' : Nat → Nat}
theorem nvU_put (ok : nvOk n g) {k : Nat} (hv : v < 9) : nvU M n g to (n to) (va_up (g to) k v) n (va_up g to (va_up (g to) k v)) := by
  refine ⟨rfl, fun j _ => by rw [va_up_self], fun j _ h => ⟨rfl, va_up_ne _ _ h⟩, ok.1, fun j i => ?_⟩
  by_cases h1 : j = to
  · subst h1
    rw [va_up_self]
    by_cases h2 : i = k
    · subst h2; rw [va_up_self]; exact hv
    · rw [va_up_ne _ _ h2]; exact ok.2 _ i
  · rw [va_up_ne _ _ h1]; exact ok.2 j i
/-- a new length, the elements as they lie -/
theorem nvU_size (ok : nvOk n g) (hN : N ≤ 64) : nvU M n g to N (g to) (va_up n to N) g := by
  refine ⟨va_up_self _ _ _, fun _ _ => rfl, fun j _ h => ⟨va_up_ne _ _ h, rfl⟩, fun j => ?_, ok.2⟩
  by_cases h1 : j = to
  · subst h1; rw [va_up_self]; exact hN
  · rw [va_up_ne _ _ h1]; exact ok.1 j
/-- L elements of a, from k0 on, are laid over those from at0 on -/
theorem nvU_on (h : nvU 17 n g to N F n1 g1) (ha : a < 17) (hne : a ≠ to) : nvU 17 n g to N (fun x => if at0 ≤ x ∧ x < at0 + L then g a (k0 + (x - at0)) else F x) n1 (va_up g1 to (pov (fun x => g1 a (k0 + (x - at0))) (g1 to) at0 L)) := by
  have ea := (h.2.2.1 a ha hne).2
  refine ⟨h.1, fun x hx => ?_, fun j hj hn => ⟨(h.2.2.1 j hj hn).1, (va_up_ne _ _ hn).trans (h.2.2.1 j hj hn).2⟩, h.2.2.2.1, fun j i => ?_⟩
  · rw [va_up_self]
    show (if at0 ≤ x ∧ x < at0 + L then g1 a (k0 + (x - at0)) else g1 to x) = if at0 ≤ x ∧ x < at0 + L then g a (k0 + (x - at0)) else F x
    by_cases hc : at0 ≤ x ∧ x < at0 + L
    · rw [if_pos hc, if_pos hc, ea]
    · rw [if_neg hc, if_neg hc]; exact h.2.1 x hx
  · by_cases h1 : j = to
    · subst h1
      rw [va_up_self]
      exact pov_lt (fun _ _ _ => h.2.2.2.2 _ _) (h.2.2.2.2 _) i
    · rw [va_up_ne _ _ h1]; exact h.2.2.2.2 j i
theorem nvU_fin (h : nvU 17 n g 16 N F n1 g1) (ht : to < 16) : nvU 16 n g to N F (va_up n1 to (n1 16)) (va_up g1 to (pov (g1 16) (g1 to) 0 (n1 16))) :=
  nvU_copy h ht (nvU_lay h.2.2.2 (h.2.2.2.1 16) (fun k _ => h.2.2.2.2 16 k))
theorem nI_min (a b : Nat) (ha : a < 2 ^ 31) (hb : b < 2 ^ 31) : (if nI b < nI a then nI b else nI a) = nI (min a b) := by
  by_cases h : b < a
  · rw [if_pos ((nI_ltI hb ha).mpr h), Nat.min_eq_right (by omega)]
  · rw [if_neg (fun q => h ((nI_ltI hb ha).mp q)), Nat.min_eq_left (by omega)]
theorem nI_max (a b : Nat) (ha : a < 2 ^ 31) (hb : b < 2 ^ 31) : (if nI a < nI b then nI b else nI a) = nI (max a b) := by
  by_cases h : a < b
  · rw [if_pos ((nI_ltI ha hb).mpr h), Nat.max_eq_right (by omega)]
  · rw [if_neg (fun q => h ((nI_ltI ha hb).mp q)), Nat.max_eq_left (by omega)]
theorem zAll_n {f : Nat → Nat} (h : nI (zAll f N) = 0) : ¬ zAll f N = 1 := fun q => by rw [q] at h; exact absurd h (by decide)
theorem zAll_y {f : Nat → Nat} (h : ¬ nI (zAll f N) = 0) : zAll f N = 1 := by
  rcases zAll_01 f N with q | q
  · exact absurd (by rw [q]; rfl) h
  · exact q
theorem zCnt_01 (f : Nat → Nat) (N : Nat) : zCnt f N = 0 ∨ zCnt f N = 1 := by
  unfold zCnt
  split
  · exact Or.inr rfl
  · exact Or.inl rfl
theorem zCnt_n {f : Nat → Nat} (h : nI (zCnt f N) = 0) : ¬ zCnt f N = 1 := fun q => by rw [q] at h; exact absurd h (by decide)
theorem zCnt_y {f : Nat → Nat} (h : ¬ nI (zCnt f N) = 0) : zCnt f N = 1 := by
  rcases zCnt_01 f N with q | q
  · exact absurd (by rw [q]; rfl) h
  · exact q
end Sq
section Sr
abbrev elB (n : Nat → Nat) (x1 x2 : Int32) : Prop := plB x1 ∨ x2 < 0 ∨ nI (n (ix x1)) ≤ x2
def kFill (x1 x2 x3 : Int32) : Nat := if plB x1 then 1 else if lenB x2 ∨ valB x3 then 2 else 0
def kPut (n : Nat → Nat) (x1 x2 x3 : Int32) : Nat := if elB n x1 x2 then 1 else if valB x3 then 2 else 0
def kGet (n : Nat → Nat) (x1 x2 : Int32) : Nat := if elB n x1 x2 then 1 else 0
def kPl (x1 : Int32) : Nat := if plB x1 then 1 else 0
def kPl2 (x1 x2 : Int32) : Nat := if plB x1 ∨ plB x2 then 1 else 0
def kNumber (x1 x2 : Int32) : Nat := if plB x1 then 1 else if lenB x2 then 2 else 0
def kNumberOf (n : Nat → Nat) (g : Nat → Nat → Nat) (x1 : Int32) : Nat := if plB x1 then 1 else if zAll (g (ix x1)) (n (ix x1)) = 1 then 0 else 2
def kBring (x2 x3 x4 : Int32) : Nat := if plB x3 ∨ plB x4 then 1 else if lenB x2 then 2 else 0
def fBring (b1 : Nat) (f : Nat → Nat) (N : Nat) : Nat → Nat := fun k => if k < N then f k else if b1 = 1 then zLast f N else 2
def kCut (n : Nat → Nat) (x1 x2 x3 x4 : Int32) : Nat := if plB x3 ∨ plB x4 ∨ x1 < 0 ∨ nI (n (ix x3)) < x1 ∨ x2 < 0 ∨ nI (n (ix x3)) - x1 < x2 then 1 else 0
/-- below, of 64 bits: signed where b1 = 1 -/
def zBelow (b1 p q : Nat) : Prop := if b1 = 1 then lN p < lN q else p < q
noncomputable def zCompare (b1 : Nat) (f : Nat → Nat) (N : Nat) (h : Nat → Nat) (N' : Nat) : Int32 :=
  if zCnt f N = 1 ∧ zCnt h N' = 1 then (if zLong b1 f N = zLong b1 h N' then 0 else @ite _ (zBelow b1 (zLong b1 f N) (zLong b1 h N')) (Classical.propDecidable _) (-1) 1) else 2
/-- same, or matched -/
def zSame (b1 : Nat) (f h : Nat → Nat) (N N' : Nat) : Nat := if N = N' ∧ ∀ k, k < N → (if b1 = 1 then zMatch (f k) (h k) = 1 else f k = h k) then 1 else 0
def kAll (x1 x2 : Int32) : Nat := if plB x2 then 1 else if x1 < 0 ∨ 3 < x1 then 2 else 0
def zAllOf (o : Nat) (f : Nat → Nat) (N : Nat) : Nat := if o = 0 then zFold 1 3 f N else if o = 1 then zFold 2 2 f N else if o = 2 then zFold 3 2 f N else zFold 0 4 f N
def kEdge (x1 x2 : Int32) : Nat := if valB x1 ∨ valB x2 then 1 else 0
def zEdge (p q : Nat) : Int32 := if zLow p = 1 ∧ zHigh q = 1 then 1 else if zHigh p = 1 ∧ zLow q = 1 then -1 else 0
end Sr
section Ss
variable {b1 N N' : Nat} {f h : Nat → Nat}
theorem lcmp_eq {a b : Nat} (ha : a < 2 ^ 64) (hb : b < 2 ^ 64) : lg_cmp (lN a) (lN b) = 0 ↔ a = b := by
  constructor
  · intro q
    unfold lg_cmp at q
    by_cases h1 : lN a > lN b
    · rw [if_pos h1] at q; exact absurd q (by decide)
    · rw [if_neg h1] at q
      by_cases h2 : lN a = lN b
      · have := congrArg (fun x : Int64 => x.toBitVec.toNat) h2
        simpa [wb_tn ha, wb_tn hb] using this
      · rw [if_neg h2] at q; exact absurd q (by decide)
  · intro q
    subst q
    unfold lg_cmp
    rw [if_neg (Int64.lt_irrefl), if_pos rfl]
theorem zCmp_2 (q : ¬ (zCnt f N = 1 ∧ zCnt h N' = 1)) : (2 : Int32) = zCompare b1 f N h N' := (if_neg q).symm
theorem zCmp_0 (q1 : zCnt f N = 1) (q2 : zCnt h N' = 1) (q : zLong b1 f N = zLong b1 h N') : (0 : Int32) = zCompare b1 f N h N' := by
  unfold zCompare
  rw [if_pos ⟨q1, q2⟩, if_pos q]
theorem zCmp_m (q1 : zCnt f N = 1) (q2 : zCnt h N' = 1) (q : ¬ zLong b1 f N = zLong b1 h N') (w : zBelow b1 (zLong b1 f N) (zLong b1 h N')) : (-1 : Int32) = zCompare b1 f N h N' := by
  unfold zCompare
  rw [if_pos ⟨q1, q2⟩, if_neg q, if_pos w]
theorem zCmp_p (q1 : zCnt f N = 1) (q2 : zCnt h N' = 1) (q : ¬ zLong b1 f N = zLong b1 h N') (w : ¬ zBelow b1 (zLong b1 f N) (zLong b1 h N')) : (1 : Int32) = zCompare b1 f N h N' := by
  unfold zCompare
  rw [if_pos ⟨q1, q2⟩, if_neg q, if_neg w]
theorem zBelow_s {p q : Nat} (hb : b1 = 1) : zBelow b1 p q ↔ lN p < lN q := by
  unfold zBelow
  rw [if_pos hb]
theorem zBelow_u {p q : Nat} (hb : b1 = 0) : zBelow b1 p q ↔ p < q := by
  unfold zBelow
  rw [if_neg (by omega)]
theorem zSame_0 (q : ¬ (N = N' ∧ ∀ k, k < N → (if b1 = 1 then zMatch (f k) (h k) = 1 else f k = h k))) : (0 : Int32) = nI (zSame b1 f h N N') := by
  rw [show zSame b1 f h N N' = 0 from if_neg q]; rfl
theorem zSame_1 (q : N = N' ∧ ∀ k, k < N → (if b1 = 1 then zMatch (f k) (h k) = 1 else f k = h k)) : (1 : Int32) = nI (zSame b1 f h N N') := by
  rw [show zSame b1 f h N N' = 1 from if_pos q]; rfl
end Ss
section St
/-- as a signed number -/
theorem isub_toInt {a b : Int32} (h : -2147483648 ≤ a.toInt - b.toInt) (h2 : a.toInt - b.toInt < 2147483648) : (a - b).toInt = a.toInt - b.toInt := by
  rw [Int32.toInt_sub]
  exact Int.bmod_eq_of_le (by omega) (by omega)
def fMove (dl : Int) (v : Nat) (f : Nat → Nat) (N : Nat) : Nat → Nat := fun k => if 0 ≤ (k : Int) - dl ∧ (k : Int) - dl < N then f ((k : Int) - dl).toNat else v
def fRound (dl : Int) (f : Nat → Nat) (N : Nat) : Nat → Nat := fun k => f (((k : Int) - dl) % (N : Int)).toNat
def zNeg (P : Nat) : Nat := (18446744073709551616 - P) % 18446744073709551616
def zSize (o P : Nat) : Nat := if o = 5 ∨ 9223372036854775808 ≤ P then zNeg P else P
def fChange (o : Nat) (f : Nat → Nat) (N : Nat) : Nat → Nat := fun k => if o = 4 then zNot (f k) else if o < 4 then zStrip o (f k) else if zAll f N = 1 then zPut (zSize o (zLong 1 f N)) k else 1
theorem zNeg_lt (P : Nat) : zNeg P < 2 ^ 64 := Nat.mod_lt _ (by decide)
theorem lN_neg {P : Nat} (h : P < 2 ^ 64) : - lN P = lN (zNeg P) := by
  apply wb_inj
  rw [wb_tb, Int64.toBitVec_neg, wb_tb]
  apply BitVec.eq_of_toNat_eq
  rw [BitVec.toNat_neg, BitVec.toNat_ofNat, BitVec.toNat_ofNat]
  unfold zNeg
  omega
theorem lN_lt0 {P : Nat} (h : P < 2 ^ 64) : (0 ≤ lg_cmp (lN P) 0) ↔ P < 9223372036854775808 := by
  rw [lg_cmp_ge, Int64.le_iff_toInt_le]
  have h1 : (lN P).toInt = if P < 2 ^ 63 then (P : Int) else (P : Int) - 2 ^ 64 := lN_ti h
  rw [h1]
  have h0 : (0 : Int64).toInt = 0 := rfl
  rw [h0]
  split <;> omega
theorem pov_k {F h : Nat → Nat} {k : Nat} (e : h k = F k) : pov F h 0 k = pov F h 0 (k + 1) := by
  rw [← pov_s0, ← e]
  have : pov F h 0 k k = h k := pov_out (Or.inr (by omega))
  rw [← this, va_up_eta]
end St
section Su
variable {N v : Nat} {n n1 : Nat → Nat} {g : Nat → Nat → Nat} {F : Nat → Nat}
theorem pov_two (F h f : Nat → Nat) (N k : Nat) (hk : k < N) : pov F (pov h f 0 N) 0 N k = F k := pov_in (Nat.zero_le _) (by omega)
theorem nvU_two {a : Nat} (hn1 : va_up n 16 (n a) = n1) (ok : nvOk n g) (hN : n a ≤ 64) (hF : ∀ k, k < n a → F k < 9) {h : Nat → Nat} (hh : ∀ k, k < n a → h k < 9 := by intros; assumption) : nvU 17 n g 16 (n a) F n1 (va_up g 16 (pov F (pov h (g 16) 0 (n a)) 0 (n a))) := by
  subst hn1
  refine ⟨va_up_self _ _ _, fun k hk => ?_, fun j _ hj => ⟨va_up_ne _ _ hj, va_up_ne _ _ hj⟩, nvOk_up ok hN (pov_lt (fun k _ h2 => hF k (by omega)) (pov_lt (fun k _ h2 => hh k (by omega)) (ok.2 _)))⟩
  rw [va_up_self]
  exact pov_in (Nat.zero_le _) (by omega)
end Su
section Sv
def kChange (x1 x2 x3 : Int32) : Nat := if plB x2 ∨ plB x3 then 1 else if x1 < 0 ∨ 6 < x1 then 2 else 0
abbrev shB (x1 x2 x3 : Int32) : Prop := valB x3 ∨ (x1 < 0 ∨ 4 < x1) ∨ x2 < (-1000) ∨ 1000 < x2
def kShift (x1 x2 x3 x4 x5 : Int32) : Nat := if plB x4 ∨ plB x5 then 1 else if shB x1 x2 x3 then 2 else 0
def fShift (o : Nat) (dl : Int) (v : Nat) (f : Nat → Nat) (N : Nat) : Nat → Nat :=
  if o = 0 then fMove dl v f N else if o = 1 then fMove (-dl) v f N else if o = 2 then fMove (-dl) (if dl < 0 then 2 else zLast f N) f N else if o = 3 then fRound dl f N else fRound (-dl) f N
theorem ineg_toInt {x : Int32} (h : -1000 ≤ x.toInt) : (-x).toInt = - x.toInt := by
  rw [Int32.toInt_neg]
  have := x.toInt_lt
  exact Int.bmod_eq_of_le (by omega) (by omega)
theorem sh_bd {x : Int32} (h1 : ¬ x < (-1000)) (h2 : ¬ 1000 < x) : -1000 ≤ x.toInt ∧ x.toInt ≤ 1000 := by
  rw [Int32.lt_iff_toInt_lt] at h1 h2
  have e1 : (-1000 : Int32).toInt = -1000 := by decide
  have e2 : (1000 : Int32).toInt = 1000 := by decide
  rw [e1] at h1
  rw [e2] at h2
  omega
end Sv
end
section
/-! ===== lengths, sums, products, quotients ===== -/
section Ar
def zLen (o a b : Nat) : Nat := if o = 7 ∨ o = 8 then max a b else if o = 9 then a + b else if o = 10 then a else b
def zSum (o p q : Nat) : Nat := if o = 7 then (p + q) % 18446744073709551616 else if o = 8 then (p + (18446744073709551616 - q)) % 18446744073709551616 else p * q % 18446744073709551616
theorem zSum_lt (o p q : Nat) : zSum o p q < 2 ^ 64 := by
  unfold zSum
  split
  · exact Nat.mod_lt _ (by decide)
  · split
    · exact Nat.mod_lt _ (by decide)
    · exact Nat.mod_lt _ (by decide)
theorem lN_mod (n : Nat) : lN n = lN (n % 18446744073709551616) := wb_mod n
theorem zSum_7 (p q : Nat) : lN p + lN q = lN (zSum 7 p q) := by
  rw [lN_add, lN_mod]; rfl
theorem zSum_8 {p q : Nat} (hq : q < 2 ^ 64) : lN p - lN q = lN (zSum 8 p q) := by
  apply wb_inj
  rw [Int64.toBitVec_sub, wb_tb, wb_tb, wb_tb]
  apply BitVec.eq_of_toNat_eq
  rw [BitVec.toNat_sub, BitVec.toNat_ofNat, BitVec.toNat_ofNat, BitVec.toNat_ofNat]
  have e : zSum 8 p q = (p + (18446744073709551616 - q)) % 18446744073709551616 := rfl
  rw [e]
  omega
theorem zSum_9 (p q : Nat) : lN p * lN q = lN (zSum 9 p q) := by
  rw [lN_mul, lN_mod]; rfl
/-- the remainder that has the divisor's sign -/
def sFm (P Q : Int64) : Int64 := if (P ^^^ Q) < 0 ∧ ¬ P - P / Q * Q = 0 then P - P / Q * Q + Q else P - P / Q * Q
def sDiv (o : Nat) (P Q : Int64) : Int64 := if o = 10 then P / Q else if o = 11 then P - P / Q * Q else sFm P Q
def zU (z : Int64) : Nat := z.toBitVec.toNat
theorem zU_lt (z : Int64) : zU z < 2 ^ 64 := z.toBitVec.isLt
theorem lN_zU (z : Int64) : lN (zU z) = z := by
  apply wb_inj
  rw [wb_tb]
  apply BitVec.eq_of_toNat_eq
  rw [BitVec.toNat_ofNat]
  exact Nat.mod_eq_of_lt z.toBitVec.isLt
def zDiv (o b1 p q : Nat) : Nat := if b1 = 1 then zU (sDiv o (lN p) (lN q)) else if o = 10 then p / q else p % q
theorem zDiv_lt {o b1 p q : Nat} (hp : p < 2 ^ 64) (hq : 0 < q) (hq2 : q < 2 ^ 64) : zDiv o b1 p q < 2 ^ 64 := by
  unfold zDiv
  split
  · exact zU_lt _
  · split
    · exact Nat.lt_of_le_of_lt (Nat.div_le_self _ _) hp
    · exact Nat.lt_trans (Nat.mod_lt _ hq) hq2
def zArith (o b1 p q : Nat) : Nat := if o < 10 then zSum o p q else zDiv o b1 p q
def kCalc (o b1 : Nat) (f : Nat → Nat) (N : Nat) (h : Nat → Nat) (N' : Nat) : Nat :=
  if 64 < zLen o N N' then 2 else if zCnt f N = 1 ∧ zCnt h N' = 1 ∧ 10 ≤ o ∧ zLong b1 h N' = 0 then 3 else 0
def nCalc (o : Nat) (f : Nat → Nat) (N : Nat) (h : Nat → Nat) (N' : Nat) : Nat := if zCnt f N = 1 ∧ zCnt h N' = 1 then zLen o N N' else if N = 0 ∨ N' = 0 then 0 else zLen o N N'
def fCalc (o b1 : Nat) (f : Nat → Nat) (N : Nat) (h : Nat → Nat) (N' : Nat) : Nat → Nat := fun k => if zCnt f N = 1 ∧ zCnt h N' = 1 then zPut (zArith o b1 (zLong b1 f N) (zLong b1 h N')) k else 1
def kOp (o b1 : Nat) (f : Nat → Nat) (N : Nat) (h : Nat → Nat) (N' : Nat) : Nat := if o ≤ 6 then (if N = N' then 0 else 2) else if o = 13 then (if N + N' ≤ 64 then 0 else 2) else kCalc o b1 f N h N'
def nOp (o : Nat) (f : Nat → Nat) (N : Nat) (h : Nat → Nat) (N' : Nat) : Nat := if o ≤ 6 then N else if o = 13 then N + N' else nCalc o f N h N'
def fOp (o b1 : Nat) (f : Nat → Nat) (N : Nat) (h : Nat → Nat) (N' : Nat) : Nat → Nat := if o ≤ 6 then (fun k => zJoin o (f k) (h k)) else if o = 13 then (fun k => if k < N' then h k else f (k - N')) else fCalc o b1 f N h N'
def kOperate (n : Nat → Nat) (g : Nat → Nat → Nat) (b1 : Nat) (x1 x3 x4 x5 : Int32) : Nat :=
  if plB x3 ∨ plB x4 ∨ plB x5 then 1 else if x1 < 0 ∨ 13 < x1 then 2 else kOp (ix x1) b1 (g (ix x3)) (n (ix x3)) (g (ix x4)) (n (ix x4))
/-- half of p by q, doubled, is the quotient or one less -/
theorem uq_le (p q : Nat) : p / 2 / q * 2 * q ≤ p := by
  have h1 : p / 2 / q * q ≤ p / 2 := Nat.div_mul_le_self _ _
  have h2 : p / 2 / q * 2 * q = p / 2 / q * q * 2 := by rw [Nat.mul_assoc, Nat.mul_comm 2 q, ← Nat.mul_assoc]
  omega
theorem uq_lo {p q : Nat} (hq : 0 < q) (h : p - p / 2 / q * 2 * q < q) : p / q = p / 2 / q * 2 := by
  have h1 := uq_le p q
  refine Nat.div_eq_of_lt_le h1 ?_
  rw [Nat.add_mul, Nat.one_mul]
  omega
theorem uq_hi {p q : Nat} (hq : 0 < q) (h : ¬ p - p / 2 / q * 2 * q < q) : p / q = p / 2 / q * 2 + 1 := by
  have h1 := uq_le p q
  have h3 : p / 2 < p / 2 / q * q + q := by
    have := Nat.lt_div_mul_add hq (a := p / 2)
    exact this
  have h2 : p / 2 / q * 2 * q = p / 2 / q * q * 2 := by rw [Nat.mul_assoc, Nat.mul_comm 2 q, ← Nat.mul_assoc]
  refine Nat.div_eq_of_lt_le ?_ ?_
  · rw [Nat.add_mul, Nat.one_mul]; omega
  · rw [Nat.add_mul, Nat.add_mul, Nat.one_mul, h2]; omega
theorem uq_1 {p q : Nat} (hp : p < 2 ^ 64) (hq : 9223372036854775808 ≤ q) (h : ¬ p < q) : p / q = 1 := Nat.div_eq_of_lt_le (by omega) (by omega)
end Ar
section Ar2
theorem lcmp_gt0 {q : Nat} (h0 : 0 < q) (hq : q < 2 ^ 64) : (0 < lg_cmp (lN q) 0) ↔ q < 9223372036854775808 := by
  have h1 : (lN q).toInt = if q < 2 ^ 63 then (q : Int) else (q : Int) - 2 ^ 64 := lN_ti hq
  have hg : (lN q > 0) ↔ q < 9223372036854775808 := by
    show (0 : Int64) < lN q ↔ _
    rw [Int64.lt_iff_toInt_lt, h1, show (0 : Int64).toInt = 0 from rfl]
    split <;> omega
  unfold lg_cmp
  by_cases hc : lN q > 0
  · rw [if_pos hc]; exact ⟨fun _ => hg.mp hc, fun _ => by decide⟩
  · rw [if_neg hc]
    refine ⟨fun h => ?_, fun h => absurd (hg.mpr h) hc⟩
    split at h
    · exact absurd h (by decide)
    · exact absurd h (by decide)
theorem lcmp_z {q : Nat} (hq : q < 2 ^ 64) : lg_cmp (lN q) 0 = 0 ↔ q = 0 := lcmp_eq (b := 0) hq (by decide)
theorem lN_n0 {q : Nat} (hq : q < 2 ^ 64) (h : ¬ q = 0) : ¬ lN q = 0 := fun e => h (by
  have h1 := congrArg (fun x : Int64 => x.toBitVec.toNat) e
  have h2 : (lN q).toBitVec.toNat = q := wb_tn hq
  have h3 : (0 : Int64).toBitVec.toNat = 0 := rfl
  rw [← h2]
  exact h1.trans h3)
theorem lenB_of {z : Nat} (hz : z < 2 ^ 31) (h : lenB (nI z)) : 64 < z := by
  rcases h with q | q
  · exact absurd q (nI_pos hz)
  · exact (nI_ltI (a := 64) (by decide) hz).mp q
theorem lenB_no {z : Nat} (hz : z < 2 ^ 31) (h : ¬ lenB (nI z)) : z ≤ 64 := Nat.le_of_not_lt (fun q => h (Or.inr ((nI_ltI (a := 64) (by decide) hz).mpr q)))
theorem zLen_le (o : Nat) {a b : Nat} (ha : a ≤ 64) (hb : b ≤ 64) : zLen o a b ≤ 128 := by
  unfold zLen
  split
  · omega
  · split
    · omega
    · split <;> omega
end Ar2
end
section
set_option maxHeartbeats 4000000 in
set_option maxRecDepth 100000 in
theorem cN_requirePlace (l : Launch) (hfl : l.flags = pinnedFlags ++ [noTraceFlag]) (x1 : Int32) : ny_Met l yN_requirePlace (Cond.code yN_requirePlace bN_requirePlace 1 none :: nzG) ({ frames := 6, cells := 1, slots := 6, locals := 90 }) (va_Pc [.int x1] (nmX)) (nxQ (fun v st t => v = none ∧ t.heap = st.heap ∧ ¬ plB x1) (fun E => plB x1 ∧ E = eIO)) 0 0 1 6 (fun _ => False) := by
  refine nz_ofT (own := RN) (by decide) rfl ?_
  intro p e s m args below meth c S hr hlocks hno hv9
  obtain ⟨rfl, hX⟩ := hv9
  have hx := S.1
  have hb := S.2.1
  refine nz_entry (vs := [.int x1]) (n := 1) (lv := [(0, .int x1)]) (Nat.le_of_ble_eq_true rfl) rfl (fun ls hl => ?_)
  refine lv_iload_n hx hb dN_requirePlace_0 rfl (lv_at hl 0 rfl) ?_
  refine lv_if_lt (tgt := 10) hx hb dN_requirePlace_1 (by decide) (fun c1 => ?_) (fun c1 => ?_)
  · exact nm_throw (E := eIO) (tx := "no such place") (ik := 119) (is := 149) (ic := 123) S hfl hX (by decide) (by decide +kernel) kcl_119 kin_eIO (by decide) kat_eIO hl.1 ⟨(Nat.le_of_ble_eq_true rfl), (Nat.le_of_ble_eq_true rfl), (Nat.le_of_ble_eq_true rfl), (Nat.le_of_ble_eq_true rfl)⟩ (Nat.le_of_ble_eq_true rfl) hlocks hno dN_requirePlace_10 dN_requirePlace_13 dN_requirePlace_14 dN_requirePlace_16 dN_requirePlace_19 (fun t q hW h => ⟨eIO, ⟨Or.inl c1, rfl⟩, h⟩)
  · refine lv_iload_n hx hb dN_requirePlace_4 rfl (lv_at hl 0 rfl) ?_
    refine lv_bipush (v := 16) hx hb dN_requirePlace_5 (by decide) ?_
    refine lv_icmp_lt (tgt := 20) hx hb dN_requirePlace_7 (by decide) (fun c2 => ?_) (fun c2 => ?_)
    · refine ny_ret ?_
      exact W.vret hx hb hr (fun t ht hW => ⟨rfl, ht, fun q => q.elim c1 (Int32.not_le.mpr c2)⟩) (fun q h => nomatch h) dN_requirePlace_20
    · exact nm_throw (E := eIO) (tx := "no such place") (ik := 119) (is := 149) (ic := 123) S hfl hX (by decide) (by decide +kernel) kcl_119 kin_eIO (by decide) kat_eIO hl.1 ⟨(Nat.le_of_ble_eq_true rfl), (Nat.le_of_ble_eq_true rfl), (Nat.le_of_ble_eq_true rfl), (Nat.le_of_ble_eq_true rfl)⟩ (Nat.le_of_ble_eq_true rfl) hlocks hno dN_requirePlace_10 dN_requirePlace_13 dN_requirePlace_14 dN_requirePlace_16 dN_requirePlace_19 (fun t q hW h => ⟨eIO, ⟨Or.inr (by rw [Int32.not_lt] at c2; exact c2), rfl⟩, h⟩)
set_option maxHeartbeats 4000000 in
set_option maxRecDepth 100000 in
theorem cN_requireLength (l : Launch) (hfl : l.flags = pinnedFlags ++ [noTraceFlag]) (x1 : Int32) : ny_Met l yN_requireLength (Cond.code yN_requireLength bN_requireLength 1 none :: nzG) ({ frames := 6, cells := 1, slots := 6, locals := 90 }) (va_Pc [.int x1] (nmX)) (nxQ (fun v st t => v = none ∧ t.heap = st.heap ∧ ¬ lenB x1) (fun E => lenB x1 ∧ E = eIA)) 0 0 1 6 (fun _ => False) := by
  refine nz_ofT (own := RN) (by decide) rfl ?_
  intro p e s m args below meth c S hr hlocks hno hv9
  obtain ⟨rfl, hX⟩ := hv9
  have hx := S.1
  have hb := S.2.1
  refine nz_entry (vs := [.int x1]) (n := 1) (lv := [(0, .int x1)]) (Nat.le_of_ble_eq_true rfl) rfl (fun ls hl => ?_)
  refine lv_iload_n hx hb dN_requireLength_0 rfl (lv_at hl 0 rfl) ?_
  refine lv_if_lt (tgt := 10) hx hb dN_requireLength_1 (by decide) (fun c1 => ?_) (fun c1 => ?_)
  · exact nm_throw (E := eIA) (tx := "a length is 0 to 64") (ik := 64) (is := 153) (ic := 68) S hfl hX (by decide) (by decide +kernel) kcl_64 kin_eIA (by decide) kat_eIA hl.1 ⟨(Nat.le_of_ble_eq_true rfl), (Nat.le_of_ble_eq_true rfl), (Nat.le_of_ble_eq_true rfl), (Nat.le_of_ble_eq_true rfl)⟩ (Nat.le_of_ble_eq_true rfl) hlocks hno dN_requireLength_10 dN_requireLength_13 dN_requireLength_14 dN_requireLength_16 dN_requireLength_19 (fun t q hW h => ⟨eIA, ⟨Or.inl c1, rfl⟩, h⟩)
  · refine lv_iload_n hx hb dN_requireLength_4 rfl (lv_at hl 0 rfl) ?_
    refine lv_bipush (v := 64) hx hb dN_requireLength_5 (by decide) ?_
    refine lv_icmp_le (tgt := 20) hx hb dN_requireLength_7 (by decide) (fun c2 => ?_) (fun c2 => ?_)
    · refine ny_ret ?_
      exact W.vret hx hb hr (fun t ht hW => ⟨rfl, ht, fun q => q.elim c1 (Int32.not_lt.mpr c2)⟩) (fun q h => nomatch h) dN_requireLength_20
    · exact nm_throw (E := eIA) (tx := "a length is 0 to 64") (ik := 64) (is := 153) (ic := 68) S hfl hX (by decide) (by decide +kernel) kcl_64 kin_eIA (by decide) kat_eIA hl.1 ⟨(Nat.le_of_ble_eq_true rfl), (Nat.le_of_ble_eq_true rfl), (Nat.le_of_ble_eq_true rfl), (Nat.le_of_ble_eq_true rfl)⟩ (Nat.le_of_ble_eq_true rfl) hlocks hno dN_requireLength_10 dN_requireLength_13 dN_requireLength_14 dN_requireLength_16 dN_requireLength_19 (fun t q hW h => ⟨eIA, ⟨Or.inr (by rw [Int32.not_le] at c2; exact c2), rfl⟩, h⟩)
set_option maxHeartbeats 4000000 in
set_option maxRecDepth 100000 in
theorem cN_requireValue (l : Launch) (hfl : l.flags = pinnedFlags ++ [noTraceFlag]) (x1 : Int32) : ny_Met l yN_requireValue (Cond.code yN_requireValue bN_requireValue 1 none :: nzG) ({ frames := 6, cells := 1, slots := 6, locals := 90 }) (va_Pc [.int x1] (nmX)) (nxQ (fun v st t => v = none ∧ t.heap = st.heap ∧ ¬ valB x1) (fun E => valB x1 ∧ E = eIA)) 0 0 1 6 (fun _ => False) := by
  refine nz_ofT (own := RN) (by decide) rfl ?_
  intro p e s m args below meth c S hr hlocks hno hv9
  obtain ⟨rfl, hX⟩ := hv9
  have hx := S.1
  have hb := S.2.1
  refine nz_entry (vs := [.int x1]) (n := 1) (lv := [(0, .int x1)]) (Nat.le_of_ble_eq_true rfl) rfl (fun ls hl => ?_)
  refine lv_iload_n hx hb dN_requireValue_0 rfl (lv_at hl 0 rfl) ?_
  refine lv_if_lt (tgt := 10) hx hb dN_requireValue_1 (by decide) (fun c1 => ?_) (fun c1 => ?_)
  · exact nm_throw (E := eIA) (tx := "no such value") (ik := 64) (is := 155) (ic := 68) S hfl hX (by decide) (by decide +kernel) kcl_64 kin_eIA (by decide) kat_eIA hl.1 ⟨(Nat.le_of_ble_eq_true rfl), (Nat.le_of_ble_eq_true rfl), (Nat.le_of_ble_eq_true rfl), (Nat.le_of_ble_eq_true rfl)⟩ (Nat.le_of_ble_eq_true rfl) hlocks hno dN_requireValue_10 dN_requireValue_13 dN_requireValue_14 dN_requireValue_16 dN_requireValue_19 (fun t q hW h => ⟨eIA, ⟨Or.inl c1, rfl⟩, h⟩)
  · refine lv_iload_n hx hb dN_requireValue_4 rfl (lv_at hl 0 rfl) ?_
    refine lv_bipush (v := 8) hx hb dN_requireValue_5 (by decide) ?_
    refine lv_icmp_le (tgt := 20) hx hb dN_requireValue_7 (by decide) (fun c2 => ?_) (fun c2 => ?_)
    · refine ny_ret ?_
      exact W.vret hx hb hr (fun t ht hW => ⟨rfl, ht, fun q => q.elim c1 (Int32.not_lt.mpr c2)⟩) (fun q h => nomatch h) dN_requireValue_20
    · exact nm_throw (E := eIA) (tx := "no such value") (ik := 64) (is := 155) (ic := 68) S hfl hX (by decide) (by decide +kernel) kcl_64 kin_eIA (by decide) kat_eIA hl.1 ⟨(Nat.le_of_ble_eq_true rfl), (Nat.le_of_ble_eq_true rfl), (Nat.le_of_ble_eq_true rfl), (Nat.le_of_ble_eq_true rfl)⟩ (Nat.le_of_ble_eq_true rfl) hlocks hno dN_requireValue_10 dN_requireValue_13 dN_requireValue_14 dN_requireValue_16 dN_requireValue_19 (fun t q hW h => ⟨eIA, ⟨Or.inr (by rw [Int32.not_le] at c2; exact c2), rfl⟩, h⟩)
set_option maxHeartbeats 4000000 in
set_option maxRecDepth 100000 in
theorem cN_requireElement (l : Launch) (hfl : l.flags = pinnedFlags ++ [noTraceFlag]) (D : va_G) (cA cW : ClassId) (T : Nat → Nat) (hT : nvT T) (n : Nat → Nat) (g : Nat → Nat → Nat) (ok : nvOk n g) (x1 x2 : Int32) : ny_Met l yN_requireElement (Cond.code yN_requireElement bN_requireElement 3 none :: nzG) ({ frames := 7, cells := 1, slots := 6, locals := 110 }) (va_Pc [.ref (T 0), .int x1, .int x2] (nmP D cA cW (nvW cA cW T n g))) (nxQ (fun v st t => v = none ∧ t.heap = st.heap ∧ ¬ elB n x1 x2) (fun E => elB n x1 x2 ∧ E = eIO)) 0 0 1 6 (fun _ => False) := by
  refine nz_ofT (own := RN) (by decide) rfl ?_
  intro p e s m args below meth c S hr hlocks hno hv9
  obtain ⟨rfl, hP, hK, hX⟩ := hv9
  have hob0 := nv_ob0 hK hP
  have hS : va_S (nvA T) s.heap s.heap [] := va_S.rf
  have hx := S.1
  have hb := S.2.1
  refine nz_entry (vs := [.ref (T 0), .int x1, .int x2]) (n := 3) (lv := [(0, .ref (T 0)), (1, .int x1), (2, .int x2)]) (Nat.le_of_ble_eq_true rfl) rfl (fun ls hl => ?_)
  refine lv_iload_n hx hb dN_requireElement_0 rfl (lv_at hl 1 rfl) ?_
  refine nx_sv (As := [.int x1]) (rest := []) (post := ¬ plB x1) (exc := fun E => plB x1 ∧ E = eIO) S (cN_requirePlace l hfl x1) kN_20 ⟨rfl, rfl, Nat.le_of_ble_eq_true rfl, Nat.le_of_ble_eq_true rfl⟩ ⟨Nat.le_of_ble_eq_true rfl, Nat.le_of_ble_eq_true rfl⟩ nmX.bl (hX.at rfl) rfl hl.1 rfl (Nat.le_of_ble_eq_true rfl) dN_requireElement_1 hno hlocks (fun E h => ⟨Or.inl h.1, h.2⟩) (fun q1 => ?_)
  obtain ⟨j, hj, rfl⟩ := plB_not q1
  have ej : ix (nI j) = j := ix_nI (by omega)
  refine lv_iload_n hx hb dN_requireElement_4 rfl (lv_at hl 2 rfl) ?_
  refine lv_if_lt (tgt := 21) hx hb dN_requireElement_5 (by decide) (fun c2 => ?_) (fun c2 => ?_)
  · exact nm_throw (E := eIO) (tx := "no such element") (ik := 119) (is := 151) (ic := 123) S hfl hX (by decide) (by decide +kernel) kcl_119 kin_eIO (by decide) kat_eIO hl.1 ⟨(Nat.le_of_ble_eq_true rfl), (Nat.le_of_ble_eq_true rfl), (Nat.le_of_ble_eq_true rfl), (Nat.le_of_ble_eq_true rfl)⟩ (Nat.le_of_ble_eq_true rfl) hlocks hno dN_requireElement_21 dN_requireElement_24 dN_requireElement_25 dN_requireElement_27 dN_requireElement_30 (fun t q hW h => ⟨eIO, ⟨Or.inr (Or.inl c2), rfl⟩, h⟩)
  · refine lv_iload_n hx hb dN_requireElement_8 rfl (lv_at hl 2 rfl) ?_
    refine lv_aload_n hx hb dN_requireElement_9 rfl (lv_at hl 0 rfl) ?_
    refine nm_getP S hK hP dN_requireElement_10 ?_
    refine lv_iload_n hx hb dN_requireElement_13 rfl (lv_at hl 1 rfl) ?_
    refine nm_ald (j := j) hx hb hK hP hj dN_requireElement_14 ?_
    refine nm_getS S hX hK hP (Nat.lt_succ_of_lt hj) dN_requireElement_15 ?_
    refine lv_icmp_lt (tgt := 31) hx hb dN_requireElement_18 (by decide) (fun c3 => ?_) (fun c3 => ?_)
    · refine ny_ret ?_
      exact W.vret hx hb hr (fun t ht hW => ⟨rfl, ht, fun q => q.elim q1 (fun q => q.elim c2 (fun q => by rw [ej] at q; exact Int32.not_le.mpr c3 q))⟩) (fun q h => nomatch h) dN_requireElement_31
    · exact nm_throw (E := eIO) (tx := "no such element") (ik := 119) (is := 151) (ic := 123) S hfl hX (by decide) (by decide +kernel) kcl_119 kin_eIO (by decide) kat_eIO hl.1 ⟨(Nat.le_of_ble_eq_true rfl), (Nat.le_of_ble_eq_true rfl), (Nat.le_of_ble_eq_true rfl), (Nat.le_of_ble_eq_true rfl)⟩ (Nat.le_of_ble_eq_true rfl) hlocks hno dN_requireElement_21 dN_requireElement_24 dN_requireElement_25 dN_requireElement_27 dN_requireElement_30 (fun t q hW h => ⟨eIO, ⟨Or.inr (Or.inr (by rw [ej]; exact Int32.not_lt.mp c3)), rfl⟩, h⟩)
end
section
set_option maxHeartbeats 4000000 in
set_option maxRecDepth 100000 in
theorem cN_put (l : Launch) (hfl : l.flags = pinnedFlags ++ [noTraceFlag]) (D : va_G) (cA cW : ClassId) (T : Nat → Nat) (hT : nvT T) (n : Nat → Nat) (g : Nat → Nat → Nat) (ok : nvOk n g) (x1 x2 x3 : Int32) : ny_Met l yN_put (Cond.code yN_put bN_put 4 none :: nzG) ({ frames := 8, cells := 1, slots := 6, locals := 132 }) (va_Pc [.ref (T 0), .int x1, .int x2, .int x3] (nmP D cA cW (nvW cA cW T n g))) (nxQ (fun v st t => v = none ∧ (kPut n x1 x2 x3) = 0 ∧ (fun H9 : Heap => ∃ n9 g9, nvU 16 n g (ix x1) (n (ix x1)) (va_up (g (ix x1)) (ix x2) (ix x3)) n9 g9 ∧ va_P D vwCl (nvW cA cW T n9 g9) H9) t.heap ∧ va_F (nvA T) st t) (exK exI (kPut n x1 x2 x3))) 0 0 1 6 (nvA T) := by
  refine nz_ofT (own := RN) (by decide) rfl ?_
  intro p e s m args below meth c S hr hlocks hno hv9
  obtain ⟨rfl, hP, hK, hX⟩ := hv9
  have hob0 := nv_ob0 hK hP
  have hS : va_S (nvA T) s.heap s.heap [] := va_S.rf
  have hx := S.1
  have hb := S.2.1
  refine nz_entry (vs := [.ref (T 0), .int x1, .int x2, .int x3]) (n := 4) (lv := [(0, .ref (T 0)), (1, .int x1), (2, .int x2), (3, .int x3)]) (Nat.le_of_ble_eq_true rfl) rfl (fun ls hl => ?_)
  refine lv_aload_n hx hb dN_put_0 rfl (lv_at hl 0 rfl) ?_
  refine lv_iload_n hx hb dN_put_1 rfl (lv_at hl 1 rfl) ?_
  refine lv_iload_n hx hb dN_put_2 rfl (lv_at hl 2 rfl) ?_
  refine nx_vv (As := [.int x1, .int x2]) (rest := []) (post := ¬ elB n x1 x2) (exc := fun E => elB n x1 x2 ∧ E = eIO) S (cN_requireElement l hfl D cA cW T hT n g ok x1 x2) kN_34 ⟨rfl, rfl, Nat.le_of_ble_eq_true rfl, Nat.le_of_ble_eq_true rfl⟩ ⟨Nat.le_of_ble_eq_true rfl, Nat.le_of_ble_eq_true rfl⟩ nmP.bl hob0 (nmP.to hP hK hX) rfl hl.1 rfl (Nat.le_of_ble_eq_true rfl) dN_put_3 hno hlocks (fun E h => exK_of (k := 1) (if_pos h.1) (by decide) h.2) (fun q1 => ?_)
  refine lv_iload_n hx hb dN_put_6 rfl (lv_at hl 3 rfl) ?_
  refine nx_sv (As := [.int x3]) (rest := []) (post := ¬ valB x3) (exc := fun E => valB x3 ∧ E = eIA) S (cN_requireValue l hfl x3) kN_27 ⟨rfl, rfl, Nat.le_of_ble_eq_true rfl, Nat.le_of_ble_eq_true rfl⟩ ⟨Nat.le_of_ble_eq_true rfl, Nat.le_of_ble_eq_true rfl⟩ nmX.bl (hX.at rfl) rfl hl.1 rfl (Nat.le_of_ble_eq_true rfl) dN_put_7 hno hlocks (fun E h => exK_of (k := 2) (by unfold kPut; rw [if_neg q1, if_pos h.1]) (by decide) h.2) (fun q2 => ?_)
  have hk0 : kPut n x1 x2 x3 = 0 := by unfold kPut; rw [if_neg q1, if_neg q2]
  obtain ⟨j, hj, rfl⟩ := plB_not (fun h => q1 (Or.inl h))
  have ej : ix (nI j) = j := ix_nI (by omega)
  have hn64 := ok.1 j
  obtain ⟨k, hk, rfl⟩ := in_not (N := n j) (x := x2) rfl (by omega) (fun h => q1 (Or.inr (by rw [ej]; exact h)))
  have ek : ix (nI k) = k := ix_nI (by omega)
  obtain ⟨v, hv, rfl⟩ := valB_not q2
  have ev : ix (nI v) = v := ix_nI (by omega)
  refine lv_aload_n hx hb dN_put_10 rfl (lv_at hl 0 rfl) ?_
  refine nm_getP S hK hP dN_put_11 ?_
  refine lv_iload_n hx hb dN_put_14 rfl (lv_at hl 1 rfl) ?_
  refine nm_ald (j := j) hx hb hK hP hj dN_put_15 ?_
  refine nm_getE S hX hK hP (Nat.lt_succ_of_lt hj) dN_put_16 ?_
  refine lv_iload_n hx hb dN_put_19 rfl (lv_at hl 2 rfl) ?_
  refine lv_iload_n hx hb dN_put_20 rfl (lv_at hl 3 rfl) ?_
  refine nv_ast (k := k) (v := v) hx hb hT hK hP hS (Nat.lt_succ_of_lt hj) (by omega) dN_put_21 (fun H locs hP hS => ?_)
  refine ny_ret ?_
  exact W.vret hx hb hr (fun t ht hW => ⟨rfl, hk0, ⟨n, va_up g j (va_up (g j) k v), by rw [ej, ek, ev]; exact nvU_put ok hv, by rw [ht]; exact hP⟩, hS.F ht⟩) hS.2.2 dN_put_22
set_option maxHeartbeats 4000000 in
set_option maxRecDepth 100000 in
theorem cN_get (l : Launch) (hfl : l.flags = pinnedFlags ++ [noTraceFlag]) (D : va_G) (cA cW : ClassId) (T : Nat → Nat) (hT : nvT T) (n : Nat → Nat) (g : Nat → Nat → Nat) (ok : nvOk n g) (x1 x2 : Int32) : ny_Met l yN_get (Cond.code yN_get bN_get 3 (some .int) :: nzG) ({ frames := 8, cells := 1, slots := 6, locals := 132 }) (va_Pc [.ref (T 0), .int x1, .int x2] (nmP D cA cW (nvW cA cW T n g))) (nxQ (fun v st t => (kGet n x1 x2) = 0 ∧ v = some (.int (nI (g (ix x1) (ix x2)))) ∧ t.heap = st.heap) (exK exI (kGet n x1 x2))) 0 0 1 6 (fun _ => False) := by
  refine nz_ofT (own := RN) (by decide) rfl ?_
  intro p e s m args below meth c S hr hlocks hno hv9
  obtain ⟨rfl, hP, hK, hX⟩ := hv9
  have hob0 := nv_ob0 hK hP
  have hS : va_S (nvA T) s.heap s.heap [] := va_S.rf
  have hx := S.1
  have hb := S.2.1
  refine nz_entry (vs := [.ref (T 0), .int x1, .int x2]) (n := 3) (lv := [(0, .ref (T 0)), (1, .int x1), (2, .int x2)]) (Nat.le_of_ble_eq_true rfl) rfl (fun ls hl => ?_)
  refine lv_aload_n hx hb dN_get_0 rfl (lv_at hl 0 rfl) ?_
  refine lv_iload_n hx hb dN_get_1 rfl (lv_at hl 1 rfl) ?_
  refine lv_iload_n hx hb dN_get_2 rfl (lv_at hl 2 rfl) ?_
  refine nx_vv (As := [.int x1, .int x2]) (rest := []) (post := ¬ elB n x1 x2) (exc := fun E => elB n x1 x2 ∧ E = eIO) S (cN_requireElement l hfl D cA cW T hT n g ok x1 x2) kN_34 ⟨rfl, rfl, Nat.le_of_ble_eq_true rfl, Nat.le_of_ble_eq_true rfl⟩ ⟨Nat.le_of_ble_eq_true rfl, Nat.le_of_ble_eq_true rfl⟩ nmP.bl hob0 (nmP.to hP hK hX) rfl hl.1 rfl (Nat.le_of_ble_eq_true rfl) dN_get_3 hno hlocks (fun E h => exK_of (k := 1) (if_pos h.1) (by decide) h.2) (fun q1 => ?_)
  have hk0 : kGet n x1 x2 = 0 := if_neg q1
  obtain ⟨j, hj, rfl⟩ := plB_not (fun h => q1 (Or.inl h))
  have ej : ix (nI j) = j := ix_nI (by omega)
  have hn64 := ok.1 j
  obtain ⟨k, hk, rfl⟩ := in_not (N := n j) (x := x2) rfl (by omega) (fun h => q1 (Or.inr (by rw [ej]; exact h)))
  have ek : ix (nI k) = k := ix_nI (by omega)
  refine lv_aload_n hx hb dN_get_6 rfl (lv_at hl 0 rfl) ?_
  refine nm_getP S hK hP dN_get_7 ?_
  refine lv_iload_n hx hb dN_get_10 rfl (lv_at hl 1 rfl) ?_
  refine nm_ald (j := j) hx hb hK hP hj dN_get_11 ?_
  refine nm_getE S hX hK hP (Nat.lt_succ_of_lt hj) dN_get_12 ?_
  refine lv_iload_n hx hb dN_get_15 rfl (lv_at hl 2 rfl) ?_
  refine nv_ald (k := k) hx hb hK hP (Nat.lt_succ_of_lt hj) (by omega) dN_get_16 ?_
  refine ny_ret ?_
  exact W.iret (v := nI (g j k)) hx hb hr (fun t ht hW => ⟨hk0, by rw [ej, ek], ht⟩) (fun q h => nomatch h) dN_get_17
set_option maxHeartbeats 4000000 in
set_option maxRecDepth 100000 in
theorem cN_length (l : Launch) (hfl : l.flags = pinnedFlags ++ [noTraceFlag]) (D : va_G) (cA cW : ClassId) (T : Nat → Nat) (hT : nvT T) (n : Nat → Nat) (g : Nat → Nat → Nat) (ok : nvOk n g) (x1 : Int32) : ny_Met l yN_length (Cond.code yN_length bN_length 2 (some .int) :: nzG) ({ frames := 7, cells := 1, slots := 6, locals := 110 }) (va_Pc [.ref (T 0), .int x1] (nmP D cA cW (nvW cA cW T n g))) (nxQ (fun v st t => (kPl x1) = 0 ∧ v = some (.int (nI (n (ix x1)))) ∧ t.heap = st.heap) (exK exI (kPl x1))) 0 0 1 6 (fun _ => False) := by
  refine nz_ofT (own := RN) (by decide) rfl ?_
  intro p e s m args below meth c S hr hlocks hno hv9
  obtain ⟨rfl, hP, hK, hX⟩ := hv9
  have hob0 := nv_ob0 hK hP
  have hS : va_S (nvA T) s.heap s.heap [] := va_S.rf
  have hx := S.1
  have hb := S.2.1
  refine nz_entry (vs := [.ref (T 0), .int x1]) (n := 2) (lv := [(0, .ref (T 0)), (1, .int x1)]) (Nat.le_of_ble_eq_true rfl) rfl (fun ls hl => ?_)
  refine lv_iload_n hx hb dN_length_0 rfl (lv_at hl 1 rfl) ?_
  refine nx_sv (As := [.int x1]) (rest := []) (post := ¬ plB x1) (exc := fun E => plB x1 ∧ E = eIO) S (cN_requirePlace l hfl x1) kN_20 ⟨rfl, rfl, Nat.le_of_ble_eq_true rfl, Nat.le_of_ble_eq_true rfl⟩ ⟨Nat.le_of_ble_eq_true rfl, Nat.le_of_ble_eq_true rfl⟩ nmX.bl (hX.at rfl) rfl hl.1 rfl (Nat.le_of_ble_eq_true rfl) dN_length_1 hno hlocks (fun E h => exK_of (k := 1) (if_pos h.1) (by decide) h.2) (fun q1 => ?_)
  have hk0 : kPl x1 = 0 := if_neg q1
  obtain ⟨j, hj, rfl⟩ := plB_not q1
  have ej : ix (nI j) = j := ix_nI (by omega)
  refine lv_aload_n hx hb dN_length_4 rfl (lv_at hl 0 rfl) ?_
  refine nm_getP S hK hP dN_length_5 ?_
  refine lv_iload_n hx hb dN_length_8 rfl (lv_at hl 1 rfl) ?_
  refine nm_ald (j := j) hx hb hK hP hj dN_length_9 ?_
  refine nm_getS S hX hK hP (Nat.lt_succ_of_lt hj) dN_length_10 ?_
  refine ny_ret ?_
  exact W.iret (v := nI (n j)) hx hb hr (fun t ht hW => ⟨hk0, by rw [ej], ht⟩) (fun q h => nomatch h) dN_length_13
set_option maxHeartbeats 4000000 in
set_option maxRecDepth 100000 in
theorem cN_fill (l : Launch) (hfl : l.flags = pinnedFlags ++ [noTraceFlag]) (D : va_G) (cA cW : ClassId) (T : Nat → Nat) (hT : nvT T) (n : Nat → Nat) (g : Nat → Nat → Nat) (ok : nvOk n g) (x1 x2 x3 : Int32) : ny_Met l yN_fill (Cond.code yN_fill bN_fill 4 none :: nzG) ({ frames := 7, cells := 1, slots := 6, locals := 110 }) (va_Pc [.ref (T 0), .int x1, .int x2, .int x3] (nmP D cA cW (nvW cA cW T n g))) (nxQ (fun v st t => v = none ∧ (kFill x1 x2 x3) = 0 ∧ (fun H9 : Heap => ∃ n9 g9, nvU 16 n g (ix x1) (ix x2) (fun _ => ix x3) n9 g9 ∧ va_P D vwCl (nvW cA cW T n9 g9) H9) t.heap ∧ va_F (nvA T) st t) (exK exI (kFill x1 x2 x3))) 0 0 1 6 (nvA T) := by
  refine nz_ofT (own := RN) (by decide) rfl ?_
  intro p e s m args below meth c S hr hlocks hno hv9
  obtain ⟨rfl, hP, hK, hX⟩ := hv9
  have hob0 := nv_ob0 hK hP
  have hS : va_S (nvA T) s.heap s.heap [] := va_S.rf
  have hx := S.1
  have hb := S.2.1
  refine nz_entry (vs := [.ref (T 0), .int x1, .int x2, .int x3]) (n := 4) (lv := [(0, .ref (T 0)), (1, .int x1), (2, .int x2), (3, .int x3)]) (Nat.le_of_ble_eq_true rfl) rfl (fun ls hl => ?_)
  refine lv_iload_n hx hb dN_fill_0 rfl (lv_at hl 1 rfl) ?_
  refine nx_sv (As := [.int x1]) (rest := []) (post := ¬ plB x1) (exc := fun E => plB x1 ∧ E = eIO) S (cN_requirePlace l hfl x1) kN_20 ⟨rfl, rfl, Nat.le_of_ble_eq_true rfl, Nat.le_of_ble_eq_true rfl⟩ ⟨Nat.le_of_ble_eq_true rfl, Nat.le_of_ble_eq_true rfl⟩ nmX.bl (hX.at rfl) rfl hl.1 rfl (Nat.le_of_ble_eq_true rfl) dN_fill_1 hno hlocks (fun E h => exK_of (k := 1) (if_pos h.1) (by decide) h.2) (fun q1 => ?_)
  refine lv_iload_n hx hb dN_fill_4 rfl (lv_at hl 2 rfl) ?_
  refine nx_sv (As := [.int x2]) (rest := []) (post := ¬ lenB x2) (exc := fun E => lenB x2 ∧ E = eIA) S (cN_requireLength l hfl x2) kN_24 ⟨rfl, rfl, Nat.le_of_ble_eq_true rfl, Nat.le_of_ble_eq_true rfl⟩ ⟨Nat.le_of_ble_eq_true rfl, Nat.le_of_ble_eq_true rfl⟩ nmX.bl (hX.at rfl) rfl hl.1 rfl (Nat.le_of_ble_eq_true rfl) dN_fill_5 hno hlocks (fun E h => exK_of (k := 2) (by unfold kFill; rw [if_neg q1, if_pos (Or.inl h.1)]) (by decide) h.2) (fun q2 => ?_)
  refine lv_iload_n hx hb dN_fill_8 rfl (lv_at hl 3 rfl) ?_
  refine nx_sv (As := [.int x3]) (rest := []) (post := ¬ valB x3) (exc := fun E => valB x3 ∧ E = eIA) S (cN_requireValue l hfl x3) kN_27 ⟨rfl, rfl, Nat.le_of_ble_eq_true rfl, Nat.le_of_ble_eq_true rfl⟩ ⟨Nat.le_of_ble_eq_true rfl, Nat.le_of_ble_eq_true rfl⟩ nmX.bl (hX.at rfl) rfl hl.1 rfl (Nat.le_of_ble_eq_true rfl) dN_fill_9 hno hlocks (fun E h => exK_of (k := 2) (by unfold kFill; rw [if_neg q1, if_pos (Or.inr h.1)]) (by decide) h.2) (fun q3 => ?_)
  have hk0 : kFill x1 x2 x3 = 0 := by unfold kFill; rw [if_neg q1, if_neg (fun h => h.elim q2 q3)]
  obtain ⟨j, hj, rfl⟩ := plB_not q1
  have ej : ix (nI j) = j := ix_nI (by omega)
  obtain ⟨N, hN, rfl⟩ := lenB_not q2
  have eN : ix (nI N) = N := ix_nI (by omega)
  obtain ⟨v, hv, rfl⟩ := valB_not q3
  have ev : ix (nI v) = v := ix_nI (by omega)
  refine lv_aload_n hx hb dN_fill_12 rfl (lv_at hl 0 rfl) ?_
  refine nm_getP S hK hP dN_fill_13 ?_
  refine lv_iload_n hx hb dN_fill_16 rfl (lv_at hl 1 rfl) ?_
  refine nm_ald (j := j) hx hb hK hP hj dN_fill_17 ?_
  refine lv_iload_n hx hb dN_fill_18 rfl (lv_at hl 2 rfl) ?_
  refine lv_iload_n hx hb dN_fill_19 rfl (lv_at hl 3 rfl) ?_
  refine nv_call (As := [.int (nI N), .int (nI v)]) (rest := []) S (c_Word_become l D cA cW T hT n g j (Nat.lt_succ_of_lt hj) N hN v) kN_30 ⟨rfl, rfl, Nat.le_of_ble_eq_true rfl, Nat.le_of_ble_eq_true rfl⟩ ⟨Nat.zero_le _, Nat.zero_le _⟩ (nv_ob hK hP (Nat.lt_succ_of_lt hj)) hP hK hS rfl hl.1 rfl (Nat.le_of_ble_eq_true rfl) dN_fill_20 (fun H locs hP hS => ?_)
  refine ny_ret ?_
  exact W.vret hx hb hr (fun t ht hW => ⟨rfl, hk0, ⟨_, _, by rw [ej, eN, ev]; exact nvU_lay ok hN (fun _ _ => hv), by rw [ht]; exact hP⟩, hS.F ht⟩) hS.2.2 dN_fill_23
set_option maxHeartbeats 4000000 in
set_option maxRecDepth 100000 in
theorem cN_number (l : Launch) (hfl : l.flags = pinnedFlags ++ [noTraceFlag]) (D : va_G) (cA cW : ClassId) (T : Nat → Nat) (hT : nvT T) (n : Nat → Nat) (g : Nat → Nat → Nat) (ok : nvOk n g) (x1 x2 : Int32) (v1 : Nat) (hv1 : v1 < 2 ^ 64) : ny_Met l yN_number (Cond.code yN_number bN_number 5 none :: nzG) ({ frames := 7, cells := 1, slots := 6, locals := 110 }) (va_Pc [.ref (T 0), .int x1, .int x2, .long (lN v1)] (nmP D cA cW (nvW cA cW T n g))) (nxQ (fun v st t => v = none ∧ (kNumber x1 x2) = 0 ∧ (fun H9 : Heap => ∃ n9 g9, nvU 16 n g (ix x1) (ix x2) (zPut v1) n9 g9 ∧ va_P D vwCl (nvW cA cW T n9 g9) H9) t.heap ∧ va_F (nvA T) st t) (exK exI (kNumber x1 x2))) 0 0 1 6 (nvA T) := by
  refine nz_ofT (own := RN) (by decide) rfl ?_
  intro p e s m args below meth c S hr hlocks hno hv9
  obtain ⟨rfl, hP, hK, hX⟩ := hv9
  have hob0 := nv_ob0 hK hP
  have hS : va_S (nvA T) s.heap s.heap [] := va_S.rf
  have hx := S.1
  have hb := S.2.1
  refine nz_entry (vs := [.ref (T 0), .int x1, .int x2, .long (lN v1)]) (n := 5) (lv := [(0, .ref (T 0)), (1, .int x1), (2, .int x2), (3, .long (lN v1))]) (Nat.le_of_ble_eq_true rfl) rfl (fun ls hl => ?_)
  refine lv_iload_n hx hb dN_number_0 rfl (lv_at hl 1 rfl) ?_
  refine nx_sv (As := [.int x1]) (rest := []) (post := ¬ plB x1) (exc := fun E => plB x1 ∧ E = eIO) S (cN_requirePlace l hfl x1) kN_20 ⟨rfl, rfl, Nat.le_of_ble_eq_true rfl, Nat.le_of_ble_eq_true rfl⟩ ⟨Nat.le_of_ble_eq_true rfl, Nat.le_of_ble_eq_true rfl⟩ nmX.bl (hX.at rfl) rfl hl.1 rfl (Nat.le_of_ble_eq_true rfl) dN_number_1 hno hlocks (fun E h => exK_of (k := 1) (if_pos h.1) (by decide) h.2) (fun q1 => ?_)
  refine lv_iload_n hx hb dN_number_4 rfl (lv_at hl 2 rfl) ?_
  refine nx_sv (As := [.int x2]) (rest := []) (post := ¬ lenB x2) (exc := fun E => lenB x2 ∧ E = eIA) S (cN_requireLength l hfl x2) kN_24 ⟨rfl, rfl, Nat.le_of_ble_eq_true rfl, Nat.le_of_ble_eq_true rfl⟩ ⟨Nat.le_of_ble_eq_true rfl, Nat.le_of_ble_eq_true rfl⟩ nmX.bl (hX.at rfl) rfl hl.1 rfl (Nat.le_of_ble_eq_true rfl) dN_number_5 hno hlocks (fun E h => exK_of (k := 2) (by unfold kNumber; rw [if_neg q1, if_pos h.1]) (by decide) h.2) (fun q2 => ?_)
  have hk0 : kNumber x1 x2 = 0 := by unfold kNumber; rw [if_neg q1, if_neg q2]
  obtain ⟨j, hj, rfl⟩ := plB_not q1
  have ej : ix (nI j) = j := ix_nI (by omega)
  obtain ⟨N, hN, rfl⟩ := lenB_not q2
  have eN : ix (nI N) = N := ix_nI (by omega)
  refine lv_aload_n hx hb dN_number_8 rfl (lv_at hl 0 rfl) ?_
  refine nm_getP S hK hP dN_number_9 ?_
  refine lv_iload_n hx hb dN_number_12 rfl (lv_at hl 1 rfl) ?_
  refine nm_ald (j := j) hx hb hK hP hj dN_number_13 ?_
  refine lv_iload_n hx hb dN_number_14 rfl (lv_at hl 2 rfl) ?_
  refine lv_lload_n hx hb dN_number_15 rfl (lv_at hl 3 rfl) ?_
  refine nv_call (As := [.int (nI N), .long (lN v1)]) (rest := []) S (c_Word_hold l D cA cW T hT n g j (Nat.lt_succ_of_lt hj) N hN v1 hv1) kN_45 ⟨rfl, rfl, Nat.le_of_ble_eq_true rfl, Nat.le_of_ble_eq_true rfl⟩ ⟨Nat.zero_le _, Nat.zero_le _⟩ (nv_ob hK hP (Nat.lt_succ_of_lt hj)) hP hK hS rfl hl.1 rfl (Nat.le_of_ble_eq_true rfl) dN_number_16 (fun H locs hP hS => ?_)
  refine ny_ret ?_
  exact W.vret hx hb hr (fun t ht hW => ⟨rfl, hk0, ⟨_, _, by rw [ej, eN]; exact nvU_lay ok hN (fun _ _ => zPut_lt _ _), by rw [ht]; exact hP⟩, hS.F ht⟩) hS.2.2 dN_number_19
set_option maxHeartbeats 4000000 in
set_option maxRecDepth 100000 in
theorem cN_numberOf (l : Launch) (hfl : l.flags = pinnedFlags ++ [noTraceFlag]) (D : va_G) (cA cW : ClassId) (T : Nat → Nat) (hT : nvT T) (n : Nat → Nat) (g : Nat → Nat → Nat) (ok : nvOk n g) (x1 : Int32) (b1 : Nat) (hb1 : b1 < 2) : ny_Met l yN_numberOf (Cond.code yN_numberOf bN_numberOf 3 (some .long) :: nzG) ({ frames := 7, cells := 1, slots := 6, locals := 110 }) (va_Pc [.ref (T 0), .int x1, .int (nI b1)] (nmP D cA cW (nvW cA cW T n g))) (nxQ (fun v st t => (kNumberOf n g x1) = 0 ∧ v = some (.long (lN (zLong b1 (g (ix x1)) (n (ix x1))))) ∧ t.heap = st.heap) (exK exS (kNumberOf n g x1))) 0 0 1 6 (fun _ => False) := by
  refine nz_ofT (own := RN) (by decide) rfl ?_
  intro p e s m args below meth c S hr hlocks hno hv9
  obtain ⟨rfl, hP, hK, hX⟩ := hv9
  have hob0 := nv_ob0 hK hP
  have hS : va_S (nvA T) s.heap s.heap [] := va_S.rf
  have hx := S.1
  have hb := S.2.1
  refine nz_entry (vs := [.ref (T 0), .int x1, .int (nI b1)]) (n := 3) (lv := [(0, .ref (T 0)), (1, .int x1), (2, .int (nI b1))]) (Nat.le_of_ble_eq_true rfl) rfl (fun ls hl => ?_)
  refine lv_iload_n hx hb dN_numberOf_0 rfl (lv_at hl 1 rfl) ?_
  refine nx_sv (As := [.int x1]) (rest := []) (post := ¬ plB x1) (exc := fun E => plB x1 ∧ E = eIO) S (cN_requirePlace l hfl x1) kN_20 ⟨rfl, rfl, Nat.le_of_ble_eq_true rfl, Nat.le_of_ble_eq_true rfl⟩ ⟨Nat.le_of_ble_eq_true rfl, Nat.le_of_ble_eq_true rfl⟩ nmX.bl (hX.at rfl) rfl hl.1 rfl (Nat.le_of_ble_eq_true rfl) dN_numberOf_1 hno hlocks (fun E h => exK_of (k := 1) (if_pos h.1) (by decide) h.2) (fun q1 => ?_)
  obtain ⟨j, hj, rfl⟩ := plB_not q1
  have ej : ix (nI j) = j := ix_nI (by omega)
  refine lv_aload_n hx hb dN_numberOf_4 rfl (lv_at hl 0 rfl) ?_
  refine nm_getP S hK hP dN_numberOf_5 ?_
  refine lv_iload_n hx hb dN_numberOf_8 rfl (lv_at hl 1 rfl) ?_
  refine nm_ald (j := j) hx hb hK hP hj dN_numberOf_9 ?_
  refine nz_vi (As := []) (rest := []) S (c_Word_isClear l D cA cW T hT n g j (Nat.lt_succ_of_lt hj) ok.2 (ok.1 j)) kN_49 ⟨rfl, rfl, Nat.le_of_ble_eq_true rfl, Nat.le_of_ble_eq_true rfl⟩ ⟨Nat.zero_le _, Nat.zero_le _⟩ nvP.bl (nv_ob hK hP (Nat.lt_succ_of_lt hj)) (nvP.to hP hK) rfl hl.1 rfl (Nat.le_of_ble_eq_true rfl) dN_numberOf_10 (fun r2 er2 => ?_)
  subst er2
  refine lv_if_ne (tgt := 26) hx hb dN_numberOf_13 (by decide) (fun c3 => ?_) (fun c3 => ?_)
  · refine lv_aload_n hx hb dN_numberOf_26 rfl (lv_at hl 0 rfl) ?_
    refine nm_getP S hK hP dN_numberOf_27 ?_
    refine lv_iload_n hx hb dN_numberOf_30 rfl (lv_at hl 1 rfl) ?_
    refine nm_ald (j := j) hx hb hK hP hj dN_numberOf_31 ?_
    refine lv_iload_n hx hb dN_numberOf_32 rfl (lv_at hl 2 rfl) ?_
    refine nz_vl (As := [.int (nI b1)]) (rest := []) S (c_Word_asLong l D cA cW T hT n g j (Nat.lt_succ_of_lt hj) ok.2 (ok.1 j) b1 hb1) kN_60 ⟨rfl, rfl, Nat.le_of_ble_eq_true rfl, Nat.le_of_ble_eq_true rfl⟩ ⟨Nat.zero_le _, Nat.zero_le _⟩ nvP.bl (nv_ob hK hP (Nat.lt_succ_of_lt hj)) (nvP.to hP hK) rfl hl.1 rfl (Nat.le_of_ble_eq_true rfl) dN_numberOf_33 (fun r4 er4 => ?_)
    subst er4
    refine ny_ret ?_
    exact W.lret (v := lN (zLong b1 (g j) (n j))) hx hb hr (fun t ht hW => ⟨by unfold kNumberOf; rw [if_neg q1, ej, if_pos (zAll_y c3)], by rw [ej], ht⟩) (fun q h => nomatch h) dN_numberOf_36
  · exact nm_throw (E := eIS) (tx := "the word is not clear") (ik := 53) (is := 55) (ic := 57) S hfl hX (by decide) (by decide +kernel) kcl_53 kin_eIS (by decide) kat_eIS hl.1 ⟨(Nat.le_of_ble_eq_true rfl), (Nat.le_of_ble_eq_true rfl), (Nat.le_of_ble_eq_true rfl), (Nat.le_of_ble_eq_true rfl)⟩ (Nat.le_of_ble_eq_true rfl) hlocks hno dN_numberOf_16 dN_numberOf_19 dN_numberOf_20 dN_numberOf_22 dN_numberOf_25 (fun t q hW h => ⟨eIS, exK_of (k := 2) (by unfold kNumberOf; rw [if_neg q1, ej, if_neg (zAll_n c3)]) (by decide) rfl, h⟩)
set_option maxHeartbeats 4000000 in
set_option maxRecDepth 100000 in
theorem cN_all (l : Launch) (hfl : l.flags = pinnedFlags ++ [noTraceFlag]) (D : va_G) (cA cW : ClassId) (T : Nat → Nat) (hT : nvT T) (n : Nat → Nat) (g : Nat → Nat → Nat) (ok : nvOk n g) (x1 x2 : Int32) : ny_Met l yN_all (Cond.code yN_all bN_all 3 (some .int) :: nzG) ({ frames := 7, cells := 1, slots := 6, locals := 110 }) (va_Pc [.ref (T 0), .int x1, .int x2] (nmP D cA cW (nvW cA cW T n g))) (nxQ (fun v st t => (kAll x1 x2) = 0 ∧ v = some (.int (nI (zAllOf (ix x1) (g (ix x2)) (n (ix x2))))) ∧ t.heap = st.heap) (exK exI (kAll x1 x2))) 0 0 1 6 (fun _ => False) := by
  refine nz_ofT (own := RN) (by decide) rfl ?_
  intro p e s m args below meth c S hr hlocks hno hv9
  obtain ⟨rfl, hP, hK, hX⟩ := hv9
  have hob0 := nv_ob0 hK hP
  have hS : va_S (nvA T) s.heap s.heap [] := va_S.rf
  have hx := S.1
  have hb := S.2.1
  refine nz_entry (vs := [.ref (T 0), .int x1, .int x2]) (n := 3) (lv := [(0, .ref (T 0)), (1, .int x1), (2, .int x2)]) (Nat.le_of_ble_eq_true rfl) rfl (fun ls hl => ?_)
  refine lv_iload_n hx hb dN_all_0 rfl (lv_at hl 2 rfl) ?_
  refine nx_sv (As := [.int x2]) (rest := []) (post := ¬ plB x2) (exc := fun E => plB x2 ∧ E = eIO) S (cN_requirePlace l hfl x2) kN_20 ⟨rfl, rfl, Nat.le_of_ble_eq_true rfl, Nat.le_of_ble_eq_true rfl⟩ ⟨Nat.le_of_ble_eq_true rfl, Nat.le_of_ble_eq_true rfl⟩ nmX.bl (hX.at rfl) rfl hl.1 rfl (Nat.le_of_ble_eq_true rfl) dN_all_1 hno hlocks (fun E h => exK_of (k := 1) (if_pos h.1) (by decide) h.2) (fun q1 => ?_)
  obtain ⟨j, hj, rfl⟩ := plB_not q1
  have ej : ix (nI j) = j := ix_nI (by omega)
  refine lv_iload_n hx hb dN_all_4 rfl (lv_at hl 1 rfl) ?_
  by_cases hkd : x1 < 0 ∨ 3 < x1
  · refine lv_tableOut (tgt := 84) hx hb dN_all_5 (hkd.elim (fun h => Or.inl (Int32.lt_iff_toInt_lt.mp h)) (fun h => Or.inr (Int32.lt_iff_toInt_lt.mp h))) (by decide) ?_
    exact nm_throw (E := eIA) (tx := "no such kind of joining") (ik := 64) (is := 140) (ic := 68) S hfl hX (by decide) (by decide +kernel) kcl_64 kin_eIA (by decide) kat_eIA hl.1 ⟨(Nat.le_of_ble_eq_true rfl), (Nat.le_of_ble_eq_true rfl), (Nat.le_of_ble_eq_true rfl), (Nat.le_of_ble_eq_true rfl)⟩ (Nat.le_of_ble_eq_true rfl) hlocks hno dN_all_84 dN_all_87 dN_all_88 dN_all_90 dN_all_93 (fun t q hW h => ⟨eIA, exK_of (k := 2) (by unfold kAll; rw [if_neg q1, if_pos hkd]) (by decide) rfl, h⟩)
  · obtain ⟨o, ho, rfl⟩ := in_not' (N := 3) rfl (by decide) hkd
    rcases (show o = 0 ∨ o = 1 ∨ o = 2 ∨ o = 3 by omega) with rfl | rfl | rfl | rfl
    · refine lv_tableIn (tgt := 36) hx hb dN_all_5 (by decide) (by decide) rfl (by decide) ?_
      refine lv_aload_n hx hb dN_all_36 rfl (lv_at hl 0 rfl) ?_
      refine nm_getP S hK hP dN_all_37 ?_
      refine lv_iload_n hx hb dN_all_40 rfl (lv_at hl 2 rfl) ?_
      refine nm_ald (j := j) hx hb hK hP hj dN_all_41 ?_
      refine lv_iconst (v := 1) hx hb dN_all_42 (by decide) ?_
      refine lv_iconst (v := 3) hx hb dN_all_43 (by decide) ?_
      refine nz_vi (As := [.int (nI 1), .int (nI 3)]) (rest := []) S (c_Word_joined l D cA cW T hT n g j (Nat.lt_succ_of_lt hj) ok.2 (ok.1 j) 1 (by decide) 3 (by decide)) kN_137 ⟨rfl, rfl, Nat.le_of_ble_eq_true rfl, Nat.le_of_ble_eq_true rfl⟩ ⟨Nat.zero_le _, Nat.zero_le _⟩ nvP.bl (nv_ob hK hP (Nat.lt_succ_of_lt hj)) (nvP.to hP hK) rfl hl.1 rfl (Nat.le_of_ble_eq_true rfl) dN_all_44 (fun r2 er2 => ?_)
      subst er2
      refine ny_ret ?_
      exact W.iret (v := nI (zFold 1 3 (g j) (n j))) hx hb hr (fun t ht hW => ⟨by unfold kAll; rw [if_neg q1]; exact if_neg (by decide), by rw [ej]; rfl, ht⟩) (fun q h => nomatch h) dN_all_47
    · refine lv_tableIn (tgt := 48) hx hb dN_all_5 (by decide) (by decide) rfl (by decide) ?_
      refine lv_aload_n hx hb dN_all_48 rfl (lv_at hl 0 rfl) ?_
      refine nm_getP S hK hP dN_all_49 ?_
      refine lv_iload_n hx hb dN_all_52 rfl (lv_at hl 2 rfl) ?_
      refine nm_ald (j := j) hx hb hK hP hj dN_all_53 ?_
      refine lv_iconst (v := 2) hx hb dN_all_54 (by decide) ?_
      refine lv_iconst (v := 2) hx hb dN_all_55 (by decide) ?_
      refine nz_vi (As := [.int (nI 2), .int (nI 2)]) (rest := []) S (c_Word_joined l D cA cW T hT n g j (Nat.lt_succ_of_lt hj) ok.2 (ok.1 j) 2 (by decide) 2 (by decide)) kN_137 ⟨rfl, rfl, Nat.le_of_ble_eq_true rfl, Nat.le_of_ble_eq_true rfl⟩ ⟨Nat.zero_le _, Nat.zero_le _⟩ nvP.bl (nv_ob hK hP (Nat.lt_succ_of_lt hj)) (nvP.to hP hK) rfl hl.1 rfl (Nat.le_of_ble_eq_true rfl) dN_all_56 (fun r3 er3 => ?_)
      subst er3
      refine ny_ret ?_
      exact W.iret (v := nI (zFold 2 2 (g j) (n j))) hx hb hr (fun t ht hW => ⟨by unfold kAll; rw [if_neg q1]; exact if_neg (by decide), by rw [ej]; rfl, ht⟩) (fun q h => nomatch h) dN_all_59
    · refine lv_tableIn (tgt := 60) hx hb dN_all_5 (by decide) (by decide) rfl (by decide) ?_
      refine lv_aload_n hx hb dN_all_60 rfl (lv_at hl 0 rfl) ?_
      refine nm_getP S hK hP dN_all_61 ?_
      refine lv_iload_n hx hb dN_all_64 rfl (lv_at hl 2 rfl) ?_
      refine nm_ald (j := j) hx hb hK hP hj dN_all_65 ?_
      refine lv_iconst (v := 3) hx hb dN_all_66 (by decide) ?_
      refine lv_iconst (v := 2) hx hb dN_all_67 (by decide) ?_
      refine nz_vi (As := [.int (nI 3), .int (nI 2)]) (rest := []) S (c_Word_joined l D cA cW T hT n g j (Nat.lt_succ_of_lt hj) ok.2 (ok.1 j) 3 (by decide) 2 (by decide)) kN_137 ⟨rfl, rfl, Nat.le_of_ble_eq_true rfl, Nat.le_of_ble_eq_true rfl⟩ ⟨Nat.zero_le _, Nat.zero_le _⟩ nvP.bl (nv_ob hK hP (Nat.lt_succ_of_lt hj)) (nvP.to hP hK) rfl hl.1 rfl (Nat.le_of_ble_eq_true rfl) dN_all_68 (fun r4 er4 => ?_)
      subst er4
      refine ny_ret ?_
      exact W.iret (v := nI (zFold 3 2 (g j) (n j))) hx hb hr (fun t ht hW => ⟨by unfold kAll; rw [if_neg q1]; exact if_neg (by decide), by rw [ej]; rfl, ht⟩) (fun q h => nomatch h) dN_all_71
    · refine lv_tableIn (tgt := 72) hx hb dN_all_5 (by decide) (by decide) rfl (by decide) ?_
      refine lv_aload_n hx hb dN_all_72 rfl (lv_at hl 0 rfl) ?_
      refine nm_getP S hK hP dN_all_73 ?_
      refine lv_iload_n hx hb dN_all_76 rfl (lv_at hl 2 rfl) ?_
      refine nm_ald (j := j) hx hb hK hP hj dN_all_77 ?_
      refine lv_iconst (v := 0) hx hb dN_all_78 (by decide) ?_
      refine lv_iconst (v := 4) hx hb dN_all_79 (by decide) ?_
      refine nz_vi (As := [.int (nI 0), .int (nI 4)]) (rest := []) S (c_Word_joined l D cA cW T hT n g j (Nat.lt_succ_of_lt hj) ok.2 (ok.1 j) 0 (by decide) 4 (by decide)) kN_137 ⟨rfl, rfl, Nat.le_of_ble_eq_true rfl, Nat.le_of_ble_eq_true rfl⟩ ⟨Nat.zero_le _, Nat.zero_le _⟩ nvP.bl (nv_ob hK hP (Nat.lt_succ_of_lt hj)) (nvP.to hP hK) rfl hl.1 rfl (Nat.le_of_ble_eq_true rfl) dN_all_80 (fun r5 er5 => ?_)
      subst er5
      refine ny_ret ?_
      exact W.iret (v := nI (zFold 0 4 (g j) (n j))) hx hb hr (fun t ht hW => ⟨by unfold kAll; rw [if_neg q1]; exact if_neg (by decide), by rw [ej]; rfl, ht⟩) (fun q h => nomatch h) dN_all_83
set_option maxHeartbeats 4000000 in
set_option maxRecDepth 100000 in
theorem cN_edge (l : Launch) (hfl : l.flags = pinnedFlags ++ [noTraceFlag]) (D : va_G) (cA cW : ClassId) (T : Nat → Nat) (hT : nvT T) (n : Nat → Nat) (g : Nat → Nat → Nat) (ok : nvOk n g) (x1 x2 : Int32) : ny_Met l yN_edge (Cond.code yN_edge bN_edge 3 (some .int) :: nzG) ({ frames := 7, cells := 1, slots := 6, locals := 110 }) (va_Pc [.ref (T 0), .int x1, .int x2] (nmP D cA cW (nvW cA cW T n g))) (nxQ (fun v st t => (kEdge x1 x2) = 0 ∧ v = some (.int (zEdge (ix x1) (ix x2))) ∧ t.heap = st.heap) (exK (fun _ => eIA) (kEdge x1 x2))) 0 0 1 6 (fun _ => False) := by
  refine nz_ofT (own := RN) (by decide) rfl ?_
  intro p e s m args below meth c S hr hlocks hno hv9
  obtain ⟨rfl, hP, hK, hX⟩ := hv9
  have hob0 := nv_ob0 hK hP
  have hS : va_S (nvA T) s.heap s.heap [] := va_S.rf
  have hx := S.1
  have hb := S.2.1
  refine nz_entry (vs := [.ref (T 0), .int x1, .int x2]) (n := 3) (lv := [(0, .ref (T 0)), (1, .int x1), (2, .int x2)]) (Nat.le_of_ble_eq_true rfl) rfl (fun ls hl => ?_)
  refine lv_iload_n hx hb dN_edge_0 rfl (lv_at hl 1 rfl) ?_
  refine nx_sv (As := [.int x1]) (rest := []) (post := ¬ valB x1) (exc := fun E => valB x1 ∧ E = eIA) S (cN_requireValue l hfl x1) kN_27 ⟨rfl, rfl, Nat.le_of_ble_eq_true rfl, Nat.le_of_ble_eq_true rfl⟩ ⟨Nat.le_of_ble_eq_true rfl, Nat.le_of_ble_eq_true rfl⟩ nmX.bl (hX.at rfl) rfl hl.1 rfl (Nat.le_of_ble_eq_true rfl) dN_edge_1 hno hlocks (fun E h => exK_of (k := 1) (if_pos (Or.inl h.1)) (by decide) h.2) (fun q1 => ?_)
  refine lv_iload_n hx hb dN_edge_4 rfl (lv_at hl 2 rfl) ?_
  refine nx_sv (As := [.int x2]) (rest := []) (post := ¬ valB x2) (exc := fun E => valB x2 ∧ E = eIA) S (cN_requireValue l hfl x2) kN_27 ⟨rfl, rfl, Nat.le_of_ble_eq_true rfl, Nat.le_of_ble_eq_true rfl⟩ ⟨Nat.le_of_ble_eq_true rfl, Nat.le_of_ble_eq_true rfl⟩ nmX.bl (hX.at rfl) rfl hl.1 rfl (Nat.le_of_ble_eq_true rfl) dN_edge_5 hno hlocks (fun E h => exK_of (k := 1) (if_pos (Or.inr h.1)) (by decide) h.2) (fun q2 => ?_)
  have hk0 : kEdge x1 x2 = 0 := if_neg (fun h => h.elim q1 q2)
  obtain ⟨u, hu, rfl⟩ := valB_not q1
  have eu : ix (nI u) = u := ix_nI (by omega)
  obtain ⟨v, hv, rfl⟩ := valB_not q2
  have ev : ix (nI v) = v := ix_nI (by omega)
  refine lv_iload_n hx hb dN_edge_8 rfl (lv_at hl 1 rfl) ?_
  refine nz_si (As := [.int (nI u)]) (rest := []) S (c_Wire_isLow l u hu) kN_142 ⟨rfl, rfl, Nat.le_of_ble_eq_true rfl, Nat.le_of_ble_eq_true rfl⟩ ⟨Nat.zero_le _, Nat.zero_le _⟩ (fun _ _ _ _ h => h) (fun _ _ _ => trivial) rfl hl.1 rfl (Nat.le_of_ble_eq_true rfl) dN_edge_9 (fun r3 er3 => ?_)
  subst er3
  refine lv_if_eq (tgt := 24) hx hb dN_edge_12 (by decide) (fun c4 => ?_) (fun c4 => ?_)
  · refine lv_iload_n hx hb dN_edge_24 rfl (lv_at hl 1 rfl) ?_
    refine nz_si (As := [.int (nI u)]) (rest := []) S (c_Wire_isHigh l u hu) kN_146 ⟨rfl, rfl, Nat.le_of_ble_eq_true rfl, Nat.le_of_ble_eq_true rfl⟩ ⟨Nat.zero_le _, Nat.zero_le _⟩ (fun _ _ _ _ h => h) (fun _ _ _ => trivial) rfl hl.1 rfl (Nat.le_of_ble_eq_true rfl) dN_edge_25 (fun r5 er5 => ?_)
    subst er5
    refine lv_if_eq (tgt := 42) hx hb dN_edge_28 (by decide) (fun c6 => ?_) (fun c6 => ?_)
    · refine lv_iconst (v := 0) hx hb dN_edge_42 (by decide) ?_
      refine ny_ret ?_
      exact W.iret (v := 0) hx hb hr (fun t ht hW => ⟨hk0, by rw [eu, ev]; exact congrArg some (congrArg Value.int (of_decide_eq_true (ib (ib (al2 (N := 9) (M := 9) ((fun u v => (!decide (nI (zLow u) = 0) || (!decide (nI (zHigh u) = 0) || decide ((0 : Int32) = zEdge u v))))) (by decide +kernel) u hu v hv) c4) c6))), ht⟩) (fun q h => nomatch h) dN_edge_43
    · refine lv_iload_n hx hb dN_edge_31 rfl (lv_at hl 2 rfl) ?_
      refine nz_si (As := [.int (nI v)]) (rest := []) S (c_Wire_isLow l v hv) kN_142 ⟨rfl, rfl, Nat.le_of_ble_eq_true rfl, Nat.le_of_ble_eq_true rfl⟩ ⟨Nat.zero_le _, Nat.zero_le _⟩ (fun _ _ _ _ h => h) (fun _ _ _ => trivial) rfl hl.1 rfl (Nat.le_of_ble_eq_true rfl) dN_edge_32 (fun r7 er7 => ?_)
      subst er7
      refine lv_if_eq (tgt := 42) hx hb dN_edge_35 (by decide) (fun c8 => ?_) (fun c8 => ?_)
      · refine lv_iconst (v := 0) hx hb dN_edge_42 (by decide) ?_
        refine ny_ret ?_
        exact W.iret (v := 0) hx hb hr (fun t ht hW => ⟨hk0, by rw [eu, ev]; exact congrArg some (congrArg Value.int (of_decide_eq_true (ib (ib (ib (al2 (N := 9) (M := 9) ((fun u v => (!decide (nI (zLow u) = 0) || (!decide (¬ nI (zHigh u) = 0) || (!decide (nI (zLow v) = 0) || decide ((0 : Int32) = zEdge u v)))))) (by decide +kernel) u hu v hv) c4) c6) c8))), ht⟩) (fun q h => nomatch h) dN_edge_43
      · refine lv_iconst (v := (-1)) hx hb dN_edge_38 (by decide) ?_
        refine lv_goto (tgt := 43) hx hb dN_edge_39 (by decide) ?_
        refine ny_ret ?_
        exact W.iret (v := (-1)) hx hb hr (fun t ht hW => ⟨hk0, by rw [eu, ev]; exact congrArg some (congrArg Value.int (of_decide_eq_true (ib (ib (ib (al2 (N := 9) (M := 9) ((fun u v => (!decide (nI (zLow u) = 0) || (!decide (¬ nI (zHigh u) = 0) || (!decide (¬ nI (zLow v) = 0) || decide (((-1) : Int32) = zEdge u v)))))) (by decide +kernel) u hu v hv) c4) c6) c8))), ht⟩) (fun q h => nomatch h) dN_edge_43
  · refine lv_iload_n hx hb dN_edge_15 rfl (lv_at hl 2 rfl) ?_
    refine nz_si (As := [.int (nI v)]) (rest := []) S (c_Wire_isHigh l v hv) kN_146 ⟨rfl, rfl, Nat.le_of_ble_eq_true rfl, Nat.le_of_ble_eq_true rfl⟩ ⟨Nat.zero_le _, Nat.zero_le _⟩ (fun _ _ _ _ h => h) (fun _ _ _ => trivial) rfl hl.1 rfl (Nat.le_of_ble_eq_true rfl) dN_edge_16 (fun r9 er9 => ?_)
    subst er9
    refine lv_if_eq (tgt := 24) hx hb dN_edge_19 (by decide) (fun c10 => ?_) (fun c10 => ?_)
    · refine lv_iload_n hx hb dN_edge_24 rfl (lv_at hl 1 rfl) ?_
      refine nz_si (As := [.int (nI u)]) (rest := []) S (c_Wire_isHigh l u hu) kN_146 ⟨rfl, rfl, Nat.le_of_ble_eq_true rfl, Nat.le_of_ble_eq_true rfl⟩ ⟨Nat.zero_le _, Nat.zero_le _⟩ (fun _ _ _ _ h => h) (fun _ _ _ => trivial) rfl hl.1 rfl (Nat.le_of_ble_eq_true rfl) dN_edge_25 (fun r11 er11 => ?_)
      subst er11
      refine lv_if_eq (tgt := 42) hx hb dN_edge_28 (by decide) (fun c12 => ?_) (fun c12 => ?_)
      · refine lv_iconst (v := 0) hx hb dN_edge_42 (by decide) ?_
        refine ny_ret ?_
        exact W.iret (v := 0) hx hb hr (fun t ht hW => ⟨hk0, by rw [eu, ev]; exact congrArg some (congrArg Value.int (of_decide_eq_true (ib (ib (ib (al2 (N := 9) (M := 9) ((fun u v => (!decide (¬ nI (zLow u) = 0) || (!decide (nI (zHigh v) = 0) || (!decide (nI (zHigh u) = 0) || decide ((0 : Int32) = zEdge u v)))))) (by decide +kernel) u hu v hv) c4) c10) c12))), ht⟩) (fun q h => nomatch h) dN_edge_43
      · refine lv_iload_n hx hb dN_edge_31 rfl (lv_at hl 2 rfl) ?_
        refine nz_si (As := [.int (nI v)]) (rest := []) S (c_Wire_isLow l v hv) kN_142 ⟨rfl, rfl, Nat.le_of_ble_eq_true rfl, Nat.le_of_ble_eq_true rfl⟩ ⟨Nat.zero_le _, Nat.zero_le _⟩ (fun _ _ _ _ h => h) (fun _ _ _ => trivial) rfl hl.1 rfl (Nat.le_of_ble_eq_true rfl) dN_edge_32 (fun r13 er13 => ?_)
        subst er13
        refine lv_if_eq (tgt := 42) hx hb dN_edge_35 (by decide) (fun c14 => ?_) (fun c14 => ?_)
        · refine lv_iconst (v := 0) hx hb dN_edge_42 (by decide) ?_
          refine ny_ret ?_
          exact W.iret (v := 0) hx hb hr (fun t ht hW => ⟨hk0, by rw [eu, ev]; exact congrArg some (congrArg Value.int (of_decide_eq_true (ib (ib (ib (ib (al2 (N := 9) (M := 9) ((fun u v => (!decide (¬ nI (zLow u) = 0) || (!decide (nI (zHigh v) = 0) || (!decide (¬ nI (zHigh u) = 0) || (!decide (nI (zLow v) = 0) || decide ((0 : Int32) = zEdge u v))))))) (by decide +kernel) u hu v hv) c4) c10) c12) c14))), ht⟩) (fun q h => nomatch h) dN_edge_43
        · refine lv_iconst (v := (-1)) hx hb dN_edge_38 (by decide) ?_
          refine lv_goto (tgt := 43) hx hb dN_edge_39 (by decide) ?_
          refine ny_ret ?_
          exact W.iret (v := (-1)) hx hb hr (fun t ht hW => ⟨hk0, by rw [eu, ev]; exact congrArg some (congrArg Value.int (of_decide_eq_true (ib (ib (ib (ib (al2 (N := 9) (M := 9) ((fun u v => (!decide (¬ nI (zLow u) = 0) || (!decide (nI (zHigh v) = 0) || (!decide (¬ nI (zHigh u) = 0) || (!decide (¬ nI (zLow v) = 0) || decide (((-1) : Int32) = zEdge u v))))))) (by decide +kernel) u hu v hv) c4) c10) c12) c14))), ht⟩) (fun q h => nomatch h) dN_edge_43
    · refine lv_iconst (v := 1) hx hb dN_edge_22 (by decide) ?_
      refine ny_ret ?_
      exact W.iret (v := 1) hx hb hr (fun t ht hW => ⟨hk0, by rw [eu, ev]; exact congrArg some (congrArg Value.int (of_decide_eq_true (ib (ib (al2 (N := 9) (M := 9) ((fun u v => (!decide (¬ nI (zLow u) = 0) || (!decide (¬ nI (zHigh v) = 0) || decide ((1 : Int32) = zEdge u v))))) (by decide +kernel) u hu v hv) c4) c10))), ht⟩) (fun q h => nomatch h) dN_edge_23
end
section
set_option maxHeartbeats 4000000 in
set_option maxRecDepth 100000 in
theorem cN_bring (l : Launch) (hfl : l.flags = pinnedFlags ++ [noTraceFlag]) (D : va_G) (cA cW : ClassId) (T : Nat → Nat) (hT : nvT T) (n : Nat → Nat) (g : Nat → Nat → Nat) (ok : nvOk n g) (b1 : Nat) (hb1 : b1 < 2) (x2 x3 x4 : Int32) : ny_Met l yN_bring (Cond.code yN_bring bN_bring 6 none :: nzG) ({ frames := 7, cells := 1, slots := 6, locals := 110 }) (va_Pc [.ref (T 0), .int (nI b1), .int x2, .int x3, .int x4] (nmP D cA cW (nvW cA cW T n g))) (nxQ (fun v st t => v = none ∧ (kBring x2 x3 x4) = 0 ∧ (fun H9 : Heap => ∃ n9 g9, nvU 16 n g (ix x4) (ix x2) (fBring b1 (g (ix x3)) (n (ix x3))) n9 g9 ∧ va_P D vwCl (nvW cA cW T n9 g9) H9) t.heap ∧ va_F (nvA T) st t) (exK exI (kBring x2 x3 x4))) 0 0 1 6 (nvA T) := by
  refine nz_ofT (own := RN) (by decide) rfl ?_
  intro p e s m args below meth c S hr hlocks hno hv9
  obtain ⟨rfl, hP, hK, hX⟩ := hv9
  have hob0 := nv_ob0 hK hP
  have hS : va_S (nvA T) s.heap s.heap [] := va_S.rf
  have hx := S.1
  have hb := S.2.1
  refine nz_entry (vs := [.ref (T 0), .int (nI b1), .int x2, .int x3, .int x4]) (n := 6) (lv := [(0, .ref (T 0)), (1, .int (nI b1)), (2, .int x2), (3, .int x3), (4, .int x4)]) (Nat.le_of_ble_eq_true rfl) rfl (fun ls hl => ?_)
  refine lv_iload_n hx hb dN_bring_0 rfl (lv_at hl 3 rfl) ?_
  refine nx_sv (As := [.int x3]) (rest := []) (post := ¬ plB x3) (exc := fun E => plB x3 ∧ E = eIO) S (cN_requirePlace l hfl x3) kN_20 ⟨rfl, rfl, Nat.le_of_ble_eq_true rfl, Nat.le_of_ble_eq_true rfl⟩ ⟨Nat.le_of_ble_eq_true rfl, Nat.le_of_ble_eq_true rfl⟩ nmX.bl (hX.at rfl) rfl hl.1 rfl (Nat.le_of_ble_eq_true rfl) dN_bring_1 hno hlocks (fun E h => exK_of (k := 1) (if_pos (Or.inl h.1)) (by decide) h.2) (fun q1 => ?_)
  refine lv_iload hx hb dN_bring_4 (lv_at hl 4 rfl) ?_
  refine nx_sv (As := [.int x4]) (rest := []) (post := ¬ plB x4) (exc := fun E => plB x4 ∧ E = eIO) S (cN_requirePlace l hfl x4) kN_20 ⟨rfl, rfl, Nat.le_of_ble_eq_true rfl, Nat.le_of_ble_eq_true rfl⟩ ⟨Nat.le_of_ble_eq_true rfl, Nat.le_of_ble_eq_true rfl⟩ nmX.bl (hX.at rfl) rfl hl.1 rfl (Nat.le_of_ble_eq_true rfl) dN_bring_6 hno hlocks (fun E h => exK_of (k := 1) (if_pos (Or.inr h.1)) (by decide) h.2) (fun q2 => ?_)
  refine lv_iload_n hx hb dN_bring_9 rfl (lv_at hl 2 rfl) ?_
  refine nx_sv (As := [.int x2]) (rest := []) (post := ¬ lenB x2) (exc := fun E => lenB x2 ∧ E = eIA) S (cN_requireLength l hfl x2) kN_24 ⟨rfl, rfl, Nat.le_of_ble_eq_true rfl, Nat.le_of_ble_eq_true rfl⟩ ⟨Nat.le_of_ble_eq_true rfl, Nat.le_of_ble_eq_true rfl⟩ nmX.bl (hX.at rfl) rfl hl.1 rfl (Nat.le_of_ble_eq_true rfl) dN_bring_10 hno hlocks (fun E h => exK_of (k := 2) (by unfold kBring; rw [if_neg (fun h => h.elim q1 q2), if_pos h.1]) (by decide) h.2) (fun q3 => ?_)
  have hk0 : kBring x2 x3 x4 = 0 := by unfold kBring; rw [if_neg (fun h => h.elim q1 q2), if_neg q3]
  obtain ⟨a, ha, rfl⟩ := plB_not q1
  have ea : ix (nI a) = a := ix_nI (by omega)
  obtain ⟨u, hu, rfl⟩ := plB_not q2
  have eu : ix (nI u) = u := ix_nI (by omega)
  obtain ⟨N, hN, rfl⟩ := lenB_not q3
  have eN : ix (nI N) = N := ix_nI (by omega)
  have hna := ok.1 a
  refine lv_aload_n hx hb dN_bring_13 rfl (lv_at hl 0 rfl) ?_
  refine nm_getP S hK hP dN_bring_14 ?_
  refine lv_iload_n hx hb dN_bring_17 rfl (lv_at hl 3 rfl) ?_
  refine nm_ald (j := a) hx hb hK hP ha dN_bring_18 ?_
  refine lv_astore (lv' := [(5, .ref (T (2 + a))), (0, .ref (T 0)), (1, .int (nI b1)), (2, .int (nI N)), (3, .int (nI a)), (4, .int (nI u))]) hx hb dN_bring_19 hl (by decide) rfl (fun ls hl => ?_)
  refine lv_aload_n hx hb dN_bring_21 rfl (lv_at hl 1 rfl) ?_
  refine nm_getA S hK hP dN_bring_22 ?_
  refine lv_iload_n hx hb dN_bring_25 rfl (lv_at hl 3 rfl) ?_
  refine lv_iload_n hx hb dN_bring_26 rfl (lv_at hl 2 rfl) ?_
  refine lv_if_eq (tgt := 38) hx hb dN_bring_27 (by decide) (fun c4 => ?_) (fun c4 => ?_)
  · have mc4 : b1 = 0 := (nI_eq (a := b1) (b := 0) (by omega) (by omega)).mp c4
    refine lv_iconst (v := 2) hx hb dN_bring_38 (by decide) ?_
    refine nv_call (As := [.int (nI N), .int 2]) (rest := []) S (c_Word_become l D cA cW T hT n g 16 (by decide) N hN 2) kN_30 ⟨rfl, rfl, Nat.le_of_ble_eq_true rfl, Nat.le_of_ble_eq_true rfl⟩ ⟨Nat.zero_le _, Nat.zero_le _⟩ (nv_ob hK hP (by decide)) hP hK hS rfl hl.1 rfl (Nat.le_of_ble_eq_true rfl) dN_bring_39 (fun H locs hP hS => ?_)
    obtain ⟨n1, g1, u1, hP⟩ : ∃ n9 g9, nvU 17 n g 16 N (fun _ => 2) n9 g9 ∧ va_P D vwCl (nvW cA cW T n9 g9) H := ⟨_, _, nvU_lay ok hN (fun _ _ => (by decide)), hP⟩
    refine lv_aload_n hx hb dN_bring_42 rfl (lv_at hl 1 rfl) ?_
    refine nm_getA S hK hP dN_bring_43 ?_
    refine lv_aload hx hb dN_bring_46 (lv_at hl 0 rfl) ?_
    refine lv_iconst (v := 0) hx hb dN_bring_48 (by decide) ?_
    refine lv_iload_n hx hb dN_bring_49 rfl (lv_at hl 3 rfl) ?_
    refine lv_aload hx hb dN_bring_50 (lv_at hl 0 rfl) ?_
    refine nm_getS S hX hK hP (Nat.lt_succ_of_lt ha) dN_bring_52 ?_
    refine nz_eqi (y := nI (n a)) (by rw [(u1.2.2.1 a (by omega) (by omega)).1]) ?_
    refine va_mmin hx hb (S.2.2.1.trans hl.1.symm) S.2.2.2.1 (S.2.2.2.2 _ kN_min.1) (S.2.2.2.2 _ kN_min.2.1) (S.2.2.2.2 _ kN_min.2.2.1) (S.2.2.2.2 _ kN_min.2.2.2) (Nat.le_of_ble_eq_true rfl) (Nat.le_of_ble_eq_true rfl) (Nat.zero_le _) (Nat.zero_le _) dN_bring_55 ?_
    refine nz_eqi (nI_min N (n a) (by omega) (by omega)) ?_
    refine lv_iconst (v := 0) hx hb dN_bring_58 (by decide) ?_
    refine nv_call (As := [.ref (T (2 + a)), .int (nI 0), .int (nI (min N (n a))), .int (nI 0)]) (rest := []) S (c_Word_lay l D cA cW T hT n1 g1 16 (by decide) a (Nat.lt_succ_of_lt ha) (by omega) 0 (min N (n a)) 0 (by omega) (by omega)) kN_115 ⟨rfl, rfl, Nat.le_of_ble_eq_true rfl, Nat.le_of_ble_eq_true rfl⟩ ⟨Nat.zero_le _, Nat.zero_le _⟩ (nv_ob hK hP (by decide)) hP hK hS rfl hl.1 rfl (Nat.le_of_ble_eq_true rfl) dN_bring_59 (fun H locs hP hS => ?_)
    obtain ⟨g2, u2, hP⟩ : ∃ g9, nvU 17 n g 16 N (fun x => if 0 ≤ x ∧ x < 0 + min N (n a) then g a (0 + (x - 0)) else 2) n1 g9 ∧ va_P D vwCl (nvW cA cW T n1 g9) H := ⟨_, nvU_on u1 (by omega) (by omega), hP⟩
    refine lv_aload_n hx hb dN_bring_62 rfl (lv_at hl 1 rfl) ?_
    refine nm_getP S hK hP dN_bring_63 ?_
    refine lv_iload hx hb dN_bring_66 (lv_at hl 5 rfl) ?_
    refine nm_ald (j := u) hx hb hK hP hu dN_bring_68 ?_
    refine lv_aload_n hx hb dN_bring_69 rfl (lv_at hl 1 rfl) ?_
    refine nm_getA S hK hP dN_bring_70 ?_
    refine nv_call (As := [.ref (T (2 + 16))]) (rest := []) S (c_Word_copy l D cA cW T hT n1 g2 u (Nat.lt_succ_of_lt hu) 16 (by decide) (by omega) (u2.2.2.2.1 16)) kN_81 ⟨rfl, rfl, Nat.le_of_ble_eq_true rfl, Nat.le_of_ble_eq_true rfl⟩ ⟨Nat.zero_le _, Nat.zero_le _⟩ (nv_ob hK hP (Nat.lt_succ_of_lt hu)) hP hK hS rfl hl.1 rfl (Nat.le_of_ble_eq_true rfl) dN_bring_73 (fun H locs hP hS => ?_)
    have hF : ∀ k, k < N → (if 0 ≤ k ∧ k < 0 + min N (n a) then g a (0 + (k - 0)) else 2) = fBring b1 (g a) (n a) k := by
      intro k hk
      unfold fBring
      by_cases hc : k < n a
      · rw [if_pos ⟨Nat.zero_le _, by omega⟩, if_pos hc, Nat.zero_add, Nat.sub_zero]
      · rw [if_neg (fun q => hc (by omega)), if_neg hc, if_neg (by omega)]
    refine ny_ret ?_
    exact W.vret hx hb hr (fun t ht hW => ⟨rfl, hk0, ⟨va_up n1 u (n1 16), va_up g2 u (pov (g2 16) (g2 u) 0 (n1 16)), by rw [eu]; exact nvU_eq (nvU_fin u2 hu) (by rw [eN]) (by rw [ea, eN]; exact hF), by rw [ht]; exact hP⟩, hS.F ht⟩) hS.2.2 dN_bring_76
  · have mc4 : ¬ b1 = 0 := fun h => c4 ((nI_eq (a := b1) (b := 0) (by omega) (by omega)).mpr h)
    refine lv_aload hx hb dN_bring_30 (lv_at hl 0 rfl) ?_
    refine nz_vi (As := []) (rest := [.int (nI N), .ref (T (2 + 16))]) S (c_Word_last l D cA cW T hT n g a (Nat.lt_succ_of_lt ha) (ok.1 a)) kN_101 ⟨rfl, rfl, Nat.le_of_ble_eq_true rfl, Nat.le_of_ble_eq_true rfl⟩ ⟨Nat.zero_le _, Nat.zero_le _⟩ nvP.bl (nv_ob hK hP (Nat.lt_succ_of_lt ha)) (nvP.to hP hK) rfl hl.1 rfl (Nat.le_of_ble_eq_true rfl) dN_bring_32 (fun r5 er5 => ?_)
    subst er5
    refine lv_goto (tgt := 39) hx hb dN_bring_35 (by decide) ?_
    refine nv_call (As := [.int (nI N), .int (nI (zLast (g a) (n a)))]) (rest := []) S (c_Word_become l D cA cW T hT n g 16 (by decide) N hN (zLast (g a) (n a))) kN_30 ⟨rfl, rfl, Nat.le_of_ble_eq_true rfl, Nat.le_of_ble_eq_true rfl⟩ ⟨Nat.zero_le _, Nat.zero_le _⟩ (nv_ob hK hP (by decide)) hP hK hS rfl hl.1 rfl (Nat.le_of_ble_eq_true rfl) dN_bring_39 (fun H locs hP hS => ?_)
    obtain ⟨n1, g1, u1, hP⟩ : ∃ n9 g9, nvU 17 n g 16 N (fun _ => zLast (g a) (n a)) n9 g9 ∧ va_P D vwCl (nvW cA cW T n9 g9) H := ⟨_, _, nvU_lay ok hN (fun _ _ => (zLast_lt (ok.2 a) _)), hP⟩
    refine lv_aload_n hx hb dN_bring_42 rfl (lv_at hl 1 rfl) ?_
    refine nm_getA S hK hP dN_bring_43 ?_
    refine lv_aload hx hb dN_bring_46 (lv_at hl 0 rfl) ?_
    refine lv_iconst (v := 0) hx hb dN_bring_48 (by decide) ?_
    refine lv_iload_n hx hb dN_bring_49 rfl (lv_at hl 3 rfl) ?_
    refine lv_aload hx hb dN_bring_50 (lv_at hl 0 rfl) ?_
    refine nm_getS S hX hK hP (Nat.lt_succ_of_lt ha) dN_bring_52 ?_
    refine nz_eqi (y := nI (n a)) (by rw [(u1.2.2.1 a (by omega) (by omega)).1]) ?_
    refine va_mmin hx hb (S.2.2.1.trans hl.1.symm) S.2.2.2.1 (S.2.2.2.2 _ kN_min.1) (S.2.2.2.2 _ kN_min.2.1) (S.2.2.2.2 _ kN_min.2.2.1) (S.2.2.2.2 _ kN_min.2.2.2) (Nat.le_of_ble_eq_true rfl) (Nat.le_of_ble_eq_true rfl) (Nat.zero_le _) (Nat.zero_le _) dN_bring_55 ?_
    refine nz_eqi (nI_min N (n a) (by omega) (by omega)) ?_
    refine lv_iconst (v := 0) hx hb dN_bring_58 (by decide) ?_
    refine nv_call (As := [.ref (T (2 + a)), .int (nI 0), .int (nI (min N (n a))), .int (nI 0)]) (rest := []) S (c_Word_lay l D cA cW T hT n1 g1 16 (by decide) a (Nat.lt_succ_of_lt ha) (by omega) 0 (min N (n a)) 0 (by omega) (by omega)) kN_115 ⟨rfl, rfl, Nat.le_of_ble_eq_true rfl, Nat.le_of_ble_eq_true rfl⟩ ⟨Nat.zero_le _, Nat.zero_le _⟩ (nv_ob hK hP (by decide)) hP hK hS rfl hl.1 rfl (Nat.le_of_ble_eq_true rfl) dN_bring_59 (fun H locs hP hS => ?_)
    obtain ⟨g2, u2, hP⟩ : ∃ g9, nvU 17 n g 16 N (fun x => if 0 ≤ x ∧ x < 0 + min N (n a) then g a (0 + (x - 0)) else zLast (g a) (n a)) n1 g9 ∧ va_P D vwCl (nvW cA cW T n1 g9) H := ⟨_, nvU_on u1 (by omega) (by omega), hP⟩
    refine lv_aload_n hx hb dN_bring_62 rfl (lv_at hl 1 rfl) ?_
    refine nm_getP S hK hP dN_bring_63 ?_
    refine lv_iload hx hb dN_bring_66 (lv_at hl 5 rfl) ?_
    refine nm_ald (j := u) hx hb hK hP hu dN_bring_68 ?_
    refine lv_aload_n hx hb dN_bring_69 rfl (lv_at hl 1 rfl) ?_
    refine nm_getA S hK hP dN_bring_70 ?_
    refine nv_call (As := [.ref (T (2 + 16))]) (rest := []) S (c_Word_copy l D cA cW T hT n1 g2 u (Nat.lt_succ_of_lt hu) 16 (by decide) (by omega) (u2.2.2.2.1 16)) kN_81 ⟨rfl, rfl, Nat.le_of_ble_eq_true rfl, Nat.le_of_ble_eq_true rfl⟩ ⟨Nat.zero_le _, Nat.zero_le _⟩ (nv_ob hK hP (Nat.lt_succ_of_lt hu)) hP hK hS rfl hl.1 rfl (Nat.le_of_ble_eq_true rfl) dN_bring_73 (fun H locs hP hS => ?_)
    have hF : ∀ k, k < N → (if 0 ≤ k ∧ k < 0 + min N (n a) then g a (0 + (k - 0)) else zLast (g a) (n a)) = fBring b1 (g a) (n a) k := by
      intro k hk
      unfold fBring
      by_cases hc : k < n a
      · rw [if_pos ⟨Nat.zero_le _, by omega⟩, if_pos hc, Nat.zero_add, Nat.sub_zero]
      · rw [if_neg (fun q => hc (by omega)), if_neg hc, if_pos (by omega)]
    refine ny_ret ?_
    exact W.vret hx hb hr (fun t ht hW => ⟨rfl, hk0, ⟨va_up n1 u (n1 16), va_up g2 u (pov (g2 16) (g2 u) 0 (n1 16)), by rw [eu]; exact nvU_eq (nvU_fin u2 hu) (by rw [eN]) (by rw [ea, eN]; exact hF), by rw [ht]; exact hP⟩, hS.F ht⟩) hS.2.2 dN_bring_76
set_option maxHeartbeats 4000000 in
set_option maxRecDepth 100000 in
theorem cN_cut (l : Launch) (hfl : l.flags = pinnedFlags ++ [noTraceFlag]) (D : va_G) (cA cW : ClassId) (T : Nat → Nat) (hT : nvT T) (n : Nat → Nat) (g : Nat → Nat → Nat) (ok : nvOk n g) (x1 x2 x3 x4 : Int32) : ny_Met l yN_cut (Cond.code yN_cut bN_cut 6 none :: nzG) ({ frames := 7, cells := 1, slots := 6, locals := 110 }) (va_Pc [.ref (T 0), .int x1, .int x2, .int x3, .int x4] (nmP D cA cW (nvW cA cW T n g))) (nxQ (fun v st t => v = none ∧ (kCut n x1 x2 x3 x4) = 0 ∧ (fun H9 : Heap => ∃ n9 g9, nvU 16 n g (ix x4) (ix x2) (fun i => g (ix x3) (ix x1 + i)) n9 g9 ∧ va_P D vwCl (nvW cA cW T n9 g9) H9) t.heap ∧ va_F (nvA T) st t) (exK exI (kCut n x1 x2 x3 x4))) 0 0 1 6 (nvA T) := by
  refine nz_ofT (own := RN) (by decide) rfl ?_
  intro p e s m args below meth c S hr hlocks hno hv9
  obtain ⟨rfl, hP, hK, hX⟩ := hv9
  have hob0 := nv_ob0 hK hP
  have hS : va_S (nvA T) s.heap s.heap [] := va_S.rf
  have hx := S.1
  have hb := S.2.1
  refine nz_entry (vs := [.ref (T 0), .int x1, .int x2, .int x3, .int x4]) (n := 6) (lv := [(0, .ref (T 0)), (1, .int x1), (2, .int x2), (3, .int x3), (4, .int x4)]) (Nat.le_of_ble_eq_true rfl) rfl (fun ls hl => ?_)
  refine lv_iload_n hx hb dN_cut_0 rfl (lv_at hl 3 rfl) ?_
  refine nx_sv (As := [.int x3]) (rest := []) (post := ¬ plB x3) (exc := fun E => plB x3 ∧ E = eIO) S (cN_requirePlace l hfl x3) kN_20 ⟨rfl, rfl, Nat.le_of_ble_eq_true rfl, Nat.le_of_ble_eq_true rfl⟩ ⟨Nat.le_of_ble_eq_true rfl, Nat.le_of_ble_eq_true rfl⟩ nmX.bl (hX.at rfl) rfl hl.1 rfl (Nat.le_of_ble_eq_true rfl) dN_cut_1 hno hlocks (fun E h => exK_of (k := 1) (if_pos (Or.inl h.1)) (by decide) h.2) (fun q1 => ?_)
  refine lv_iload hx hb dN_cut_4 (lv_at hl 4 rfl) ?_
  refine nx_sv (As := [.int x4]) (rest := []) (post := ¬ plB x4) (exc := fun E => plB x4 ∧ E = eIO) S (cN_requirePlace l hfl x4) kN_20 ⟨rfl, rfl, Nat.le_of_ble_eq_true rfl, Nat.le_of_ble_eq_true rfl⟩ ⟨Nat.le_of_ble_eq_true rfl, Nat.le_of_ble_eq_true rfl⟩ nmX.bl (hX.at rfl) rfl hl.1 rfl (Nat.le_of_ble_eq_true rfl) dN_cut_6 hno hlocks (fun E h => exK_of (k := 1) (if_pos (Or.inr (Or.inl h.1))) (by decide) h.2) (fun q2 => ?_)
  obtain ⟨a, ha, rfl⟩ := plB_not q1
  have ea : ix (nI a) = a := ix_nI (by omega)
  obtain ⟨u, hu, rfl⟩ := plB_not q2
  have eu : ix (nI u) = u := ix_nI (by omega)
  have hna := ok.1 a
  refine lv_aload_n hx hb dN_cut_9 rfl (lv_at hl 0 rfl) ?_
  refine nm_getP S hK hP dN_cut_10 ?_
  refine lv_iload_n hx hb dN_cut_13 rfl (lv_at hl 3 rfl) ?_
  refine nm_ald (j := a) hx hb hK hP ha dN_cut_14 ?_
  refine lv_astore (lv' := [(5, .ref (T (2 + a))), (0, .ref (T 0)), (1, .int x1), (2, .int x2), (3, .int (nI a)), (4, .int (nI u))]) hx hb dN_cut_15 hl (by decide) rfl (fun ls hl => ?_)
  refine lv_iload_n hx hb dN_cut_17 rfl (lv_at hl 2 rfl) ?_
  refine lv_if_lt (tgt := 45) hx hb dN_cut_18 (by decide) (fun c3 => ?_) (fun c3 => ?_)
  · exact nm_throw (E := eIO) (tx := "the word has no such elements") (ik := 119) (is := 121) (ic := 123) S hfl hX (by decide) (by decide +kernel) kcl_119 kin_eIO (by decide) kat_eIO hl.1 ⟨(Nat.le_of_ble_eq_true rfl), (Nat.le_of_ble_eq_true rfl), (Nat.le_of_ble_eq_true rfl), (Nat.le_of_ble_eq_true rfl)⟩ (Nat.le_of_ble_eq_true rfl) hlocks hno dN_cut_45 dN_cut_48 dN_cut_49 dN_cut_51 dN_cut_54 (fun t q hW h => ⟨eIO, exK_of (k := 1) (if_pos (Or.inr (Or.inr (Or.inl c3)))) (by decide) rfl, h⟩)
  · refine lv_iload_n hx hb dN_cut_21 rfl (lv_at hl 2 rfl) ?_
    refine lv_aload hx hb dN_cut_22 (lv_at hl 0 rfl) ?_
    refine nm_getS S hX hK hP (Nat.lt_succ_of_lt ha) dN_cut_24 ?_
    refine lv_icmp_gt (tgt := 45) hx hb dN_cut_27 (by decide) (fun c4 => ?_) (fun c4 => ?_)
    · exact nm_throw (E := eIO) (tx := "the word has no such elements") (ik := 119) (is := 121) (ic := 123) S hfl hX (by decide) (by decide +kernel) kcl_119 kin_eIO (by decide) kat_eIO hl.1 ⟨(Nat.le_of_ble_eq_true rfl), (Nat.le_of_ble_eq_true rfl), (Nat.le_of_ble_eq_true rfl), (Nat.le_of_ble_eq_true rfl)⟩ (Nat.le_of_ble_eq_true rfl) hlocks hno dN_cut_45 dN_cut_48 dN_cut_49 dN_cut_51 dN_cut_54 (fun t q hW h => ⟨eIO, exK_of (k := 1) (if_pos (Or.inr (Or.inr (Or.inr (Or.inl (by rw [ea]; exact c4)))))) (by decide) rfl, h⟩)
    · refine lv_iload_n hx hb dN_cut_30 rfl (lv_at hl 3 rfl) ?_
      refine lv_if_lt (tgt := 45) hx hb dN_cut_31 (by decide) (fun c5 => ?_) (fun c5 => ?_)
      · exact nm_throw (E := eIO) (tx := "the word has no such elements") (ik := 119) (is := 121) (ic := 123) S hfl hX (by decide) (by decide +kernel) kcl_119 kin_eIO (by decide) kat_eIO hl.1 ⟨(Nat.le_of_ble_eq_true rfl), (Nat.le_of_ble_eq_true rfl), (Nat.le_of_ble_eq_true rfl), (Nat.le_of_ble_eq_true rfl)⟩ (Nat.le_of_ble_eq_true rfl) hlocks hno dN_cut_45 dN_cut_48 dN_cut_49 dN_cut_51 dN_cut_54 (fun t q hW h => ⟨eIO, exK_of (k := 1) (if_pos (Or.inr (Or.inr (Or.inr (Or.inr (Or.inl c5)))))) (by decide) rfl, h⟩)
      · refine lv_iload_n hx hb dN_cut_34 rfl (lv_at hl 3 rfl) ?_
        refine lv_aload hx hb dN_cut_35 (lv_at hl 0 rfl) ?_
        refine nm_getS S hX hK hP (Nat.lt_succ_of_lt ha) dN_cut_37 ?_
        refine lv_iload_n hx hb dN_cut_40 rfl (lv_at hl 2 rfl) ?_
        refine lv_isub hx hb dN_cut_41 ?_
        refine lv_icmp_le (tgt := 55) hx hb dN_cut_42 (by decide) (fun c6 => ?_) (fun c6 => ?_)
        · have hk0 : kCut n x1 x2 (nI a) (nI u) = 0 := by
            refine if_neg ?_
            rw [ea]
            rintro (h | h | h | h | h | h)
            · exact q1 h
            · exact q2 h
            · exact c3 h
            · exact c4 h
            · exact c5 h
            · exact Int32.not_lt.mpr c6 h
          obtain ⟨k, hk, rfl⟩ := in_not' (N := n a) (x := x1) rfl (by omega) (fun h => h.elim c3 c4)
          have c6' : x2 ≤ nI (n a - k) := by rw [← pk_sub hk]; exact c6
          obtain ⟨N, hN, rfl⟩ := in_not' (N := n a - k) (x := x2) rfl (by omega) (fun h => h.elim c5 (fun q => Int32.not_le.mpr q c6'))
          have ek : ix (nI k) = k := ix_nI (by omega)
          have eN : ix (nI N) = N := ix_nI (by omega)
          refine lv_aload_n hx hb dN_cut_55 rfl (lv_at hl 1 rfl) ?_
          refine nm_getA S hK hP dN_cut_56 ?_
          refine lv_iload_n hx hb dN_cut_59 rfl (lv_at hl 3 rfl) ?_
          refine nm_putS (N := N) S hX hT hK hP hS (by decide) dN_cut_60 (fun H locs hP hS => ?_)
          obtain ⟨n1, g1, u1, hP⟩ : ∃ n9 g9, nvU 17 n g 16 N (g 16) n9 g9 ∧ va_P D vwCl (nvW cA cW T n9 g9) H := ⟨_, _, nvU_size ok (by omega), hP⟩
          refine lv_aload_n hx hb dN_cut_63 rfl (lv_at hl 1 rfl) ?_
          refine nm_getA S hK hP dN_cut_64 ?_
          refine lv_aload hx hb dN_cut_67 (lv_at hl 0 rfl) ?_
          refine lv_iload_n hx hb dN_cut_69 rfl (lv_at hl 2 rfl) ?_
          refine lv_iload_n hx hb dN_cut_70 rfl (lv_at hl 3 rfl) ?_
          refine lv_iconst (v := 0) hx hb dN_cut_71 (by decide) ?_
          refine nv_call (As := [.ref (T (2 + a)), .int (nI k), .int (nI N), .int (nI 0)]) (rest := []) S (c_Word_lay l D cA cW T hT n1 g1 16 (by decide) a (Nat.lt_succ_of_lt ha) (by omega) k N 0 (by omega) (by omega)) kN_115 ⟨rfl, rfl, Nat.le_of_ble_eq_true rfl, Nat.le_of_ble_eq_true rfl⟩ ⟨Nat.zero_le _, Nat.zero_le _⟩ (nv_ob hK hP (by decide)) hP hK hS rfl hl.1 rfl (Nat.le_of_ble_eq_true rfl) dN_cut_72 (fun H locs hP hS => ?_)
          obtain ⟨g2, u2, hP⟩ : ∃ g9, nvU 17 n g 16 N (fun x => if 0 ≤ x ∧ x < 0 + N then g a (k + (x - 0)) else g 16 x) n1 g9 ∧ va_P D vwCl (nvW cA cW T n1 g9) H := ⟨_, nvU_on u1 (by omega) (by omega), hP⟩
          refine lv_aload_n hx hb dN_cut_75 rfl (lv_at hl 1 rfl) ?_
          refine nm_getP S hK hP dN_cut_76 ?_
          refine lv_iload hx hb dN_cut_79 (lv_at hl 5 rfl) ?_
          refine nm_ald (j := u) hx hb hK hP hu dN_cut_81 ?_
          refine lv_aload_n hx hb dN_cut_82 rfl (lv_at hl 1 rfl) ?_
          refine nm_getA S hK hP dN_cut_83 ?_
          refine nv_call (As := [.ref (T (2 + 16))]) (rest := []) S (c_Word_copy l D cA cW T hT n1 g2 u (Nat.lt_succ_of_lt hu) 16 (by decide) (by omega) (u2.2.2.2.1 16)) kN_81 ⟨rfl, rfl, Nat.le_of_ble_eq_true rfl, Nat.le_of_ble_eq_true rfl⟩ ⟨Nat.zero_le _, Nat.zero_le _⟩ (nv_ob hK hP (Nat.lt_succ_of_lt hu)) hP hK hS rfl hl.1 rfl (Nat.le_of_ble_eq_true rfl) dN_cut_86 (fun H locs hP hS => ?_)
          refine ny_ret ?_
          exact W.vret hx hb hr (fun t ht hW => ⟨rfl, hk0, ⟨va_up n1 u (n1 16), va_up g2 u (pov (g2 16) (g2 u) 0 (n1 16)), by rw [eu]; exact nvU_eq (nvU_fin u2 hu) (by rw [eN]) (by rw [ea, eN, ek]; intro x hx; rw [if_pos ⟨Nat.zero_le _, by omega⟩, Nat.sub_zero]), by rw [ht]; exact hP⟩, hS.F ht⟩) hS.2.2 dN_cut_89
        · exact nm_throw (E := eIO) (tx := "the word has no such elements") (ik := 119) (is := 121) (ic := 123) S hfl hX (by decide) (by decide +kernel) kcl_119 kin_eIO (by decide) kat_eIO hl.1 ⟨(Nat.le_of_ble_eq_true rfl), (Nat.le_of_ble_eq_true rfl), (Nat.le_of_ble_eq_true rfl), (Nat.le_of_ble_eq_true rfl)⟩ (Nat.le_of_ble_eq_true rfl) hlocks hno dN_cut_45 dN_cut_48 dN_cut_49 dN_cut_51 dN_cut_54 (fun t q hW h => ⟨eIO, exK_of (k := 1) (if_pos (Or.inr (Or.inr (Or.inr (Or.inr (Or.inr (by rw [ea]; exact Int32.not_le.mp c6))))))) (by decide) rfl, h⟩)
set_option maxHeartbeats 4000000 in
set_option maxRecDepth 100000 in
theorem cN_isBelowUnsigned (l : Launch) (a b : Nat) (ha : a < 2 ^ 64) (hb9 : b < 2 ^ 64) : Met l yN_isBelowUnsigned (Cond.code yN_isBelowUnsigned bN_isBelowUnsigned 4 (some .boolean) :: nzG) ({ frames := 0, cells := 0, slots := 0, locals := 0 }) (va_Pc [.long (lN a), .long (lN b)] (fun _ => True)) (vp_Si (fun r => r = nI (if a < b then 1 else 0))) 0 0 (fun _ => False) := by
  refine nz_of (own := RN) (by decide) rfl ?_
  intro p e s m args below meth c S hr hlocks _ hv9
  obtain ⟨rfl, -⟩ := hv9
  have hx := S.1
  have hb := S.2.1
  refine nz_entry (vs := [.long (lN a), .long (lN b)]) (n := 4) (lv := [(0, .long (lN a)), (2, .long (lN b))]) (Nat.le_of_ble_eq_true rfl) rfl (fun ls hl => ?_)
  refine lv_lload_n hx hb dN_isBelowUnsigned_0 rfl (lv_at hl 0 rfl) ?_
  refine lv_ldc2 (v := (-9223372036854775808)) hx hb S.2.2.2.1 (S.2.2.2.2 _ kN_c191) dN_isBelowUnsigned_1 ?_
  refine lv_lxor hx hb dN_isBelowUnsigned_4 ?_
  refine lv_lload_n hx hb dN_isBelowUnsigned_5 rfl (lv_at hl 1 rfl) ?_
  refine lv_ldc2 (v := (-9223372036854775808)) hx hb S.2.2.2.1 (S.2.2.2.2 _ kN_c191) dN_isBelowUnsigned_6 ?_
  refine lv_lxor hx hb dN_isBelowUnsigned_9 ?_
  refine W.lcmp hx hb dN_isBelowUnsigned_10 ?_
  refine lv_if_ge (tgt := 18) hx hb dN_isBelowUnsigned_11 (by decide) (fun c1 => ?_) (fun c1 => ?_)
  · refine lv_iconst (v := 0) hx hb dN_isBelowUnsigned_18 (by decide) ?_
    exact W.zret (v := 0) hx hb hr rfl (fun t ht hW => ⟨_, rfl, by rw [if_neg (fun q => absurd ((ultL ha hb9).mp ((lg_cmp_ge _ _).mp c1)) (by omega))]; rfl, ht⟩) (fun q h => nomatch h) dN_isBelowUnsigned_19
  · refine lv_iconst (v := 1) hx hb dN_isBelowUnsigned_14 (by decide) ?_
    refine lv_goto (tgt := 19) hx hb dN_isBelowUnsigned_15 (by decide) ?_
    exact W.zret (v := 1) hx hb hr rfl (fun t ht hW => ⟨_, rfl, by rw [if_pos (Nat.lt_of_not_le (fun q => c1 ((lg_cmp_ge _ _).mpr ((ultL ha hb9).mpr q))))]; rfl, ht⟩) (fun q h => nomatch h) dN_isBelowUnsigned_19
set_option maxHeartbeats 4000000 in
set_option maxRecDepth 100000 in
theorem cN_compare (l : Launch) (hfl : l.flags = pinnedFlags ++ [noTraceFlag]) (D : va_G) (cA cW : ClassId) (T : Nat → Nat) (hT : nvT T) (n : Nat → Nat) (g : Nat → Nat → Nat) (ok : nvOk n g) (b1 : Nat) (hb1 : b1 < 2) (x2 x3 : Int32) : ny_Met l yN_compare (Cond.code yN_compare bN_compare 8 (some .int) :: nzG) ({ frames := 7, cells := 1, slots := 6, locals := 110 }) (va_Pc [.ref (T 0), .int (nI b1), .int x2, .int x3] (nmP D cA cW (nvW cA cW T n g))) (nxQ (fun v st t => (kPl2 x2 x3) = 0 ∧ v = some (.int (zCompare b1 (g (ix x2)) (n (ix x2)) (g (ix x3)) (n (ix x3)))) ∧ t.heap = st.heap) (exK exI (kPl2 x2 x3))) 0 0 1 6 (fun _ => False) := by
  refine nz_ofT (own := RN) (by decide) rfl ?_
  intro p e s m args below meth c S hr hlocks hno hv9
  obtain ⟨rfl, hP, hK, hX⟩ := hv9
  have hob0 := nv_ob0 hK hP
  have hS : va_S (nvA T) s.heap s.heap [] := va_S.rf
  have hx := S.1
  have hb := S.2.1
  refine nz_entry (vs := [.ref (T 0), .int (nI b1), .int x2, .int x3]) (n := 8) (lv := [(0, .ref (T 0)), (1, .int (nI b1)), (2, .int x2), (3, .int x3)]) (Nat.le_of_ble_eq_true rfl) rfl (fun ls hl => ?_)
  refine lv_iload_n hx hb dN_compare_0 rfl (lv_at hl 2 rfl) ?_
  refine nx_sv (As := [.int x2]) (rest := []) (post := ¬ plB x2) (exc := fun E => plB x2 ∧ E = eIO) S (cN_requirePlace l hfl x2) kN_20 ⟨rfl, rfl, Nat.le_of_ble_eq_true rfl, Nat.le_of_ble_eq_true rfl⟩ ⟨Nat.le_of_ble_eq_true rfl, Nat.le_of_ble_eq_true rfl⟩ nmX.bl (hX.at rfl) rfl hl.1 rfl (Nat.le_of_ble_eq_true rfl) dN_compare_1 hno hlocks (fun E h => exK_of (k := 1) (if_pos (Or.inl h.1)) (by decide) h.2) (fun q1 => ?_)
  refine lv_iload_n hx hb dN_compare_4 rfl (lv_at hl 3 rfl) ?_
  refine nx_sv (As := [.int x3]) (rest := []) (post := ¬ plB x3) (exc := fun E => plB x3 ∧ E = eIO) S (cN_requirePlace l hfl x3) kN_20 ⟨rfl, rfl, Nat.le_of_ble_eq_true rfl, Nat.le_of_ble_eq_true rfl⟩ ⟨Nat.le_of_ble_eq_true rfl, Nat.le_of_ble_eq_true rfl⟩ nmX.bl (hX.at rfl) rfl hl.1 rfl (Nat.le_of_ble_eq_true rfl) dN_compare_5 hno hlocks (fun E h => exK_of (k := 1) (if_pos (Or.inr h.1)) (by decide) h.2) (fun q2 => ?_)
  have hk0 : kPl2 x2 x3 = 0 := if_neg (fun h => h.elim q1 q2)
  obtain ⟨a, ha, rfl⟩ := plB_not q1
  have ea : ix (nI a) = a := ix_nI (by omega)
  obtain ⟨d, hd, rfl⟩ := plB_not q2
  have ed : ix (nI d) = d := ix_nI (by omega)
  have hp64 := zLong_lt b1 (g a) (ok.1 a)
  have hq64 := zLong_lt b1 (g d) (ok.1 d)
  refine lv_aload_n hx hb dN_compare_8 rfl (lv_at hl 0 rfl) ?_
  refine nm_getP S hK hP dN_compare_9 ?_
  refine lv_iload_n hx hb dN_compare_12 rfl (lv_at hl 2 rfl) ?_
  refine nm_ald (j := a) hx hb hK hP ha dN_compare_13 ?_
  refine nz_vi (As := []) (rest := []) S (c_Word_counts l D cA cW T hT n g a (Nat.lt_succ_of_lt ha) ok.2 (ok.1 a)) kN_124 ⟨rfl, rfl, Nat.le_of_ble_eq_true rfl, Nat.le_of_ble_eq_true rfl⟩ ⟨Nat.zero_le _, Nat.zero_le _⟩ nvP.bl (nv_ob hK hP (Nat.lt_succ_of_lt ha)) (nvP.to hP hK) rfl hl.1 rfl (Nat.le_of_ble_eq_true rfl) dN_compare_14 (fun r3 er3 => ?_)
  subst er3
  refine lv_if_eq (tgt := 32) hx hb dN_compare_17 (by decide) (fun c4 => ?_) (fun c4 => ?_)
  · refine lv_iconst (v := 2) hx hb dN_compare_32 (by decide) ?_
    refine ny_ret ?_
    exact W.iret (v := 2) hx hb hr (fun t ht hW => ⟨hk0, by rw [ea, ed]; exact congrArg some (congrArg Value.int (zCmp_2 (fun q => zCnt_n c4 q.1))), ht⟩) (fun q h => nomatch h) dN_compare_33
  · refine lv_aload_n hx hb dN_compare_20 rfl (lv_at hl 0 rfl) ?_
    refine nm_getP S hK hP dN_compare_21 ?_
    refine lv_iload_n hx hb dN_compare_24 rfl (lv_at hl 3 rfl) ?_
    refine nm_ald (j := d) hx hb hK hP hd dN_compare_25 ?_
    refine nz_vi (As := []) (rest := []) S (c_Word_counts l D cA cW T hT n g d (Nat.lt_succ_of_lt hd) ok.2 (ok.1 d)) kN_124 ⟨rfl, rfl, Nat.le_of_ble_eq_true rfl, Nat.le_of_ble_eq_true rfl⟩ ⟨Nat.zero_le _, Nat.zero_le _⟩ nvP.bl (nv_ob hK hP (Nat.lt_succ_of_lt hd)) (nvP.to hP hK) rfl hl.1 rfl (Nat.le_of_ble_eq_true rfl) dN_compare_26 (fun r5 er5 => ?_)
    subst er5
    refine lv_if_ne (tgt := 34) hx hb dN_compare_29 (by decide) (fun c6 => ?_) (fun c6 => ?_)
    · refine lv_aload_n hx hb dN_compare_34 rfl (lv_at hl 0 rfl) ?_
      refine nm_getP S hK hP dN_compare_35 ?_
      refine lv_iload_n hx hb dN_compare_38 rfl (lv_at hl 2 rfl) ?_
      refine nm_ald (j := a) hx hb hK hP ha dN_compare_39 ?_
      refine lv_iload_n hx hb dN_compare_40 rfl (lv_at hl 1 rfl) ?_
      refine nz_vl (As := [.int (nI b1)]) (rest := []) S (c_Word_asLong l D cA cW T hT n g a (Nat.lt_succ_of_lt ha) ok.2 (ok.1 a) b1 hb1) kN_60 ⟨rfl, rfl, Nat.le_of_ble_eq_true rfl, Nat.le_of_ble_eq_true rfl⟩ ⟨Nat.zero_le _, Nat.zero_le _⟩ nvP.bl (nv_ob hK hP (Nat.lt_succ_of_lt ha)) (nvP.to hP hK) rfl hl.1 rfl (Nat.le_of_ble_eq_true rfl) dN_compare_41 (fun r7 er7 => ?_)
      subst er7
      refine lv_lstore (lv' := [(4, .long (lN (zLong b1 (g a) (n a)))), (0, .ref (T 0)), (1, .int (nI b1)), (2, .int (nI a)), (3, .int (nI d))]) hx hb dN_compare_44 hl (by decide) rfl (fun ls hl => ?_)
      refine lv_aload_n hx hb dN_compare_46 rfl (lv_at hl 1 rfl) ?_
      refine nm_getP S hK hP dN_compare_47 ?_
      refine lv_iload_n hx hb dN_compare_50 rfl (lv_at hl 4 rfl) ?_
      refine nm_ald (j := d) hx hb hK hP hd dN_compare_51 ?_
      refine lv_iload_n hx hb dN_compare_52 rfl (lv_at hl 2 rfl) ?_
      refine nz_vl (As := [.int (nI b1)]) (rest := []) S (c_Word_asLong l D cA cW T hT n g d (Nat.lt_succ_of_lt hd) ok.2 (ok.1 d) b1 hb1) kN_60 ⟨rfl, rfl, Nat.le_of_ble_eq_true rfl, Nat.le_of_ble_eq_true rfl⟩ ⟨Nat.zero_le _, Nat.zero_le _⟩ nvP.bl (nv_ob hK hP (Nat.lt_succ_of_lt hd)) (nvP.to hP hK) rfl hl.1 rfl (Nat.le_of_ble_eq_true rfl) dN_compare_53 (fun r8 er8 => ?_)
      subst er8
      refine lv_lstore (lv' := [(6, .long (lN (zLong b1 (g d) (n d)))), (4, .long (lN (zLong b1 (g a) (n a)))), (0, .ref (T 0)), (1, .int (nI b1)), (2, .int (nI a)), (3, .int (nI d))]) hx hb dN_compare_56 hl (by decide) rfl (fun ls hl => ?_)
      refine lv_lload hx hb dN_compare_58 (lv_at hl 1 rfl) ?_
      refine lv_lload hx hb dN_compare_60 (lv_at hl 0 rfl) ?_
      refine W.lcmp hx hb dN_compare_62 ?_
      refine lv_if_ne (tgt := 68) hx hb dN_compare_63 (by decide) (fun c9 => ?_) (fun c9 => ?_)
      · refine lv_iload_n hx hb dN_compare_68 rfl (lv_at hl 3 rfl) ?_
        refine lv_if_eq (tgt := 83) hx hb dN_compare_69 (by decide) (fun c10 => ?_) (fun c10 => ?_)
        · have mc10 : b1 = 0 := (nI_eq (a := b1) (b := 0) (by omega) (by omega)).mp c10
          refine lv_lload hx hb dN_compare_83 (lv_at hl 1 rfl) ?_
          refine lv_lload hx hb dN_compare_85 (lv_at hl 0 rfl) ?_
          refine nz_si (As := [.long (lN (zLong b1 (g a) (n a))), .long (lN (zLong b1 (g d) (n d)))]) (rest := []) S (cN_isBelowUnsigned l _ _ hp64 hq64) kN_127 ⟨rfl, rfl, Nat.le_of_ble_eq_true rfl, Nat.le_of_ble_eq_true rfl⟩ ⟨Nat.zero_le _, Nat.zero_le _⟩ (fun _ _ _ _ h => h) (fun _ _ _ => trivial) rfl hl.1 rfl (Nat.le_of_ble_eq_true rfl) dN_compare_87 (fun r11 er11 => ?_)
          subst er11
          refine lv_if_eq (tgt := 97) hx hb dN_compare_90 (by decide) (fun c12 => ?_) (fun c12 => ?_)
          · refine lv_iconst (v := 1) hx hb dN_compare_97 (by decide) ?_
            refine ny_ret ?_
            exact W.iret (v := 1) hx hb hr (fun t ht hW => ⟨hk0, by rw [ea, ed]; exact congrArg some (congrArg Value.int (zCmp_p (zCnt_y c4) (zCnt_y c6) (fun q => c9 ((lcmp_eq hp64 hq64).mpr q)) (fun z => absurd (by rw [if_pos ((zBelow_u (by omega)).mp z)] at c12; exact c12) (by decide)))), ht⟩) (fun q h => nomatch h) dN_compare_98
          · refine lv_iconst (v := (-1)) hx hb dN_compare_93 (by decide) ?_
            refine lv_goto (tgt := 98) hx hb dN_compare_94 (by decide) ?_
            refine ny_ret ?_
            exact W.iret (v := (-1)) hx hb hr (fun t ht hW => ⟨hk0, by rw [ea, ed]; exact congrArg some (congrArg Value.int (zCmp_m (zCnt_y c4) (zCnt_y c6) (fun q => c9 ((lcmp_eq hp64 hq64).mpr q)) ((zBelow_u (by omega)).mpr (by rcases Nat.lt_or_ge (zLong b1 (g a) (n a)) (zLong b1 (g d) (n d)) with z | z; exact z; exact absurd (by rw [if_neg (by omega)]; rfl) c12)))), ht⟩) (fun q h => nomatch h) dN_compare_98
        · have mc10 : ¬ b1 = 0 := fun h => c10 ((nI_eq (a := b1) (b := 0) (by omega) (by omega)).mpr h)
          refine lv_lload hx hb dN_compare_72 (lv_at hl 1 rfl) ?_
          refine lv_lload hx hb dN_compare_74 (lv_at hl 0 rfl) ?_
          refine W.lcmp hx hb dN_compare_76 ?_
          refine lv_if_ge (tgt := 97) hx hb dN_compare_77 (by decide) (fun c13 => ?_) (fun c13 => ?_)
          · refine lv_iconst (v := 1) hx hb dN_compare_97 (by decide) ?_
            refine ny_ret ?_
            exact W.iret (v := 1) hx hb hr (fun t ht hW => ⟨hk0, by rw [ea, ed]; exact congrArg some (congrArg Value.int (zCmp_p (zCnt_y c4) (zCnt_y c6) (fun q => c9 ((lcmp_eq hp64 hq64).mpr q)) (fun z => Int64.not_le.mpr ((zBelow_s (by omega)).mp z) ((lg_cmp_ge _ _).mp c13)))), ht⟩) (fun q h => nomatch h) dN_compare_98
          · refine lv_goto (tgt := 93) hx hb dN_compare_80 (by decide) ?_
            refine lv_iconst (v := (-1)) hx hb dN_compare_93 (by decide) ?_
            refine lv_goto (tgt := 98) hx hb dN_compare_94 (by decide) ?_
            refine ny_ret ?_
            exact W.iret (v := (-1)) hx hb hr (fun t ht hW => ⟨hk0, by rw [ea, ed]; exact congrArg some (congrArg Value.int (zCmp_m (zCnt_y c4) (zCnt_y c6) (fun q => c9 ((lcmp_eq hp64 hq64).mpr q)) ((zBelow_s (by omega)).mpr (Int64.not_le.mp (fun q => c13 ((lg_cmp_ge _ _).mpr q)))))), ht⟩) (fun q h => nomatch h) dN_compare_98
      · refine lv_iconst (v := 0) hx hb dN_compare_66 (by decide) ?_
        refine ny_ret ?_
        exact W.iret (v := 0) hx hb hr (fun t ht hW => ⟨hk0, by rw [ea, ed]; exact congrArg some (congrArg Value.int (zCmp_0 (zCnt_y c4) (zCnt_y c6) ((lcmp_eq hp64 hq64).mp c9))), ht⟩) (fun q h => nomatch h) dN_compare_67
    · refine lv_iconst (v := 2) hx hb dN_compare_32 (by decide) ?_
      refine ny_ret ?_
      exact W.iret (v := 2) hx hb hr (fun t ht hW => ⟨hk0, by rw [ea, ed]; exact congrArg some (congrArg Value.int (zCmp_2 (fun q => zCnt_n c6 q.2))), ht⟩) (fun q h => nomatch h) dN_compare_33
end
section
/-! ===== Math.floorMod ===== -/
section Fm
theorem dJ_0 : decode bJ_floorMod 0 = .ok (.iload_n 0, 1) := by decide +kernel
theorem dJ_1 : decode bJ_floorMod 1 = .ok (.iload_n 1, 1) := by decide +kernel
theorem dJ_2 : decode bJ_floorMod 2 = .ok (.irem, 1) := by decide +kernel
theorem dJ_3 : decode bJ_floorMod 3 = .ok (.istore_n 2, 1) := by decide +kernel
theorem dJ_4 : decode bJ_floorMod 4 = .ok (.iload_n 0, 1) := by decide +kernel
theorem dJ_5 : decode bJ_floorMod 5 = .ok (.iload_n 1, 1) := by decide +kernel
theorem dJ_6 : decode bJ_floorMod 6 = .ok (.ixor, 1) := by decide +kernel
theorem dJ_7 : decode bJ_floorMod 7 = .ok (.ifCond .ge 11, 3) := by decide +kernel
theorem dJ_10 : decode bJ_floorMod 10 = .ok (.iload_n 2, 1) := by decide +kernel
theorem dJ_11 : decode bJ_floorMod 11 = .ok (.ifCond .eq 7, 3) := by decide +kernel
theorem dJ_14 : decode bJ_floorMod 14 = .ok (.iload_n 2, 1) := by decide +kernel
theorem dJ_15 : decode bJ_floorMod 15 = .ok (.iload_n 1, 1) := by decide +kernel
theorem dJ_16 : decode bJ_floorMod 16 = .ok (.iadd, 1) := by decide +kernel
theorem dJ_17 : decode bJ_floorMod 17 = .ok (.ireturn, 1) := by decide +kernel
theorem dJ_18 : decode bJ_floorMod 18 = .ok (.iload_n 2, 1) := by decide +kernel
theorem dJ_19 : decode bJ_floorMod 19 = .ok (.ireturn, 1) := by decide +kernel
theorem dJL_0 : decode bJ_floorModL 0 = .ok (.lload_n 0, 1) := by decide +kernel
theorem dJL_1 : decode bJ_floorModL 1 = .ok (.lload_n 2, 1) := by decide +kernel
theorem dJL_2 : decode bJ_floorModL 2 = .ok (.lrem, 1) := by decide +kernel
theorem dJL_3 : decode bJ_floorModL 3 = .ok (.lstore 4, 2) := by decide +kernel
theorem dJL_5 : decode bJ_floorModL 5 = .ok (.lload_n 0, 1) := by decide +kernel
theorem dJL_6 : decode bJ_floorModL 6 = .ok (.lload_n 2, 1) := by decide +kernel
theorem dJL_7 : decode bJ_floorModL 7 = .ok (.lxor, 1) := by decide +kernel
theorem dJL_8 : decode bJ_floorModL 8 = .ok (.lconst 0, 1) := by decide +kernel
theorem dJL_9 : decode bJ_floorModL 9 = .ok (.lcmp, 1) := by decide +kernel
theorem dJL_10 : decode bJ_floorModL 10 = .ok (.ifCond .ge 15, 3) := by decide +kernel
theorem dJL_13 : decode bJ_floorModL 13 = .ok (.lload 4, 2) := by decide +kernel
theorem dJL_15 : decode bJ_floorModL 15 = .ok (.lconst 0, 1) := by decide +kernel
theorem dJL_16 : decode bJ_floorModL 16 = .ok (.lcmp, 1) := by decide +kernel
theorem dJL_17 : decode bJ_floorModL 17 = .ok (.ifCond .eq 8, 3) := by decide +kernel
theorem dJL_20 : decode bJ_floorModL 20 = .ok (.lload 4, 2) := by decide +kernel
theorem dJL_22 : decode bJ_floorModL 22 = .ok (.lload_n 2, 1) := by decide +kernel
theorem dJL_23 : decode bJ_floorModL 23 = .ok (.ladd, 1) := by decide +kernel
theorem dJL_24 : decode bJ_floorModL 24 = .ok (.lreturn, 1) := by decide +kernel
theorem dJL_25 : decode bJ_floorModL 25 = .ok (.lload 4, 2) := by decide +kernel
theorem dJL_27 : decode bJ_floorModL 27 = .ok (.lreturn, 1) := by decide +kernel
theorem nz_ofF {l : Launch} {y : MethodName} {b : ByteArray} {mL mc ms : Nat} {r : Option FieldType} {rm : Room} {own : String} {Pc : Array Value → State → Prop} {Qc : Array Value → State → Outcome → State → Prop} {free : Addr → Prop} (hy : plainFor y = true) (ho : y.cls = own)
    (body : ∀ (p : Program) (e : Env) (s : State) (m : MethodId) (args : Array Value) (below : List Frame) (meth : Method) (c : Code), CallFix p m c b mL s args nzG own → meth.sig.returnType = r → meth.locks = false → meth.name = y.name → Pc args s →
      W p l e rm s m args below meth c s.heap [] 0 0 (MQ below Qc args s mc ms free) (entryFrame m args mL)) : Met l y (Cond.code y b mL r :: nzG) rm Pc Qc mc ms free := by
  refine va_MetF (cc := b) (maxL := mL) (ret := r) hy rfl ?_
  intro p e s m args below meth c s₁ B hml hP
  exact body p e s m args below meth c ⟨B.exec, B.bytes, hml, by rw [← ho]; exact findClass_of_methodNamed B.named, fun w h => atoms_spec B.pre w (List.mem_cons_of_mem _ h)⟩ B.returns B.notSynchronized (name_of_methodNamed B.named B.method).1 hP
theorem sg32 (z : Int32) : 0 ≤ z ↔ z.toBitVec.msb = false := by
  rw [Int32.le_iff_toInt_le, ← Int32.toInt_toBitVec z, BitVec.msb_eq_toInt]
  have h0 : (0 : Int32).toInt = 0 := rfl
  rw [h0]
  simp
theorem xr32 {r y : Int32} (hy : 0 ≤ y) : (0 ≤ r ^^^ y) ↔ 0 ≤ r := by
  rw [sg32, sg32, Int32.toBitVec_xor, BitVec.msb_xor, (sg32 y).mp hy]
  simp
theorem tm_em (a : Int) (N : Nat) : (a.tmod N) % (N : Int) = a % (N : Int) := by
  rw [Int.tmod_def]
  exact Int.sub_mul_emod_self_left a N (a.tdiv N)
theorem tm_pos {a : Int} {N : Nat} (h0 : 0 < N) (h : 0 ≤ a.tmod N) : a.tmod N = a % (N : Int) := by
  have h1 := (tmod_bounds (a := a) (M := N) (by omega)).2
  rw [← tm_em a N, Int.emod_eq_of_lt h h1]
theorem tm_neg {a : Int} {N : Nat} (h0 : 0 < N) (h : ¬ 0 ≤ a.tmod N) : a.tmod N + N = a % (N : Int) := by
  have h1 := (tmod_bounds (a := a) (M := N) (by omega)).1
  rw [← tm_em a N, ← Int.add_emod_right (a.tmod N) N, Int.emod_eq_of_lt (by omega) (by omega)]
theorem i32_of {r : Int32} {k : Nat} (hk : k < 2 ^ 31) (h : r.toInt = (k : Int)) : r = nI k := Int32.toInt_inj.mp (h.trans (nI_toInt hk).symm)
set_option maxHeartbeats 4000000 in
set_option maxRecDepth 100000 in
theorem cM_floorMod (l : Launch) (x : Int32) (N : Nat) (h0 : 0 < N) (hN : N ≤ 64) : Met l yJ_floorMod (Cond.code yJ_floorMod bJ_floorMod 3 (some .int) :: nzG) ({ frames := 0, cells := 0, slots := 0, locals := 0 }) (va_Pc [.int x, .int (nI N)] (fun _ => True)) (vp_Si (fun r => r = nI ((x.toInt % (N : Int)).toNat))) 0 0 (fun _ => False) := by
  refine nz_ofF (own := "java/lang/Math") (by decide +kernel) rfl ?_
  intro p e s m args below meth c S hr hlocks _ hv9
  obtain ⟨rfl, -⟩ := hv9
  have hx := S.1
  have hb := S.2.1
  have hNi : (nI N).toInt = (N : Int) := nI_toInt (by omega)
  have hr1 : (x - x / nI N * nI N).toInt = x.toInt.tmod N := by rw [rem_toInt, hNi]
  have hbd := tmod_bounds (a := x.toInt) (M := N) (by omega)
  have hem := Int.emod_nonneg x.toInt (show (N : Int) ≠ 0 by omega)
  have hel := Int.emod_lt_of_pos x.toInt (show (0 : Int) < N by omega)
  have hz : (0 : Int32).toInt = 0 := rfl
  refine nz_entry (vs := [.int x, .int (nI N)]) (n := 3) (lv := [(0, .int x), (1, .int (nI N))]) (Nat.le_of_ble_eq_true rfl) rfl (fun ls hl => ?_)
  refine lv_iload_n hx hb dJ_0 rfl (lv_at hl 0 rfl) ?_
  refine lv_iload_n hx hb dJ_1 rfl (lv_at hl 1 rfl) ?_
  refine lv_irem hx hb dJ_2 (nI_ne0 h0 (by omega)) ?_
  generalize x - x / nI N * nI N = r at hr1 ⊢
  refine lv_istore_n (lv' := [(2, .int r), (0, .int x), (1, .int (nI N))]) hx hb dJ_3 rfl hl (by decide) rfl (fun ls hl => ?_)
  refine lv_iload_n hx hb dJ_4 rfl (lv_at hl 1 rfl) ?_
  refine lv_iload_n hx hb dJ_5 rfl (lv_at hl 2 rfl) ?_
  refine lv_ixor hx hb dJ_6 ?_
  refine lv_if_ge (tgt := 18) hx hb dJ_7 (by decide) (fun c1 => ?_) (fun c1 => ?_)
  · have hp : 0 ≤ x := (xr32 (nI_pos' (by omega))).mp c1
    rw [Int32.le_iff_toInt_le, hz] at hp
    refine lv_iload_n hx hb dJ_18 rfl (lv_at hl 0 rfl) ?_
    refine W.iret (v := r) hx hb hr (fun t ht hW => ⟨_, rfl, ?_, ht⟩) (fun q h => nomatch h) dJ_19
    exact i32_of (by omega) (by rw [hr1, tm_pos h0 (Int.tmod_nonneg _ hp)]; omega)
  · refine lv_iload_n hx hb dJ_10 rfl (lv_at hl 0 rfl) ?_
    refine lv_if_eq (tgt := 18) hx hb dJ_11 (by decide) (fun c2 => ?_) (fun c2 => ?_)
    · refine lv_iload_n hx hb dJ_18 rfl (lv_at hl 0 rfl) ?_
      refine W.iret (v := r) hx hb hr (fun t ht hW => ⟨_, rfl, ?_, ht⟩) (fun q h => nomatch h) dJ_19
      have h4 : x.toInt.tmod N = 0 := by rw [← hr1, c2]; rfl
      exact i32_of (by omega) (by rw [hr1, tm_pos h0 (by omega)]; omega)
    · have hn : ¬ 0 ≤ x := fun q => c1 ((xr32 (nI_pos' (by omega))).mpr q)
      rw [Int32.le_iff_toInt_le, hz] at hn
      have h5 : ¬ x.toInt.tmod N = 0 := fun q => c2 (Int32.toInt_inj.mp (by rw [hr1, q]; rfl))
      have h6 : x.toInt.tmod N ≤ 0 := by
        have h7 := Int.tmod_nonneg (a := -x.toInt) N (by omega)
        rw [Int.neg_tmod] at h7
        omega
      refine lv_iload_n hx hb dJ_14 rfl (lv_at hl 0 rfl) ?_
      refine lv_iload_n hx hb dJ_15 rfl (lv_at hl 2 rfl) ?_
      refine lv_iadd hx hb dJ_16 ?_
      refine W.iret (v := r + nI N) hx hb hr (fun t ht hW => ⟨_, rfl, ?_, ht⟩) (fun q h => nomatch h) dJ_17
      refine i32_of (by omega) ?_
      have h3 := tm_neg (a := x.toInt) h0 (by omega)
      rw [Int32.toInt_add, hr1, hNi, h3, Int.bmod_eq_of_le (by omega) (by omega)]
      omega
set_option maxHeartbeats 4000000 in
set_option maxRecDepth 100000 in
theorem cM_floorModL (l : Launch) (P Q : Int64) (hq : ¬ Q = 0) : Met l yJ_floorModL (Cond.code yJ_floorModL bJ_floorModL 6 (some .long) :: nzG) ({ frames := 0, cells := 0, slots := 0, locals := 0 }) (va_Pc [.long P, .long Q] (fun _ => True)) (vp_Sl (fun r => r = sFm P Q)) 0 0 (fun _ => False) := by
  refine nz_ofF (own := "java/lang/Math") (by decide +kernel) rfl ?_
  intro p e s m args below meth c S hr hlocks _ hv9
  obtain ⟨rfl, -⟩ := hv9
  have hx := S.1
  have hb := S.2.1
  have hlt : ∀ z : Int64, (0 ≤ lg_cmp z 0) ↔ ¬ z < 0 := fun z => (lg_cmp_ge z 0).trans Int64.not_lt.symm
  have heq : ∀ z : Int64, lg_cmp z 0 = 0 ↔ z = 0 := fun z => by
    obtain ⟨k, hk, rfl⟩ := wb_of z
    rw [lcmp_z hk]
    exact ⟨fun h => by rw [h]; rfl, fun h => Classical.byContradiction fun q => lN_n0 hk q h⟩
  refine nz_entry (vs := [.long P, .long Q]) (n := 6) (lv := [(0, .long P), (2, .long Q)]) (Nat.le_of_ble_eq_true rfl) rfl (fun ls hl => ?_)
  refine lv_lload_n hx hb dJL_0 rfl (lv_at hl 0 rfl) ?_
  refine lv_lload_n hx hb dJL_1 rfl (lv_at hl 1 rfl) ?_
  refine lv_lrem hx hb dJL_2 hq ?_
  refine lv_lstore (lv' := [(4, .long (P - P / Q * Q)), (0, .long P), (2, .long Q)]) hx hb dJL_3 hl (by decide) rfl (fun ls hl => ?_)
  refine lv_lload_n hx hb dJL_5 rfl (lv_at hl 1 rfl) ?_
  refine lv_lload_n hx hb dJL_6 rfl (lv_at hl 2 rfl) ?_
  refine lv_lxor hx hb dJL_7 ?_
  refine lv_lconst (v := 0) hx hb dJL_8 (by decide) ?_
  refine W.lcmp hx hb dJL_9 ?_
  refine lv_if_ge (tgt := 25) hx hb dJL_10 (by decide) (fun c1 => ?_) (fun c1 => ?_)
  · refine lv_lload hx hb dJL_25 (lv_at hl 0 rfl) ?_
    refine W.lret (v := P - P / Q * Q) hx hb hr (fun t ht hW => ⟨_, rfl, ?_, ht⟩) (fun q h => nomatch h) dJL_27
    unfold sFm
    rw [if_neg (fun q => (hlt _).mp c1 q.1)]
  · refine lv_lload hx hb dJL_13 (lv_at hl 0 rfl) ?_
    refine lv_lconst (v := 0) hx hb dJL_15 (by decide) ?_
    refine W.lcmp hx hb dJL_16 ?_
    refine lv_if_eq (tgt := 25) hx hb dJL_17 (by decide) (fun c2 => ?_) (fun c2 => ?_)
    · refine lv_lload hx hb dJL_25 (lv_at hl 0 rfl) ?_
      refine W.lret (v := P - P / Q * Q) hx hb hr (fun t ht hW => ⟨_, rfl, ?_, ht⟩) (fun q h => nomatch h) dJL_27
      unfold sFm
      rw [if_neg (fun q => q.2 ((heq _).mp c2))]
    · refine lv_lload hx hb dJL_20 (lv_at hl 0 rfl) ?_
      refine lv_lload_n hx hb dJL_22 rfl (lv_at hl 2 rfl) ?_
      refine lv_ladd hx hb dJL_23 ?_
      refine W.lret (v := P - P / Q * Q + Q) hx hb hr (fun t ht hW => ⟨_, rfl, ?_, ht⟩) (fun q h => nomatch h) dJL_24
      unfold sFm
      rw [if_pos ⟨Int64.not_le.mp (fun q => c1 ((lg_cmp_ge _ _).mpr q)), fun q => c2 ((heq _).mpr q)⟩]
end Fm
set_option maxHeartbeats 4000000 in
set_option maxRecDepth 100000 in
theorem lpN_join {p : Program} {e : Env} {s : State} {m : MethodId} {args : Array Value} {below : List Frame} {meth : Method} {c : Code} {Q : State → Prop} (l : Launch) (D : va_G) (cA cW : ClassId) (T : Nat → Nat) (hT : nvT T) (n1 : Nat → Nat) (g : Nat → Nat → Nat) (hg : ∀ j k, g j k < 9) (o : Nat) (ho : o < 7) (a : Nat) (ha : a < 16) (d : Nat) (hd : d < 16) (hna : n1 a ≤ 64) (S : CallFix p m c bN_joinElements 5 s args nzG RN) (hX : nmX s) (hK : va_K D vwCl (nvTy cA cW) s) (kk : ∀ (H : Heap) (locs : List Loc) (ls : Array Slot), va_P D vwCl (nvW cA cW T n1 (va_up g 16 (pov (fun k => zJoin o (g a k) (g d k)) (g 16) 0 (n1 a)))) H → va_S (nvA T) s.heap H locs → W p l e ({ frames := 6, cells := 1, slots := 6, locals := 90 }) s m args below meth c H locs 0 0 Q (F0 m 78 ls [])) : ∀ (fuel k : Nat), k ≤ n1 a → n1 a < k + fuel → ∀ (H : Heap) (locs : List Loc), va_P D vwCl (nvW cA cW T n1 (va_up g 16 (pov (fun k => zJoin o (g a k) (g d k)) (g 16) 0 k))) H → va_S (nvA T) s.heap H locs → ∀ (ls : Array Slot), lv_has ls 5 [(0, .ref (T 0)), (1, .int (nI o)), (2, .ref (T (2 + a))), (3, .ref (T (2 + d))), (4, .int (nI k))] → W p l e ({ frames := 6, cells := 1, slots := 6, locals := 90 }) s m args below meth c H locs 0 0 Q (F0 m 35 ls []) := by
  have hx := S.1
  have hb := S.2.1
  intro fuel
  induction fuel with
  | zero =>
    intro k hk hfu
    exact absurd hfu (by omega)
  | succ fuel ih =>
    intro k hk hfu H locs hP hS ls hl
    refine lv_iload hx hb dN_joinElements_35 (lv_at hl 4 rfl) ?_
    refine lv_aload_n hx hb dN_joinElements_37 rfl (lv_at hl 2 rfl) ?_
    refine nm_getS S hX hK hP (Nat.lt_succ_of_lt ha) dN_joinElements_38 ?_
    refine lv_icmp_ge (tgt := 78) hx hb dN_joinElements_41 (by decide) (fun c1 => ?_) (fun c1 => ?_)
    · have mc1 : (n1 a) ≤ k := (nI_leI (a := (n1 a)) (b := k) (by omega) (by omega)).mp c1
      have ek9 : k = n1 a := by omega
      rw [ek9] at hP
      exact kk H locs ls hP hS
    · have mc1 : k < (n1 a) := Nat.lt_of_not_le (fun h => c1 ((nI_leI (a := (n1 a)) (b := k) (by omega) (by omega)).mpr h))
      refine lv_aload_n hx hb dN_joinElements_44 rfl (lv_at hl 0 rfl) ?_
      refine nm_getA S hK hP dN_joinElements_45 ?_
      refine nm_getE S hX hK hP (by decide) dN_joinElements_48 ?_
      refine lv_iload hx hb dN_joinElements_51 (lv_at hl 4 rfl) ?_
      refine lv_iload_n hx hb dN_joinElements_53 rfl (lv_at hl 1 rfl) ?_
      refine lv_aload_n hx hb dN_joinElements_54 rfl (lv_at hl 2 rfl) ?_
      refine nm_getE S hX hK hP (Nat.lt_succ_of_lt ha) dN_joinElements_55 ?_
      refine lv_iload hx hb dN_joinElements_58 (lv_at hl 4 rfl) ?_
      refine nv_ald (k := k) hx hb hK hP (Nat.lt_succ_of_lt ha) (by omega) dN_joinElements_60 ?_
      refine nz_eqi (y := nI (g a k)) (by rw [va_up_ne _ _ (by omega)]) ?_
      refine lv_aload_n hx hb dN_joinElements_61 rfl (lv_at hl 3 rfl) ?_
      refine nm_getE S hX hK hP (Nat.lt_succ_of_lt hd) dN_joinElements_62 ?_
      refine lv_iload hx hb dN_joinElements_65 (lv_at hl 4 rfl) ?_
      refine nv_ald (k := k) hx hb hK hP (Nat.lt_succ_of_lt hd) (by omega) dN_joinElements_67 ?_
      refine nz_eqi (y := nI (g d k)) (by rw [va_up_ne _ _ (by omega)]) ?_
      refine nz_si (As := [.int (nI o), .int (nI (g a k)), .int (nI (g d k))]) (rest := [.int (nI k), .ref (T (19 + 16))]) S (c_Wire_join l o ho (g a k) (hg a k) (g d k) (hg d k)) kN_159 ⟨rfl, rfl, Nat.le_of_ble_eq_true rfl, Nat.le_of_ble_eq_true rfl⟩ ⟨Nat.zero_le _, Nat.zero_le _⟩ (fun _ _ _ _ h => h) (fun _ _ _ => trivial) rfl hl.1 rfl (Nat.le_of_ble_eq_true rfl) dN_joinElements_68 (fun r2 er2 => ?_)
      subst er2
      refine nv_ast (k := k) (v := (fun k => zJoin o (g a k) (g d k)) k) hx hb hT hK hP hS (by decide) (by omega) dN_joinElements_71 (fun H locs hP hS => ?_)
      rw [nv_step g 16 (fun k => zJoin o (g a k) (g d k)) (g 16) k] at hP
      refine lv_iinc (v := nI (k + 1)) (lv' := [(4, .int (nI (k + 1))), (0, .ref (T 0)), (1, .int (nI o)), (2, .ref (T (2 + a))), (3, .ref (T (2 + d)))]) hx hb dN_joinElements_72 hl (k := 4) rfl (nI_1 k) (by decide) rfl (fun ls hl => ?_)
      refine lv_goto (tgt := 35) hx hb dN_joinElements_75 (by decide) ?_
      exact ih (k + 1) (by omega) (by omega) _ _ hP hS ls (lv_sub hl [1, 2, 3, 4, 0] rfl)
set_option maxHeartbeats 4000000 in
set_option maxRecDepth 100000 in
theorem cN_joinElements (l : Launch) (hfl : l.flags = pinnedFlags ++ [noTraceFlag]) (D : va_G) (cA cW : ClassId) (T : Nat → Nat) (hT : nvT T) (n : Nat → Nat) (g : Nat → Nat → Nat) (ok : nvOk n g) (o : Nat) (ho : o < 7) (a : Nat) (ha : a < 16) (d : Nat) (hd : d < 16) : ny_Met l yN_joinElements (Cond.code yN_joinElements bN_joinElements 5 none :: nzG) ({ frames := 6, cells := 1, slots := 6, locals := 90 }) (va_Pc [.ref (T 0), .int (nI o), .ref (T (2 + a)), .ref (T (2 + d))] (nmP D cA cW (nvW cA cW T n g))) (nxQ (fun v st t => v = none ∧ n a = n d ∧ (fun H9 : Heap => ∃ n9 g9, nvU 17 n g 16 (n a) (fun k => zJoin o (g a k) (g d k)) n9 g9 ∧ va_P D vwCl (nvW cA cW T n9 g9) H9) t.heap ∧ va_F (nvA T) st t) (fun E => ¬ n a = n d ∧ E = eIA)) 0 0 1 6 (nvA T) := by
  refine nz_ofT (own := RN) (by decide) rfl ?_
  intro p e s m args below meth c S hr hlocks hno hv9
  obtain ⟨rfl, hP, hK, hX⟩ := hv9
  have hob0 := nv_ob0 hK hP
  have hS : va_S (nvA T) s.heap s.heap [] := va_S.rf
  have hx := S.1
  have hb := S.2.1
  refine nz_entry (vs := [.ref (T 0), .int (nI o), .ref (T (2 + a)), .ref (T (2 + d))]) (n := 5) (lv := [(0, .ref (T 0)), (1, .int (nI o)), (2, .ref (T (2 + a))), (3, .ref (T (2 + d)))]) (Nat.le_of_ble_eq_true rfl) rfl (fun ls hl => ?_)
  have hna0 := ok.1 a
  have hnd0 := ok.1 d
  refine lv_aload_n hx hb dN_joinElements_0 rfl (lv_at hl 2 rfl) ?_
  refine nm_getS S hX hK hP (Nat.lt_succ_of_lt ha) dN_joinElements_1 ?_
  refine lv_aload_n hx hb dN_joinElements_4 rfl (lv_at hl 3 rfl) ?_
  refine nm_getS S hX hK hP (Nat.lt_succ_of_lt hd) dN_joinElements_5 ?_
  refine lv_icmp_eq (tgt := 21) hx hb dN_joinElements_8 (by decide) (fun c1 => ?_) (fun c1 => ?_)
  · have mc1 : (n a) = (n d) := (nI_eq (a := (n a)) (b := (n d)) (by omega) (by omega)).mp c1
    refine lv_aload_n hx hb dN_joinElements_21 rfl (lv_at hl 0 rfl) ?_
    refine nm_getA S hK hP dN_joinElements_22 ?_
    refine lv_aload_n hx hb dN_joinElements_25 rfl (lv_at hl 2 rfl) ?_
    refine nm_getS S hX hK hP (Nat.lt_succ_of_lt ha) dN_joinElements_26 ?_
    refine nm_putS (N := n a) S hX hT hK hP hS (by decide) dN_joinElements_29 (fun H locs hP hS => ?_)
    generalize hn1 : va_up n 16 (n a) = n1 at hP
    have e16 : n1 16 = n a := by rw [← hn1, va_up_self]
    have ea1 : n1 a = n a := by rw [← hn1, va_up_ne _ _ (by omega)]
    have hna := ok.1 a
    refine lv_iconst (v := 0) hx hb dN_joinElements_32 (by decide) ?_
    refine lv_istore (lv' := [(4, .int 0), (0, .ref (T 0)), (1, .int (nI o)), (2, .ref (T (2 + a))), (3, .ref (T (2 + d)))]) hx hb dN_joinElements_33 hl (by decide) rfl (fun ls hl => ?_)
    rw [show g = va_up g 16 (pov (fun k => zJoin o (g a k) (g d k)) (g 16) 0 0) by rw [pov_0, va_up_eta]] at hP
    refine lpN_join l D cA cW T hT n1 g ok.2 o ho a ha d hd (by omega) S hX hK (fun H locs ls hP hS => ?_) (n1 a + 1) 0 (by omega) (by omega) _ _ hP hS ls (lv_sub hl [1, 2, 3, 4, 0] rfl)
    refine ny_ret ?_
    refine W.vret hx hb hr (fun t ht hW => ⟨rfl, mc1, ⟨n1, _, ?_, by rw [ht]; exact hP⟩, hS.F ht⟩) hS.2.2 dN_joinElements_78
    rw [← hn1, va_up_ne _ _ (by omega)]
    exact nvU_lay ok hna (fun k _ => zJoin_lt7 o ho _ (ok.2 a k) _ (ok.2 d k))
  · have mc1 : ¬ (n a) = (n d) := fun h => c1 ((nI_eq (a := (n a)) (b := (n d)) (by omega) (by omega)).mpr h)
    exact nm_throw (E := eIA) (tx := "the words have not the same length") (ik := 64) (is := 157) (ic := 68) S hfl hX (by decide) (by decide +kernel) kcl_64 kin_eIA (by decide) kat_eIA hl.1 ⟨(Nat.le_of_ble_eq_true rfl), (Nat.le_of_ble_eq_true rfl), (Nat.le_of_ble_eq_true rfl), (Nat.le_of_ble_eq_true rfl)⟩ (Nat.le_of_ble_eq_true rfl) hlocks hno dN_joinElements_11 dN_joinElements_14 dN_joinElements_15 dN_joinElements_17 dN_joinElements_20 (fun t q hW h => ⟨eIA, ⟨mc1, rfl⟩, h⟩)
set_option maxHeartbeats 4000000 in
set_option maxRecDepth 100000 in
theorem lpN_change {p : Program} {e : Env} {s : State} {m : MethodId} {args : Array Value} {below : List Frame} {meth : Method} {c : Code} {Q : State → Prop} (l : Launch) (D : va_G) (cA cW : ClassId) (T : Nat → Nat) (hT : nvT T) (n1 : Nat → Nat) (g : Nat → Nat → Nat) (hg : ∀ j k, g j k < 9) (o : Nat) (ho5 : o < 5) (a : Nat) (ha : a < 16) (hna : n1 a ≤ 64) (S : CallFix p m c bN_changeElements 5 s args nzG RN) (hX : nmX s) (hK : va_K D vwCl (nvTy cA cW) s) (kk : ∀ (H : Heap) (locs : List Loc) (ls : Array Slot), va_P D vwCl (nvW cA cW T n1 (va_up g 16 (pov (fun k => if o = 4 then zNot (g a k) else zStrip o (g a k)) (g 16) 0 (n1 a)))) H → va_S (nvA T) s.heap H locs → W p l e ({ frames := 3, cells := 0, slots := 0, locals := 61 }) s m args below meth c H locs 0 0 Q (F0 m 63 ls [])) : ∀ (fuel k : Nat), k ≤ n1 a → n1 a < k + fuel → ∀ (H : Heap) (locs : List Loc), va_P D vwCl (nvW cA cW T n1 (va_up g 16 (pov (fun k => if o = 4 then zNot (g a k) else zStrip o (g a k)) (g 16) 0 k))) H → va_S (nvA T) s.heap H locs → ∀ (ls : Array Slot), lv_has ls 5 [(0, .ref (T 0)), (1, .int (nI o)), (2, .ref (T (2 + a))), (3, .int (nI k))] → W p l e ({ frames := 3, cells := 0, slots := 0, locals := 61 }) s m args below meth c H locs 0 0 Q (F0 m 13 ls []) := by
  have hx := S.1
  have hb := S.2.1
  intro fuel
  induction fuel with
  | zero =>
    intro k hk hfu
    exact absurd hfu (by omega)
  | succ fuel ih =>
    intro k hk hfu H locs hP hS ls hl
    refine lv_iload_n hx hb dN_changeElements_13 rfl (lv_at hl 3 rfl) ?_
    refine lv_aload_n hx hb dN_changeElements_14 rfl (lv_at hl 2 rfl) ?_
    refine nm_getS S hX hK hP (Nat.lt_succ_of_lt ha) dN_changeElements_15 ?_
    refine lv_icmp_ge (tgt := 63) hx hb dN_changeElements_18 (by decide) (fun c1 => ?_) (fun c1 => ?_)
    · have mc1 : (n1 a) ≤ k := (nI_leI (a := (n1 a)) (b := k) (by omega) (by omega)).mp c1
      have ek9 : k = n1 a := by omega
      rw [ek9] at hP
      exact kk H locs ls hP hS
    · have mc1 : k < (n1 a) := Nat.lt_of_not_le (fun h => c1 ((nI_leI (a := (n1 a)) (b := k) (by omega) (by omega)).mpr h))
      refine lv_aload_n hx hb dN_changeElements_21 rfl (lv_at hl 2 rfl) ?_
      refine nm_getE S hX hK hP (Nat.lt_succ_of_lt ha) dN_changeElements_22 ?_
      refine lv_iload_n hx hb dN_changeElements_25 rfl (lv_at hl 3 rfl) ?_
      refine nv_ald (k := k) hx hb hK hP (Nat.lt_succ_of_lt ha) (by omega) dN_changeElements_26 ?_
      refine nz_eqi (y := nI (g a k)) (by rw [va_up_ne _ _ (by omega)]) ?_
      refine lv_istore (lv' := [(4, .int (nI (g a k))), (0, .ref (T 0)), (1, .int (nI o)), (2, .ref (T (2 + a))), (3, .int (nI k))]) hx hb dN_changeElements_27 hl (by decide) rfl (fun ls hl => ?_)
      refine lv_aload_n hx hb dN_changeElements_29 rfl (lv_at hl 1 rfl) ?_
      refine nm_getA S hK hP dN_changeElements_30 ?_
      refine nm_getE S hX hK hP (by decide) dN_changeElements_33 ?_
      refine lv_iload_n hx hb dN_changeElements_36 rfl (lv_at hl 4 rfl) ?_
      refine lv_iload_n hx hb dN_changeElements_37 rfl (lv_at hl 2 rfl) ?_
      refine lv_iconst (v := 4) hx hb dN_changeElements_38 (by decide) ?_
      refine lv_icmp_ne (tgt := 50) hx hb dN_changeElements_39 (by decide) (fun c2 => ?_) (fun c2 => ?_)
      · have mc2 : ¬ o = 4 := fun h => c2 ((nI_eq (a := o) (b := 4) (by omega) (by omega)).mpr h)
        refine lv_iload_n hx hb dN_changeElements_50 rfl (lv_at hl 2 rfl) ?_
        refine lv_iload hx hb dN_changeElements_51 (lv_at hl 0 rfl) ?_
        refine nz_si (As := [.int (nI o), .int (nI (g a k))]) (rest := [.int (nI k), .ref (T (19 + 16))]) S (c_Wire_strip l o (show o < 4 by omega) (g a k) (hg a k)) kN_197 ⟨rfl, rfl, Nat.le_of_ble_eq_true rfl, Nat.le_of_ble_eq_true rfl⟩ ⟨Nat.zero_le _, Nat.zero_le _⟩ (fun _ _ _ _ h => h) (fun _ _ _ => trivial) rfl hl.1 rfl (Nat.le_of_ble_eq_true rfl) dN_changeElements_53 (fun r3 er3 => ?_)
        subst er3
        refine nz_eqi (y := nI ((fun k => if o = 4 then zNot (g a k) else zStrip o (g a k)) k)) (by show _ = nI (if o = 4 then zNot (g a k) else zStrip o (g a k)); rw [if_neg mc2]) ?_
        refine nv_ast (k := k) (v := (fun k => if o = 4 then zNot (g a k) else zStrip o (g a k)) k) hx hb hT hK hP hS (by decide) (by omega) dN_changeElements_56 (fun H locs hP hS => ?_)
        rw [nv_step g 16 (fun k => if o = 4 then zNot (g a k) else zStrip o (g a k)) (g 16) k] at hP
        refine lv_iinc (v := nI (k + 1)) (lv' := [(3, .int (nI (k + 1))), (4, .int (nI (g a k))), (0, .ref (T 0)), (1, .int (nI o)), (2, .ref (T (2 + a)))]) hx hb dN_changeElements_57 hl (k := 4) rfl (nI_1 k) (by decide) rfl (fun ls hl => ?_)
        refine lv_goto (tgt := 13) hx hb dN_changeElements_60 (by decide) ?_
        exact ih (k + 1) (by omega) (by omega) _ _ hP hS ls (lv_sub hl [2, 3, 4, 0] rfl)
      · have mc2 : o = 4 := (nI_eq (a := o) (b := 4) (by omega) (by omega)).mp c2
        refine lv_iload hx hb dN_changeElements_42 (lv_at hl 0 rfl) ?_
        refine nz_si (As := [.int (nI (g a k))]) (rest := [.int (nI k), .ref (T (19 + 16))]) S (c_Wire_not l (g a k) (hg a k)) kN_193 ⟨rfl, rfl, Nat.le_of_ble_eq_true rfl, Nat.le_of_ble_eq_true rfl⟩ ⟨Nat.zero_le _, Nat.zero_le _⟩ (fun _ _ _ _ h => h) (fun _ _ _ => trivial) rfl hl.1 rfl (Nat.le_of_ble_eq_true rfl) dN_changeElements_44 (fun r4 er4 => ?_)
        subst er4
        refine nz_eqi (y := nI ((fun k => if o = 4 then zNot (g a k) else zStrip o (g a k)) k)) (by show _ = nI (if o = 4 then zNot (g a k) else zStrip o (g a k)); rw [if_pos mc2]) ?_
        refine lv_goto (tgt := 56) hx hb dN_changeElements_47 (by decide) ?_
        refine nv_ast (k := k) (v := (fun k => if o = 4 then zNot (g a k) else zStrip o (g a k)) k) hx hb hT hK hP hS (by decide) (by omega) dN_changeElements_56 (fun H locs hP hS => ?_)
        rw [nv_step g 16 (fun k => if o = 4 then zNot (g a k) else zStrip o (g a k)) (g 16) k] at hP
        refine lv_iinc (v := nI (k + 1)) (lv' := [(3, .int (nI (k + 1))), (4, .int (nI (g a k))), (0, .ref (T 0)), (1, .int (nI o)), (2, .ref (T (2 + a)))]) hx hb dN_changeElements_57 hl (k := 4) rfl (nI_1 k) (by decide) rfl (fun ls hl => ?_)
        refine lv_goto (tgt := 13) hx hb dN_changeElements_60 (by decide) ?_
        exact ih (k + 1) (by omega) (by omega) _ _ hP hS ls (lv_sub hl [2, 3, 4, 0] rfl)
set_option maxHeartbeats 4000000 in
set_option maxRecDepth 100000 in
theorem cN_changeElements (l : Launch) (D : va_G) (cA cW : ClassId) (T : Nat → Nat) (hT : nvT T) (n : Nat → Nat) (g : Nat → Nat → Nat) (ok : nvOk n g) (o : Nat) (ho5 : o < 5) (a : Nat) (ha : a < 16) : Met l yN_changeElements (Cond.code yN_changeElements bN_changeElements 5 none :: nzG) ({ frames := 3, cells := 0, slots := 0, locals := 61 }) (va_Pc [.ref (T 0), .int (nI o), .ref (T (2 + a))] (nmP D cA cW (nvW cA cW T n g))) (va_Qv (fun _ : Unit => True) (fun _ t => (fun H9 : Heap => ∃ n9 g9, nvU 17 n g 16 (n a) (fChange o (g a) (n a)) n9 g9 ∧ va_P D vwCl (nvW cA cW T n9 g9) H9) t.heap) (nvA T)) 0 0 (nvA T) := by
  refine nz_of (own := RN) (by decide) rfl ?_
  intro p e s m args below meth c S hr hlocks _ hv9
  obtain ⟨rfl, hP, hK, hX⟩ := hv9
  have hob0 := nv_ob0 hK hP
  have hS : va_S (nvA T) s.heap s.heap [] := va_S.rf
  have hx := S.1
  have hb := S.2.1
  refine nz_entry (vs := [.ref (T 0), .int (nI o), .ref (T (2 + a))]) (n := 5) (lv := [(0, .ref (T 0)), (1, .int (nI o)), (2, .ref (T (2 + a)))]) (Nat.le_of_ble_eq_true rfl) rfl (fun ls hl => ?_)
  refine lv_aload_n hx hb dN_changeElements_0 rfl (lv_at hl 0 rfl) ?_
  refine nm_getA S hK hP dN_changeElements_1 ?_
  refine lv_aload_n hx hb dN_changeElements_4 rfl (lv_at hl 2 rfl) ?_
  refine nm_getS S hX hK hP (Nat.lt_succ_of_lt ha) dN_changeElements_5 ?_
  refine nm_putS (N := n a) S hX hT hK hP hS (by decide) dN_changeElements_8 (fun H locs hP hS => ?_)
  generalize hn1 : va_up n 16 (n a) = n1 at hP
  have e16 : n1 16 = n a := by rw [← hn1, va_up_self]
  have ea1 : n1 a = n a := by rw [← hn1, va_up_ne _ _ (by omega)]
  have hna := ok.1 a
  refine lv_iconst (v := 0) hx hb dN_changeElements_11 (by decide) ?_
  refine lv_istore_n (lv' := [(3, .int 0), (0, .ref (T 0)), (1, .int (nI o)), (2, .ref (T (2 + a)))]) hx hb dN_changeElements_12 rfl hl (by decide) rfl (fun ls hl => ?_)
  rw [show g = va_up g 16 (pov (fun k => if o = 4 then zNot (g a k) else zStrip o (g a k)) (g 16) 0 0) by rw [pov_0, va_up_eta]] at hP
  refine lpN_change l D cA cW T hT n1 g ok.2 o ho5 a ha (by omega) S hX hK (fun H locs ls hP hS => ?_) (n1 a + 1) 0 (by omega) (by omega) _ _ hP hS ls (lv_sub hl [1, 2, 3, 0] rfl)
  refine W.vret hx hb hr (fun t ht hW => ⟨⟨(), rfl, trivial, n1, _, ?_, by rw [ht]; exact hP⟩, hS.F ht⟩) hS.2.2 dN_changeElements_63
  rw [← hn1, va_up_ne _ _ (by omega)]
  refine nvU_eq (nvU_lay ok hna (fun k _ => ?_)) rfl (fun k _ => ?_)
  · show (if o = 4 then zNot (g a k) else zStrip o (g a k)) < 9
    split
    · exact zNot_lt _ (ok.2 a k)
    · exact zStrip_lt o (by omega) _ (ok.2 a k)
  · show (if o = 4 then zNot (g a k) else zStrip o (g a k)) = fChange o (g a) (n a) k
    unfold fChange
    by_cases h4 : o = 4
    · rw [if_pos h4, if_pos h4]
    · rw [if_neg h4, if_neg h4, if_pos (by omega)]
set_option maxHeartbeats 4000000 in
set_option maxRecDepth 100000 in
theorem cN_changeNumber (l : Launch) (D : va_G) (cA cW : ClassId) (T : Nat → Nat) (hT : nvT T) (n : Nat → Nat) (g : Nat → Nat → Nat) (ok : nvOk n g) (o : Nat) (ho5 : o = 5 ∨ o = 6) (a : Nat) (ha : a < 16) : Met l yN_changeNumber (Cond.code yN_changeNumber bN_changeNumber 5 none :: nzG) ({ frames := 3, cells := 0, slots := 0, locals := 61 }) (va_Pc [.ref (T 0), .int (nI o), .ref (T (2 + a))] (nmP D cA cW (nvW cA cW T n g))) (va_Qv (fun _ : Unit => True) (fun _ t => (fun H9 : Heap => ∃ n9 g9, nvU 17 n g 16 (n a) (fChange o (g a) (n a)) n9 g9 ∧ va_P D vwCl (nvW cA cW T n9 g9) H9) t.heap) (nvA T)) 0 0 (nvA T) := by
  refine nz_of (own := RN) (by decide) rfl ?_
  intro p e s m args below meth c S hr hlocks _ hv9
  obtain ⟨rfl, hP, hK, hX⟩ := hv9
  have hob0 := nv_ob0 hK hP
  have hS : va_S (nvA T) s.heap s.heap [] := va_S.rf
  have hx := S.1
  have hb := S.2.1
  refine nz_entry (vs := [.ref (T 0), .int (nI o), .ref (T (2 + a))]) (n := 5) (lv := [(0, .ref (T 0)), (1, .int (nI o)), (2, .ref (T (2 + a)))]) (Nat.le_of_ble_eq_true rfl) rfl (fun ls hl => ?_)
  have hna := ok.1 a
  have hP64 := zLong_lt 1 (g a) (ok.1 a)
  refine lv_aload_n hx hb dN_changeNumber_0 rfl (lv_at hl 2 rfl) ?_
  refine nz_vi (As := []) (rest := []) S (c_Word_isClear l D cA cW T hT n g a (Nat.lt_succ_of_lt ha) ok.2 (ok.1 a)) kN_49 ⟨rfl, rfl, Nat.le_of_ble_eq_true rfl, Nat.le_of_ble_eq_true rfl⟩ ⟨Nat.zero_le _, Nat.zero_le _⟩ nvP.bl (nv_ob hK hP (Nat.lt_succ_of_lt ha)) (nvP.to hP hK) rfl hl.1 rfl (Nat.le_of_ble_eq_true rfl) dN_changeNumber_1 (fun r1 er1 => ?_)
  subst er1
  refine lv_if_ne (tgt := 20) hx hb dN_changeNumber_4 (by decide) (fun c2 => ?_) (fun c2 => ?_)
  · refine lv_aload_n hx hb dN_changeNumber_20 rfl (lv_at hl 2 rfl) ?_
    refine lv_iconst (v := 1) hx hb dN_changeNumber_21 (by decide) ?_
    refine nz_vl (As := [.int 1]) (rest := []) S (c_Word_asLong l D cA cW T hT n g a (Nat.lt_succ_of_lt ha) ok.2 (ok.1 a) 1 (by decide)) kN_60 ⟨rfl, rfl, Nat.le_of_ble_eq_true rfl, Nat.le_of_ble_eq_true rfl⟩ ⟨Nat.zero_le _, Nat.zero_le _⟩ nvP.bl (nv_ob hK hP (Nat.lt_succ_of_lt ha)) (nvP.to hP hK) rfl hl.1 rfl (Nat.le_of_ble_eq_true rfl) dN_changeNumber_22 (fun r3 er3 => ?_)
    subst er3
    refine lv_lstore_n (lv' := [(3, .long (lN (zLong 1 (g a) (n a)))), (0, .ref (T 0)), (1, .int (nI o)), (2, .ref (T (2 + a)))]) hx hb dN_changeNumber_25 rfl hl (by decide) rfl (fun ls hl => ?_)
    refine lv_aload_n hx hb dN_changeNumber_26 rfl (lv_at hl 1 rfl) ?_
    refine nm_getA S hK hP dN_changeNumber_27 ?_
    refine lv_aload_n hx hb dN_changeNumber_30 rfl (lv_at hl 3 rfl) ?_
    refine nm_getS S hX hK hP (Nat.lt_succ_of_lt ha) dN_changeNumber_31 ?_
    refine lv_iload_n hx hb dN_changeNumber_34 rfl (lv_at hl 2 rfl) ?_
    refine lv_iconst (v := 5) hx hb dN_changeNumber_35 (by decide) ?_
    refine lv_icmp_eq (tgt := 45) hx hb dN_changeNumber_36 (by decide) (fun c4 => ?_) (fun c4 => ?_)
    · have mc4 : o = 5 := (nI_eq (a := o) (b := 5) (by omega) (by omega)).mp c4
      refine lv_lload_n hx hb dN_changeNumber_45 rfl (lv_at hl 0 rfl) ?_
      refine lv_lneg hx hb dN_changeNumber_46 ?_
      refine nz_eql (lN_neg hP64) ?_
      refine lv_goto (tgt := 51) hx hb dN_changeNumber_47 (by decide) ?_
      refine nv_call (As := [.int (nI (n a)), .long (lN (zNeg (zLong 1 (g a) (n a))))]) (rest := []) S (c_Word_hold l D cA cW T hT n g 16 (by decide) (n a) hna (zNeg (zLong 1 (g a) (n a))) (zNeg_lt _)) kN_45 ⟨rfl, rfl, Nat.le_of_ble_eq_true rfl, Nat.le_of_ble_eq_true rfl⟩ ⟨Nat.zero_le _, Nat.zero_le _⟩ (nv_ob hK hP (by decide)) hP hK hS rfl hl.1 rfl (Nat.le_of_ble_eq_true rfl) dN_changeNumber_51 (fun H locs hP hS => ?_)
      exact W.vret hx hb hr (fun t ht hW => ⟨⟨(), rfl, trivial, _, _, nvU_eq (nvU_lay ok hna (fun k _ => zPut_lt _ k)) rfl (fun k _ => by unfold fChange zSize; rw [if_neg (by omega), if_neg (by omega), if_pos (zAll_y c2), if_pos (Or.inl mc4)]), by rw [ht]; exact hP⟩, hS.F ht⟩) hS.2.2 dN_changeNumber_54
    · have mc4 : ¬ o = 5 := fun h => c4 ((nI_eq (a := o) (b := 5) (by omega) (by omega)).mpr h)
      refine lv_lload_n hx hb dN_changeNumber_39 rfl (lv_at hl 0 rfl) ?_
      refine lv_lconst (v := 0) hx hb dN_changeNumber_40 (by decide) ?_
      refine W.lcmp hx hb dN_changeNumber_41 ?_
      refine lv_if_ge (tgt := 50) hx hb dN_changeNumber_42 (by decide) (fun c5 => ?_) (fun c5 => ?_)
      · refine lv_lload_n hx hb dN_changeNumber_50 rfl (lv_at hl 0 rfl) ?_
        refine nv_call (As := [.int (nI (n a)), .long (lN (zLong 1 (g a) (n a)))]) (rest := []) S (c_Word_hold l D cA cW T hT n g 16 (by decide) (n a) hna (zLong 1 (g a) (n a)) hP64) kN_45 ⟨rfl, rfl, Nat.le_of_ble_eq_true rfl, Nat.le_of_ble_eq_true rfl⟩ ⟨Nat.zero_le _, Nat.zero_le _⟩ (nv_ob hK hP (by decide)) hP hK hS rfl hl.1 rfl (Nat.le_of_ble_eq_true rfl) dN_changeNumber_51 (fun H locs hP hS => ?_)
        exact W.vret hx hb hr (fun t ht hW => ⟨⟨(), rfl, trivial, _, _, nvU_eq (nvU_lay ok hna (fun k _ => zPut_lt _ k)) rfl (fun k _ => by unfold fChange zSize; rw [if_neg (by omega), if_neg (by omega), if_pos (zAll_y c2), if_neg (fun q => q.elim mc4 (fun q => absurd ((lN_lt0 hP64).mp c5) (by omega)))]), by rw [ht]; exact hP⟩, hS.F ht⟩) hS.2.2 dN_changeNumber_54
      · refine lv_lload_n hx hb dN_changeNumber_45 rfl (lv_at hl 0 rfl) ?_
        refine lv_lneg hx hb dN_changeNumber_46 ?_
        refine nz_eql (lN_neg hP64) ?_
        refine lv_goto (tgt := 51) hx hb dN_changeNumber_47 (by decide) ?_
        refine nv_call (As := [.int (nI (n a)), .long (lN (zNeg (zLong 1 (g a) (n a))))]) (rest := []) S (c_Word_hold l D cA cW T hT n g 16 (by decide) (n a) hna (zNeg (zLong 1 (g a) (n a))) (zNeg_lt _)) kN_45 ⟨rfl, rfl, Nat.le_of_ble_eq_true rfl, Nat.le_of_ble_eq_true rfl⟩ ⟨Nat.zero_le _, Nat.zero_le _⟩ (nv_ob hK hP (by decide)) hP hK hS rfl hl.1 rfl (Nat.le_of_ble_eq_true rfl) dN_changeNumber_51 (fun H locs hP hS => ?_)
        exact W.vret hx hb hr (fun t ht hW => ⟨⟨(), rfl, trivial, _, _, nvU_eq (nvU_lay ok hna (fun k _ => zPut_lt _ k)) rfl (fun k _ => by unfold fChange zSize; rw [if_neg (by omega), if_neg (by omega), if_pos (zAll_y c2), if_pos (Or.inr (Nat.le_of_not_lt (fun q => c5 ((lN_lt0 hP64).mpr q))))]), by rw [ht]; exact hP⟩, hS.F ht⟩) hS.2.2 dN_changeNumber_54
  · refine lv_aload_n hx hb dN_changeNumber_7 rfl (lv_at hl 0 rfl) ?_
    refine nm_getA S hK hP dN_changeNumber_8 ?_
    refine lv_aload_n hx hb dN_changeNumber_11 rfl (lv_at hl 2 rfl) ?_
    refine nm_getS S hX hK hP (Nat.lt_succ_of_lt ha) dN_changeNumber_12 ?_
    refine lv_iconst (v := 1) hx hb dN_changeNumber_15 (by decide) ?_
    refine nv_call (As := [.int (nI (n a)), .int 1]) (rest := []) S (c_Word_become l D cA cW T hT n g 16 (by decide) (n a) hna 1) kN_30 ⟨rfl, rfl, Nat.le_of_ble_eq_true rfl, Nat.le_of_ble_eq_true rfl⟩ ⟨Nat.zero_le _, Nat.zero_le _⟩ (nv_ob hK hP (by decide)) hP hK hS rfl hl.1 rfl (Nat.le_of_ble_eq_true rfl) dN_changeNumber_16 (fun H locs hP hS => ?_)
    exact W.vret hx hb hr (fun t ht hW => ⟨⟨(), rfl, trivial, _, _, nvU_eq (nvU_lay (F := fun _ => 1) ok hna (fun _ _ => (by decide : (1 : Nat) < 9))) rfl (fun k _ => by unfold fChange; rw [if_neg (by omega), if_neg (by omega), if_neg (zAll_n c2)]), by rw [ht]; exact hP⟩, hS.F ht⟩) hS.2.2 dN_changeNumber_19
set_option maxHeartbeats 4000000 in
set_option maxRecDepth 100000 in
theorem cN_setBehind (l : Launch) (hfl : l.flags = pinnedFlags ++ [noTraceFlag]) (D : va_G) (cA cW : ClassId) (T : Nat → Nat) (hT : nvT T) (n : Nat → Nat) (g : Nat → Nat → Nat) (ok : nvOk n g) (a : Nat) (ha : a < 16) (d : Nat) (hd : d < 16) : ny_Met l yN_setBehind (Cond.code yN_setBehind bN_setBehind 3 none :: nzG) ({ frames := 7, cells := 1, slots := 6, locals := 110 }) (va_Pc [.ref (T 0), .ref (T (2 + a)), .ref (T (2 + d))] (nmP D cA cW (nvW cA cW T n g))) (nxQ (fun v st t => v = none ∧ n a + n d ≤ 64 ∧ (fun H9 : Heap => ∃ n9 g9, nvU 17 n g 16 (n a + n d) (fun k => if k < n d then g d k else g a (k - n d)) n9 g9 ∧ va_P D vwCl (nvW cA cW T n9 g9) H9) t.heap ∧ va_F (nvA T) st t) (fun E => ¬ n a + n d ≤ 64 ∧ E = eIA)) 0 0 1 6 (nvA T) := by
  refine nz_ofT (own := RN) (by decide) rfl ?_
  intro p e s m args below meth c S hr hlocks hno hv9
  obtain ⟨rfl, hP, hK, hX⟩ := hv9
  have hob0 := nv_ob0 hK hP
  have hS : va_S (nvA T) s.heap s.heap [] := va_S.rf
  have hx := S.1
  have hb := S.2.1
  refine nz_entry (vs := [.ref (T 0), .ref (T (2 + a)), .ref (T (2 + d))]) (n := 3) (lv := [(0, .ref (T 0)), (1, .ref (T (2 + a))), (2, .ref (T (2 + d)))]) (Nat.le_of_ble_eq_true rfl) rfl (fun ls hl => ?_)
  have hna := ok.1 a
  have hnd := ok.1 d
  refine lv_aload_n hx hb dN_setBehind_0 rfl (lv_at hl 1 rfl) ?_
  refine nm_getS S hX hK hP (Nat.lt_succ_of_lt ha) dN_setBehind_1 ?_
  refine lv_aload_n hx hb dN_setBehind_4 rfl (lv_at hl 2 rfl) ?_
  refine nm_getS S hX hK hP (Nat.lt_succ_of_lt hd) dN_setBehind_5 ?_
  refine lv_iadd hx hb dN_setBehind_8 ?_
  refine nz_eqi (nI_add (n a) (n d)) ?_
  refine nx_sv (As := [.int (nI (n a + n d))]) (rest := []) (post := ¬ lenB (nI (n a + n d))) (exc := fun E => lenB (nI (n a + n d)) ∧ E = eIA) S (cN_requireLength l hfl (nI (n a + n d))) kN_24 ⟨rfl, rfl, Nat.le_of_ble_eq_true rfl, Nat.le_of_ble_eq_true rfl⟩ ⟨Nat.le_of_ble_eq_true rfl, Nat.le_of_ble_eq_true rfl⟩ nmX.bl (hX.at rfl) rfl hl.1 rfl (Nat.le_of_ble_eq_true rfl) dN_setBehind_9 hno hlocks (fun E h => ⟨((by rcases h.1 with q | q; exact absurd q (nI_pos (by omega)); have := (nI_ltI (a := 64) (by decide) (by omega)).mp q; omega) : ¬ n a + n d ≤ 64), h.2⟩) (fun q1 => ?_)
  have hle : n a + n d ≤ 64 := Nat.le_of_not_lt (fun q => q1 (Or.inr ((nI_ltI (a := 64) (by decide) (by omega)).mpr q)))
  refine lv_aload_n hx hb dN_setBehind_12 rfl (lv_at hl 0 rfl) ?_
  refine nm_getA S hK hP dN_setBehind_13 ?_
  refine lv_aload_n hx hb dN_setBehind_16 rfl (lv_at hl 1 rfl) ?_
  refine nm_getS S hX hK hP (Nat.lt_succ_of_lt ha) dN_setBehind_17 ?_
  refine lv_aload_n hx hb dN_setBehind_20 rfl (lv_at hl 2 rfl) ?_
  refine nm_getS S hX hK hP (Nat.lt_succ_of_lt hd) dN_setBehind_21 ?_
  refine lv_iadd hx hb dN_setBehind_24 ?_
  refine nz_eqi (nI_add (n a) (n d)) ?_
  refine nm_putS (N := n a + n d) S hX hT hK hP hS (by decide) dN_setBehind_25 (fun H locs hP hS => ?_)
  obtain ⟨n1, g1, u1, hP⟩ : ∃ n9 g9, nvU 17 n g 16 (n a + n d) (g 16) n9 g9 ∧ va_P D vwCl (nvW cA cW T n9 g9) H := ⟨_, _, nvU_size ok hle, hP⟩
  refine lv_aload_n hx hb dN_setBehind_28 rfl (lv_at hl 0 rfl) ?_
  refine nm_getA S hK hP dN_setBehind_29 ?_
  refine lv_aload_n hx hb dN_setBehind_32 rfl (lv_at hl 2 rfl) ?_
  refine lv_iconst (v := 0) hx hb dN_setBehind_33 (by decide) ?_
  refine lv_aload_n hx hb dN_setBehind_34 rfl (lv_at hl 2 rfl) ?_
  refine nm_getS S hX hK hP (Nat.lt_succ_of_lt hd) dN_setBehind_35 ?_
  refine nz_eqi (y := nI (n d)) (by rw [(u1.2.2.1 d (by omega) (by omega)).1]) ?_
  refine lv_iconst (v := 0) hx hb dN_setBehind_38 (by decide) ?_
  refine nv_call (As := [.ref (T (2 + d)), .int (nI 0), .int (nI (n d)), .int (nI 0)]) (rest := []) S (c_Word_lay l D cA cW T hT n1 g1 16 (by decide) d (Nat.lt_succ_of_lt hd) (by omega) 0 (n d) 0 (by omega) (by omega)) kN_115 ⟨rfl, rfl, Nat.le_of_ble_eq_true rfl, Nat.le_of_ble_eq_true rfl⟩ ⟨Nat.zero_le _, Nat.zero_le _⟩ (nv_ob hK hP (by decide)) hP hK hS rfl hl.1 rfl (Nat.le_of_ble_eq_true rfl) dN_setBehind_39 (fun H locs hP hS => ?_)
  obtain ⟨g2, u2, hP⟩ : ∃ g9, nvU 17 n g 16 (n a + n d) (fun x => if 0 ≤ x ∧ x < 0 + n d then g d (0 + (x - 0)) else g 16 x) n1 g9 ∧ va_P D vwCl (nvW cA cW T n1 g9) H := ⟨_, nvU_on u1 (by omega) (by omega), hP⟩
  refine lv_aload_n hx hb dN_setBehind_42 rfl (lv_at hl 0 rfl) ?_
  refine nm_getA S hK hP dN_setBehind_43 ?_
  refine lv_aload_n hx hb dN_setBehind_46 rfl (lv_at hl 1 rfl) ?_
  refine lv_iconst (v := 0) hx hb dN_setBehind_47 (by decide) ?_
  refine lv_aload_n hx hb dN_setBehind_48 rfl (lv_at hl 1 rfl) ?_
  refine nm_getS S hX hK hP (Nat.lt_succ_of_lt ha) dN_setBehind_49 ?_
  refine nz_eqi (y := nI (n a)) (by rw [(u2.2.2.1 a (by omega) (by omega)).1]) ?_
  refine lv_aload_n hx hb dN_setBehind_52 rfl (lv_at hl 2 rfl) ?_
  refine nm_getS S hX hK hP (Nat.lt_succ_of_lt hd) dN_setBehind_53 ?_
  refine nz_eqi (y := nI (n d)) (by rw [(u2.2.2.1 d (by omega) (by omega)).1]) ?_
  refine nv_call (As := [.ref (T (2 + a)), .int (nI 0), .int (nI (n a)), .int (nI (n d))]) (rest := []) S (c_Word_lay l D cA cW T hT n1 g2 16 (by decide) a (Nat.lt_succ_of_lt ha) (by omega) 0 (n a) (n d) (by omega) (by omega)) kN_115 ⟨rfl, rfl, Nat.le_of_ble_eq_true rfl, Nat.le_of_ble_eq_true rfl⟩ ⟨Nat.zero_le _, Nat.zero_le _⟩ (nv_ob hK hP (by decide)) hP hK hS rfl hl.1 rfl (Nat.le_of_ble_eq_true rfl) dN_setBehind_56 (fun H locs hP hS => ?_)
  refine ny_ret ?_
  refine W.vret hx hb hr (fun t ht hW => ⟨rfl, hle, ⟨n1, _, ?_, by rw [ht]; exact hP⟩, hS.F ht⟩) hS.2.2 dN_setBehind_59
  refine nvU_eq (nvU_on u2 (by omega) (by omega)) rfl (fun k hk => ?_)
  show (if n d ≤ k ∧ k < n d + n a then g a (0 + (k - n d)) else if 0 ≤ k ∧ k < 0 + n d then g d (0 + (k - 0)) else g 16 k) = if k < n d then g d k else g a (k - n d)
  by_cases hc : k < n d
  · rw [if_neg (by omega), if_pos (by omega), if_pos hc, Nat.zero_add, Nat.sub_zero]
  · rw [if_pos (by omega), if_neg hc, Nat.zero_add]
set_option maxHeartbeats 4000000 in
set_option maxRecDepth 100000 in
theorem lpN_move {p : Program} {e : Env} {s : State} {m : MethodId} {args : Array Value} {below : List Frame} {meth : Method} {c : Code} {Q : State → Prop} (l : Launch) (D : va_G) (cA cW : ClassId) (T : Nat → Nat) (hT : nvT T) (n1 : Nat → Nat) (g : Nat → Nat → Nat) (hg : ∀ j k, g j k < 9) (x1 : Int32) (dl : Int) (hd1 : x1.toInt = dl) (hd2 : -1000 ≤ dl ∧ dl ≤ 1000) (v : Nat) (a : Nat) (ha : a < 16) (hna : n1 a ≤ 64) (S : CallFix p m c bN_move 6 s args nzG RN) (hX : nmX s) (hK : va_K D vwCl (nvTy cA cW) s) (kk : ∀ (H : Heap) (locs : List Loc) (ls : Array Slot), va_P D vwCl (nvW cA cW T n1 (va_up g 16 (pov (fMove dl v (g a) (n1 a)) (pov (fun _ => v) (g 16) 0 (n1 a)) 0 (n1 a)))) H → va_S (nvA T) s.heap H locs → W p l e ({ frames := 1, cells := 0, slots := 0, locals := 23 }) s m args below meth c H locs 0 0 Q (F0 m 67 ls [])) : ∀ (fuel k : Nat), k ≤ n1 a → n1 a < k + fuel → ∀ (H : Heap) (locs : List Loc), va_P D vwCl (nvW cA cW T n1 (va_up g 16 (pov (fMove dl v (g a) (n1 a)) (pov (fun _ => v) (g 16) 0 (n1 a)) 0 k))) H → va_S (nvA T) s.heap H locs → ∀ (ls : Array Slot), lv_has ls 6 [(0, .ref (T 0)), (1, .int x1), (3, .ref (T (2 + a))), (4, .int (nI k))] → W p l e ({ frames := 1, cells := 0, slots := 0, locals := 23 }) s m args below meth c H locs 0 0 Q (F0 m 15 ls []) := by
  have hx := S.1
  have hb := S.2.1
  intro fuel
  induction fuel with
  | zero =>
    intro k hk hfu
    exact absurd hfu (by omega)
  | succ fuel ih =>
    intro k hk hfu H locs hP hS ls hl
    refine lv_iload hx hb dN_move_15 (lv_at hl 3 rfl) ?_
    refine lv_aload_n hx hb dN_move_17 rfl (lv_at hl 2 rfl) ?_
    refine nm_getS S hX hK hP (Nat.lt_succ_of_lt ha) dN_move_18 ?_
    refine lv_icmp_ge (tgt := 67) hx hb dN_move_21 (by decide) (fun c1 => ?_) (fun c1 => ?_)
    · have mc1 : (n1 a) ≤ k := (nI_leI (a := (n1 a)) (b := k) (by omega) (by omega)).mp c1
      have ek9 : k = n1 a := by omega
      rw [ek9] at hP
      exact kk H locs ls hP hS
    · have mc1 : k < (n1 a) := Nat.lt_of_not_le (fun h => c1 ((nI_leI (a := (n1 a)) (b := k) (by omega) (by omega)).mpr h))
      refine lv_iload hx hb dN_move_24 (lv_at hl 3 rfl) ?_
      refine lv_iload_n hx hb dN_move_26 rfl (lv_at hl 1 rfl) ?_
      refine lv_isub hx hb dN_move_27 ?_
      have hsb : (nI k - x1).toInt = (k : Int) - dl := by rw [isub_toInt (by rw [nI_toInt (by omega), hd1]; omega) (by rw [nI_toInt (by omega), hd1]; omega), nI_toInt (by omega), hd1]
      refine lv_istore (lv' := [(5, .int (nI k - x1)), (0, .ref (T 0)), (1, .int x1), (3, .ref (T (2 + a))), (4, .int (nI k))]) hx hb dN_move_28 hl (by decide) rfl (fun ls hl => ?_)
      refine lv_iload hx hb dN_move_30 (lv_at hl 0 rfl) ?_
      refine lv_if_lt (tgt := 61) hx hb dN_move_32 (by decide) (fun c2 => ?_) (fun c2 => ?_)
      · refine lv_iinc (v := nI (k + 1)) (lv' := [(4, .int (nI (k + 1))), (5, .int (nI k - x1)), (0, .ref (T 0)), (1, .int x1), (3, .ref (T (2 + a)))]) hx hb dN_move_61 hl (k := 4) rfl (nI_1 k) (by decide) rfl (fun ls hl => ?_)
        refine lv_goto (tgt := 15) hx hb dN_move_64 (by decide) ?_
        rw [pov_k (F := fMove dl v (g a) (n1 a)) (h := pov (fun _ => v) (g 16) 0 (n1 a)) (k := k) (by rw [pov_in (Nat.zero_le _) (by omega)]; unfold fMove; rw [if_neg (by rw [Int32.lt_iff_toInt_lt, hsb] at c2; have h0 : (0 : Int32).toInt = 0 := rfl; rw [h0] at c2; omega)])] at hP
        exact ih (k + 1) (by omega) (by omega) _ _ hP hS ls (lv_sub hl [2, 3, 4, 0] rfl)
      · refine lv_iload hx hb dN_move_35 (lv_at hl 0 rfl) ?_
        refine lv_aload_n hx hb dN_move_37 rfl (lv_at hl 3 rfl) ?_
        refine nm_getS S hX hK hP (Nat.lt_succ_of_lt ha) dN_move_38 ?_
        refine lv_icmp_ge (tgt := 61) hx hb dN_move_41 (by decide) (fun c3 => ?_) (fun c3 => ?_)
        · refine lv_iinc (v := nI (k + 1)) (lv' := [(4, .int (nI (k + 1))), (5, .int (nI k - x1)), (0, .ref (T 0)), (1, .int x1), (3, .ref (T (2 + a)))]) hx hb dN_move_61 hl (k := 4) rfl (nI_1 k) (by decide) rfl (fun ls hl => ?_)
          refine lv_goto (tgt := 15) hx hb dN_move_64 (by decide) ?_
          rw [pov_k (F := fMove dl v (g a) (n1 a)) (h := pov (fun _ => v) (g 16) 0 (n1 a)) (k := k) (by rw [pov_in (Nat.zero_le _) (by omega)]; unfold fMove; rw [if_neg (by rw [Int32.le_iff_toInt_le, hsb, nI_toInt (by omega)] at c3; omega)])] at hP
          exact ih (k + 1) (by omega) (by omega) _ _ hP hS ls (lv_sub hl [2, 3, 4, 0] rfl)
        · refine lv_aload_n hx hb dN_move_44 rfl (lv_at hl 1 rfl) ?_
          refine nm_getA S hK hP dN_move_45 ?_
          refine nm_getE S hX hK hP (by decide) dN_move_48 ?_
          refine lv_iload hx hb dN_move_51 (lv_at hl 4 rfl) ?_
          refine lv_aload_n hx hb dN_move_53 rfl (lv_at hl 3 rfl) ?_
          refine nm_getE S hX hK hP (Nat.lt_succ_of_lt ha) dN_move_54 ?_
          refine lv_iload hx hb dN_move_57 (lv_at hl 0 rfl) ?_
          obtain ⟨j, hj, ej⟩ := in_not (N := n1 a) (x := nI k - x1) rfl (by omega) (fun h => h.elim c2 c3)
          have hjd : (j : Int) = (k : Int) - dl := by rw [← hsb, ej, nI_toInt (by omega)]
          rw [ej]
          refine nv_ald (k := j) hx hb hK hP (Nat.lt_succ_of_lt ha) (by omega) dN_move_59 ?_
          refine nz_eqi (y := nI ((fMove dl v (g a) (n1 a)) k)) (by rw [va_up_ne _ _ (by omega)]; unfold fMove; rw [if_pos (by omega), ← hjd, Int.toNat_natCast]) ?_
          refine nv_ast (k := k) (v := (fMove dl v (g a) (n1 a)) k) hx hb hT hK hP hS (by decide) (by omega) dN_move_60 (fun H locs hP hS => ?_)
          rw [nv_step g 16 (fMove dl v (g a) (n1 a)) (pov (fun _ => v) (g 16) 0 (n1 a)) k] at hP
          refine lv_iinc (v := nI (k + 1)) (lv' := [(4, .int (nI (k + 1))), (5, .int (nI k - x1)), (0, .ref (T 0)), (1, .int x1), (3, .ref (T (2 + a)))]) hx hb dN_move_61 hl (k := 4) rfl (nI_1 k) (by decide) rfl (fun ls hl => ?_)
          refine lv_goto (tgt := 15) hx hb dN_move_64 (by decide) ?_
          exact ih (k + 1) (by omega) (by omega) _ _ hP hS ls (lv_sub hl [2, 3, 4, 0] rfl)
set_option maxHeartbeats 4000000 in
set_option maxRecDepth 100000 in
theorem cN_move (l : Launch) (D : va_G) (cA cW : ClassId) (T : Nat → Nat) (hT : nvT T) (n : Nat → Nat) (g : Nat → Nat → Nat) (ok : nvOk n g) (x1 : Int32) (dl : Int) (hd1 : x1.toInt = dl) (hd2 : -1000 ≤ dl ∧ dl ≤ 1000) (v : Nat) (hv : v < 9) (a : Nat) (ha : a < 16) : Met l yN_move (Cond.code yN_move bN_move 6 none :: nzG) ({ frames := 1, cells := 0, slots := 0, locals := 23 }) (va_Pc [.ref (T 0), .int x1, .int (nI v), .ref (T (2 + a))] (nmP D cA cW (nvW cA cW T n g))) (va_Qv (fun _ : Unit => True) (fun _ t => (fun H9 : Heap => ∃ n9 g9, nvU 17 n g 16 (n a) (fMove dl v (g a) (n a)) n9 g9 ∧ va_P D vwCl (nvW cA cW T n9 g9) H9) t.heap) (nvA T)) 0 0 (nvA T) := by
  refine nz_of (own := RN) (by decide) rfl ?_
  intro p e s m args below meth c S hr hlocks _ hv9
  obtain ⟨rfl, hP, hK, hX⟩ := hv9
  have hob0 := nv_ob0 hK hP
  have hS : va_S (nvA T) s.heap s.heap [] := va_S.rf
  have hx := S.1
  have hb := S.2.1
  refine nz_entry (vs := [.ref (T 0), .int x1, .int (nI v), .ref (T (2 + a))]) (n := 6) (lv := [(0, .ref (T 0)), (1, .int x1), (2, .int (nI v)), (3, .ref (T (2 + a)))]) (Nat.le_of_ble_eq_true rfl) rfl (fun ls hl => ?_)
  have hna := ok.1 a
  refine lv_aload_n hx hb dN_move_0 rfl (lv_at hl 0 rfl) ?_
  refine nm_getA S hK hP dN_move_1 ?_
  refine lv_aload_n hx hb dN_move_4 rfl (lv_at hl 3 rfl) ?_
  refine nm_getS S hX hK hP (Nat.lt_succ_of_lt ha) dN_move_5 ?_
  refine lv_iload_n hx hb dN_move_8 rfl (lv_at hl 2 rfl) ?_
  refine nv_call (As := [.int (nI (n a)), .int (nI v)]) (rest := []) S (c_Word_become l D cA cW T hT n g 16 (by decide) (n a) hna v) kN_30 ⟨rfl, rfl, Nat.le_of_ble_eq_true rfl, Nat.le_of_ble_eq_true rfl⟩ ⟨Nat.zero_le _, Nat.zero_le _⟩ (nv_ob hK hP (by decide)) hP hK hS rfl hl.1 rfl (Nat.le_of_ble_eq_true rfl) dN_move_9 (fun H locs hP hS => ?_)
  generalize hn1 : va_up n 16 (n a) = n1 at hP
  have e16 : n1 16 = n a := by rw [← hn1, va_up_self]
  have ea1 : n1 a = n a := by rw [← hn1, va_up_ne _ _ (by omega)]
  refine lv_iconst (v := 0) hx hb dN_move_12 (by decide) ?_
  refine lv_istore (lv' := [(4, .int 0), (0, .ref (T 0)), (1, .int x1), (2, .int (nI v)), (3, .ref (T (2 + a)))]) hx hb dN_move_13 hl (by decide) rfl (fun ls hl => ?_)
  rw [← ea1, ← pov_0 (fMove dl v (g a) (n1 a)) (pov (fun _ => v) (g 16) 0 (n1 a)) 0] at hP
  refine lpN_move l D cA cW T hT n1 g ok.2 x1 dl hd1 hd2 v a ha (by omega) S hX hK (fun H locs ls hP hS => ?_) (n1 a + 1) 0 (by omega) (by omega) _ _ hP hS ls (lv_sub hl [1, 2, 4, 0] rfl)
  refine W.vret hx hb hr (fun t ht hW => ⟨⟨(), rfl, trivial, n1, _, ?_, by rw [ht]; exact hP⟩, hS.F ht⟩) hS.2.2 dN_move_67
  rw [ea1]
  exact nvU_two hn1 ok hna (fun k _ => by unfold fMove; split; exact ok.2 a _; exact hv)
set_option maxHeartbeats 4000000 in
set_option maxRecDepth 100000 in
theorem lpN_round {p : Program} {e : Env} {s : State} {m : MethodId} {args : Array Value} {below : List Frame} {meth : Method} {c : Code} {Q : State → Prop} (l : Launch) (D : va_G) (cA cW : ClassId) (T : Nat → Nat) (hT : nvT T) (n1 : Nat → Nat) (g : Nat → Nat → Nat) (hg : ∀ j k, g j k < 9) (x1 : Int32) (dl : Int) (hd1 : x1.toInt = dl) (hd2 : -1000 ≤ dl ∧ dl ≤ 1000) (a : Nat) (ha : a < 16) (hna : n1 a ≤ 64) (S : CallFix p m c bN_turnRound 4 s args nzG RN) (hX : nmX s) (hK : va_K D vwCl (nvTy cA cW) s) (kk : ∀ (H : Heap) (locs : List Loc) (ls : Array Slot), va_P D vwCl (nvW cA cW T n1 (va_up g 16 (pov (fRound dl (g a) (n1 a)) (g 16) 0 (n1 a)))) H → va_S (nvA T) s.heap H locs → W p l e ({ frames := 1, cells := 0, slots := 0, locals := 22 }) s m args below meth c H locs 0 0 Q (F0 m 51 ls [])) : ∀ (fuel k : Nat), k ≤ n1 a → n1 a < k + fuel → ∀ (H : Heap) (locs : List Loc), va_P D vwCl (nvW cA cW T n1 (va_up g 16 (pov (fRound dl (g a) (n1 a)) (g 16) 0 k))) H → va_S (nvA T) s.heap H locs → ∀ (ls : Array Slot), lv_has ls 4 [(0, .ref (T 0)), (1, .int x1), (2, .ref (T (2 + a))), (3, .int (nI k))] → W p l e ({ frames := 1, cells := 0, slots := 0, locals := 22 }) s m args below meth c H locs 0 0 Q (F0 m 13 ls []) := by
  have hx := S.1
  have hb := S.2.1
  intro fuel
  induction fuel with
  | zero =>
    intro k hk hfu
    exact absurd hfu (by omega)
  | succ fuel ih =>
    intro k hk hfu H locs hP hS ls hl
    refine lv_iload_n hx hb dN_turnRound_13 rfl (lv_at hl 3 rfl) ?_
    refine lv_aload_n hx hb dN_turnRound_14 rfl (lv_at hl 2 rfl) ?_
    refine nm_getS S hX hK hP (Nat.lt_succ_of_lt ha) dN_turnRound_15 ?_
    refine lv_icmp_ge (tgt := 51) hx hb dN_turnRound_18 (by decide) (fun c1 => ?_) (fun c1 => ?_)
    · have mc1 : (n1 a) ≤ k := (nI_leI (a := (n1 a)) (b := k) (by omega) (by omega)).mp c1
      have ek9 : k = n1 a := by omega
      rw [ek9] at hP
      exact kk H locs ls hP hS
    · have mc1 : k < (n1 a) := Nat.lt_of_not_le (fun h => c1 ((nI_leI (a := (n1 a)) (b := k) (by omega) (by omega)).mpr h))
      refine lv_aload_n hx hb dN_turnRound_21 rfl (lv_at hl 0 rfl) ?_
      refine nm_getA S hK hP dN_turnRound_22 ?_
      refine nm_getE S hX hK hP (by decide) dN_turnRound_25 ?_
      refine lv_iload_n hx hb dN_turnRound_28 rfl (lv_at hl 3 rfl) ?_
      refine lv_aload_n hx hb dN_turnRound_29 rfl (lv_at hl 2 rfl) ?_
      refine nm_getE S hX hK hP (Nat.lt_succ_of_lt ha) dN_turnRound_30 ?_
      refine lv_iload_n hx hb dN_turnRound_33 rfl (lv_at hl 3 rfl) ?_
      refine lv_iload_n hx hb dN_turnRound_34 rfl (lv_at hl 1 rfl) ?_
      refine lv_isub hx hb dN_turnRound_35 ?_
      have hsb : (nI k - x1).toInt = (k : Int) - dl := by rw [isub_toInt (by rw [nI_toInt (by omega), hd1]; omega) (by rw [nI_toInt (by omega), hd1]; omega), nI_toInt (by omega), hd1]
      refine lv_aload_n hx hb dN_turnRound_36 rfl (lv_at hl 2 rfl) ?_
      refine nm_getS S hX hK hP (Nat.lt_succ_of_lt ha) dN_turnRound_37 ?_
      refine nz_si (As := [.int (nI k - x1), .int (nI (n1 a))]) (rest := [.ref (T (19 + a)), .int (nI k), .ref (T (19 + 16))]) S (cM_floorMod l (nI k - x1) (n1 a) (by omega) (by omega)) kN_200 ⟨rfl, rfl, Nat.le_of_ble_eq_true rfl, Nat.le_of_ble_eq_true rfl⟩ ⟨Nat.zero_le _, Nat.zero_le _⟩ (fun _ _ _ _ h => h) (fun _ _ _ => trivial) rfl hl.1 rfl (Nat.le_of_ble_eq_true rfl) dN_turnRound_40 (fun r2 er2 => ?_)
      subst er2
      rw [hsb]
      have hjl : (((k : Int) - dl) % (n1 a : Int)).toNat < n1 a := by have h1 := Int.emod_lt_of_pos ((k : Int) - dl) (show (0 : Int) < (n1 a : Int) by omega); have h2 := Int.emod_nonneg ((k : Int) - dl) (show (n1 a : Int) ≠ 0 by omega); omega
      refine nv_ald (k := (((k : Int) - dl) % (n1 a : Int)).toNat) hx hb hK hP (Nat.lt_succ_of_lt ha) (by omega) dN_turnRound_43 ?_
      refine nz_eqi (y := nI (g a ((((k : Int) - dl) % (n1 a : Int)).toNat))) (by rw [va_up_ne _ _ (by omega)]) ?_
      refine nz_eqi (y := nI ((fRound dl (g a) (n1 a)) k)) rfl ?_
      refine nv_ast (k := k) (v := (fRound dl (g a) (n1 a)) k) hx hb hT hK hP hS (by decide) (by omega) dN_turnRound_44 (fun H locs hP hS => ?_)
      rw [nv_step g 16 (fRound dl (g a) (n1 a)) (g 16) k] at hP
      refine lv_iinc (v := nI (k + 1)) (lv' := [(3, .int (nI (k + 1))), (0, .ref (T 0)), (1, .int x1), (2, .ref (T (2 + a)))]) hx hb dN_turnRound_45 hl (k := 3) rfl (nI_1 k) (by decide) rfl (fun ls hl => ?_)
      refine lv_goto (tgt := 13) hx hb dN_turnRound_48 (by decide) ?_
      exact ih (k + 1) (by omega) (by omega) _ _ hP hS ls (lv_sub hl [1, 2, 3, 0] rfl)
set_option maxHeartbeats 4000000 in
set_option maxRecDepth 100000 in
theorem cN_turnRound (l : Launch) (D : va_G) (cA cW : ClassId) (T : Nat → Nat) (hT : nvT T) (n : Nat → Nat) (g : Nat → Nat → Nat) (ok : nvOk n g) (x1 : Int32) (dl : Int) (hd1 : x1.toInt = dl) (hd2 : -1000 ≤ dl ∧ dl ≤ 1000) (a : Nat) (ha : a < 16) : Met l yN_turnRound (Cond.code yN_turnRound bN_turnRound 4 none :: nzG) ({ frames := 1, cells := 0, slots := 0, locals := 22 }) (va_Pc [.ref (T 0), .int x1, .ref (T (2 + a))] (nmP D cA cW (nvW cA cW T n g))) (va_Qv (fun _ : Unit => True) (fun _ t => (fun H9 : Heap => ∃ n9 g9, nvU 17 n g 16 (n a) (fRound dl (g a) (n a)) n9 g9 ∧ va_P D vwCl (nvW cA cW T n9 g9) H9) t.heap) (nvA T)) 0 0 (nvA T) := by
  refine nz_of (own := RN) (by decide) rfl ?_
  intro p e s m args below meth c S hr hlocks _ hv9
  obtain ⟨rfl, hP, hK, hX⟩ := hv9
  have hob0 := nv_ob0 hK hP
  have hS : va_S (nvA T) s.heap s.heap [] := va_S.rf
  have hx := S.1
  have hb := S.2.1
  refine nz_entry (vs := [.ref (T 0), .int x1, .ref (T (2 + a))]) (n := 4) (lv := [(0, .ref (T 0)), (1, .int x1), (2, .ref (T (2 + a)))]) (Nat.le_of_ble_eq_true rfl) rfl (fun ls hl => ?_)
  refine lv_aload_n hx hb dN_turnRound_0 rfl (lv_at hl 0 rfl) ?_
  refine nm_getA S hK hP dN_turnRound_1 ?_
  refine lv_aload_n hx hb dN_turnRound_4 rfl (lv_at hl 2 rfl) ?_
  refine nm_getS S hX hK hP (Nat.lt_succ_of_lt ha) dN_turnRound_5 ?_
  refine nm_putS (N := n a) S hX hT hK hP hS (by decide) dN_turnRound_8 (fun H locs hP hS => ?_)
  generalize hn1 : va_up n 16 (n a) = n1 at hP
  have e16 : n1 16 = n a := by rw [← hn1, va_up_self]
  have ea1 : n1 a = n a := by rw [← hn1, va_up_ne _ _ (by omega)]
  have hna := ok.1 a
  refine lv_iconst (v := 0) hx hb dN_turnRound_11 (by decide) ?_
  refine lv_istore_n (lv' := [(3, .int 0), (0, .ref (T 0)), (1, .int x1), (2, .ref (T (2 + a)))]) hx hb dN_turnRound_12 rfl hl (by decide) rfl (fun ls hl => ?_)
  rw [show g = va_up g 16 (pov (fRound dl (g a) (n1 a)) (g 16) 0 0) by rw [pov_0, va_up_eta]] at hP
  refine lpN_round l D cA cW T hT n1 g ok.2 x1 dl hd1 hd2 a ha (by omega) S hX hK (fun H locs ls hP hS => ?_) (n1 a + 1) 0 (by omega) (by omega) _ _ hP hS ls (lv_sub hl [1, 2, 3, 0] rfl)
  refine W.vret hx hb hr (fun t ht hW => ⟨⟨(), rfl, trivial, n1, _, ?_, by rw [ht]; exact hP⟩, hS.F ht⟩) hS.2.2 dN_turnRound_51
  rw [ea1, ← hn1]
  exact nvU_lay ok hna (fun k _ => ok.2 a _)
end
section
set_option maxHeartbeats 4000000 in
set_option maxRecDepth 100000 in
theorem cN_change (l : Launch) (hfl : l.flags = pinnedFlags ++ [noTraceFlag]) (D : va_G) (cA cW : ClassId) (T : Nat → Nat) (hT : nvT T) (n : Nat → Nat) (g : Nat → Nat → Nat) (ok : nvOk n g) (x1 x2 x3 : Int32) : ny_Met l yN_change (Cond.code yN_change bN_change 4 none :: nzG) ({ frames := 7, cells := 1, slots := 6, locals := 110 }) (va_Pc [.ref (T 0), .int x1, .int x2, .int x3] (nmP D cA cW (nvW cA cW T n g))) (nxQ (fun v st t => v = none ∧ (kChange x1 x2 x3) = 0 ∧ (fun H9 : Heap => ∃ n9 g9, nvU 16 n g (ix x3) (n (ix x2)) (fChange (ix x1) (g (ix x2)) (n (ix x2))) n9 g9 ∧ va_P D vwCl (nvW cA cW T n9 g9) H9) t.heap ∧ va_F (nvA T) st t) (exK exI (kChange x1 x2 x3))) 0 0 1 6 (nvA T) := by
  refine nz_ofT (own := RN) (by decide) rfl ?_
  intro p e s m args below meth c S hr hlocks hno hv9
  obtain ⟨rfl, hP, hK, hX⟩ := hv9
  have hob0 := nv_ob0 hK hP
  have hS : va_S (nvA T) s.heap s.heap [] := va_S.rf
  have hx := S.1
  have hb := S.2.1
  refine nz_entry (vs := [.ref (T 0), .int x1, .int x2, .int x3]) (n := 4) (lv := [(0, .ref (T 0)), (1, .int x1), (2, .int x2), (3, .int x3)]) (Nat.le_of_ble_eq_true rfl) rfl (fun ls hl => ?_)
  refine lv_iload_n hx hb dN_change_0 rfl (lv_at hl 2 rfl) ?_
  refine nx_sv (As := [.int x2]) (rest := []) (post := ¬ plB x2) (exc := fun E => plB x2 ∧ E = eIO) S (cN_requirePlace l hfl x2) kN_20 ⟨rfl, rfl, Nat.le_of_ble_eq_true rfl, Nat.le_of_ble_eq_true rfl⟩ ⟨Nat.le_of_ble_eq_true rfl, Nat.le_of_ble_eq_true rfl⟩ nmX.bl (hX.at rfl) rfl hl.1 rfl (Nat.le_of_ble_eq_true rfl) dN_change_1 hno hlocks (fun E h => exK_of (k := 1) (if_pos (Or.inl h.1)) (by decide) h.2) (fun q1 => ?_)
  refine lv_iload_n hx hb dN_change_4 rfl (lv_at hl 3 rfl) ?_
  refine nx_sv (As := [.int x3]) (rest := []) (post := ¬ plB x3) (exc := fun E => plB x3 ∧ E = eIO) S (cN_requirePlace l hfl x3) kN_20 ⟨rfl, rfl, Nat.le_of_ble_eq_true rfl, Nat.le_of_ble_eq_true rfl⟩ ⟨Nat.le_of_ble_eq_true rfl, Nat.le_of_ble_eq_true rfl⟩ nmX.bl (hX.at rfl) rfl hl.1 rfl (Nat.le_of_ble_eq_true rfl) dN_change_5 hno hlocks (fun E h => exK_of (k := 1) (if_pos (Or.inr h.1)) (by decide) h.2) (fun q2 => ?_)
  obtain ⟨a, ha, rfl⟩ := plB_not q1
  have ea : ix (nI a) = a := ix_nI (by omega)
  obtain ⟨u, hu, rfl⟩ := plB_not q2
  have eu : ix (nI u) = u := ix_nI (by omega)
  refine lv_iload_n hx hb dN_change_8 rfl (lv_at hl 1 rfl) ?_
  refine lv_if_lt (tgt := 18) hx hb dN_change_9 (by decide) (fun c3 => ?_) (fun c3 => ?_)
  · exact nm_throw (E := eIA) (tx := "no such kind of change") (ik := 64) (is := 85) (ic := 68) S hfl hX (by decide) (by decide +kernel) kcl_64 kin_eIA (by decide) kat_eIA hl.1 ⟨(Nat.le_of_ble_eq_true rfl), (Nat.le_of_ble_eq_true rfl), (Nat.le_of_ble_eq_true rfl), (Nat.le_of_ble_eq_true rfl)⟩ (Nat.le_of_ble_eq_true rfl) hlocks hno dN_change_18 dN_change_21 dN_change_22 dN_change_24 dN_change_27 (fun t q hW h => ⟨eIA, exK_of (k := 2) (by unfold kChange; rw [if_neg (fun h => h.elim q1 q2), if_pos (Or.inl c3)]) (by decide) rfl, h⟩)
  · refine lv_iload_n hx hb dN_change_12 rfl (lv_at hl 1 rfl) ?_
    refine lv_bipush (v := 6) hx hb dN_change_13 (by decide) ?_
    refine lv_icmp_le (tgt := 28) hx hb dN_change_15 (by decide) (fun c4 => ?_) (fun c4 => ?_)
    · have hkd : ¬ (x1 < 0 ∨ 6 < x1) := fun h => h.elim c3 (fun q => Int32.not_lt.mpr c4 q)
      have hk0 : kChange x1 (nI a) (nI u) = 0 := by unfold kChange; rw [if_neg (fun h => h.elim q1 q2), if_neg hkd]
      obtain ⟨o, ho, rfl⟩ := in_not' (N := 6) rfl (by decide) hkd
      have eo : ix (nI o) = o := ix_nI (by omega)
      refine lv_iload_n hx hb dN_change_28 rfl (lv_at hl 1 rfl) ?_
      refine lv_iconst (v := 4) hx hb dN_change_29 (by decide) ?_
      refine lv_icmp_gt (tgt := 47) hx hb dN_change_30 (by decide) (fun c5 => ?_) (fun c5 => ?_)
      · have mc5 : 4 < o := (nI_ltI (a := 4) (b := o) (by omega) (by omega)).mp c5
        refine lv_aload_n hx hb dN_change_47 rfl (lv_at hl 0 rfl) ?_
        refine lv_iload_n hx hb dN_change_48 rfl (lv_at hl 1 rfl) ?_
        refine lv_aload_n hx hb dN_change_49 rfl (lv_at hl 0 rfl) ?_
        refine nm_getP S hK hP dN_change_50 ?_
        refine lv_iload_n hx hb dN_change_53 rfl (lv_at hl 2 rfl) ?_
        refine nm_ald (j := a) hx hb hK hP ha dN_change_54 ?_
        refine nm_callB (B := fun H9 : Heap => ∃ n9 g9, nvU 17 n g 16 (n a) (fChange o (g a) (n a)) n9 g9 ∧ va_P D vwCl (nvW cA cW T n9 g9) H9) (As := [.int (nI o), .ref (T (2 + a))]) (rest := []) S (cN_changeNumber l D cA cW T hT n g ok o (by omega) a ha) kN_91 ⟨rfl, rfl, Nat.le_of_ble_eq_true rfl, Nat.le_of_ble_eq_true rfl⟩ ⟨Nat.zero_le _, Nat.zero_le _⟩ hob0 hP hK hX rfl hl.1 rfl (Nat.le_of_ble_eq_true rfl) dN_change_55 (fun H locs hB hS => ?_)
        obtain ⟨n1, g1, u1, hP⟩ := hB
        refine lv_aload_n hx hb dN_change_58 rfl (lv_at hl 0 rfl) ?_
        refine nm_getP S hK hP dN_change_59 ?_
        refine lv_iload_n hx hb dN_change_62 rfl (lv_at hl 3 rfl) ?_
        refine nm_ald (j := u) hx hb hK hP hu dN_change_63 ?_
        refine lv_aload_n hx hb dN_change_64 rfl (lv_at hl 0 rfl) ?_
        refine nm_getA S hK hP dN_change_65 ?_
        refine nv_call (As := [.ref (T (2 + 16))]) (rest := []) S (c_Word_copy l D cA cW T hT n1 g1 u (Nat.lt_succ_of_lt hu) 16 (by decide) (by omega) (u1.2.2.2.1 16)) kN_81 ⟨rfl, rfl, Nat.le_of_ble_eq_true rfl, Nat.le_of_ble_eq_true rfl⟩ ⟨Nat.zero_le _, Nat.zero_le _⟩ (nv_ob hK hP (Nat.lt_succ_of_lt hu)) hP hK hS rfl hl.1 rfl (Nat.le_of_ble_eq_true rfl) dN_change_68 (fun H locs hP hS => ?_)
        refine ny_ret ?_
        exact W.vret hx hb hr (fun t ht hW => ⟨rfl, hk0, ⟨va_up n1 u (n1 16), va_up g1 u (pov (g1 16) (g1 u) 0 (n1 16)), by rw [eu]; exact nvU_eq (nvU_fin u1 hu) (by rw [ea]) (by rw [ea, eo]; exact fun _ _ => rfl), by rw [ht]; exact hP⟩, hS.F ht⟩) hS.2.2 dN_change_71
      · have mc5 : o ≤ 4 := Nat.le_of_not_lt (fun h => c5 ((nI_ltI (a := 4) (b := o) (by omega) (by omega)).mpr h))
        refine lv_aload_n hx hb dN_change_33 rfl (lv_at hl 0 rfl) ?_
        refine lv_iload_n hx hb dN_change_34 rfl (lv_at hl 1 rfl) ?_
        refine lv_aload_n hx hb dN_change_35 rfl (lv_at hl 0 rfl) ?_
        refine nm_getP S hK hP dN_change_36 ?_
        refine lv_iload_n hx hb dN_change_39 rfl (lv_at hl 2 rfl) ?_
        refine nm_ald (j := a) hx hb hK hP ha dN_change_40 ?_
        refine nm_callB (B := fun H9 : Heap => ∃ n9 g9, nvU 17 n g 16 (n a) (fChange o (g a) (n a)) n9 g9 ∧ va_P D vwCl (nvW cA cW T n9 g9) H9) (As := [.int (nI o), .ref (T (2 + a))]) (rest := []) S (cN_changeElements l D cA cW T hT n g ok o (by omega) a ha) kN_87 ⟨rfl, rfl, Nat.le_of_ble_eq_true rfl, Nat.le_of_ble_eq_true rfl⟩ ⟨Nat.zero_le _, Nat.zero_le _⟩ hob0 hP hK hX rfl hl.1 rfl (Nat.le_of_ble_eq_true rfl) dN_change_41 (fun H locs hB hS => ?_)
        obtain ⟨n1, g1, u1, hP⟩ := hB
        refine lv_goto (tgt := 58) hx hb dN_change_44 (by decide) ?_
        refine lv_aload_n hx hb dN_change_58 rfl (lv_at hl 0 rfl) ?_
        refine nm_getP S hK hP dN_change_59 ?_
        refine lv_iload_n hx hb dN_change_62 rfl (lv_at hl 3 rfl) ?_
        refine nm_ald (j := u) hx hb hK hP hu dN_change_63 ?_
        refine lv_aload_n hx hb dN_change_64 rfl (lv_at hl 0 rfl) ?_
        refine nm_getA S hK hP dN_change_65 ?_
        refine nv_call (As := [.ref (T (2 + 16))]) (rest := []) S (c_Word_copy l D cA cW T hT n1 g1 u (Nat.lt_succ_of_lt hu) 16 (by decide) (by omega) (u1.2.2.2.1 16)) kN_81 ⟨rfl, rfl, Nat.le_of_ble_eq_true rfl, Nat.le_of_ble_eq_true rfl⟩ ⟨Nat.zero_le _, Nat.zero_le _⟩ (nv_ob hK hP (Nat.lt_succ_of_lt hu)) hP hK hS rfl hl.1 rfl (Nat.le_of_ble_eq_true rfl) dN_change_68 (fun H locs hP hS => ?_)
        refine ny_ret ?_
        exact W.vret hx hb hr (fun t ht hW => ⟨rfl, hk0, ⟨va_up n1 u (n1 16), va_up g1 u (pov (g1 16) (g1 u) 0 (n1 16)), by rw [eu]; exact nvU_eq (nvU_fin u1 hu) (by rw [ea]) (by rw [ea, eo]; exact fun _ _ => rfl), by rw [ht]; exact hP⟩, hS.F ht⟩) hS.2.2 dN_change_71
    · exact nm_throw (E := eIA) (tx := "no such kind of change") (ik := 64) (is := 85) (ic := 68) S hfl hX (by decide) (by decide +kernel) kcl_64 kin_eIA (by decide) kat_eIA hl.1 ⟨(Nat.le_of_ble_eq_true rfl), (Nat.le_of_ble_eq_true rfl), (Nat.le_of_ble_eq_true rfl), (Nat.le_of_ble_eq_true rfl)⟩ (Nat.le_of_ble_eq_true rfl) hlocks hno dN_change_18 dN_change_21 dN_change_22 dN_change_24 dN_change_27 (fun t q hW h => ⟨eIA, exK_of (k := 2) (by unfold kChange; rw [if_neg (fun h => h.elim q1 q2), if_pos (Or.inr (Int32.not_le.mp c4))]) (by decide) rfl, h⟩)
set_option maxHeartbeats 4000000 in
set_option maxRecDepth 100000 in
theorem cN_shift (l : Launch) (hfl : l.flags = pinnedFlags ++ [noTraceFlag]) (D : va_G) (cA cW : ClassId) (T : Nat → Nat) (hT : nvT T) (n : Nat → Nat) (g : Nat → Nat → Nat) (ok : nvOk n g) (x1 x2 x3 x4 x5 : Int32) : ny_Met l yN_shift (Cond.code yN_shift bN_shift 7 none :: nzG) ({ frames := 7, cells := 1, slots := 6, locals := 110 }) (va_Pc [.ref (T 0), .int x1, .int x2, .int x3, .int x4, .int x5] (nmP D cA cW (nvW cA cW T n g))) (nxQ (fun v st t => v = none ∧ (kShift x1 x2 x3 x4 x5) = 0 ∧ (fun H9 : Heap => ∃ n9 g9, nvU 16 n g (ix x5) (n (ix x4)) (fShift (ix x1) x2.toInt (ix x3) (g (ix x4)) (n (ix x4))) n9 g9 ∧ va_P D vwCl (nvW cA cW T n9 g9) H9) t.heap ∧ va_F (nvA T) st t) (exK exI (kShift x1 x2 x3 x4 x5))) 0 0 1 6 (nvA T) := by
  refine nz_ofT (own := RN) (by decide) rfl ?_
  intro p e s m args below meth c S hr hlocks hno hv9
  obtain ⟨rfl, hP, hK, hX⟩ := hv9
  have hob0 := nv_ob0 hK hP
  have hS : va_S (nvA T) s.heap s.heap [] := va_S.rf
  have hx := S.1
  have hb := S.2.1
  refine nz_entry (vs := [.ref (T 0), .int x1, .int x2, .int x3, .int x4, .int x5]) (n := 7) (lv := [(0, .ref (T 0)), (1, .int x1), (2, .int x2), (3, .int x3), (4, .int x4), (5, .int x5)]) (Nat.le_of_ble_eq_true rfl) rfl (fun ls hl => ?_)
  refine lv_iload hx hb dN_shift_0 (lv_at hl 4 rfl) ?_
  refine nx_sv (As := [.int x4]) (rest := []) (post := ¬ plB x4) (exc := fun E => plB x4 ∧ E = eIO) S (cN_requirePlace l hfl x4) kN_20 ⟨rfl, rfl, Nat.le_of_ble_eq_true rfl, Nat.le_of_ble_eq_true rfl⟩ ⟨Nat.le_of_ble_eq_true rfl, Nat.le_of_ble_eq_true rfl⟩ nmX.bl (hX.at rfl) rfl hl.1 rfl (Nat.le_of_ble_eq_true rfl) dN_shift_2 hno hlocks (fun E h => exK_of (k := 1) (if_pos (Or.inl h.1)) (by decide) h.2) (fun q1 => ?_)
  refine lv_iload hx hb dN_shift_5 (lv_at hl 5 rfl) ?_
  refine nx_sv (As := [.int x5]) (rest := []) (post := ¬ plB x5) (exc := fun E => plB x5 ∧ E = eIO) S (cN_requirePlace l hfl x5) kN_20 ⟨rfl, rfl, Nat.le_of_ble_eq_true rfl, Nat.le_of_ble_eq_true rfl⟩ ⟨Nat.le_of_ble_eq_true rfl, Nat.le_of_ble_eq_true rfl⟩ nmX.bl (hX.at rfl) rfl hl.1 rfl (Nat.le_of_ble_eq_true rfl) dN_shift_7 hno hlocks (fun E h => exK_of (k := 1) (if_pos (Or.inr h.1)) (by decide) h.2) (fun q2 => ?_)
  refine lv_iload_n hx hb dN_shift_10 rfl (lv_at hl 3 rfl) ?_
  refine nx_sv (As := [.int x3]) (rest := []) (post := ¬ valB x3) (exc := fun E => valB x3 ∧ E = eIA) S (cN_requireValue l hfl x3) kN_27 ⟨rfl, rfl, Nat.le_of_ble_eq_true rfl, Nat.le_of_ble_eq_true rfl⟩ ⟨Nat.le_of_ble_eq_true rfl, Nat.le_of_ble_eq_true rfl⟩ nmX.bl (hX.at rfl) rfl hl.1 rfl (Nat.le_of_ble_eq_true rfl) dN_shift_11 hno hlocks (fun E h => exK_of (k := 2) (by unfold kShift; rw [if_neg (fun h => h.elim q1 q2), if_pos (Or.inl h.1)]) (by decide) h.2) (fun q3 => ?_)
  obtain ⟨a, ha, rfl⟩ := plB_not q1
  have ea : ix (nI a) = a := ix_nI (by omega)
  obtain ⟨u, hu, rfl⟩ := plB_not q2
  have eu : ix (nI u) = u := ix_nI (by omega)
  refine lv_iload_n hx hb dN_shift_14 rfl (lv_at hl 1 rfl) ?_
  refine lv_if_lt (tgt := 23) hx hb dN_shift_15 (by decide) (fun c4 => ?_) (fun c4 => ?_)
  · exact nm_throw (E := eIA) (tx := "no such kind of shift") (ik := 64) (is := 94) (ic := 68) S hfl hX (by decide) (by decide +kernel) kcl_64 kin_eIA (by decide) kat_eIA hl.1 ⟨(Nat.le_of_ble_eq_true rfl), (Nat.le_of_ble_eq_true rfl), (Nat.le_of_ble_eq_true rfl), (Nat.le_of_ble_eq_true rfl)⟩ (Nat.le_of_ble_eq_true rfl) hlocks hno dN_shift_23 dN_shift_26 dN_shift_27 dN_shift_29 dN_shift_32 (fun t q hW h => ⟨eIA, exK_of (k := 2) (by unfold kShift; rw [if_neg (fun h => h.elim q1 q2), if_pos (Or.inr (Or.inl (Or.inl c4)))]) (by decide) rfl, h⟩)
  · refine lv_iload_n hx hb dN_shift_18 rfl (lv_at hl 1 rfl) ?_
    refine lv_iconst (v := 4) hx hb dN_shift_19 (by decide) ?_
    refine lv_icmp_le (tgt := 33) hx hb dN_shift_20 (by decide) (fun c5 => ?_) (fun c5 => ?_)
    · refine lv_iload_n hx hb dN_shift_33 rfl (lv_at hl 2 rfl) ?_
      refine lv_sipush (v := (-1000)) hx hb dN_shift_34 (by decide) ?_
      refine lv_icmp_lt (tgt := 47) hx hb dN_shift_37 (by decide) (fun c6 => ?_) (fun c6 => ?_)
      · exact nm_throw (E := eIA) (tx := "a shift goes by -1000 to 1000") (ik := 64) (is := 96) (ic := 68) S hfl hX (by decide) (by decide +kernel) kcl_64 kin_eIA (by decide) kat_eIA hl.1 ⟨(Nat.le_of_ble_eq_true rfl), (Nat.le_of_ble_eq_true rfl), (Nat.le_of_ble_eq_true rfl), (Nat.le_of_ble_eq_true rfl)⟩ (Nat.le_of_ble_eq_true rfl) hlocks hno dN_shift_47 dN_shift_50 dN_shift_51 dN_shift_53 dN_shift_56 (fun t q hW h => ⟨eIA, exK_of (k := 2) (by unfold kShift; rw [if_neg (fun h => h.elim q1 q2), if_pos (Or.inr (Or.inr (Or.inl c6)))]) (by decide) rfl, h⟩)
      · refine lv_iload_n hx hb dN_shift_40 rfl (lv_at hl 2 rfl) ?_
        refine lv_sipush (v := 1000) hx hb dN_shift_41 (by decide) ?_
        refine lv_icmp_le (tgt := 57) hx hb dN_shift_44 (by decide) (fun c7 => ?_) (fun c7 => ?_)
        · have hbd := sh_bd c6 (Int32.not_lt.mpr c7)
          have hkd : ¬ (x1 < 0 ∨ 4 < x1) := fun h => h.elim c4 (fun q => Int32.not_lt.mpr c5 q)
          have hk0 : kShift x1 x2 x3 (nI a) (nI u) = 0 := by unfold kShift; rw [if_neg (fun h => h.elim q1 q2), if_neg (fun h => h.elim q3 (fun h => h.elim hkd (fun h => h.elim c6 (fun q => Int32.not_lt.mpr c7 q))))]
          obtain ⟨v, hv, rfl⟩ := valB_not q3
          have ev : ix (nI v) = v := ix_nI (by omega)
          obtain ⟨o, ho, rfl⟩ := in_not' (N := 4) rfl (by decide) hkd
          have eo : ix (nI o) = o := ix_nI (by omega)
          have hng := ineg_toInt hbd.1
          rcases (show o = 0 ∨ o = 1 ∨ o = 2 ∨ o = 3 ∨ o = 4 by omega) with rfl | rfl | rfl | rfl | rfl
          · refine lv_iload_n hx hb dN_shift_57 rfl (lv_at hl 1 rfl) ?_
            refine lv_if_eq (tgt := 66) hx hb dN_shift_58 (by decide) (fun _ => ?_) (fun c8 => absurd (by decide) c8)
            refine lv_iload_n hx hb dN_shift_66 rfl (lv_at hl 2 rfl) ?_
            refine lv_goto (tgt := 72) hx hb dN_shift_67 (by decide) ?_
            refine lv_istore (lv' := [(6, .int x2), (0, .ref (T 0)), (1, .int 0), (2, .int x2), (3, .int (nI v)), (4, .int (nI a)), (5, .int (nI u))]) hx hb dN_shift_72 hl (by decide) rfl (fun ls hl => ?_)
            refine lv_iload_n hx hb dN_shift_74 rfl (lv_at hl 2 rfl) ?_
            refine lv_iconst (v := 3) hx hb dN_shift_75 (by decide) ?_
            refine lv_icmp_eq (tgt := 84) hx hb dN_shift_76 (by decide) (fun c9 => absurd c9 (by decide)) (fun _ => ?_)
            refine lv_iload_n hx hb dN_shift_79 rfl (lv_at hl 2 rfl) ?_
            refine lv_iconst (v := 4) hx hb dN_shift_80 (by decide) ?_
            refine lv_icmp_ne (tgt := 100) hx hb dN_shift_81 (by decide) (fun _ => ?_) (fun c10 => absurd c10 (by decide))
            refine lv_iload_n hx hb dN_shift_100 rfl (lv_at hl 2 rfl) ?_
            refine lv_iconst (v := 2) hx hb dN_shift_101 (by decide) ?_
            refine lv_icmp_ne (tgt := 139) hx hb dN_shift_102 (by decide) (fun _ => ?_) (fun c11 => absurd c11 (by decide))
            refine lv_aload_n hx hb dN_shift_139 rfl (lv_at hl 1 rfl) ?_
            refine lv_iload hx hb dN_shift_140 (lv_at hl 0 rfl) ?_
            refine lv_iload_n hx hb dN_shift_142 rfl (lv_at hl 4 rfl) ?_
            refine lv_aload_n hx hb dN_shift_143 rfl (lv_at hl 1 rfl) ?_
            refine nm_getP S hK hP dN_shift_144 ?_
            refine lv_iload hx hb dN_shift_147 (lv_at hl 5 rfl) ?_
            refine nm_ald (j := a) hx hb hK hP ha dN_shift_149 ?_
            refine nm_callB (B := fun H9 : Heap => ∃ n9 g9, nvU 17 n g 16 (n a) (fMove (x2.toInt) v (g a) (n a)) n9 g9 ∧ va_P D vwCl (nvW cA cW T n9 g9) H9) (As := [.int x2, .int (nI v), .ref (T (2 + a))]) (rest := []) S (cN_move l D cA cW T hT n g ok x2 (x2.toInt) rfl (by omega) v hv a ha) kN_105 ⟨rfl, rfl, Nat.le_of_ble_eq_true rfl, Nat.le_of_ble_eq_true rfl⟩ ⟨Nat.zero_le _, Nat.zero_le _⟩ hob0 hP hK hX rfl hl.1 rfl (Nat.le_of_ble_eq_true rfl) dN_shift_150 (fun H locs hB hS => ?_)
            obtain ⟨n1, g1, u1, hP⟩ := hB
            refine lv_aload_n hx hb dN_shift_153 rfl (lv_at hl 1 rfl) ?_
            refine nm_getP S hK hP dN_shift_154 ?_
            refine lv_iload hx hb dN_shift_157 (lv_at hl 6 rfl) ?_
            refine nm_ald (j := u) hx hb hK hP hu dN_shift_159 ?_
            refine lv_aload_n hx hb dN_shift_160 rfl (lv_at hl 1 rfl) ?_
            refine nm_getA S hK hP dN_shift_161 ?_
            refine nv_call (As := [.ref (T (2 + 16))]) (rest := []) S (c_Word_copy l D cA cW T hT n1 g1 u (Nat.lt_succ_of_lt hu) 16 (by decide) (by omega) (u1.2.2.2.1 16)) kN_81 ⟨rfl, rfl, Nat.le_of_ble_eq_true rfl, Nat.le_of_ble_eq_true rfl⟩ ⟨Nat.zero_le _, Nat.zero_le _⟩ (nv_ob hK hP (Nat.lt_succ_of_lt hu)) hP hK hS rfl hl.1 rfl (Nat.le_of_ble_eq_true rfl) dN_shift_164 (fun H locs hP hS => ?_)
            refine ny_ret ?_
            exact W.vret hx hb hr (fun t ht hW => ⟨rfl, hk0, ⟨va_up n1 u (n1 16), va_up g1 u (pov (g1 16) (g1 u) 0 (n1 16)), by rw [eu]; exact nvU_eq (nvU_fin u1 hu) (by rw [ea]) (by rw [ea, ev, eo]; exact fun _ _ => rfl), by rw [ht]; exact hP⟩, hS.F ht⟩) hS.2.2 dN_shift_167
          · refine lv_iload_n hx hb dN_shift_57 rfl (lv_at hl 1 rfl) ?_
            refine lv_if_eq (tgt := 66) hx hb dN_shift_58 (by decide) (fun c12 => absurd c12 (by decide)) (fun _ => ?_)
            refine lv_iload_n hx hb dN_shift_61 rfl (lv_at hl 1 rfl) ?_
            refine lv_iconst (v := 3) hx hb dN_shift_62 (by decide) ?_
            refine lv_icmp_ne (tgt := 70) hx hb dN_shift_63 (by decide) (fun _ => ?_) (fun c13 => absurd c13 (by decide))
            refine lv_iload_n hx hb dN_shift_70 rfl (lv_at hl 2 rfl) ?_
            refine lv_ineg hx hb dN_shift_71 ?_
            refine lv_istore (lv' := [(6, .int (-x2)), (0, .ref (T 0)), (1, .int 1), (2, .int x2), (3, .int (nI v)), (4, .int (nI a)), (5, .int (nI u))]) hx hb dN_shift_72 hl (by decide) rfl (fun ls hl => ?_)
            refine lv_iload_n hx hb dN_shift_74 rfl (lv_at hl 2 rfl) ?_
            refine lv_iconst (v := 3) hx hb dN_shift_75 (by decide) ?_
            refine lv_icmp_eq (tgt := 84) hx hb dN_shift_76 (by decide) (fun c14 => absurd c14 (by decide)) (fun _ => ?_)
            refine lv_iload_n hx hb dN_shift_79 rfl (lv_at hl 2 rfl) ?_
            refine lv_iconst (v := 4) hx hb dN_shift_80 (by decide) ?_
            refine lv_icmp_ne (tgt := 100) hx hb dN_shift_81 (by decide) (fun _ => ?_) (fun c15 => absurd c15 (by decide))
            refine lv_iload_n hx hb dN_shift_100 rfl (lv_at hl 2 rfl) ?_
            refine lv_iconst (v := 2) hx hb dN_shift_101 (by decide) ?_
            refine lv_icmp_ne (tgt := 139) hx hb dN_shift_102 (by decide) (fun _ => ?_) (fun c16 => absurd c16 (by decide))
            refine lv_aload_n hx hb dN_shift_139 rfl (lv_at hl 1 rfl) ?_
            refine lv_iload hx hb dN_shift_140 (lv_at hl 0 rfl) ?_
            refine lv_iload_n hx hb dN_shift_142 rfl (lv_at hl 4 rfl) ?_
            refine lv_aload_n hx hb dN_shift_143 rfl (lv_at hl 1 rfl) ?_
            refine nm_getP S hK hP dN_shift_144 ?_
            refine lv_iload hx hb dN_shift_147 (lv_at hl 5 rfl) ?_
            refine nm_ald (j := a) hx hb hK hP ha dN_shift_149 ?_
            refine nm_callB (B := fun H9 : Heap => ∃ n9 g9, nvU 17 n g 16 (n a) (fMove (-x2.toInt) v (g a) (n a)) n9 g9 ∧ va_P D vwCl (nvW cA cW T n9 g9) H9) (As := [.int (-x2), .int (nI v), .ref (T (2 + a))]) (rest := []) S (cN_move l D cA cW T hT n g ok (-x2) (-x2.toInt) hng (by omega) v hv a ha) kN_105 ⟨rfl, rfl, Nat.le_of_ble_eq_true rfl, Nat.le_of_ble_eq_true rfl⟩ ⟨Nat.zero_le _, Nat.zero_le _⟩ hob0 hP hK hX rfl hl.1 rfl (Nat.le_of_ble_eq_true rfl) dN_shift_150 (fun H locs hB hS => ?_)
            obtain ⟨n1, g1, u1, hP⟩ := hB
            refine lv_aload_n hx hb dN_shift_153 rfl (lv_at hl 1 rfl) ?_
            refine nm_getP S hK hP dN_shift_154 ?_
            refine lv_iload hx hb dN_shift_157 (lv_at hl 6 rfl) ?_
            refine nm_ald (j := u) hx hb hK hP hu dN_shift_159 ?_
            refine lv_aload_n hx hb dN_shift_160 rfl (lv_at hl 1 rfl) ?_
            refine nm_getA S hK hP dN_shift_161 ?_
            refine nv_call (As := [.ref (T (2 + 16))]) (rest := []) S (c_Word_copy l D cA cW T hT n1 g1 u (Nat.lt_succ_of_lt hu) 16 (by decide) (by omega) (u1.2.2.2.1 16)) kN_81 ⟨rfl, rfl, Nat.le_of_ble_eq_true rfl, Nat.le_of_ble_eq_true rfl⟩ ⟨Nat.zero_le _, Nat.zero_le _⟩ (nv_ob hK hP (Nat.lt_succ_of_lt hu)) hP hK hS rfl hl.1 rfl (Nat.le_of_ble_eq_true rfl) dN_shift_164 (fun H locs hP hS => ?_)
            refine ny_ret ?_
            exact W.vret hx hb hr (fun t ht hW => ⟨rfl, hk0, ⟨va_up n1 u (n1 16), va_up g1 u (pov (g1 16) (g1 u) 0 (n1 16)), by rw [eu]; exact nvU_eq (nvU_fin u1 hu) (by rw [ea]) (by rw [ea, ev, eo]; exact fun _ _ => rfl), by rw [ht]; exact hP⟩, hS.F ht⟩) hS.2.2 dN_shift_167
          · refine lv_iload_n hx hb dN_shift_57 rfl (lv_at hl 1 rfl) ?_
            refine lv_if_eq (tgt := 66) hx hb dN_shift_58 (by decide) (fun c17 => absurd c17 (by decide)) (fun _ => ?_)
            refine lv_iload_n hx hb dN_shift_61 rfl (lv_at hl 1 rfl) ?_
            refine lv_iconst (v := 3) hx hb dN_shift_62 (by decide) ?_
            refine lv_icmp_ne (tgt := 70) hx hb dN_shift_63 (by decide) (fun _ => ?_) (fun c18 => absurd c18 (by decide))
            refine lv_iload_n hx hb dN_shift_70 rfl (lv_at hl 2 rfl) ?_
            refine lv_ineg hx hb dN_shift_71 ?_
            refine lv_istore (lv' := [(6, .int (-x2)), (0, .ref (T 0)), (1, .int 2), (2, .int x2), (3, .int (nI v)), (4, .int (nI a)), (5, .int (nI u))]) hx hb dN_shift_72 hl (by decide) rfl (fun ls hl => ?_)
            refine lv_iload_n hx hb dN_shift_74 rfl (lv_at hl 2 rfl) ?_
            refine lv_iconst (v := 3) hx hb dN_shift_75 (by decide) ?_
            refine lv_icmp_eq (tgt := 84) hx hb dN_shift_76 (by decide) (fun c19 => absurd c19 (by decide)) (fun _ => ?_)
            refine lv_iload_n hx hb dN_shift_79 rfl (lv_at hl 2 rfl) ?_
            refine lv_iconst (v := 4) hx hb dN_shift_80 (by decide) ?_
            refine lv_icmp_ne (tgt := 100) hx hb dN_shift_81 (by decide) (fun _ => ?_) (fun c20 => absurd c20 (by decide))
            refine lv_iload_n hx hb dN_shift_100 rfl (lv_at hl 2 rfl) ?_
            refine lv_iconst (v := 2) hx hb dN_shift_101 (by decide) ?_
            refine lv_icmp_ne (tgt := 139) hx hb dN_shift_102 (by decide) (fun c21 => absurd (by decide) c21) (fun _ => ?_)
            refine lv_aload_n hx hb dN_shift_105 rfl (lv_at hl 1 rfl) ?_
            refine lv_iload hx hb dN_shift_106 (lv_at hl 0 rfl) ?_
            refine lv_iload_n hx hb dN_shift_108 rfl (lv_at hl 3 rfl) ?_
            refine lv_if_ge (tgt := 116) hx hb dN_shift_109 (by decide) (fun c22 => ?_) (fun c22 => ?_)
            · refine lv_aload_n hx hb dN_shift_116 rfl (lv_at hl 1 rfl) ?_
              refine nm_getP S hK hP dN_shift_117 ?_
              refine lv_iload hx hb dN_shift_120 (lv_at hl 5 rfl) ?_
              refine nm_ald (j := a) hx hb hK hP ha dN_shift_122 ?_
              refine nz_vi (As := []) (rest := [.int (-x2), .ref (T 0)]) S (c_Word_last l D cA cW T hT n g a (Nat.lt_succ_of_lt ha) (ok.1 a)) kN_101 ⟨rfl, rfl, Nat.le_of_ble_eq_true rfl, Nat.le_of_ble_eq_true rfl⟩ ⟨Nat.zero_le _, Nat.zero_le _⟩ nvP.bl (nv_ob hK hP (Nat.lt_succ_of_lt ha)) (nvP.to hP hK) rfl hl.1 rfl (Nat.le_of_ble_eq_true rfl) dN_shift_123 (fun r23 er23 => ?_)
              subst er23
              refine lv_aload_n hx hb dN_shift_126 rfl (lv_at hl 1 rfl) ?_
              refine nm_getP S hK hP dN_shift_127 ?_
              refine lv_iload hx hb dN_shift_130 (lv_at hl 5 rfl) ?_
              refine nm_ald (j := a) hx hb hK hP ha dN_shift_132 ?_
              refine nm_callB (B := fun H9 : Heap => ∃ n9 g9, nvU 17 n g 16 (n a) (fMove (-x2.toInt) (zLast (g a) (n a)) (g a) (n a)) n9 g9 ∧ va_P D vwCl (nvW cA cW T n9 g9) H9) (As := [.int (-x2), .int (nI (zLast (g a) (n a))), .ref (T (2 + a))]) (rest := []) S (cN_move l D cA cW T hT n g ok (-x2) (-x2.toInt) hng (by omega) (zLast (g a) (n a)) (zLast_lt (ok.2 a) _) a ha) kN_105 ⟨rfl, rfl, Nat.le_of_ble_eq_true rfl, Nat.le_of_ble_eq_true rfl⟩ ⟨Nat.zero_le _, Nat.zero_le _⟩ hob0 hP hK hX rfl hl.1 rfl (Nat.le_of_ble_eq_true rfl) dN_shift_133 (fun H locs hB hS => ?_)
              obtain ⟨n1, g1, u1, hP⟩ := hB
              refine lv_goto (tgt := 153) hx hb dN_shift_136 (by decide) ?_
              refine lv_aload_n hx hb dN_shift_153 rfl (lv_at hl 1 rfl) ?_
              refine nm_getP S hK hP dN_shift_154 ?_
              refine lv_iload hx hb dN_shift_157 (lv_at hl 6 rfl) ?_
              refine nm_ald (j := u) hx hb hK hP hu dN_shift_159 ?_
              refine lv_aload_n hx hb dN_shift_160 rfl (lv_at hl 1 rfl) ?_
              refine nm_getA S hK hP dN_shift_161 ?_
              refine nv_call (As := [.ref (T (2 + 16))]) (rest := []) S (c_Word_copy l D cA cW T hT n1 g1 u (Nat.lt_succ_of_lt hu) 16 (by decide) (by omega) (u1.2.2.2.1 16)) kN_81 ⟨rfl, rfl, Nat.le_of_ble_eq_true rfl, Nat.le_of_ble_eq_true rfl⟩ ⟨Nat.zero_le _, Nat.zero_le _⟩ (nv_ob hK hP (Nat.lt_succ_of_lt hu)) hP hK hS rfl hl.1 rfl (Nat.le_of_ble_eq_true rfl) dN_shift_164 (fun H locs hP hS => ?_)
              refine ny_ret ?_
              exact W.vret hx hb hr (fun t ht hW => ⟨rfl, hk0, ⟨va_up n1 u (n1 16), va_up g1 u (pov (g1 16) (g1 u) 0 (n1 16)), by rw [eu]; exact nvU_eq (nvU_fin u1 hu) (by rw [ea]) (by rw [ea, ev, eo]; exact fun _ _ => by unfold fShift; rw [if_neg (by decide), if_neg (by decide), if_pos rfl, if_neg (show ¬ x2.toInt < 0 from fun q => Int32.not_lt.mpr c22 (Int32.lt_iff_toInt_lt.mpr q))]), by rw [ht]; exact hP⟩, hS.F ht⟩) hS.2.2 dN_shift_167
            · refine lv_iconst (v := 2) hx hb dN_shift_112 (by decide) ?_
              refine lv_goto (tgt := 126) hx hb dN_shift_113 (by decide) ?_
              refine lv_aload_n hx hb dN_shift_126 rfl (lv_at hl 1 rfl) ?_
              refine nm_getP S hK hP dN_shift_127 ?_
              refine lv_iload hx hb dN_shift_130 (lv_at hl 5 rfl) ?_
              refine nm_ald (j := a) hx hb hK hP ha dN_shift_132 ?_
              refine nm_callB (B := fun H9 : Heap => ∃ n9 g9, nvU 17 n g 16 (n a) (fMove (-x2.toInt) 2 (g a) (n a)) n9 g9 ∧ va_P D vwCl (nvW cA cW T n9 g9) H9) (As := [.int (-x2), .int 2, .ref (T (2 + a))]) (rest := []) S (cN_move l D cA cW T hT n g ok (-x2) (-x2.toInt) hng (by omega) 2 (by decide) a ha) kN_105 ⟨rfl, rfl, Nat.le_of_ble_eq_true rfl, Nat.le_of_ble_eq_true rfl⟩ ⟨Nat.zero_le _, Nat.zero_le _⟩ hob0 hP hK hX rfl hl.1 rfl (Nat.le_of_ble_eq_true rfl) dN_shift_133 (fun H locs hB hS => ?_)
              obtain ⟨n1, g1, u1, hP⟩ := hB
              refine lv_goto (tgt := 153) hx hb dN_shift_136 (by decide) ?_
              refine lv_aload_n hx hb dN_shift_153 rfl (lv_at hl 1 rfl) ?_
              refine nm_getP S hK hP dN_shift_154 ?_
              refine lv_iload hx hb dN_shift_157 (lv_at hl 6 rfl) ?_
              refine nm_ald (j := u) hx hb hK hP hu dN_shift_159 ?_
              refine lv_aload_n hx hb dN_shift_160 rfl (lv_at hl 1 rfl) ?_
              refine nm_getA S hK hP dN_shift_161 ?_
              refine nv_call (As := [.ref (T (2 + 16))]) (rest := []) S (c_Word_copy l D cA cW T hT n1 g1 u (Nat.lt_succ_of_lt hu) 16 (by decide) (by omega) (u1.2.2.2.1 16)) kN_81 ⟨rfl, rfl, Nat.le_of_ble_eq_true rfl, Nat.le_of_ble_eq_true rfl⟩ ⟨Nat.zero_le _, Nat.zero_le _⟩ (nv_ob hK hP (Nat.lt_succ_of_lt hu)) hP hK hS rfl hl.1 rfl (Nat.le_of_ble_eq_true rfl) dN_shift_164 (fun H locs hP hS => ?_)
              refine ny_ret ?_
              exact W.vret hx hb hr (fun t ht hW => ⟨rfl, hk0, ⟨va_up n1 u (n1 16), va_up g1 u (pov (g1 16) (g1 u) 0 (n1 16)), by rw [eu]; exact nvU_eq (nvU_fin u1 hu) (by rw [ea]) (by rw [ea, ev, eo]; exact fun _ _ => by unfold fShift; rw [if_neg (by decide), if_neg (by decide), if_pos rfl, if_pos (show x2.toInt < 0 from Int32.lt_iff_toInt_lt.mp (Int32.not_le.mp c22))]), by rw [ht]; exact hP⟩, hS.F ht⟩) hS.2.2 dN_shift_167
          · refine lv_iload_n hx hb dN_shift_57 rfl (lv_at hl 1 rfl) ?_
            refine lv_if_eq (tgt := 66) hx hb dN_shift_58 (by decide) (fun c24 => absurd c24 (by decide)) (fun _ => ?_)
            refine lv_iload_n hx hb dN_shift_61 rfl (lv_at hl 1 rfl) ?_
            refine lv_iconst (v := 3) hx hb dN_shift_62 (by decide) ?_
            refine lv_icmp_ne (tgt := 70) hx hb dN_shift_63 (by decide) (fun c25 => absurd (by decide) c25) (fun _ => ?_)
            refine lv_iload_n hx hb dN_shift_66 rfl (lv_at hl 2 rfl) ?_
            refine lv_goto (tgt := 72) hx hb dN_shift_67 (by decide) ?_
            refine lv_istore (lv' := [(6, .int x2), (0, .ref (T 0)), (1, .int 3), (2, .int x2), (3, .int (nI v)), (4, .int (nI a)), (5, .int (nI u))]) hx hb dN_shift_72 hl (by decide) rfl (fun ls hl => ?_)
            refine lv_iload_n hx hb dN_shift_74 rfl (lv_at hl 2 rfl) ?_
            refine lv_iconst (v := 3) hx hb dN_shift_75 (by decide) ?_
            refine lv_icmp_eq (tgt := 84) hx hb dN_shift_76 (by decide) (fun _ => ?_) (fun c26 => absurd (by decide) c26)
            refine lv_aload_n hx hb dN_shift_84 rfl (lv_at hl 1 rfl) ?_
            refine lv_iload hx hb dN_shift_85 (lv_at hl 0 rfl) ?_
            refine lv_aload_n hx hb dN_shift_87 rfl (lv_at hl 1 rfl) ?_
            refine nm_getP S hK hP dN_shift_88 ?_
            refine lv_iload hx hb dN_shift_91 (lv_at hl 5 rfl) ?_
            refine nm_ald (j := a) hx hb hK hP ha dN_shift_93 ?_
            refine nm_callB (B := fun H9 : Heap => ∃ n9 g9, nvU 17 n g 16 (n a) (fRound (x2.toInt) (g a) (n a)) n9 g9 ∧ va_P D vwCl (nvW cA cW T n9 g9) H9) (As := [.int x2, .ref (T (2 + a))]) (rest := []) S (cN_turnRound l D cA cW T hT n g ok x2 (x2.toInt) rfl (by omega) a ha) kN_98 ⟨rfl, rfl, Nat.le_of_ble_eq_true rfl, Nat.le_of_ble_eq_true rfl⟩ ⟨Nat.zero_le _, Nat.zero_le _⟩ hob0 hP hK hX rfl hl.1 rfl (Nat.le_of_ble_eq_true rfl) dN_shift_94 (fun H locs hB hS => ?_)
            obtain ⟨n1, g1, u1, hP⟩ := hB
            refine lv_goto (tgt := 153) hx hb dN_shift_97 (by decide) ?_
            refine lv_aload_n hx hb dN_shift_153 rfl (lv_at hl 1 rfl) ?_
            refine nm_getP S hK hP dN_shift_154 ?_
            refine lv_iload hx hb dN_shift_157 (lv_at hl 6 rfl) ?_
            refine nm_ald (j := u) hx hb hK hP hu dN_shift_159 ?_
            refine lv_aload_n hx hb dN_shift_160 rfl (lv_at hl 1 rfl) ?_
            refine nm_getA S hK hP dN_shift_161 ?_
            refine nv_call (As := [.ref (T (2 + 16))]) (rest := []) S (c_Word_copy l D cA cW T hT n1 g1 u (Nat.lt_succ_of_lt hu) 16 (by decide) (by omega) (u1.2.2.2.1 16)) kN_81 ⟨rfl, rfl, Nat.le_of_ble_eq_true rfl, Nat.le_of_ble_eq_true rfl⟩ ⟨Nat.zero_le _, Nat.zero_le _⟩ (nv_ob hK hP (Nat.lt_succ_of_lt hu)) hP hK hS rfl hl.1 rfl (Nat.le_of_ble_eq_true rfl) dN_shift_164 (fun H locs hP hS => ?_)
            refine ny_ret ?_
            exact W.vret hx hb hr (fun t ht hW => ⟨rfl, hk0, ⟨va_up n1 u (n1 16), va_up g1 u (pov (g1 16) (g1 u) 0 (n1 16)), by rw [eu]; exact nvU_eq (nvU_fin u1 hu) (by rw [ea]) (by rw [ea, ev, eo]; exact fun _ _ => rfl), by rw [ht]; exact hP⟩, hS.F ht⟩) hS.2.2 dN_shift_167
          · refine lv_iload_n hx hb dN_shift_57 rfl (lv_at hl 1 rfl) ?_
            refine lv_if_eq (tgt := 66) hx hb dN_shift_58 (by decide) (fun c27 => absurd c27 (by decide)) (fun _ => ?_)
            refine lv_iload_n hx hb dN_shift_61 rfl (lv_at hl 1 rfl) ?_
            refine lv_iconst (v := 3) hx hb dN_shift_62 (by decide) ?_
            refine lv_icmp_ne (tgt := 70) hx hb dN_shift_63 (by decide) (fun _ => ?_) (fun c28 => absurd c28 (by decide))
            refine lv_iload_n hx hb dN_shift_70 rfl (lv_at hl 2 rfl) ?_
            refine lv_ineg hx hb dN_shift_71 ?_
            refine lv_istore (lv' := [(6, .int (-x2)), (0, .ref (T 0)), (1, .int 4), (2, .int x2), (3, .int (nI v)), (4, .int (nI a)), (5, .int (nI u))]) hx hb dN_shift_72 hl (by decide) rfl (fun ls hl => ?_)
            refine lv_iload_n hx hb dN_shift_74 rfl (lv_at hl 2 rfl) ?_
            refine lv_iconst (v := 3) hx hb dN_shift_75 (by decide) ?_
            refine lv_icmp_eq (tgt := 84) hx hb dN_shift_76 (by decide) (fun c29 => absurd c29 (by decide)) (fun _ => ?_)
            refine lv_iload_n hx hb dN_shift_79 rfl (lv_at hl 2 rfl) ?_
            refine lv_iconst (v := 4) hx hb dN_shift_80 (by decide) ?_
            refine lv_icmp_ne (tgt := 100) hx hb dN_shift_81 (by decide) (fun c30 => absurd (by decide) c30) (fun _ => ?_)
            refine lv_aload_n hx hb dN_shift_84 rfl (lv_at hl 1 rfl) ?_
            refine lv_iload hx hb dN_shift_85 (lv_at hl 0 rfl) ?_
            refine lv_aload_n hx hb dN_shift_87 rfl (lv_at hl 1 rfl) ?_
            refine nm_getP S hK hP dN_shift_88 ?_
            refine lv_iload hx hb dN_shift_91 (lv_at hl 5 rfl) ?_
            refine nm_ald (j := a) hx hb hK hP ha dN_shift_93 ?_
            refine nm_callB (B := fun H9 : Heap => ∃ n9 g9, nvU 17 n g 16 (n a) (fRound (-x2.toInt) (g a) (n a)) n9 g9 ∧ va_P D vwCl (nvW cA cW T n9 g9) H9) (As := [.int (-x2), .ref (T (2 + a))]) (rest := []) S (cN_turnRound l D cA cW T hT n g ok (-x2) (-x2.toInt) hng (by omega) a ha) kN_98 ⟨rfl, rfl, Nat.le_of_ble_eq_true rfl, Nat.le_of_ble_eq_true rfl⟩ ⟨Nat.zero_le _, Nat.zero_le _⟩ hob0 hP hK hX rfl hl.1 rfl (Nat.le_of_ble_eq_true rfl) dN_shift_94 (fun H locs hB hS => ?_)
            obtain ⟨n1, g1, u1, hP⟩ := hB
            refine lv_goto (tgt := 153) hx hb dN_shift_97 (by decide) ?_
            refine lv_aload_n hx hb dN_shift_153 rfl (lv_at hl 1 rfl) ?_
            refine nm_getP S hK hP dN_shift_154 ?_
            refine lv_iload hx hb dN_shift_157 (lv_at hl 6 rfl) ?_
            refine nm_ald (j := u) hx hb hK hP hu dN_shift_159 ?_
            refine lv_aload_n hx hb dN_shift_160 rfl (lv_at hl 1 rfl) ?_
            refine nm_getA S hK hP dN_shift_161 ?_
            refine nv_call (As := [.ref (T (2 + 16))]) (rest := []) S (c_Word_copy l D cA cW T hT n1 g1 u (Nat.lt_succ_of_lt hu) 16 (by decide) (by omega) (u1.2.2.2.1 16)) kN_81 ⟨rfl, rfl, Nat.le_of_ble_eq_true rfl, Nat.le_of_ble_eq_true rfl⟩ ⟨Nat.zero_le _, Nat.zero_le _⟩ (nv_ob hK hP (Nat.lt_succ_of_lt hu)) hP hK hS rfl hl.1 rfl (Nat.le_of_ble_eq_true rfl) dN_shift_164 (fun H locs hP hS => ?_)
            refine ny_ret ?_
            exact W.vret hx hb hr (fun t ht hW => ⟨rfl, hk0, ⟨va_up n1 u (n1 16), va_up g1 u (pov (g1 16) (g1 u) 0 (n1 16)), by rw [eu]; exact nvU_eq (nvU_fin u1 hu) (by rw [ea]) (by rw [ea, ev, eo]; exact fun _ _ => rfl), by rw [ht]; exact hP⟩, hS.F ht⟩) hS.2.2 dN_shift_167
        · exact nm_throw (E := eIA) (tx := "a shift goes by -1000 to 1000") (ik := 64) (is := 96) (ic := 68) S hfl hX (by decide) (by decide +kernel) kcl_64 kin_eIA (by decide) kat_eIA hl.1 ⟨(Nat.le_of_ble_eq_true rfl), (Nat.le_of_ble_eq_true rfl), (Nat.le_of_ble_eq_true rfl), (Nat.le_of_ble_eq_true rfl)⟩ (Nat.le_of_ble_eq_true rfl) hlocks hno dN_shift_47 dN_shift_50 dN_shift_51 dN_shift_53 dN_shift_56 (fun t q hW h => ⟨eIA, exK_of (k := 2) (by unfold kShift; rw [if_neg (fun h => h.elim q1 q2), if_pos (Or.inr (Or.inr (Or.inr (Int32.not_le.mp c7))))]) (by decide) rfl, h⟩)
    · exact nm_throw (E := eIA) (tx := "no such kind of shift") (ik := 64) (is := 94) (ic := 68) S hfl hX (by decide) (by decide +kernel) kcl_64 kin_eIA (by decide) kat_eIA hl.1 ⟨(Nat.le_of_ble_eq_true rfl), (Nat.le_of_ble_eq_true rfl), (Nat.le_of_ble_eq_true rfl), (Nat.le_of_ble_eq_true rfl)⟩ (Nat.le_of_ble_eq_true rfl) hlocks hno dN_shift_23 dN_shift_26 dN_shift_27 dN_shift_29 dN_shift_32 (fun t q hW h => ⟨eIA, exK_of (k := 2) (by unfold kShift; rw [if_neg (fun h => h.elim q1 q2), if_pos (Or.inr (Or.inl (Or.inr (Int32.not_le.mp c5))))]) (by decide) rfl, h⟩)
set_option maxHeartbeats 4000000 in
set_option maxRecDepth 100000 in
theorem lpN_same {p : Program} {e : Env} {s : State} {m : MethodId} {args : Array Value} {below : List Frame} {meth : Method} {c : Code} {Q : State → Prop} (l : Launch) (D : va_G) (cA cW : ClassId) (T : Nat → Nat) (hT : nvT T) (n : Nat → Nat) (g : Nat → Nat → Nat) (ok : nvOk n g) (b1 : Nat) (hb1 : b1 < 2) (a : Nat) (ha : a < 16) (d : Nat) (hd : d < 16) (hnn : n a = n d) (S : CallFix p m c bN_same 9 s args nzG RN) (hX : nmX s) (hK : va_K D vwCl (nvTy cA cW) s) (hP : va_P D vwCl (nvW cA cW T n g) s.heap) (k0 : ∀ (ls : Array Slot), (0 : Int32) = nI (zSame b1 (g a) (g d) (n a) (n d)) → W p l e ({ frames := 7, cells := 1, slots := 6, locals := 110 }) s m args below meth c s.heap [] 0 0 Q (F0 m 96 ls [])) (k1 : ∀ (ls : Array Slot), (1 : Int32) = nI (zSame b1 (g a) (g d) (n a) (n d)) → W p l e ({ frames := 7, cells := 1, slots := 6, locals := 110 }) s m args below meth c s.heap [] 0 0 Q (F0 m 104 ls [])) : ∀ (fuel k : Nat), k ≤ n a → n a < k + fuel → (∀ j, j < k → (if b1 = 1 then zMatch (g a j) (g d j) = 1 else g a j = g d j)) → ∀ (ls : Array Slot), lv_has ls 9 [(0, .ref (T 0)), (1, .int (nI b1)), (4, .ref (T (2 + a))), (5, .ref (T (2 + d))), (6, .int (nI k))] → W p l e ({ frames := 7, cells := 1, slots := 6, locals := 110 }) s m args below meth c s.heap [] 0 0 Q (F0 m 42 ls []) := by
  have hx := S.1
  have hb := S.2.1
  have hna := ok.1 a
  intro fuel
  induction fuel with
  | zero =>
    intro k hk hfu
    exact absurd hfu (by omega)
  | succ fuel ih =>
    intro k hk hfu hall ls hl
    refine lv_iload hx hb dN_same_42 (lv_at hl 4 rfl) ?_
    refine lv_aload hx hb dN_same_44 (lv_at hl 2 rfl) ?_
    refine nm_getS S hX hK hP (Nat.lt_succ_of_lt ha) dN_same_46 ?_
    refine lv_icmp_ge (tgt := 104) hx hb dN_same_49 (by decide) (fun c1 => ?_) (fun c1 => ?_)
    · have mc1 : (n a) ≤ k := (nI_leI (a := (n a)) (b := k) (by omega) (by omega)).mp c1
      exact k1 ls (zSame_1 ⟨hnn, fun j hj => hall j (by omega)⟩)
    · have mc1 : k < (n a) := Nat.lt_of_not_le (fun h => c1 ((nI_leI (a := (n a)) (b := k) (by omega) (by omega)).mpr h))
      refine lv_aload hx hb dN_same_52 (lv_at hl 2 rfl) ?_
      refine nm_getE S hX hK hP (Nat.lt_succ_of_lt ha) dN_same_54 ?_
      refine lv_iload hx hb dN_same_57 (lv_at hl 4 rfl) ?_
      refine nv_ald (k := k) hx hb hK hP (Nat.lt_succ_of_lt ha) (by omega) dN_same_59 ?_
      refine lv_istore (lv' := [(7, .int (nI (g a k))), (0, .ref (T 0)), (1, .int (nI b1)), (4, .ref (T (2 + a))), (5, .ref (T (2 + d))), (6, .int (nI k))]) hx hb dN_same_60 hl (by decide) rfl (fun ls hl => ?_)
      refine lv_aload hx hb dN_same_62 (lv_at hl 4 rfl) ?_
      refine nm_getE S hX hK hP (Nat.lt_succ_of_lt hd) dN_same_64 ?_
      refine lv_iload hx hb dN_same_67 (lv_at hl 5 rfl) ?_
      refine nv_ald (k := k) hx hb hK hP (Nat.lt_succ_of_lt hd) (by omega) dN_same_69 ?_
      refine lv_istore (lv' := [(8, .int (nI (g d k))), (7, .int (nI (g a k))), (0, .ref (T 0)), (1, .int (nI b1)), (4, .ref (T (2 + a))), (5, .ref (T (2 + d))), (6, .int (nI k))]) hx hb dN_same_70 hl (by decide) rfl (fun ls hl => ?_)
      refine lv_iload_n hx hb dN_same_72 rfl (lv_at hl 3 rfl) ?_
      refine lv_if_eq (tgt := 89) hx hb dN_same_73 (by decide) (fun c2 => ?_) (fun c2 => ?_)
      · have mc2 : b1 = 0 := (nI_eq (a := b1) (b := 0) (by omega) (by omega)).mp c2
        refine lv_iload hx hb dN_same_89 (lv_at hl 1 rfl) ?_
        refine lv_iload hx hb dN_same_91 (lv_at hl 0 rfl) ?_
        refine lv_icmp_eq (tgt := 98) hx hb dN_same_93 (by decide) (fun c3 => ?_) (fun c3 => ?_)
        · refine lv_iinc (v := nI (k + 1)) (lv' := [(6, .int (nI (k + 1))), (8, .int (nI (g d k))), (7, .int (nI (g a k))), (0, .ref (T 0)), (1, .int (nI b1)), (4, .ref (T (2 + a))), (5, .ref (T (2 + d)))]) hx hb dN_same_98 hl (k := 6) rfl (nI_1 k) (by decide) rfl (fun ls hl => ?_)
          refine lv_goto (tgt := 42) hx hb dN_same_101 (by decide) ?_
          refine ih (k + 1) (by omega) (by omega) (fun j hj => ?_) ls (lv_sub hl [3, 4, 5, 6, 0] rfl)
          by_cases hjk : j < k
          · exact hall j hjk
          · obtain rfl : j = k := by omega
            exact (by rw [if_neg (by omega)]; exact (nI_eq (by have := ok.2 a j; omega) (by have := ok.2 d j; omega)).mp c3)
        · exact k0 ls (zSame_0 (fun q => by have := q.2 k (by omega); rw [if_neg (by omega)] at this; exact c3 (by rw [this])))
      · have mc2 : ¬ b1 = 0 := fun h => c2 ((nI_eq (a := b1) (b := 0) (by omega) (by omega)).mpr h)
        refine lv_iload hx hb dN_same_76 (lv_at hl 1 rfl) ?_
        refine lv_iload hx hb dN_same_78 (lv_at hl 0 rfl) ?_
        refine nz_si (As := [.int (nI (g a k)), .int (nI (g d k))]) (rest := []) S (c_Wire_goTogether l (g a k) (ok.2 a k) (g d k) (ok.2 d k)) kN_131 ⟨rfl, rfl, Nat.le_of_ble_eq_true rfl, Nat.le_of_ble_eq_true rfl⟩ ⟨Nat.zero_le _, Nat.zero_le _⟩ (fun _ _ _ _ h => h) (fun _ _ _ => trivial) rfl hl.1 rfl (Nat.le_of_ble_eq_true rfl) dN_same_80 (fun r4 er4 => ?_)
        subst er4
        refine lv_if_ne (tgt := 98) hx hb dN_same_83 (by decide) (fun c5 => ?_) (fun c5 => ?_)
        · refine lv_iinc (v := nI (k + 1)) (lv' := [(6, .int (nI (k + 1))), (8, .int (nI (g d k))), (7, .int (nI (g a k))), (0, .ref (T 0)), (1, .int (nI b1)), (4, .ref (T (2 + a))), (5, .ref (T (2 + d)))]) hx hb dN_same_98 hl (k := 6) rfl (nI_1 k) (by decide) rfl (fun ls hl => ?_)
          refine lv_goto (tgt := 42) hx hb dN_same_101 (by decide) ?_
          refine ih (k + 1) (by omega) (by omega) (fun j hj => ?_) ls (lv_sub hl [3, 4, 5, 6, 0] rfl)
          by_cases hjk : j < k
          · exact hall j hjk
          · obtain rfl : j = k := by omega
            exact (by rw [if_pos (by omega)]; exact (by decide +kernel : ∀ p, p < 9 → ∀ q, q < 9 → ¬ nI (zMatch p q) = 0 → zMatch p q = 1) _ (ok.2 a j) _ (ok.2 d j) c5)
        · refine lv_goto (tgt := 96) hx hb dN_same_86 (by decide) ?_
          exact k0 ls (zSame_0 (fun q => by have := q.2 k (by omega); rw [if_pos (by omega)] at this; rw [this] at c5; exact absurd c5 (by decide)))
set_option maxHeartbeats 4000000 in
set_option maxRecDepth 100000 in
theorem cN_same (l : Launch) (hfl : l.flags = pinnedFlags ++ [noTraceFlag]) (D : va_G) (cA cW : ClassId) (T : Nat → Nat) (hT : nvT T) (n : Nat → Nat) (g : Nat → Nat → Nat) (ok : nvOk n g) (b1 : Nat) (hb1 : b1 < 2) (x2 x3 : Int32) : ny_Met l yN_same (Cond.code yN_same bN_same 9 (some .boolean) :: nzG) ({ frames := 7, cells := 1, slots := 6, locals := 110 }) (va_Pc [.ref (T 0), .int (nI b1), .int x2, .int x3] (nmP D cA cW (nvW cA cW T n g))) (nxQ (fun v st t => (kPl2 x2 x3) = 0 ∧ v = some (.int (nI (zSame b1 (g (ix x2)) (g (ix x3)) (n (ix x2)) (n (ix x3))))) ∧ t.heap = st.heap) (exK exI (kPl2 x2 x3))) 0 0 1 6 (fun _ => False) := by
  refine nz_ofT (own := RN) (by decide) rfl ?_
  intro p e s m args below meth c S hr hlocks hno hv9
  obtain ⟨rfl, hP, hK, hX⟩ := hv9
  have hob0 := nv_ob0 hK hP
  have hS : va_S (nvA T) s.heap s.heap [] := va_S.rf
  have hx := S.1
  have hb := S.2.1
  refine nz_entry (vs := [.ref (T 0), .int (nI b1), .int x2, .int x3]) (n := 9) (lv := [(0, .ref (T 0)), (1, .int (nI b1)), (2, .int x2), (3, .int x3)]) (Nat.le_of_ble_eq_true rfl) rfl (fun ls hl => ?_)
  refine lv_iload_n hx hb dN_same_0 rfl (lv_at hl 2 rfl) ?_
  refine nx_sv (As := [.int x2]) (rest := []) (post := ¬ plB x2) (exc := fun E => plB x2 ∧ E = eIO) S (cN_requirePlace l hfl x2) kN_20 ⟨rfl, rfl, Nat.le_of_ble_eq_true rfl, Nat.le_of_ble_eq_true rfl⟩ ⟨Nat.le_of_ble_eq_true rfl, Nat.le_of_ble_eq_true rfl⟩ nmX.bl (hX.at rfl) rfl hl.1 rfl (Nat.le_of_ble_eq_true rfl) dN_same_1 hno hlocks (fun E h => exK_of (k := 1) (if_pos (Or.inl h.1)) (by decide) h.2) (fun q1 => ?_)
  refine lv_iload_n hx hb dN_same_4 rfl (lv_at hl 3 rfl) ?_
  refine nx_sv (As := [.int x3]) (rest := []) (post := ¬ plB x3) (exc := fun E => plB x3 ∧ E = eIO) S (cN_requirePlace l hfl x3) kN_20 ⟨rfl, rfl, Nat.le_of_ble_eq_true rfl, Nat.le_of_ble_eq_true rfl⟩ ⟨Nat.le_of_ble_eq_true rfl, Nat.le_of_ble_eq_true rfl⟩ nmX.bl (hX.at rfl) rfl hl.1 rfl (Nat.le_of_ble_eq_true rfl) dN_same_5 hno hlocks (fun E h => exK_of (k := 1) (if_pos (Or.inr h.1)) (by decide) h.2) (fun q2 => ?_)
  have hk0 : kPl2 x2 x3 = 0 := if_neg (fun h => h.elim q1 q2)
  obtain ⟨a, ha, rfl⟩ := plB_not q1
  have ea : ix (nI a) = a := ix_nI (by omega)
  obtain ⟨d, hd, rfl⟩ := plB_not q2
  have ed : ix (nI d) = d := ix_nI (by omega)
  have hna := ok.1 a
  have hnd := ok.1 d
  refine lv_aload_n hx hb dN_same_8 rfl (lv_at hl 0 rfl) ?_
  refine nm_getP S hK hP dN_same_9 ?_
  refine lv_iload_n hx hb dN_same_12 rfl (lv_at hl 2 rfl) ?_
  refine nm_ald (j := a) hx hb hK hP ha dN_same_13 ?_
  refine lv_astore (lv' := [(4, .ref (T (2 + a))), (0, .ref (T 0)), (1, .int (nI b1)), (2, .int (nI a)), (3, .int (nI d))]) hx hb dN_same_14 hl (by decide) rfl (fun ls hl => ?_)
  refine lv_aload_n hx hb dN_same_16 rfl (lv_at hl 1 rfl) ?_
  refine nm_getP S hK hP dN_same_17 ?_
  refine lv_iload_n hx hb dN_same_20 rfl (lv_at hl 4 rfl) ?_
  refine nm_ald (j := d) hx hb hK hP hd dN_same_21 ?_
  refine lv_astore (lv' := [(5, .ref (T (2 + d))), (4, .ref (T (2 + a))), (0, .ref (T 0)), (1, .int (nI b1)), (2, .int (nI a)), (3, .int (nI d))]) hx hb dN_same_22 hl (by decide) rfl (fun ls hl => ?_)
  refine lv_aload hx hb dN_same_24 (lv_at hl 1 rfl) ?_
  refine nm_getS S hX hK hP (Nat.lt_succ_of_lt ha) dN_same_26 ?_
  refine lv_aload hx hb dN_same_29 (lv_at hl 0 rfl) ?_
  refine nm_getS S hX hK hP (Nat.lt_succ_of_lt hd) dN_same_31 ?_
  refine lv_icmp_eq (tgt := 39) hx hb dN_same_34 (by decide) (fun c3 => ?_) (fun c3 => ?_)
  · have mc3 : (n a) = (n d) := (nI_eq (a := (n a)) (b := (n d)) (by omega) (by omega)).mp c3
    refine lv_iconst (v := 0) hx hb dN_same_39 (by decide) ?_
    refine lv_istore (lv' := [(6, .int 0), (5, .ref (T (2 + d))), (4, .ref (T (2 + a))), (0, .ref (T 0)), (1, .int (nI b1)), (2, .int (nI a)), (3, .int (nI d))]) hx hb dN_same_40 hl (by decide) rfl (fun ls hl => ?_)
    refine lpN_same l D cA cW T hT n g ok b1 hb1 a ha d hd mc3 S hX hK hP (fun ls e0 => ?_) (fun ls e1 => ?_) (n a + 1) 0 (by omega) (by omega) (fun j hj => absurd hj (by omega)) ls (lv_sub hl [3, 4, 2, 1, 0] rfl)
    · refine lv_iconst (v := 0) hx hb dN_same_96 (by decide) ?_
      refine ny_ret ?_
      exact W.zret (v := 0) hx hb hr rfl (fun t ht hW => ⟨hk0, by rw [ea, ed]; exact congrArg some (congrArg Value.int (e0)), ht⟩) (fun q h => nomatch h) dN_same_97
    · refine lv_iconst (v := 1) hx hb dN_same_104 (by decide) ?_
      refine ny_ret ?_
      exact W.zret (v := 1) hx hb hr rfl (fun t ht hW => ⟨hk0, by rw [ea, ed]; exact congrArg some (congrArg Value.int (e1)), ht⟩) (fun q h => nomatch h) dN_same_105
  · have mc3 : ¬ (n a) = (n d) := fun h => c3 ((nI_eq (a := (n a)) (b := (n d)) (by omega) (by omega)).mpr h)
    refine lv_iconst (v := 0) hx hb dN_same_37 (by decide) ?_
    refine ny_ret ?_
    exact W.zret (v := 0) hx hb hr rfl (fun t ht hW => ⟨hk0, by rw [ea, ed]; exact congrArg some (congrArg Value.int (zSame_0 (fun q => mc3 q.1))), ht⟩) (fun q h => nomatch h) dN_same_38
end
section
set_option maxHeartbeats 4000000 in
set_option maxRecDepth 100000 in
theorem cN_lengthOfResult (l : Launch) (o : Nat) (ho : 7 ≤ o ∧ o ≤ 12) (a b : Nat) (ha : a ≤ 64) (hb9 : b ≤ 64) : Met l yN_lengthOfResult (Cond.code yN_lengthOfResult bN_lengthOfResult 3 (some .int) :: nzG) ({ frames := 1, cells := 0, slots := 0, locals := 21 }) (va_Pc [.int (nI o), .int (nI a), .int (nI b)] (fun _ => True)) (vp_Si (fun r => r = nI (zLen o a b))) 0 0 (fun _ => False) := by
  refine nz_of (own := RN) (by decide) rfl ?_
  intro p e s m args below meth c S hr hlocks _ hv9
  obtain ⟨rfl, -⟩ := hv9
  have hx := S.1
  have hb := S.2.1
  refine nz_entry (vs := [.int (nI o), .int (nI a), .int (nI b)]) (n := 3) (lv := [(0, .int (nI o)), (1, .int (nI a)), (2, .int (nI b))]) (Nat.le_of_ble_eq_true rfl) rfl (fun ls hl => ?_)
  refine lv_iload_n hx hb dN_lengthOfResult_0 rfl (lv_at hl 0 rfl) ?_
  rcases (show o = 7 ∨ o = 8 ∨ o = 9 ∨ o = 10 ∨ o = 11 ∨ o = 12 by omega) with rfl | rfl | rfl | rfl | rfl | rfl
  · refine lv_tableIn (tgt := 32) hx hb dN_lengthOfResult_1 (by decide) (by decide) rfl (by decide) ?_
    refine lv_iload_n hx hb dN_lengthOfResult_32 rfl (lv_at hl 1 rfl) ?_
    refine lv_iload_n hx hb dN_lengthOfResult_33 rfl (lv_at hl 2 rfl) ?_
    refine va_mmax hx hb (S.2.2.1.trans hl.1.symm) S.2.2.2.1 (S.2.2.2.2 _ kN_max.1) (S.2.2.2.2 _ kN_max.2.1) (S.2.2.2.2 _ kN_max.2.2.1) (S.2.2.2.2 _ kN_max.2.2.2) (Nat.le_of_ble_eq_true rfl) (Nat.le_of_ble_eq_true rfl) (Nat.zero_le _) (Nat.zero_le _) dN_lengthOfResult_34 ?_
    refine nz_eqi (nI_max a b (by omega) (by omega)) ?_
    exact W.iret (v := nI (max a b)) hx hb hr (fun t ht hW => ⟨_, rfl, rfl, ht⟩) (fun q h => nomatch h) dN_lengthOfResult_37
  · refine lv_tableIn (tgt := 32) hx hb dN_lengthOfResult_1 (by decide) (by decide) rfl (by decide) ?_
    refine lv_iload_n hx hb dN_lengthOfResult_32 rfl (lv_at hl 1 rfl) ?_
    refine lv_iload_n hx hb dN_lengthOfResult_33 rfl (lv_at hl 2 rfl) ?_
    refine va_mmax hx hb (S.2.2.1.trans hl.1.symm) S.2.2.2.1 (S.2.2.2.2 _ kN_max.1) (S.2.2.2.2 _ kN_max.2.1) (S.2.2.2.2 _ kN_max.2.2.1) (S.2.2.2.2 _ kN_max.2.2.2) (Nat.le_of_ble_eq_true rfl) (Nat.le_of_ble_eq_true rfl) (Nat.zero_le _) (Nat.zero_le _) dN_lengthOfResult_34 ?_
    refine nz_eqi (nI_max a b (by omega) (by omega)) ?_
    exact W.iret (v := nI (max a b)) hx hb hr (fun t ht hW => ⟨_, rfl, rfl, ht⟩) (fun q h => nomatch h) dN_lengthOfResult_37
  · refine lv_tableIn (tgt := 38) hx hb dN_lengthOfResult_1 (by decide) (by decide) rfl (by decide) ?_
    refine lv_iload_n hx hb dN_lengthOfResult_38 rfl (lv_at hl 1 rfl) ?_
    refine lv_iload_n hx hb dN_lengthOfResult_39 rfl (lv_at hl 2 rfl) ?_
    refine lv_iadd hx hb dN_lengthOfResult_40 ?_
    refine nz_eqi (nI_add a b) ?_
    exact W.iret (v := nI (a + b)) hx hb hr (fun t ht hW => ⟨_, rfl, rfl, ht⟩) (fun q h => nomatch h) dN_lengthOfResult_41
  · refine lv_tableIn (tgt := 42) hx hb dN_lengthOfResult_1 (by decide) (by decide) rfl (by decide) ?_
    refine lv_iload_n hx hb dN_lengthOfResult_42 rfl (lv_at hl 1 rfl) ?_
    exact W.iret (v := nI a) hx hb hr (fun t ht hW => ⟨_, rfl, rfl, ht⟩) (fun q h => nomatch h) dN_lengthOfResult_43
  · refine lv_tableOut (tgt := 44) hx hb dN_lengthOfResult_1 (by decide) (by decide) ?_
    refine lv_iload_n hx hb dN_lengthOfResult_44 rfl (lv_at hl 2 rfl) ?_
    exact W.iret (v := nI b) hx hb hr (fun t ht hW => ⟨_, rfl, rfl, ht⟩) (fun q h => nomatch h) dN_lengthOfResult_45
  · refine lv_tableOut (tgt := 44) hx hb dN_lengthOfResult_1 (by decide) (by decide) ?_
    refine lv_iload_n hx hb dN_lengthOfResult_44 rfl (lv_at hl 2 rfl) ?_
    exact W.iret (v := nI b) hx hb hr (fun t ht hW => ⟨_, rfl, rfl, ht⟩) (fun q h => nomatch h) dN_lengthOfResult_45
set_option maxHeartbeats 4000000 in
set_option maxRecDepth 100000 in
theorem cN_sumOrProduct (l : Launch) (o : Nat) (ho : 7 ≤ o ∧ o ≤ 9) (p1 q1 : Nat) (hq1 : q1 < 2 ^ 64) : Met l yN_sumOrProduct (Cond.code yN_sumOrProduct bN_sumOrProduct 5 (some .long) :: nzG) ({ frames := 0, cells := 0, slots := 0, locals := 0 }) (va_Pc [.int (nI o), .long (lN p1), .long (lN q1)] (fun _ => True)) (vp_Sl (fun r => r = lN (zSum o p1 q1))) 0 0 (fun _ => False) := by
  refine nz_of (own := RN) (by decide) rfl ?_
  intro p e s m args below meth c S hr hlocks _ hv9
  obtain ⟨rfl, -⟩ := hv9
  have hx := S.1
  have hb := S.2.1
  refine nz_entry (vs := [.int (nI o), .long (lN p1), .long (lN q1)]) (n := 5) (lv := [(0, .int (nI o)), (1, .long (lN p1)), (3, .long (lN q1))]) (Nat.le_of_ble_eq_true rfl) rfl (fun ls hl => ?_)
  refine lv_iload_n hx hb dN_sumOrProduct_0 rfl (lv_at hl 0 rfl) ?_
  rcases (show o = 7 ∨ o = 8 ∨ o = 9 by omega) with rfl | rfl | rfl
  · refine lv_lookup (tgt := 28) hx hb dN_sumOrProduct_1 (by decide) rfl (by decide) ?_
    refine lv_lload_n hx hb dN_sumOrProduct_28 rfl (lv_at hl 1 rfl) ?_
    refine lv_lload_n hx hb dN_sumOrProduct_29 rfl (lv_at hl 2 rfl) ?_
    refine lv_ladd hx hb dN_sumOrProduct_30 ?_
    refine nz_eql (zSum_7 p1 q1) ?_
    exact W.lret (v := lN (zSum 7 p1 q1)) hx hb hr (fun t ht hW => ⟨_, rfl, rfl, ht⟩) (fun q h => nomatch h) dN_sumOrProduct_31
  · refine lv_lookup (tgt := 32) hx hb dN_sumOrProduct_1 (by decide) rfl (by decide) ?_
    refine lv_lload_n hx hb dN_sumOrProduct_32 rfl (lv_at hl 1 rfl) ?_
    refine lv_lload_n hx hb dN_sumOrProduct_33 rfl (lv_at hl 2 rfl) ?_
    refine lv_lsub hx hb dN_sumOrProduct_34 ?_
    refine nz_eql (zSum_8 hq1) ?_
    exact W.lret (v := lN (zSum 8 p1 q1)) hx hb hr (fun t ht hW => ⟨_, rfl, rfl, ht⟩) (fun q h => nomatch h) dN_sumOrProduct_35
  · refine lv_lookup (tgt := 36) hx hb dN_sumOrProduct_1 (by decide) rfl (by decide) ?_
    refine lv_lload_n hx hb dN_sumOrProduct_36 rfl (lv_at hl 1 rfl) ?_
    refine lv_lload_n hx hb dN_sumOrProduct_37 rfl (lv_at hl 2 rfl) ?_
    refine lv_lmul hx hb dN_sumOrProduct_38 ?_
    refine nz_eql (zSum_9 p1 q1) ?_
    exact W.lret (v := lN (zSum 9 p1 q1)) hx hb hr (fun t ht hW => ⟨_, rfl, rfl, ht⟩) (fun q h => nomatch h) dN_sumOrProduct_39
set_option maxHeartbeats 4000000 in
set_option maxRecDepth 100000 in
theorem cN_divideSigned (l : Launch) (o : Nat) (ho : 10 ≤ o ∧ o ≤ 12) (P1 Q1 : Int64) (hq1 : ¬ Q1 = 0) : Met l yN_divideSigned (Cond.code yN_divideSigned bN_divideSigned 5 (some .long) :: nzG) ({ frames := 1, cells := 0, slots := 0, locals := 25 }) (va_Pc [.int (nI o), .long P1, .long Q1] (fun _ => True)) (vp_Sl (fun r => r = sDiv o P1 Q1)) 0 0 (fun _ => False) := by
  refine nz_of (own := RN) (by decide) rfl ?_
  intro p e s m args below meth c S hr hlocks _ hv9
  obtain ⟨rfl, -⟩ := hv9
  have hx := S.1
  have hb := S.2.1
  refine nz_entry (vs := [.int (nI o), .long P1, .long Q1]) (n := 5) (lv := [(0, .int (nI o)), (1, .long P1), (3, .long Q1)]) (Nat.le_of_ble_eq_true rfl) rfl (fun ls hl => ?_)
  refine lv_iload_n hx hb dN_divideSigned_0 rfl (lv_at hl 0 rfl) ?_
  rcases (show o = 10 ∨ o = 11 ∨ o = 12 by omega) with rfl | rfl | rfl
  · refine lv_lookup (tgt := 28) hx hb dN_divideSigned_1 (by decide) rfl (by decide) ?_
    refine lv_lload_n hx hb dN_divideSigned_28 rfl (lv_at hl 1 rfl) ?_
    refine lv_lload_n hx hb dN_divideSigned_29 rfl (lv_at hl 2 rfl) ?_
    refine lv_ldiv hx hb dN_divideSigned_30 hq1 ?_
    exact W.lret (v := P1 / Q1) hx hb hr (fun t ht hW => ⟨_, rfl, rfl, ht⟩) (fun q h => nomatch h) dN_divideSigned_31
  · refine lv_lookup (tgt := 32) hx hb dN_divideSigned_1 (by decide) rfl (by decide) ?_
    refine lv_lload_n hx hb dN_divideSigned_32 rfl (lv_at hl 1 rfl) ?_
    refine lv_lload_n hx hb dN_divideSigned_33 rfl (lv_at hl 2 rfl) ?_
    refine lv_lrem hx hb dN_divideSigned_34 hq1 ?_
    exact W.lret (v := P1 - P1 / Q1 * Q1) hx hb hr (fun t ht hW => ⟨_, rfl, rfl, ht⟩) (fun q h => nomatch h) dN_divideSigned_35
  · refine lv_lookup (tgt := 36) hx hb dN_divideSigned_1 (by decide) rfl (by decide) ?_
    refine lv_lload_n hx hb dN_divideSigned_36 rfl (lv_at hl 1 rfl) ?_
    refine lv_lload_n hx hb dN_divideSigned_37 rfl (lv_at hl 2 rfl) ?_
    refine nz_sl (As := [.long P1, .long Q1]) (rest := []) S (cM_floorModL l P1 Q1 hq1) kN_184 ⟨rfl, rfl, Nat.le_of_ble_eq_true rfl, Nat.le_of_ble_eq_true rfl⟩ ⟨Nat.zero_le _, Nat.zero_le _⟩ (fun _ _ _ _ h => h) (fun _ _ _ => trivial) rfl hl.1 rfl (Nat.le_of_ble_eq_true rfl) dN_divideSigned_38 (fun r1 er1 => ?_)
    subst er1
    exact W.lret (v := sFm P1 Q1) hx hb hr (fun t ht hW => ⟨_, rfl, rfl, ht⟩) (fun q h => nomatch h) dN_divideSigned_41
set_option maxHeartbeats 4000000 in
set_option maxRecDepth 100000 in
theorem cN_quotientUnsigned (l : Launch) (p1 q1 : Nat) (hp1 : p1 < 2 ^ 64) (hq0 : 0 < q1) (hq1 : q1 < 2 ^ 64) : Met l yN_quotientUnsigned (Cond.code yN_quotientUnsigned bN_quotientUnsigned 6 (some .long) :: nzG) ({ frames := 1, cells := 0, slots := 0, locals := 23 }) (va_Pc [.long (lN p1), .long (lN q1)] (fun _ => True)) (vp_Sl (fun r => r = lN (p1 / q1))) 0 0 (fun _ => False) := by
  refine nz_of (own := RN) (by decide) rfl ?_
  intro p e s m args below meth c S hr hlocks _ hv9
  obtain ⟨rfl, -⟩ := hv9
  have hx := S.1
  have hb := S.2.1
  refine nz_entry (vs := [.long (lN p1), .long (lN q1)]) (n := 6) (lv := [(0, .long (lN p1)), (2, .long (lN q1))]) (Nat.le_of_ble_eq_true rfl) rfl (fun ls hl => ?_)
  have hmo := lcmp_gt0 hq0 hq1
  refine lv_lload_n hx hb dN_quotientUnsigned_0 rfl (lv_at hl 1 rfl) ?_
  refine lv_lconst (v := 0) hx hb dN_quotientUnsigned_1 (by decide) ?_
  refine W.lcmp hx hb dN_quotientUnsigned_2 ?_
  refine lv_if_gt (tgt := 20) hx hb dN_quotientUnsigned_3 (by decide) (fun c1 => ?_) (fun c1 => ?_)
  · refine lv_lload_n hx hb dN_quotientUnsigned_20 rfl (lv_at hl 0 rfl) ?_
    refine lv_iconst (v := 1) hx hb dN_quotientUnsigned_21 (by decide) ?_
    have hql : q1 < 9223372036854775808 := hmo.mp c1
    refine lv_lushr (v := lN (p1 / 2)) hx hb dN_quotientUnsigned_22 (wb_shr (k := 1) hp1 (by decide)) ?_
    refine lv_lload_n hx hb dN_quotientUnsigned_23 rfl (lv_at hl 1 rfl) ?_
    refine lv_ldiv hx hb dN_quotientUnsigned_24 (fun q => absurd ((pk_lEQ (b := 0) hql (by decide)).mp q) (by omega)) ?_
    refine nz_eql (pk_lDiv (a := p1 / 2) (b := q1) (by omega) hq0 hql) ?_
    refine lv_iconst (v := 1) hx hb dN_quotientUnsigned_25 (by decide) ?_
    have hc1 := uq_le p1 q1
    refine lv_lshl (v := lN (p1 / 2 / q1 * 2)) hx hb dN_quotientUnsigned_26 (wb_shl (p1 / 2 / q1) (k := 1) (by decide)) ?_
    refine lv_lstore (lv' := [(4, .long (lN (p1 / 2 / q1 * 2))), (0, .long (lN p1)), (2, .long (lN q1))]) hx hb dN_quotientUnsigned_27 hl (by decide) rfl (fun ls hl => ?_)
    refine lv_lload_n hx hb dN_quotientUnsigned_29 rfl (lv_at hl 1 rfl) ?_
    refine lv_lload hx hb dN_quotientUnsigned_30 (lv_at hl 0 rfl) ?_
    refine lv_lload_n hx hb dN_quotientUnsigned_32 rfl (lv_at hl 2 rfl) ?_
    refine lv_lmul hx hb dN_quotientUnsigned_33 ?_
    refine nz_eql (lN_mul (p1 / 2 / q1 * 2) q1) ?_
    refine lv_lsub hx hb dN_quotientUnsigned_34 ?_
    refine nz_eql (lN_sub hc1) ?_
    refine lv_lload_n hx hb dN_quotientUnsigned_35 rfl (lv_at hl 2 rfl) ?_
    refine nz_si (As := [.long (lN (p1 - (p1 / 2 / q1 * 2) * q1)), .long (lN q1)]) (rest := []) S (cN_isBelowUnsigned l _ _ (by omega) hq1) kN_127 ⟨rfl, rfl, Nat.le_of_ble_eq_true rfl, Nat.le_of_ble_eq_true rfl⟩ ⟨Nat.zero_le _, Nat.zero_le _⟩ (fun _ _ _ _ h => h) (fun _ _ _ => trivial) rfl hl.1 rfl (Nat.le_of_ble_eq_true rfl) dN_quotientUnsigned_36 (fun r2 er2 => ?_)
    subst er2
    refine lv_if_eq (tgt := 47) hx hb dN_quotientUnsigned_39 (by decide) (fun c3 => ?_) (fun c3 => ?_)
    · refine lv_lload hx hb dN_quotientUnsigned_47 (lv_at hl 0 rfl) ?_
      refine lv_lconst (v := 1) hx hb dN_quotientUnsigned_49 (by decide) ?_
      refine lv_ladd hx hb dN_quotientUnsigned_50 ?_
      refine nz_eql (lN_1 (p1 / 2 / q1 * 2)) ?_
      exact W.lret (v := lN ((p1 / 2 / q1 * 2) + 1)) hx hb hr (fun t ht hW => ⟨_, rfl, by rw [uq_hi hq0 (fun z => absurd (by rw [if_pos z] at c3; exact c3) (by decide))], ht⟩) (fun q h => nomatch h) dN_quotientUnsigned_51
    · refine lv_lload hx hb dN_quotientUnsigned_42 (lv_at hl 0 rfl) ?_
      refine lv_goto (tgt := 51) hx hb dN_quotientUnsigned_44 (by decide) ?_
      exact W.lret (v := lN (p1 / 2 / q1 * 2)) hx hb hr (fun t ht hW => ⟨_, rfl, by rw [uq_lo hq0 (by rcases Nat.lt_or_ge (p1 - (p1 / 2 / q1 * 2) * q1) q1 with z | z; exact z; exact absurd (by rw [if_neg (by omega)]; rfl) c3)], ht⟩) (fun q h => nomatch h) dN_quotientUnsigned_51
  · refine lv_lload_n hx hb dN_quotientUnsigned_6 rfl (lv_at hl 0 rfl) ?_
    refine lv_lload_n hx hb dN_quotientUnsigned_7 rfl (lv_at hl 1 rfl) ?_
    refine nz_si (As := [.long (lN p1), .long (lN q1)]) (rest := []) S (cN_isBelowUnsigned l _ _ hp1 hq1) kN_127 ⟨rfl, rfl, Nat.le_of_ble_eq_true rfl, Nat.le_of_ble_eq_true rfl⟩ ⟨Nat.zero_le _, Nat.zero_le _⟩ (fun _ _ _ _ h => h) (fun _ _ _ => trivial) rfl hl.1 rfl (Nat.le_of_ble_eq_true rfl) dN_quotientUnsigned_8 (fun r4 er4 => ?_)
    subst er4
    refine lv_if_eq (tgt := 18) hx hb dN_quotientUnsigned_11 (by decide) (fun c5 => ?_) (fun c5 => ?_)
    · refine lv_lconst (v := 1) hx hb dN_quotientUnsigned_18 (by decide) ?_
      exact W.lret (v := 1) hx hb hr (fun t ht hW => ⟨_, rfl, by rw [show p1 / q1 = 1 from uq_1 hp1 (Nat.le_of_not_lt (fun q => c1 (hmo.mpr q))) (fun z => absurd (by rw [if_pos z] at c5; exact c5) (by decide))]; rfl, ht⟩) (fun q h => nomatch h) dN_quotientUnsigned_19
    · refine lv_lconst (v := 0) hx hb dN_quotientUnsigned_14 (by decide) ?_
      refine lv_goto (tgt := 19) hx hb dN_quotientUnsigned_15 (by decide) ?_
      exact W.lret (v := 0) hx hb hr (fun t ht hW => ⟨_, rfl, by rw [show p1 / q1 = 0 from Nat.div_eq_of_lt (by rcases Nat.lt_or_ge p1 q1 with z | z; exact z; exact absurd (by rw [if_neg (by omega)]; rfl) c5)]; rfl, ht⟩) (fun q h => nomatch h) dN_quotientUnsigned_19
set_option maxHeartbeats 4000000 in
set_option maxRecDepth 100000 in
theorem cN_divideUnsigned (l : Launch) (o : Nat) (ho : 10 ≤ o ∧ o ≤ 12) (p1 q1 : Nat) (hp1 : p1 < 2 ^ 64) (hq0 : 0 < q1) (hq1 : q1 < 2 ^ 64) : Met l yN_divideUnsigned (Cond.code yN_divideUnsigned bN_divideUnsigned 7 (some .long) :: nzG) ({ frames := 2, cells := 0, slots := 0, locals := 48 }) (va_Pc [.int (nI o), .long (lN p1), .long (lN q1)] (fun _ => True)) (vp_Sl (fun r => r = lN (if o = 10 then p1 / q1 else p1 % q1))) 0 0 (fun _ => False) := by
  refine nz_of (own := RN) (by decide) rfl ?_
  intro p e s m args below meth c S hr hlocks _ hv9
  obtain ⟨rfl, -⟩ := hv9
  have hx := S.1
  have hb := S.2.1
  refine nz_entry (vs := [.int (nI o), .long (lN p1), .long (lN q1)]) (n := 7) (lv := [(0, .int (nI o)), (1, .long (lN p1)), (3, .long (lN q1))]) (Nat.le_of_ble_eq_true rfl) rfl (fun ls hl => ?_)
  refine lv_lload_n hx hb dN_divideUnsigned_0 rfl (lv_at hl 1 rfl) ?_
  refine lv_lload_n hx hb dN_divideUnsigned_1 rfl (lv_at hl 2 rfl) ?_
  refine nz_sl (As := [.long (lN p1), .long (lN q1)]) (rest := []) S (cN_quotientUnsigned l p1 q1 hp1 hq0 hq1) kN_188 ⟨rfl, rfl, Nat.le_of_ble_eq_true rfl, Nat.le_of_ble_eq_true rfl⟩ ⟨Nat.zero_le _, Nat.zero_le _⟩ (fun _ _ _ _ h => h) (fun _ _ _ => trivial) rfl hl.1 rfl (Nat.le_of_ble_eq_true rfl) dN_divideUnsigned_2 (fun r1 er1 => ?_)
  subst er1
  refine lv_lstore (lv' := [(5, .long (lN (p1 / q1))), (0, .int (nI o)), (1, .long (lN p1)), (3, .long (lN q1))]) hx hb dN_divideUnsigned_5 hl (by decide) rfl (fun ls hl => ?_)
  refine lv_iload_n hx hb dN_divideUnsigned_7 rfl (lv_at hl 1 rfl) ?_
  refine lv_bipush (v := 10) hx hb dN_divideUnsigned_8 (by decide) ?_
  refine lv_icmp_ne (tgt := 18) hx hb dN_divideUnsigned_10 (by decide) (fun c2 => ?_) (fun c2 => ?_)
  · have mc2 : ¬ o = 10 := fun h => c2 ((nI_eq (a := o) (b := 10) (by omega) (by omega)).mpr h)
    refine lv_lload_n hx hb dN_divideUnsigned_18 rfl (lv_at hl 2 rfl) ?_
    refine lv_lload hx hb dN_divideUnsigned_19 (lv_at hl 0 rfl) ?_
    refine lv_lload_n hx hb dN_divideUnsigned_21 rfl (lv_at hl 3 rfl) ?_
    refine lv_lmul hx hb dN_divideUnsigned_22 ?_
    refine nz_eql (lN_mul (p1 / q1) q1) ?_
    refine lv_lsub hx hb dN_divideUnsigned_23 ?_
    refine nz_eql ((lN_sub (Nat.div_mul_le_self p1 q1)).trans (congrArg lN (show p1 - p1 / q1 * q1 = p1 % q1 by have := Nat.div_add_mod' p1 q1; omega))) ?_
    exact W.lret (v := lN (p1 % q1)) hx hb hr (fun t ht hW => ⟨_, rfl, by rw [if_neg mc2], ht⟩) (fun q h => nomatch h) dN_divideUnsigned_24
  · have mc2 : o = 10 := (nI_eq (a := o) (b := 10) (by omega) (by omega)).mp c2
    refine lv_lload hx hb dN_divideUnsigned_13 (lv_at hl 0 rfl) ?_
    refine lv_goto (tgt := 24) hx hb dN_divideUnsigned_15 (by decide) ?_
    exact W.lret (v := lN (p1 / q1)) hx hb hr (fun t ht hW => ⟨_, rfl, by rw [if_pos mc2], ht⟩) (fun q h => nomatch h) dN_divideUnsigned_24
end
section
set_option maxHeartbeats 4000000 in
set_option maxRecDepth 100000 in
theorem cN_calculate (l : Launch) (hfl : l.flags = pinnedFlags ++ [noTraceFlag]) (D : va_G) (cA cW : ClassId) (T : Nat → Nat) (hT : nvT T) (n : Nat → Nat) (g : Nat → Nat → Nat) (ok : nvOk n g) (o : Nat) (ho : 7 ≤ o ∧ o ≤ 12) (b1 : Nat) (hb1 : b1 < 2) (a : Nat) (ha : a < 16) (d : Nat) (hd : d < 16) : ny_Met l yN_calculate (Cond.code yN_calculate bN_calculate 10 none :: nzG) ({ frames := 7, cells := 1, slots := 6, locals := 110 }) (va_Pc [.ref (T 0), .int (nI o), .int (nI b1), .ref (T (2 + a)), .ref (T (2 + d))] (nmP D cA cW (nvW cA cW T n g))) (nxQ (fun v st t => v = none ∧ kCalc o b1 (g a) (n a) (g d) (n d) = 0 ∧ (fun H9 : Heap => ∃ n9 g9, nvU 17 n g 16 (nCalc o (g a) (n a) (g d) (n d)) (fCalc o b1 (g a) (n a) (g d) (n d)) n9 g9 ∧ va_P D vwCl (nvW cA cW T n9 g9) H9) t.heap ∧ va_F (nvA T) st t) (exK exI (kCalc o b1 (g a) (n a) (g d) (n d)))) 0 0 1 6 (nvA T) := by
  refine nz_ofT (own := RN) (by decide) rfl ?_
  intro p e s m args below meth c S hr hlocks hno hv9
  obtain ⟨rfl, hP, hK, hX⟩ := hv9
  have hob0 := nv_ob0 hK hP
  have hS : va_S (nvA T) s.heap s.heap [] := va_S.rf
  have hx := S.1
  have hb := S.2.1
  refine nz_entry (vs := [.ref (T 0), .int (nI o), .int (nI b1), .ref (T (2 + a)), .ref (T (2 + d))]) (n := 10) (lv := [(0, .ref (T 0)), (1, .int (nI o)), (2, .int (nI b1)), (3, .ref (T (2 + a))), (4, .ref (T (2 + d)))]) (Nat.le_of_ble_eq_true rfl) rfl (fun ls hl => ?_)
  have hna := ok.1 a
  have hnd := ok.1 d
  have hz0 := zLen_le o hna hnd
  have hp64 := zLong_lt b1 (g a) hna
  have hq64 := zLong_lt b1 (g d) hnd
  refine lv_iload_n hx hb dN_calculate_0 rfl (lv_at hl 1 rfl) ?_
  refine lv_aload_n hx hb dN_calculate_1 rfl (lv_at hl 3 rfl) ?_
  refine nm_getS S hX hK hP (Nat.lt_succ_of_lt ha) dN_calculate_2 ?_
  refine lv_aload hx hb dN_calculate_5 (lv_at hl 4 rfl) ?_
  refine nm_getS S hX hK hP (Nat.lt_succ_of_lt hd) dN_calculate_7 ?_
  refine nz_si (As := [.int (nI o), .int (nI (n a)), .int (nI (n d))]) (rest := []) S (cN_lengthOfResult l o ho (n a) (n d) hna hnd) kN_163 ⟨rfl, rfl, Nat.le_of_ble_eq_true rfl, Nat.le_of_ble_eq_true rfl⟩ ⟨Nat.zero_le _, Nat.zero_le _⟩ (fun _ _ _ _ h => h) (fun _ _ _ => trivial) rfl hl.1 rfl (Nat.le_of_ble_eq_true rfl) dN_calculate_10 (fun r1 er1 => ?_)
  subst er1
  refine lv_istore (lv' := [(5, .int (nI (zLen o (n a) (n d)))), (0, .ref (T 0)), (1, .int (nI o)), (2, .int (nI b1)), (3, .ref (T (2 + a))), (4, .ref (T (2 + d)))]) hx hb dN_calculate_13 hl (by decide) rfl (fun ls hl => ?_)
  refine lv_iload hx hb dN_calculate_15 (lv_at hl 0 rfl) ?_
  refine nx_sv (As := [.int (nI (zLen o (n a) (n d)))]) (rest := []) (post := ¬ lenB (nI (zLen o (n a) (n d)))) (exc := fun E => lenB (nI (zLen o (n a) (n d))) ∧ E = eIA) S (cN_requireLength l hfl (nI (zLen o (n a) (n d)))) kN_24 ⟨rfl, rfl, Nat.le_of_ble_eq_true rfl, Nat.le_of_ble_eq_true rfl⟩ ⟨Nat.le_of_ble_eq_true rfl, Nat.le_of_ble_eq_true rfl⟩ nmX.bl (hX.at rfl) rfl hl.1 rfl (Nat.le_of_ble_eq_true rfl) dN_calculate_17 hno hlocks (fun E h => exK_of (k := 2) (if_pos (lenB_of (by omega) h.1)) (by decide) h.2) (fun q2 => ?_)
  have hz : zLen o (n a) (n d) ≤ 64 := lenB_no (by omega) q2
  refine lv_aload_n hx hb dN_calculate_20 rfl (lv_at hl 4 rfl) ?_
  refine nz_vi (As := []) (rest := []) S (c_Word_counts l D cA cW T hT n g a (Nat.lt_succ_of_lt ha) ok.2 (ok.1 a)) kN_124 ⟨rfl, rfl, Nat.le_of_ble_eq_true rfl, Nat.le_of_ble_eq_true rfl⟩ ⟨Nat.zero_le _, Nat.zero_le _⟩ nvP.bl (nv_ob hK hP (Nat.lt_succ_of_lt ha)) (nvP.to hP hK) rfl hl.1 rfl (Nat.le_of_ble_eq_true rfl) dN_calculate_21 (fun r3 er3 => ?_)
  subst er3
  refine lv_if_eq (tgt := 35) hx hb dN_calculate_24 (by decide) (fun c4 => ?_) (fun c4 => ?_)
  · refine lv_aload_n hx hb dN_calculate_35 rfl (lv_at hl 1 rfl) ?_
    refine nm_getA S hK hP dN_calculate_36 ?_
    refine lv_aload_n hx hb dN_calculate_39 rfl (lv_at hl 4 rfl) ?_
    refine nm_getS S hX hK hP (Nat.lt_succ_of_lt ha) dN_calculate_40 ?_
    refine lv_if_eq (tgt := 54) hx hb dN_calculate_43 (by decide) (fun c5 => ?_) (fun c5 => ?_)
    · have mc5 : (n a) = 0 := (nI_eq (a := (n a)) (b := 0) (by omega) (by omega)).mp c5
      refine lv_iconst (v := 0) hx hb dN_calculate_54 (by decide) ?_
      refine lv_goto (tgt := 60) hx hb dN_calculate_55 (by decide) ?_
      refine lv_iconst (v := 1) hx hb dN_calculate_60 (by decide) ?_
      refine nv_call (As := [.int 0, .int 1]) (rest := []) S (c_Word_become l D cA cW T hT n g 16 (by decide) 0 (by omega) 1) kN_30 ⟨rfl, rfl, Nat.le_of_ble_eq_true rfl, Nat.le_of_ble_eq_true rfl⟩ ⟨Nat.zero_le _, Nat.zero_le _⟩ (nv_ob hK hP (by decide)) hP hK hS rfl hl.1 rfl (Nat.le_of_ble_eq_true rfl) dN_calculate_61 (fun H locs hP hS => ?_)
      refine ny_ret ?_
      exact W.vret hx hb hr (fun t ht hW => ⟨rfl, (by unfold kCalc; rw [if_neg (by omega), if_neg (fun q => zCnt_n c4 q.1)]), ⟨_, _, nvU_eq (nvU_lay (F := fun _ => 1) (N := 0) ok (by omega) (fun _ _ => (by decide : (1 : Nat) < 9))) (by unfold nCalc; rw [if_neg (fun q => zCnt_n c4 q.1), if_pos (by omega)]) (fun k _ => by unfold fCalc; rw [if_neg (fun q => zCnt_n c4 q.1)]), by rw [ht]; exact hP⟩, hS.F ht⟩) hS.2.2 dN_calculate_64
    · have mc5 : ¬ (n a) = 0 := fun h => c5 ((nI_eq (a := (n a)) (b := 0) (by omega) (by omega)).mpr h)
      refine lv_aload hx hb dN_calculate_46 (lv_at hl 5 rfl) ?_
      refine nm_getS S hX hK hP (Nat.lt_succ_of_lt hd) dN_calculate_48 ?_
      refine lv_if_ne (tgt := 58) hx hb dN_calculate_51 (by decide) (fun c6 => ?_) (fun c6 => ?_)
      · have mc6 : ¬ (n d) = 0 := fun h => c6 ((nI_eq (a := (n d)) (b := 0) (by omega) (by omega)).mpr h)
        refine lv_iload hx hb dN_calculate_58 (lv_at hl 0 rfl) ?_
        refine lv_iconst (v := 1) hx hb dN_calculate_60 (by decide) ?_
        refine nv_call (As := [.int (nI (zLen o (n a) (n d))), .int 1]) (rest := []) S (c_Word_become l D cA cW T hT n g 16 (by decide) (zLen o (n a) (n d)) (by omega) 1) kN_30 ⟨rfl, rfl, Nat.le_of_ble_eq_true rfl, Nat.le_of_ble_eq_true rfl⟩ ⟨Nat.zero_le _, Nat.zero_le _⟩ (nv_ob hK hP (by decide)) hP hK hS rfl hl.1 rfl (Nat.le_of_ble_eq_true rfl) dN_calculate_61 (fun H locs hP hS => ?_)
        refine ny_ret ?_
        exact W.vret hx hb hr (fun t ht hW => ⟨rfl, (by unfold kCalc; rw [if_neg (by omega), if_neg (fun q => zCnt_n c4 q.1)]), ⟨_, _, nvU_eq (nvU_lay (F := fun _ => 1) (N := (zLen o (n a) (n d))) ok (by omega) (fun _ _ => (by decide : (1 : Nat) < 9))) (by unfold nCalc; rw [if_neg (fun q => zCnt_n c4 q.1), if_neg (by omega)]) (fun k _ => by unfold fCalc; rw [if_neg (fun q => zCnt_n c4 q.1)]), by rw [ht]; exact hP⟩, hS.F ht⟩) hS.2.2 dN_calculate_64
      · have mc6 : (n d) = 0 := (nI_eq (a := (n d)) (b := 0) (by omega) (by omega)).mp c6
        refine lv_iconst (v := 0) hx hb dN_calculate_54 (by decide) ?_
        refine lv_goto (tgt := 60) hx hb dN_calculate_55 (by decide) ?_
        refine lv_iconst (v := 1) hx hb dN_calculate_60 (by decide) ?_
        refine nv_call (As := [.int 0, .int 1]) (rest := []) S (c_Word_become l D cA cW T hT n g 16 (by decide) 0 (by omega) 1) kN_30 ⟨rfl, rfl, Nat.le_of_ble_eq_true rfl, Nat.le_of_ble_eq_true rfl⟩ ⟨Nat.zero_le _, Nat.zero_le _⟩ (nv_ob hK hP (by decide)) hP hK hS rfl hl.1 rfl (Nat.le_of_ble_eq_true rfl) dN_calculate_61 (fun H locs hP hS => ?_)
        refine ny_ret ?_
        exact W.vret hx hb hr (fun t ht hW => ⟨rfl, (by unfold kCalc; rw [if_neg (by omega), if_neg (fun q => zCnt_n c4 q.1)]), ⟨_, _, nvU_eq (nvU_lay (F := fun _ => 1) (N := 0) ok (by omega) (fun _ _ => (by decide : (1 : Nat) < 9))) (by unfold nCalc; rw [if_neg (fun q => zCnt_n c4 q.1), if_pos (by omega)]) (fun k _ => by unfold fCalc; rw [if_neg (fun q => zCnt_n c4 q.1)]), by rw [ht]; exact hP⟩, hS.F ht⟩) hS.2.2 dN_calculate_64
  · refine lv_aload hx hb dN_calculate_27 (lv_at hl 5 rfl) ?_
    refine nz_vi (As := []) (rest := []) S (c_Word_counts l D cA cW T hT n g d (Nat.lt_succ_of_lt hd) ok.2 (ok.1 d)) kN_124 ⟨rfl, rfl, Nat.le_of_ble_eq_true rfl, Nat.le_of_ble_eq_true rfl⟩ ⟨Nat.zero_le _, Nat.zero_le _⟩ nvP.bl (nv_ob hK hP (Nat.lt_succ_of_lt hd)) (nvP.to hP hK) rfl hl.1 rfl (Nat.le_of_ble_eq_true rfl) dN_calculate_29 (fun r7 er7 => ?_)
    subst er7
    refine lv_if_ne (tgt := 65) hx hb dN_calculate_32 (by decide) (fun c8 => ?_) (fun c8 => ?_)
    · refine lv_aload_n hx hb dN_calculate_65 rfl (lv_at hl 4 rfl) ?_
      refine lv_iload_n hx hb dN_calculate_66 rfl (lv_at hl 3 rfl) ?_
      refine nz_vl (As := [.int (nI b1)]) (rest := []) S (c_Word_asLong l D cA cW T hT n g a (Nat.lt_succ_of_lt ha) ok.2 (ok.1 a) b1 hb1) kN_60 ⟨rfl, rfl, Nat.le_of_ble_eq_true rfl, Nat.le_of_ble_eq_true rfl⟩ ⟨Nat.zero_le _, Nat.zero_le _⟩ nvP.bl (nv_ob hK hP (Nat.lt_succ_of_lt ha)) (nvP.to hP hK) rfl hl.1 rfl (Nat.le_of_ble_eq_true rfl) dN_calculate_67 (fun r9 er9 => ?_)
      subst er9
      refine lv_lstore (lv' := [(6, .long (lN (zLong b1 (g a) (n a)))), (5, .int (nI (zLen o (n a) (n d)))), (0, .ref (T 0)), (1, .int (nI o)), (2, .int (nI b1)), (3, .ref (T (2 + a))), (4, .ref (T (2 + d)))]) hx hb dN_calculate_70 hl (by decide) rfl (fun ls hl => ?_)
      refine lv_aload hx hb dN_calculate_72 (lv_at hl 6 rfl) ?_
      refine lv_iload_n hx hb dN_calculate_74 rfl (lv_at hl 4 rfl) ?_
      refine nz_vl (As := [.int (nI b1)]) (rest := []) S (c_Word_asLong l D cA cW T hT n g d (Nat.lt_succ_of_lt hd) ok.2 (ok.1 d) b1 hb1) kN_60 ⟨rfl, rfl, Nat.le_of_ble_eq_true rfl, Nat.le_of_ble_eq_true rfl⟩ ⟨Nat.zero_le _, Nat.zero_le _⟩ nvP.bl (nv_ob hK hP (Nat.lt_succ_of_lt hd)) (nvP.to hP hK) rfl hl.1 rfl (Nat.le_of_ble_eq_true rfl) dN_calculate_75 (fun r10 er10 => ?_)
      subst er10
      refine lv_lstore (lv' := [(8, .long (lN (zLong b1 (g d) (n d)))), (6, .long (lN (zLong b1 (g a) (n a)))), (5, .int (nI (zLen o (n a) (n d)))), (0, .ref (T 0)), (1, .int (nI o)), (2, .int (nI b1)), (3, .ref (T (2 + a))), (4, .ref (T (2 + d)))]) hx hb dN_calculate_78 hl (by decide) rfl (fun ls hl => ?_)
      refine lv_iload_n hx hb dN_calculate_80 rfl (lv_at hl 4 rfl) ?_
      refine lv_bipush (v := 10) hx hb dN_calculate_81 (by decide) ?_
      refine lv_icmp_ge (tgt := 104) hx hb dN_calculate_83 (by decide) (fun c11 => ?_) (fun c11 => ?_)
      · have mc11 : 10 ≤ o := (nI_leI (a := 10) (b := o) (by omega) (by omega)).mp c11
        refine lv_lload hx hb dN_calculate_104 (lv_at hl 0 rfl) ?_
        refine lv_lconst (v := 0) hx hb dN_calculate_106 (by decide) ?_
        refine W.lcmp hx hb dN_calculate_107 ?_
        refine lv_if_ne (tgt := 121) hx hb dN_calculate_108 (by decide) (fun c12 => ?_) (fun c12 => ?_)
        · refine lv_aload_n hx hb dN_calculate_121 rfl (lv_at hl 3 rfl) ?_
          refine nm_getA S hK hP dN_calculate_122 ?_
          refine lv_iload hx hb dN_calculate_125 (lv_at hl 2 rfl) ?_
          refine lv_iload_n hx hb dN_calculate_127 rfl (lv_at hl 5 rfl) ?_
          refine lv_if_eq (tgt := 142) hx hb dN_calculate_128 (by decide) (fun c13 => ?_) (fun c13 => ?_)
          · have mc13 : b1 = 0 := (nI_eq (a := b1) (b := 0) (by omega) (by omega)).mp c13
            refine lv_iload_n hx hb dN_calculate_142 rfl (lv_at hl 4 rfl) ?_
            refine lv_lload hx hb dN_calculate_143 (lv_at hl 1 rfl) ?_
            refine lv_lload hx hb dN_calculate_145 (lv_at hl 0 rfl) ?_
            refine nz_sl (As := [.int (nI o), .long (lN (zLong b1 (g a) (n a))), .long (lN (zLong b1 (g d) (n d)))]) (rest := [.int (nI (zLen o (n a) (n d))), .ref (T (2 + 16))]) S (cN_divideUnsigned l o (by omega) (zLong b1 (g a) (n a)) (zLong b1 (g d) (n d)) hp64 (Nat.pos_of_ne_zero (fun q => c12 ((lcmp_z hq64).mpr q))) hq64) kN_178 ⟨rfl, rfl, Nat.le_of_ble_eq_true rfl, Nat.le_of_ble_eq_true rfl⟩ ⟨Nat.zero_le _, Nat.zero_le _⟩ (fun _ _ _ _ h => h) (fun _ _ _ => trivial) rfl hl.1 rfl (Nat.le_of_ble_eq_true rfl) dN_calculate_147 (fun r14 er14 => ?_)
            subst er14
            refine nz_eql (y := lN (zArith o b1 (zLong b1 (g a) (n a)) (zLong b1 (g d) (n d)))) (by rw [zArith, if_neg (show ¬ o < 10 by omega), zDiv, if_neg (show ¬ b1 = 1 by omega)]) ?_
            refine nv_call (As := [.int (nI (zLen o (n a) (n d))), .long (lN (zArith o b1 (zLong b1 (g a) (n a)) (zLong b1 (g d) (n d))))]) (rest := []) S (c_Word_hold l D cA cW T hT n g 16 (by decide) (zLen o (n a) (n d)) hz (zArith o b1 (zLong b1 (g a) (n a)) (zLong b1 (g d) (n d))) (by rw [zArith, if_neg (show ¬ o < 10 by omega)]; exact zDiv_lt hp64 (Nat.pos_of_ne_zero (fun q => c12 ((lcmp_z hq64).mpr q))) hq64)) kN_45 ⟨rfl, rfl, Nat.le_of_ble_eq_true rfl, Nat.le_of_ble_eq_true rfl⟩ ⟨Nat.zero_le _, Nat.zero_le _⟩ (nv_ob hK hP (by decide)) hP hK hS rfl hl.1 rfl (Nat.le_of_ble_eq_true rfl) dN_calculate_150 (fun H locs hP hS => ?_)
            refine ny_ret ?_
            exact W.vret hx hb hr (fun t ht hW => ⟨rfl, (by unfold kCalc; rw [if_neg (by omega), if_neg (fun q => c12 ((lcmp_z hq64).mpr q.2.2.2))]), ⟨_, _, nvU_eq (nvU_lay ok hz (fun k _ => zPut_lt _ k)) (by unfold nCalc; rw [if_pos ⟨zCnt_y c4, zCnt_y c8⟩]) (fun k _ => by unfold fCalc; rw [if_pos ⟨zCnt_y c4, zCnt_y c8⟩]), by rw [ht]; exact hP⟩, hS.F ht⟩) hS.2.2 dN_calculate_153
          · have mc13 : ¬ b1 = 0 := fun h => c13 ((nI_eq (a := b1) (b := 0) (by omega) (by omega)).mpr h)
            refine lv_iload_n hx hb dN_calculate_131 rfl (lv_at hl 4 rfl) ?_
            refine lv_lload hx hb dN_calculate_132 (lv_at hl 1 rfl) ?_
            refine lv_lload hx hb dN_calculate_134 (lv_at hl 0 rfl) ?_
            refine nz_sl (As := [.int (nI o), .long (lN (zLong b1 (g a) (n a))), .long (lN (zLong b1 (g d) (n d)))]) (rest := [.int (nI (zLen o (n a) (n d))), .ref (T (2 + 16))]) S (cN_divideSigned l o (by omega) (lN (zLong b1 (g a) (n a))) (lN (zLong b1 (g d) (n d))) (lN_n0 hq64 (fun q => c12 ((lcmp_z hq64).mpr q)))) kN_175 ⟨rfl, rfl, Nat.le_of_ble_eq_true rfl, Nat.le_of_ble_eq_true rfl⟩ ⟨Nat.zero_le _, Nat.zero_le _⟩ (fun _ _ _ _ h => h) (fun _ _ _ => trivial) rfl hl.1 rfl (Nat.le_of_ble_eq_true rfl) dN_calculate_136 (fun r15 er15 => ?_)
            subst er15
            refine nz_eql (y := lN (zArith o b1 (zLong b1 (g a) (n a)) (zLong b1 (g d) (n d)))) (by rw [zArith, if_neg (show ¬ o < 10 by omega), zDiv, if_pos (show b1 = 1 by omega), lN_zU]) ?_
            refine lv_goto (tgt := 150) hx hb dN_calculate_139 (by decide) ?_
            refine nv_call (As := [.int (nI (zLen o (n a) (n d))), .long (lN (zArith o b1 (zLong b1 (g a) (n a)) (zLong b1 (g d) (n d))))]) (rest := []) S (c_Word_hold l D cA cW T hT n g 16 (by decide) (zLen o (n a) (n d)) hz (zArith o b1 (zLong b1 (g a) (n a)) (zLong b1 (g d) (n d))) (by rw [zArith, if_neg (show ¬ o < 10 by omega)]; exact zDiv_lt hp64 (Nat.pos_of_ne_zero (fun q => c12 ((lcmp_z hq64).mpr q))) hq64)) kN_45 ⟨rfl, rfl, Nat.le_of_ble_eq_true rfl, Nat.le_of_ble_eq_true rfl⟩ ⟨Nat.zero_le _, Nat.zero_le _⟩ (nv_ob hK hP (by decide)) hP hK hS rfl hl.1 rfl (Nat.le_of_ble_eq_true rfl) dN_calculate_150 (fun H locs hP hS => ?_)
            refine ny_ret ?_
            exact W.vret hx hb hr (fun t ht hW => ⟨rfl, (by unfold kCalc; rw [if_neg (by omega), if_neg (fun q => c12 ((lcmp_z hq64).mpr q.2.2.2))]), ⟨_, _, nvU_eq (nvU_lay ok hz (fun k _ => zPut_lt _ k)) (by unfold nCalc; rw [if_pos ⟨zCnt_y c4, zCnt_y c8⟩]) (fun k _ => by unfold fCalc; rw [if_pos ⟨zCnt_y c4, zCnt_y c8⟩]), by rw [ht]; exact hP⟩, hS.F ht⟩) hS.2.2 dN_calculate_153
        · exact nm_throw (E := eAR) (tx := "division by zero") (ik := 170) (is := 172) (ic := 174) S hfl hX (by decide) (by decide +kernel) kcl_170 kin_eAR (by decide) kat_eAR hl.1 ⟨(Nat.le_of_ble_eq_true rfl), (Nat.le_of_ble_eq_true rfl), (Nat.le_of_ble_eq_true rfl), (Nat.le_of_ble_eq_true rfl)⟩ (Nat.le_of_ble_eq_true rfl) hlocks hno dN_calculate_111 dN_calculate_114 dN_calculate_115 dN_calculate_117 dN_calculate_120 (fun t q hW h => ⟨eAR, exK_of (k := 3) (by unfold kCalc; rw [if_neg (by omega), if_pos ⟨zCnt_y c4, zCnt_y c8, mc11, (lcmp_z hq64).mp c12⟩]) (by decide) rfl, h⟩)
      · have mc11 : o < 10 := Nat.lt_of_not_le (fun h => c11 ((nI_leI (a := 10) (b := o) (by omega) (by omega)).mpr h))
        refine lv_aload_n hx hb dN_calculate_86 rfl (lv_at hl 3 rfl) ?_
        refine nm_getA S hK hP dN_calculate_87 ?_
        refine lv_iload hx hb dN_calculate_90 (lv_at hl 2 rfl) ?_
        refine lv_iload_n hx hb dN_calculate_92 rfl (lv_at hl 4 rfl) ?_
        refine lv_lload hx hb dN_calculate_93 (lv_at hl 1 rfl) ?_
        refine lv_lload hx hb dN_calculate_95 (lv_at hl 0 rfl) ?_
        refine nz_sl (As := [.int (nI o), .long (lN (zLong b1 (g a) (n a))), .long (lN (zLong b1 (g d) (n d)))]) (rest := [.int (nI (zLen o (n a) (n d))), .ref (T (2 + 16))]) S (cN_sumOrProduct l o (by omega) (zLong b1 (g a) (n a)) (zLong b1 (g d) (n d)) hq64) kN_166 ⟨rfl, rfl, Nat.le_of_ble_eq_true rfl, Nat.le_of_ble_eq_true rfl⟩ ⟨Nat.zero_le _, Nat.zero_le _⟩ (fun _ _ _ _ h => h) (fun _ _ _ => trivial) rfl hl.1 rfl (Nat.le_of_ble_eq_true rfl) dN_calculate_97 (fun r16 er16 => ?_)
        subst er16
        refine nz_eql (y := lN (zArith o b1 (zLong b1 (g a) (n a)) (zLong b1 (g d) (n d)))) (by rw [zArith, if_pos (show o < 10 by omega)]) ?_
        refine nv_call (As := [.int (nI (zLen o (n a) (n d))), .long (lN (zArith o b1 (zLong b1 (g a) (n a)) (zLong b1 (g d) (n d))))]) (rest := []) S (c_Word_hold l D cA cW T hT n g 16 (by decide) (zLen o (n a) (n d)) hz (zArith o b1 (zLong b1 (g a) (n a)) (zLong b1 (g d) (n d))) (by rw [zArith, if_pos (show o < 10 by omega)]; exact zSum_lt _ _ _)) kN_45 ⟨rfl, rfl, Nat.le_of_ble_eq_true rfl, Nat.le_of_ble_eq_true rfl⟩ ⟨Nat.zero_le _, Nat.zero_le _⟩ (nv_ob hK hP (by decide)) hP hK hS rfl hl.1 rfl (Nat.le_of_ble_eq_true rfl) dN_calculate_100 (fun H locs hP hS => ?_)
        refine ny_ret ?_
        exact W.vret hx hb hr (fun t ht hW => ⟨rfl, (by unfold kCalc; rw [if_neg (by omega), if_neg (fun q => absurd q.2.2.1 (by omega))]), ⟨_, _, nvU_eq (nvU_lay ok hz (fun k _ => zPut_lt _ k)) (by unfold nCalc; rw [if_pos ⟨zCnt_y c4, zCnt_y c8⟩]) (fun k _ => by unfold fCalc; rw [if_pos ⟨zCnt_y c4, zCnt_y c8⟩]), by rw [ht]; exact hP⟩, hS.F ht⟩) hS.2.2 dN_calculate_103
    · refine lv_aload_n hx hb dN_calculate_35 rfl (lv_at hl 1 rfl) ?_
      refine nm_getA S hK hP dN_calculate_36 ?_
      refine lv_aload_n hx hb dN_calculate_39 rfl (lv_at hl 4 rfl) ?_
      refine nm_getS S hX hK hP (Nat.lt_succ_of_lt ha) dN_calculate_40 ?_
      refine lv_if_eq (tgt := 54) hx hb dN_calculate_43 (by decide) (fun c17 => ?_) (fun c17 => ?_)
      · have mc17 : (n a) = 0 := (nI_eq (a := (n a)) (b := 0) (by omega) (by omega)).mp c17
        refine lv_iconst (v := 0) hx hb dN_calculate_54 (by decide) ?_
        refine lv_goto (tgt := 60) hx hb dN_calculate_55 (by decide) ?_
        refine lv_iconst (v := 1) hx hb dN_calculate_60 (by decide) ?_
        refine nv_call (As := [.int 0, .int 1]) (rest := []) S (c_Word_become l D cA cW T hT n g 16 (by decide) 0 (by omega) 1) kN_30 ⟨rfl, rfl, Nat.le_of_ble_eq_true rfl, Nat.le_of_ble_eq_true rfl⟩ ⟨Nat.zero_le _, Nat.zero_le _⟩ (nv_ob hK hP (by decide)) hP hK hS rfl hl.1 rfl (Nat.le_of_ble_eq_true rfl) dN_calculate_61 (fun H locs hP hS => ?_)
        refine ny_ret ?_
        exact W.vret hx hb hr (fun t ht hW => ⟨rfl, (by unfold kCalc; rw [if_neg (by omega), if_neg (fun q => zCnt_n c8 q.2.1)]), ⟨_, _, nvU_eq (nvU_lay (F := fun _ => 1) (N := 0) ok (by omega) (fun _ _ => (by decide : (1 : Nat) < 9))) (by unfold nCalc; rw [if_neg (fun q => zCnt_n c8 q.2), if_pos (by omega)]) (fun k _ => by unfold fCalc; rw [if_neg (fun q => zCnt_n c8 q.2)]), by rw [ht]; exact hP⟩, hS.F ht⟩) hS.2.2 dN_calculate_64
      · have mc17 : ¬ (n a) = 0 := fun h => c17 ((nI_eq (a := (n a)) (b := 0) (by omega) (by omega)).mpr h)
        refine lv_aload hx hb dN_calculate_46 (lv_at hl 5 rfl) ?_
        refine nm_getS S hX hK hP (Nat.lt_succ_of_lt hd) dN_calculate_48 ?_
        refine lv_if_ne (tgt := 58) hx hb dN_calculate_51 (by decide) (fun c18 => ?_) (fun c18 => ?_)
        · have mc18 : ¬ (n d) = 0 := fun h => c18 ((nI_eq (a := (n d)) (b := 0) (by omega) (by omega)).mpr h)
          refine lv_iload hx hb dN_calculate_58 (lv_at hl 0 rfl) ?_
          refine lv_iconst (v := 1) hx hb dN_calculate_60 (by decide) ?_
          refine nv_call (As := [.int (nI (zLen o (n a) (n d))), .int 1]) (rest := []) S (c_Word_become l D cA cW T hT n g 16 (by decide) (zLen o (n a) (n d)) (by omega) 1) kN_30 ⟨rfl, rfl, Nat.le_of_ble_eq_true rfl, Nat.le_of_ble_eq_true rfl⟩ ⟨Nat.zero_le _, Nat.zero_le _⟩ (nv_ob hK hP (by decide)) hP hK hS rfl hl.1 rfl (Nat.le_of_ble_eq_true rfl) dN_calculate_61 (fun H locs hP hS => ?_)
          refine ny_ret ?_
          exact W.vret hx hb hr (fun t ht hW => ⟨rfl, (by unfold kCalc; rw [if_neg (by omega), if_neg (fun q => zCnt_n c8 q.2.1)]), ⟨_, _, nvU_eq (nvU_lay (F := fun _ => 1) (N := (zLen o (n a) (n d))) ok (by omega) (fun _ _ => (by decide : (1 : Nat) < 9))) (by unfold nCalc; rw [if_neg (fun q => zCnt_n c8 q.2), if_neg (by omega)]) (fun k _ => by unfold fCalc; rw [if_neg (fun q => zCnt_n c8 q.2)]), by rw [ht]; exact hP⟩, hS.F ht⟩) hS.2.2 dN_calculate_64
        · have mc18 : (n d) = 0 := (nI_eq (a := (n d)) (b := 0) (by omega) (by omega)).mp c18
          refine lv_iconst (v := 0) hx hb dN_calculate_54 (by decide) ?_
          refine lv_goto (tgt := 60) hx hb dN_calculate_55 (by decide) ?_
          refine lv_iconst (v := 1) hx hb dN_calculate_60 (by decide) ?_
          refine nv_call (As := [.int 0, .int 1]) (rest := []) S (c_Word_become l D cA cW T hT n g 16 (by decide) 0 (by omega) 1) kN_30 ⟨rfl, rfl, Nat.le_of_ble_eq_true rfl, Nat.le_of_ble_eq_true rfl⟩ ⟨Nat.zero_le _, Nat.zero_le _⟩ (nv_ob hK hP (by decide)) hP hK hS rfl hl.1 rfl (Nat.le_of_ble_eq_true rfl) dN_calculate_61 (fun H locs hP hS => ?_)
          refine ny_ret ?_
          exact W.vret hx hb hr (fun t ht hW => ⟨rfl, (by unfold kCalc; rw [if_neg (by omega), if_neg (fun q => zCnt_n c8 q.2.1)]), ⟨_, _, nvU_eq (nvU_lay (F := fun _ => 1) (N := 0) ok (by omega) (fun _ _ => (by decide : (1 : Nat) < 9))) (by unfold nCalc; rw [if_neg (fun q => zCnt_n c8 q.2), if_pos (by omega)]) (fun k _ => by unfold fCalc; rw [if_neg (fun q => zCnt_n c8 q.2)]), by rw [ht]; exact hP⟩, hS.F ht⟩) hS.2.2 dN_calculate_64
set_option maxHeartbeats 4000000 in
set_option maxRecDepth 100000 in
theorem cN_operate (l : Launch) (hfl : l.flags = pinnedFlags ++ [noTraceFlag]) (D : va_G) (cA cW : ClassId) (T : Nat → Nat) (hT : nvT T) (n : Nat → Nat) (g : Nat → Nat → Nat) (ok : nvOk n g) (x1 : Int32) (b1 : Nat) (hb1 : b1 < 2) (x3 x4 x5 : Int32) : ny_Met l yN_operate (Cond.code yN_operate bN_operate 6 none :: nzG) ({ frames := 8, cells := 1, slots := 6, locals := 139 }) (va_Pc [.ref (T 0), .int x1, .int (nI b1), .int x3, .int x4, .int x5] (nmP D cA cW (nvW cA cW T n g))) (nxQ (fun v st t => v = none ∧ (kOperate n g b1 x1 x3 x4 x5) = 0 ∧ (fun H9 : Heap => ∃ n9 g9, nvU 16 n g (ix x5) (nOp (ix x1) (g (ix x3)) (n (ix x3)) (g (ix x4)) (n (ix x4))) (fOp (ix x1) b1 (g (ix x3)) (n (ix x3)) (g (ix x4)) (n (ix x4))) n9 g9 ∧ va_P D vwCl (nvW cA cW T n9 g9) H9) t.heap ∧ va_F (nvA T) st t) (exK exI (kOperate n g b1 x1 x3 x4 x5))) 0 0 1 6 (nvA T) := by
  refine nz_ofT (own := RN) (by decide) rfl ?_
  intro p e s m args below meth c S hr hlocks hno hv9
  obtain ⟨rfl, hP, hK, hX⟩ := hv9
  have hob0 := nv_ob0 hK hP
  have hS : va_S (nvA T) s.heap s.heap [] := va_S.rf
  have hx := S.1
  have hb := S.2.1
  refine nz_entry (vs := [.ref (T 0), .int x1, .int (nI b1), .int x3, .int x4, .int x5]) (n := 6) (lv := [(0, .ref (T 0)), (1, .int x1), (2, .int (nI b1)), (3, .int x3), (4, .int x4), (5, .int x5)]) (Nat.le_of_ble_eq_true rfl) rfl (fun ls hl => ?_)
  refine lv_iload_n hx hb dN_operate_0 rfl (lv_at hl 3 rfl) ?_
  refine nx_sv (As := [.int x3]) (rest := []) (post := ¬ plB x3) (exc := fun E => plB x3 ∧ E = eIO) S (cN_requirePlace l hfl x3) kN_20 ⟨rfl, rfl, Nat.le_of_ble_eq_true rfl, Nat.le_of_ble_eq_true rfl⟩ ⟨Nat.le_of_ble_eq_true rfl, Nat.le_of_ble_eq_true rfl⟩ nmX.bl (hX.at rfl) rfl hl.1 rfl (Nat.le_of_ble_eq_true rfl) dN_operate_1 hno hlocks (fun E h => exK_of (k := 1) (if_pos (Or.inl h.1)) (by decide) h.2) (fun q1 => ?_)
  refine lv_iload hx hb dN_operate_4 (lv_at hl 4 rfl) ?_
  refine nx_sv (As := [.int x4]) (rest := []) (post := ¬ plB x4) (exc := fun E => plB x4 ∧ E = eIO) S (cN_requirePlace l hfl x4) kN_20 ⟨rfl, rfl, Nat.le_of_ble_eq_true rfl, Nat.le_of_ble_eq_true rfl⟩ ⟨Nat.le_of_ble_eq_true rfl, Nat.le_of_ble_eq_true rfl⟩ nmX.bl (hX.at rfl) rfl hl.1 rfl (Nat.le_of_ble_eq_true rfl) dN_operate_6 hno hlocks (fun E h => exK_of (k := 1) (if_pos (Or.inr (Or.inl h.1))) (by decide) h.2) (fun q2 => ?_)
  refine lv_iload hx hb dN_operate_9 (lv_at hl 5 rfl) ?_
  refine nx_sv (As := [.int x5]) (rest := []) (post := ¬ plB x5) (exc := fun E => plB x5 ∧ E = eIO) S (cN_requirePlace l hfl x5) kN_20 ⟨rfl, rfl, Nat.le_of_ble_eq_true rfl, Nat.le_of_ble_eq_true rfl⟩ ⟨Nat.le_of_ble_eq_true rfl, Nat.le_of_ble_eq_true rfl⟩ nmX.bl (hX.at rfl) rfl hl.1 rfl (Nat.le_of_ble_eq_true rfl) dN_operate_11 hno hlocks (fun E h => exK_of (k := 1) (if_pos (Or.inr (Or.inr h.1))) (by decide) h.2) (fun q3 => ?_)
  obtain ⟨a, ha, rfl⟩ := plB_not q1
  have ea : ix (nI a) = a := ix_nI (by omega)
  obtain ⟨d, hd, rfl⟩ := plB_not q2
  have ed : ix (nI d) = d := ix_nI (by omega)
  obtain ⟨u, hu, rfl⟩ := plB_not q3
  have eu : ix (nI u) = u := ix_nI (by omega)
  refine lv_iload_n hx hb dN_operate_14 rfl (lv_at hl 1 rfl) ?_
  refine lv_if_lt (tgt := 24) hx hb dN_operate_15 (by decide) (fun c4 => ?_) (fun c4 => ?_)
  · exact nm_throw (E := eIA) (tx := "no such operation") (ik := 64) (is := 66) (ic := 68) S hfl hX (by decide) (by decide +kernel) kcl_64 kin_eIA (by decide) kat_eIA hl.1 ⟨(Nat.le_of_ble_eq_true rfl), (Nat.le_of_ble_eq_true rfl), (Nat.le_of_ble_eq_true rfl), (Nat.le_of_ble_eq_true rfl)⟩ (Nat.le_of_ble_eq_true rfl) hlocks hno dN_operate_24 dN_operate_27 dN_operate_28 dN_operate_30 dN_operate_33 (fun t q hW h => ⟨eIA, exK_of (k := 2) (by unfold kOperate; rw [if_neg (fun h => h.elim q1 (fun h => h.elim q2 q3)), if_pos (Or.inl c4)]) (by decide) rfl, h⟩)
  · refine lv_iload_n hx hb dN_operate_18 rfl (lv_at hl 1 rfl) ?_
    refine lv_bipush (v := 13) hx hb dN_operate_19 (by decide) ?_
    refine lv_icmp_le (tgt := 34) hx hb dN_operate_21 (by decide) (fun c5 => ?_) (fun c5 => ?_)
    · have hkd : ¬ (x1 < 0 ∨ 13 < x1) := fun h => h.elim c4 (fun q => Int32.not_lt.mpr c5 q)
      have hk0 : kOperate n g b1 x1 (nI a) (nI d) (nI u) = kOp (ix x1) b1 (g a) (n a) (g d) (n d) := by unfold kOperate; rw [if_neg (fun h => h.elim q1 (fun h => h.elim q2 q3)), if_neg hkd, ea, ed]
      obtain ⟨o, ho, rfl⟩ := in_not' (N := 13) rfl (by decide) hkd
      have eo : ix (nI o) = o := ix_nI (by omega)
      rw [eo] at hk0
      refine lv_iload_n hx hb dN_operate_34 rfl (lv_at hl 1 rfl) ?_
      refine lv_bipush (v := 6) hx hb dN_operate_35 (by decide) ?_
      refine lv_icmp_gt (tgt := 61) hx hb dN_operate_37 (by decide) (fun c6 => ?_) (fun c6 => ?_)
      · have mc6 : 6 < o := (nI_ltI (a := 6) (b := o) (by omega) (by omega)).mp c6
        refine lv_iload_n hx hb dN_operate_61 rfl (lv_at hl 1 rfl) ?_
        refine lv_bipush (v := 13) hx hb dN_operate_62 (by decide) ?_
        refine lv_icmp_ne (tgt := 87) hx hb dN_operate_64 (by decide) (fun c7 => ?_) (fun c7 => ?_)
        · have mc7 : ¬ o = 13 := fun h => c7 ((nI_eq (a := o) (b := 13) (by omega) (by omega)).mpr h)
          refine lv_aload_n hx hb dN_operate_87 rfl (lv_at hl 0 rfl) ?_
          refine lv_iload_n hx hb dN_operate_88 rfl (lv_at hl 1 rfl) ?_
          refine lv_iload_n hx hb dN_operate_89 rfl (lv_at hl 2 rfl) ?_
          refine lv_aload_n hx hb dN_operate_90 rfl (lv_at hl 0 rfl) ?_
          refine nm_getP S hK hP dN_operate_91 ?_
          refine lv_iload_n hx hb dN_operate_94 rfl (lv_at hl 3 rfl) ?_
          refine nm_ald (j := a) hx hb hK hP ha dN_operate_95 ?_
          refine lv_aload_n hx hb dN_operate_96 rfl (lv_at hl 0 rfl) ?_
          refine nm_getP S hK hP dN_operate_97 ?_
          refine lv_iload hx hb dN_operate_100 (lv_at hl 4 rfl) ?_
          refine nm_ald (j := d) hx hb hK hP hd dN_operate_102 ?_
          refine nx_mv (B := fun H9 : Heap => ∃ n9 g9, nvU 17 n g 16 (nCalc o (g a) (n a) (g d) (n d)) (fCalc o b1 (g a) (n a) (g d) (n d)) n9 g9 ∧ va_P D vwCl (nvW cA cW T n9 g9) H9) (K := kCalc o b1 (g a) (n a) (g d) (n d) = 0) (As := [.int (nI o), .int (nI b1), .ref (T (2 + a)), .ref (T (2 + d))]) (rest := []) S (cN_calculate l hfl D cA cW T hT n g ok o (by omega) b1 hb1 a ha d hd) kN_77 ⟨rfl, rfl, Nat.le_of_ble_eq_true rfl, Nat.le_of_ble_eq_true rfl⟩ ⟨Nat.le_of_ble_eq_true rfl, Nat.le_of_ble_eq_true rfl⟩ nmP.bl hob0 (nmP.to hP hK hX) rfl hl.1 rfl (Nat.le_of_ble_eq_true rfl) dN_operate_103 hno hlocks (fun E h => ⟨by rw [hk0]; unfold kOp; rw [if_neg (show ¬ o ≤ 6 by omega), if_neg (show ¬ o = 13 by omega)]; exact h.1, by rw [hk0]; unfold kOp; rw [if_neg (show ¬ o ≤ 6 by omega), if_neg (show ¬ o = 13 by omega)]; exact h.2⟩) (fun H locs hk9 hB hS => ?_)
          obtain ⟨n1, g1, u1, hP⟩ := hB
          refine lv_aload_n hx hb dN_operate_106 rfl (lv_at hl 0 rfl) ?_
          refine nm_getP S hK hP dN_operate_107 ?_
          refine lv_iload hx hb dN_operate_110 (lv_at hl 5 rfl) ?_
          refine nm_ald (j := u) hx hb hK hP hu dN_operate_112 ?_
          refine lv_aload_n hx hb dN_operate_113 rfl (lv_at hl 0 rfl) ?_
          refine nm_getA S hK hP dN_operate_114 ?_
          refine nv_call (As := [.ref (T (2 + 16))]) (rest := []) S (c_Word_copy l D cA cW T hT n1 g1 u (Nat.lt_succ_of_lt hu) 16 (by decide) (by omega) (u1.2.2.2.1 16)) kN_81 ⟨rfl, rfl, Nat.le_of_ble_eq_true rfl, Nat.le_of_ble_eq_true rfl⟩ ⟨Nat.zero_le _, Nat.zero_le _⟩ (nv_ob hK hP (Nat.lt_succ_of_lt hu)) hP hK hS rfl hl.1 rfl (Nat.le_of_ble_eq_true rfl) dN_operate_117 (fun H locs hP hS => ?_)
          refine ny_ret ?_
          exact W.vret hx hb hr (fun t ht hW => ⟨rfl, (by rw [hk0]; unfold kOp; rw [if_neg (show ¬ o ≤ 6 by omega), if_neg (show ¬ o = 13 by omega)]; exact hk9), ⟨va_up n1 u (n1 16), va_up g1 u (pov (g1 16) (g1 u) 0 (n1 16)), by rw [eu]; exact nvU_eq (nvU_fin u1 hu) (by rw [ea, ed, eo]; unfold nOp; rw [if_neg (show ¬ o ≤ 6 by omega), if_neg (show ¬ o = 13 by omega)]) (by rw [ea, ed, eo]; unfold fOp; rw [if_neg (show ¬ o ≤ 6 by omega), if_neg (show ¬ o = 13 by omega)]; exact fun _ _ => rfl), by rw [ht]; exact hP⟩, hS.F ht⟩) hS.2.2 dN_operate_120
        · have mc7 : o = 13 := (nI_eq (a := o) (b := 13) (by omega) (by omega)).mp c7
          refine lv_aload_n hx hb dN_operate_67 rfl (lv_at hl 0 rfl) ?_
          refine lv_aload_n hx hb dN_operate_68 rfl (lv_at hl 0 rfl) ?_
          refine nm_getP S hK hP dN_operate_69 ?_
          refine lv_iload_n hx hb dN_operate_72 rfl (lv_at hl 3 rfl) ?_
          refine nm_ald (j := a) hx hb hK hP ha dN_operate_73 ?_
          refine lv_aload_n hx hb dN_operate_74 rfl (lv_at hl 0 rfl) ?_
          refine nm_getP S hK hP dN_operate_75 ?_
          refine lv_iload hx hb dN_operate_78 (lv_at hl 4 rfl) ?_
          refine nm_ald (j := d) hx hb hK hP hd dN_operate_80 ?_
          refine nx_mv (B := fun H9 : Heap => ∃ n9 g9, nvU 17 n g 16 (n a + n d) (fun k => if k < n d then g d k else g a (k - n d)) n9 g9 ∧ va_P D vwCl (nvW cA cW T n9 g9) H9) (K := n a + n d ≤ 64) (As := [.ref (T (2 + a)), .ref (T (2 + d))]) (rest := []) S (cN_setBehind l hfl D cA cW T hT n g ok a ha d hd) kN_73 ⟨rfl, rfl, Nat.le_of_ble_eq_true rfl, Nat.le_of_ble_eq_true rfl⟩ ⟨Nat.le_of_ble_eq_true rfl, Nat.le_of_ble_eq_true rfl⟩ nmP.bl hob0 (nmP.to hP hK hX) rfl hl.1 rfl (Nat.le_of_ble_eq_true rfl) dN_operate_81 hno hlocks (fun E h => exK_of (k := 2) (by rw [hk0]; unfold kOp; rw [if_neg (show ¬ o ≤ 6 by omega), if_pos mc7, if_neg h.1]) (by decide) h.2) (fun H locs hk9 hB hS => ?_)
          obtain ⟨n1, g1, u1, hP⟩ := hB
          refine lv_goto (tgt := 106) hx hb dN_operate_84 (by decide) ?_
          refine lv_aload_n hx hb dN_operate_106 rfl (lv_at hl 0 rfl) ?_
          refine nm_getP S hK hP dN_operate_107 ?_
          refine lv_iload hx hb dN_operate_110 (lv_at hl 5 rfl) ?_
          refine nm_ald (j := u) hx hb hK hP hu dN_operate_112 ?_
          refine lv_aload_n hx hb dN_operate_113 rfl (lv_at hl 0 rfl) ?_
          refine nm_getA S hK hP dN_operate_114 ?_
          refine nv_call (As := [.ref (T (2 + 16))]) (rest := []) S (c_Word_copy l D cA cW T hT n1 g1 u (Nat.lt_succ_of_lt hu) 16 (by decide) (by omega) (u1.2.2.2.1 16)) kN_81 ⟨rfl, rfl, Nat.le_of_ble_eq_true rfl, Nat.le_of_ble_eq_true rfl⟩ ⟨Nat.zero_le _, Nat.zero_le _⟩ (nv_ob hK hP (Nat.lt_succ_of_lt hu)) hP hK hS rfl hl.1 rfl (Nat.le_of_ble_eq_true rfl) dN_operate_117 (fun H locs hP hS => ?_)
          refine ny_ret ?_
          exact W.vret hx hb hr (fun t ht hW => ⟨rfl, (by rw [hk0]; unfold kOp; rw [if_neg (show ¬ o ≤ 6 by omega), if_pos mc7, if_pos hk9]), ⟨va_up n1 u (n1 16), va_up g1 u (pov (g1 16) (g1 u) 0 (n1 16)), by rw [eu]; exact nvU_eq (nvU_fin u1 hu) (by rw [ea, ed, eo]; unfold nOp; rw [if_neg (show ¬ o ≤ 6 by omega), if_pos mc7]) (by rw [ea, ed, eo]; unfold fOp; rw [if_neg (show ¬ o ≤ 6 by omega), if_pos mc7]; exact fun _ _ => rfl), by rw [ht]; exact hP⟩, hS.F ht⟩) hS.2.2 dN_operate_120
      · have mc6 : o ≤ 6 := Nat.le_of_not_lt (fun h => c6 ((nI_ltI (a := 6) (b := o) (by omega) (by omega)).mpr h))
        refine lv_aload_n hx hb dN_operate_40 rfl (lv_at hl 0 rfl) ?_
        refine lv_iload_n hx hb dN_operate_41 rfl (lv_at hl 1 rfl) ?_
        refine lv_aload_n hx hb dN_operate_42 rfl (lv_at hl 0 rfl) ?_
        refine nm_getP S hK hP dN_operate_43 ?_
        refine lv_iload_n hx hb dN_operate_46 rfl (lv_at hl 3 rfl) ?_
        refine nm_ald (j := a) hx hb hK hP ha dN_operate_47 ?_
        refine lv_aload_n hx hb dN_operate_48 rfl (lv_at hl 0 rfl) ?_
        refine nm_getP S hK hP dN_operate_49 ?_
        refine lv_iload hx hb dN_operate_52 (lv_at hl 4 rfl) ?_
        refine nm_ald (j := d) hx hb hK hP hd dN_operate_54 ?_
        refine nx_mv (B := fun H9 : Heap => ∃ n9 g9, nvU 17 n g 16 (n a) (fun k => zJoin o (g a k) (g d k)) n9 g9 ∧ va_P D vwCl (nvW cA cW T n9 g9) H9) (K := n a = n d) (As := [.int (nI o), .ref (T (2 + a)), .ref (T (2 + d))]) (rest := []) S (cN_joinElements l hfl D cA cW T hT n g ok o (by omega) a ha d hd) kN_69 ⟨rfl, rfl, Nat.le_of_ble_eq_true rfl, Nat.le_of_ble_eq_true rfl⟩ ⟨Nat.le_of_ble_eq_true rfl, Nat.le_of_ble_eq_true rfl⟩ nmP.bl hob0 (nmP.to hP hK hX) rfl hl.1 rfl (Nat.le_of_ble_eq_true rfl) dN_operate_55 hno hlocks (fun E h => exK_of (k := 2) (by rw [hk0]; unfold kOp; rw [if_pos mc6, if_neg h.1]) (by decide) h.2) (fun H locs hk9 hB hS => ?_)
        obtain ⟨n1, g1, u1, hP⟩ := hB
        refine lv_goto (tgt := 106) hx hb dN_operate_58 (by decide) ?_
        refine lv_aload_n hx hb dN_operate_106 rfl (lv_at hl 0 rfl) ?_
        refine nm_getP S hK hP dN_operate_107 ?_
        refine lv_iload hx hb dN_operate_110 (lv_at hl 5 rfl) ?_
        refine nm_ald (j := u) hx hb hK hP hu dN_operate_112 ?_
        refine lv_aload_n hx hb dN_operate_113 rfl (lv_at hl 0 rfl) ?_
        refine nm_getA S hK hP dN_operate_114 ?_
        refine nv_call (As := [.ref (T (2 + 16))]) (rest := []) S (c_Word_copy l D cA cW T hT n1 g1 u (Nat.lt_succ_of_lt hu) 16 (by decide) (by omega) (u1.2.2.2.1 16)) kN_81 ⟨rfl, rfl, Nat.le_of_ble_eq_true rfl, Nat.le_of_ble_eq_true rfl⟩ ⟨Nat.zero_le _, Nat.zero_le _⟩ (nv_ob hK hP (Nat.lt_succ_of_lt hu)) hP hK hS rfl hl.1 rfl (Nat.le_of_ble_eq_true rfl) dN_operate_117 (fun H locs hP hS => ?_)
        refine ny_ret ?_
        exact W.vret hx hb hr (fun t ht hW => ⟨rfl, (by rw [hk0]; unfold kOp; rw [if_pos mc6, if_pos hk9]), ⟨va_up n1 u (n1 16), va_up g1 u (pov (g1 16) (g1 u) 0 (n1 16)), by rw [eu]; exact nvU_eq (nvU_fin u1 hu) (by rw [ea, ed, eo]; exact (if_pos mc6).symm) (by rw [ea, ed, eo]; unfold fOp; rw [if_pos mc6]; exact fun _ _ => rfl), by rw [ht]; exact hP⟩, hS.F ht⟩) hS.2.2 dN_operate_120
    · exact nm_throw (E := eIA) (tx := "no such operation") (ik := 64) (is := 66) (ic := 68) S hfl hX (by decide) (by decide +kernel) kcl_64 kin_eIA (by decide) kat_eIA hl.1 ⟨(Nat.le_of_ble_eq_true rfl), (Nat.le_of_ble_eq_true rfl), (Nat.le_of_ble_eq_true rfl), (Nat.le_of_ble_eq_true rfl)⟩ (Nat.le_of_ble_eq_true rfl) hlocks hno dN_operate_24 dN_operate_27 dN_operate_28 dN_operate_30 dN_operate_33 (fun t q hW h => ⟨eIA, exK_of (k := 2) (by unfold kOperate; rw [if_neg (fun h => h.elim q1 (fun h => h.elim q2 q3)), if_pos (Or.inr (Int32.not_le.mp c5))]) (by decide) rfl, h⟩)
end
section
/-! ===== constructors ===== -/
section Ct
abbrev wi0 (h0 : Nat) : va_W := [(h0, .inr (ciW, [.int 0, .null]))]
abbrev wi1 (cA : ClassId) (h0 q : Nat) : va_W := [(h0, .inr (ciW, [.int 0, .ref q])), (q, .inl (cA, 64, .inl (fun _ => 0)))]
theorem nz_good {w0 : Cond} (h0 : w0 ∈ nzG) : GoodIn nzG (w0 :: nzG) := fun w hw => by
  rcases List.mem_cons.mp hw with e | e
  · rw [e]; exact ⟨h0, good_of_word (nzG_good w0 h0)⟩
  · exact ⟨e, good_of_word (nzG_good w e)⟩
theorem va_D1 {A : Nat → Prop} {a : Nat} {e : va_E} (h : A a) : va_D A [(a, e)] := by
  refine ⟨fun i j p q hi hj _ => ?_, fun k q hk => ?_⟩
  · have h1 := (List.getElem?_eq_some_iff.mp hi).1
    have h2 := (List.getElem?_eq_some_iff.mp hj).1
    simp at h1 h2
    omega
  · have h1 := (List.getElem?_eq_some_iff.mp hk).1
    have h2 : k = 0 := by simpa using h1
    subst h2
    cases hk
    exact h
set_option maxHeartbeats 4000000 in
set_option maxRecDepth 100000 in
theorem c_Word_init (l : Launch) (D : va_G) (cA cW : ClassId) (h0 sz : Nat) : Met l yWord_init (Cond.code yWord_init bWord_init 1 none :: nzG) ({ frames := 1, cells := 1, slots := 64, locals := 12 }) (va_Pc [.ref h0] (fun U => U.heap.size = sz ∧ va_P D vwCl (wi0 h0) U.heap ∧ va_K D vwCl (nvTy cA cW) U)) (va_Qv (fun _ : Unit => True) (fun _ t => ∃ q, va_P D vwCl (wi1 cA h0 q) t.heap ∧ va_D (va_A (wi0 h0) sz) (wi1 cA h0 q)) (va_A (wi0 h0) sz)) 1 64 (va_A (wi0 h0) sz) := by
  refine nz_of (own := RW) (by decide) rfl ?_
  intro p e s m args below meth c S hr hlocks hin hv9
  obtain ⟨rfl, hsz, hP, hK⟩ := hv9
  have hx := S.1
  have hb := S.2.1
  subst hsz
  have hD : va_D (va_A (wi0 h0) s.heap.size) (wi0 h0) := va_D1 (Or.inl ⟨0, _, rfl⟩)
  generalize hAe : va_A (wi0 h0) s.heap.size = A at hD ⊢
  have hA : ∀ q : Nat, s.heap.size ≤ q → A q := fun q h => by rw [← hAe]; exact Or.inr h
  have hS : va_S A s.heap s.heap [] := va_S.rf
  refine nz_entry (vs := [.ref h0]) (n := 1) (lv := [(0, .ref h0)]) (Nat.le_of_ble_eq_true rfl) rfl (fun ls hl => ?_)
  refine lv_aload_n hx hb dWord_init_0 rfl (lv_at hl 0 rfl) ?_
  refine W.objInit hx hb S.2.2.2.1 (S.2.2.2.2 _ kW_oi.1) (S.2.2.2.2 _ kW_oi.2.1) (S.2.2.2.2 _ kW_oi.2.2) rfl (by rw [S.2.2.1]; exact hl.1) rfl dWord_init_1 (Nat.le_of_ble_eq_true rfl) (Nat.le_of_ble_eq_true rfl) ?_
  refine W.eq (g2 := F0 m 4 ls []) rfl ?_
  refine lv_aload_n hx hb dWord_init_4 rfl (lv_at hl 0 rfl) ?_
  refine lv_iconst (v := 0) hx hb dWord_init_5 (by decide) ?_
  refine va_put (D := D) (ci := ciW) (v := .int 0) (ty := .int) (C := RW) (T := FW) (N := 2) hx hb S.2.2.2.2 in_W tyW tyW_ok nmW S.2.2.2.1 hK hP hD hS 0 rfl rfl 0 (by decide) (S.2.2.2.2 _ fl_W_size) (fun _ h9 => h9) rfl (by decide +kernel) rfl rfl (Nat.le_of_ble_eq_true rfl) dWord_init_6 (fun H locs hP hD hS => ?_)
  have hP : va_P D vwCl [(h0, .inr (ciW, [.int 0, .null]))] H := hP
  have hD : va_D A [(h0, .inr (ciW, [.int 0, .null]))] := hD
  refine lv_aload_n hx hb dWord_init_9 rfl (lv_at hl 0 rfl) ?_
  refine lv_bipush (v := 64) hx hb dWord_init_10 (by decide) ?_
  refine va_newa (a0 := (64, .inl (fun _ => 0))) hx hb (S.2.2.2.2 _ k_arrI) rfl hK hP hD hS hA (N' := 64) (fun _ => rfl) (by decide) (by decide) (by decide) (Nat.le_of_ble_eq_true rfl) (Nat.le_of_ble_eq_true rfl) dWord_init_12 (fun q cA' H1 hK1 hP hD hS => ?_)
  have hcc : cA' = cA := by
    have h1 := va_nm_int (hK.2 0 (cA, .int) rfl).2
    have h2 := va_nm_int (hK1.2 2 (cA', .int) rfl).2
    exact Option.some.inj (h2.symm.trans h1)
  subst hcc
  refine va_putF (D := D) (ci := ciW) (v := .ref q) (ty := .array .int) (C := RW) (T := FW) (N := 2) hx hb S.2.2.2.2 in_W tyW tyW_ok nmW S.2.2.2.1 hK hP hD hS 0 rfl rfl 1 (by decide) (S.2.2.2.2 _ fl_W_elements) (fun _ h9 => h9) rfl hin rfl (by decide +kernel) rfl rfl (Nat.le_of_ble_eq_true rfl) dWord_init_14 (fun H locs hP hD hS => ?_)
  have hP : va_P D vwCl (wi1 cA' h0 q) H := hP
  have hD : va_D A (wi1 cA' h0 q) := hD
  exact W.vret hx hb hr (fun t ht hW => ⟨⟨(), rfl, trivial, q, by rw [ht]; exact hP, hD⟩, hS.F ht⟩) hS.2.2 dWord_init_17
variable {cA cW : ClassId} {D : va_G} {p : Program} {l : Launch} {e : Env} {R : Room} {s : State} {m : MethodId} {args : Array Value} {below : List Frame} {meth : Method} {c : Code} {H : Heap} {locs : List Loc} {cells slots : Nat} {Q : State → Prop}
variable {cc : ByteArray} {nL pc : Nat} {ls : Array Slot} {rest : List Value} {w : va_W} {A : Nat → Prop}
/-- new Word() -/
theorem nm_newW (S : CallFix p m c cc nL s args nzG RN) (hNi : va_Nw (.methodLinkNest RN nmI yWord_init nmHost) s) (hK : va_K D vwCl (nvTy cA cW) s) (hP : va_P D vwCl w H) (hD : va_D A w) (hS : va_S A s.heap H locs) (hA : ∀ q, s.heap.size ≤ q → A q) (hl : ls.size = nL) (hcells : cells + 2 ≤ R.cells) (hslots : slots + 66 ≤ R.slots) (hR : 2 ≤ R.frames ∧ 32 ≤ R.locals) (hW : (rest.map fun v => v.category).sum + 1 ≤ 8) (d0 : decode cc pc = .ok (.new nmK, 3)) (d3 : decode cc (pc + 3) = .ok (.dup, 1)) (d4 : decode cc (pc + 4) = .ok (.invokespecial nmI, 3))
    (kk : ∀ (q q2 : Nat) (H1 : Heap) (locs1 : List Loc), va_P D vwCl (w ++ wi1 cA q q2) H1 → va_D A (w ++ wi1 cA q q2) → va_S A s.heap H1 locs1 → W p l e R s m args below meth c H1 locs1 (cells + 2) (slots + 66) Q (F0 m (pc + 7) ls (.ref q :: rest))) : W p l e R s m args below meth c H locs cells slots Q (F0 m pc ls rest) := by
  refine va_new (ci := ciW) (fs := [.int 0, .null]) (C := RW) (T := FW) (N := 2) S.1 S.2.1 S.2.2.2.2 in_W tyW tyW_ok S.2.2.2.1 (S.2.2.2.2 _ kN_clW) (S.2.2.2.2 _ kN_instW) (S.2.2.2.2 _ kN_iniW) hK hP hD hS hA rfl (fun j hj => by rcases (show j = 0 ∨ j = 1 by omega) with rfl | rfl <;> rfl) (by omega) (by omega) d0 (fun q H1 hP hD hS => ?_)
  refine lv_dup S.1 S.2.1 d3 rfl ?_
  have hPs := nw_Psw hP
  have hDs := nw_Dsw hD
  have hF := nw_free hDs hS hA
  refine va_callv (va_runIN (As := []) (rest := .ref q :: rest) S (c_Word_init l D cA cW q H1.size) ⟨va_cnB 0 S.2.2.2.2 (nz_good kN_cdW) rfl rfl rfl hNi (S.2.2.2.2 _ kN_iniW) ⟨by decide, by decide, by decide +kernel⟩ ⟨hR.1, hR.2⟩, rfl, S.2.2.2.2 _ kN_imW⟩ ⟨fun a U g mk q => ⟨q.1, q.2.1, q.2.2.1, va_K.moved (u := U) (U := U.calling g mk a) (Vm.Alike.refl U.vm) q.2.2.2⟩, fun U hU hW => ⟨rfl, by rw [hU], by rw [hU]; exact nw_P1 hPs, va_K.moved hW.alike hK⟩⟩ rfl rfl hl rfl (lv_room (by
    show 1 + (rest.map fun v => v.category).sum ≤ 8
    omega)) d4 ⟨by omega, by omega⟩) hS (fun z _ h => hF z h) hF (fun u t H2 locs2 ht hvm hw hB hz hk hS => ?_)
  obtain ⟨q2, hP1, hD1⟩ := hB
  rw [ht] at hP1
  obtain ⟨hP2, hD2⟩ := nw_join hPs hDs hk hF hP1 hD1
  exact kk q q2 H2 locs2 (nw_Psw hP2) (nw_Dsw hD2) hS
/-- the cells in the order of their making, i places filled -/
def cE (cA cW : ClassId) (i : Nat) (T : Nat → Nat) (k : Nat) : va_E :=
  if k = 0 then .inr (ciN, [.ref (T 1), .ref (T 2)]) else if k = 1 then .inl (cW, 16, .inr (.inr (.inr (.inr (fun j => if j < i then some (T (4 + 2 * j)) else none)))))
  else if k % 2 = 0 then .inr (ciW, [.int 0, .ref (T (k + 1))]) else .inl (cA, 64, .inl (fun _ => 0))
theorem bw_app {N : Nat} {T : Nat → Nat} {E : Nat → va_E} : bw (N + 2) T E = bw N T E ++ [(T N, E N), (T (N + 1), E (N + 1))] := by
  unfold bw
  rw [List.range_succ, List.range_succ]
  simp
theorem bw_congr2 {N : Nat} {T T' : Nat → Nat} {E E' : Nat → va_E} (h : ∀ k, k < N → T k = T' k) (h2 : ∀ k, k < N → E k = E' k) : bw N T E = bw N T' E' := by
  apply List.ext_getElem?
  intro j
  by_cases hN : j < N
  · rw [bw_get hN, bw_get hN, h j hN, h2 j hN]
  · rw [bw_out hN, bw_out hN]
/-- one more word is made: its cells come to the end -/
def cT (T : Nat → Nat) (N q q2 : Nat) : Nat → Nat := fun k => if k = N then q else if k = N + 1 then q2 else T k
theorem cE_more (i : Nat) (hi : i < 16) (T : Nat → Nat) (q q2 : Nat) : bw (4 + 2 * i) T (cE cA cW i T) ++ wi1 cA q q2 = bw (4 + 2 * i + 2) (cT T (4 + 2 * i) q q2) (cE cA cW i (cT T (4 + 2 * i) q q2)) := by
  have ht : ∀ k, k < 4 + 2 * i → cT T (4 + 2 * i) q q2 k = T k := fun k hk => by unfold cT; rw [if_neg (by omega), if_neg (by omega)]
  have h1 : cT T (4 + 2 * i) q q2 (4 + 2 * i) = q := if_pos rfl
  have h2 : cT T (4 + 2 * i) q q2 (4 + 2 * i + 1) = q2 := by unfold cT; rw [if_neg (by omega), if_pos rfl]
  rw [bw_app, h1, h2]
  have hb : bw (4 + 2 * i) T (cE cA cW i T) = bw (4 + 2 * i) (cT T (4 + 2 * i) q q2) (cE cA cW i (cT T (4 + 2 * i) q q2)) := by
    refine bw_congr2 (fun k hk => (ht k hk).symm) (fun k hk => ?_)
    unfold cE
    by_cases k0 : k = 0
    · rw [if_pos k0, if_pos k0, ht 1 (by omega), ht 2 (by omega)]
    · by_cases k1 : k = 1
      · rw [if_neg k0, if_neg k0, if_pos k1, if_pos k1]
        have hf : (fun j => if j < i then some (T (4 + 2 * j)) else none) = fun j => if j < i then some (cT T (4 + 2 * i) q q2 (4 + 2 * j)) else none := by
          funext j
          by_cases hj : j < i
          · rw [if_pos hj, if_pos hj, ht _ (by omega)]
          · rw [if_neg hj, if_neg hj]
        rw [hf]
      · rw [if_neg k0, if_neg k0, if_neg k1, if_neg k1]
        by_cases ke : k % 2 = 0
        · rw [if_pos ke, if_pos ke, ht (k + 1) (by omega)]
        · rw [if_neg ke, if_neg ke]
  rw [← hb]
  have e1 : cE cA cW i (cT T (4 + 2 * i) q q2) (4 + 2 * i) = .inr (ciW, [.int 0, .ref q2]) := by
    unfold cE
    rw [if_neg (by omega), if_neg (by omega), if_pos (by omega), h2]
  have e2 : cE cA cW i (cT T (4 + 2 * i) q q2) (4 + 2 * i + 1) = .inl (cA, 64, .inl (fun _ => 0)) := by
    unfold cE
    rw [if_neg (by omega), if_neg (by omega), if_neg (by omega)]
  rw [e1, e2]
theorem cE_put (i : Nat) (hi : i < 16) (T : Nat → Nat) (N : Nat) (hN : 1 < N) : (bw N T (cE cA cW i T)).set 1 (T 1, .inl (cW, 16, .inr (.inr (.inr (.inr (va_up (fun j => if j < i then some (T (4 + 2 * j)) else none) i (some (T (4 + 2 * i))))))))) = bw N T (cE cA cW (i + 1) T) := by
  rw [bw_set hN]
  refine bw_congr fun k hk => ?_
  by_cases k1 : k = 1
  · subst k1
    rw [va_up_self]
    unfold cE
    rw [if_neg (by decide), if_pos rfl]
    congr 7
    funext j
    unfold va_up
    by_cases hj : j = i
    · subst hj
      rw [if_pos rfl, if_pos (by omega)]
    · rw [if_neg hj]
      show (if j < i then some (T (4 + 2 * j)) else none) = _
      by_cases hl : j < i
      · rw [if_pos hl, if_pos (by omega)]
      · rw [if_neg hl, if_neg (by omega)]
  · rw [va_up_ne _ _ k1]
    unfold cE
    by_cases k0 : k = 0
    · rw [if_pos k0, if_pos k0]
    · rw [if_neg k0, if_neg k0, if_neg k1, if_neg k1]
end Ct
section Cn
theorem nz_eqr {p : Program} {l : Launch} {e : Env} {R : Room} {s : State} {m : MethodId} {args : Array Value} {below : List Frame} {meth : Method} {c : Code} {H : Heap} {locs : List Loc} {cells slots pc : Nat} {Q : State → Prop} {ls : Array Slot} {rest : List Value} {x y : Nat} (h : x = y) (k : W p l e R s m args below meth c H locs cells slots Q (F0 m pc ls (.ref y :: rest))) : W p l e R s m args below meth c H locs cells slots Q (F0 m pc ls (.ref x :: rest)) := h ▸ k
theorem arrV_same {cI : ClassId} {N : Nat} {f g : Nat → Value} (h : ∀ j, j < N → f j = g j) : arrV cI N f = arrV cI N g := by
  unfold arrV
  congr 2
  funext j
  exact h j.1 j.2
variable {cA cW : ClassId} {D : va_G}
def cS (k : Nat) : Nat := if k < 2 then k else if k < 18 then 4 + 2 * (k - 2) else if k = 18 then 2 else if k < 35 then 5 + 2 * (k - 19) else 3
theorem cS_inj : ∀ i, i < 36 → ∀ j, j < 36 → cS i = cS j → i = j := by decide +kernel
theorem cS_lt : ∀ i, i < 36 → cS i < 36 := by decide +kernel
theorem cE_at {T : Nat → Nat} {H : Heap} {k : Nat} (hk : k < 36) (h : va_at D vwCl (T (cS k), cE cA cW 16 T (cS k)) H) : va_at D vwCl (T (cS k), nvE cA cW (fun k => T (cS k)) (fun _ => 0) (fun _ _ => 0) k) H := by
  by_cases k0 : k = 0
  · subst k0; exact h
  · by_cases k1 : k = 1
    · subst k1
      have e1 : cE cA cW 16 T (cS 1) = .inl (cW, 16, .inr (.inr (.inr (.inr (fun j => if j < 16 then some (T (4 + 2 * j)) else none))))) := rfl
      rw [e1] at h
      have e2 : nvE cA cW (fun k => T (cS k)) (fun _ => 0) (fun _ _ => 0) 1 = .inl (cW, 16, .inr (.inr (.inr (.inr (fun j => some (T (cS (2 + j)))))))) := rfl
      rw [e2]
      have h9 : H[T (cS 1)]? = some (vp_cell cW (16, .inr (.inr (.inr (.inr (fun j => if j < 16 then some (T (4 + 2 * j)) else none)))))) := h
      show H[T (cS 1)]? = some (vp_cell cW (16, .inr (.inr (.inr (.inr (fun j => some (T (cS (2 + j))))))))) 
      rw [h9, vp_cell_q, vp_cell_q]
      refine congrArg some (arrV_same fun j hj => ?_)
      rw [if_pos hj, show cS (2 + j) = 4 + 2 * j by unfold cS; rw [if_neg (by omega), if_pos (by omega)]; omega]
    · by_cases k2 : k < 18
      · have e0 : cS k = 4 + 2 * (k - 2) := by unfold cS; rw [if_neg (by omega), if_pos k2]
        have e3 : cS (k + 17) = 4 + 2 * (k - 2) + 1 := by unfold cS; rw [if_neg (by omega), if_neg (by omega), if_neg (by omega), if_pos (by omega)]; omega
        have e1 : cE cA cW 16 T (cS k) = .inr (ciW, [.int 0, .ref (T (4 + 2 * (k - 2) + 1))]) := by unfold cE; rw [e0, if_neg (by omega), if_neg (by omega), if_pos (by omega)]
        have e2 : nvE cA cW (fun k => T (cS k)) (fun _ => 0) (fun _ _ => 0) k = .inr (ciW, [.int 0, .ref (T (cS (k + 17)))]) := by unfold nvE; rw [if_neg k0, if_neg k1, if_pos (by omega)]; rfl
        rw [e1] at h
        rw [e2, e3]
        exact h
      · by_cases k3 : k = 18
        · subst k3; exact h
        · have e1 : cE cA cW 16 T (cS k) = .inl (cA, 64, .inl (fun _ => 0)) := by
            by_cases k4 : k < 35
            · have e0 : cS k = 5 + 2 * (k - 19) := by unfold cS; rw [if_neg (by omega), if_neg k2, if_neg k3, if_pos k4]
              unfold cE
              rw [e0, if_neg (by omega), if_neg (by omega), if_neg (by omega)]
            · have e0 : cS k = 3 := by unfold cS; rw [if_neg (by omega), if_neg k2, if_neg k3, if_neg k4]
              rw [e0]
              rfl
          have e2 : nvE cA cW (fun k => T (cS k)) (fun _ => 0) (fun _ _ => 0) k = .inl (cA, 64, .inl (fun _ => 0)) := by unfold nvE; rw [if_neg k0, if_neg k1, if_neg (by omega)]; rfl
          rw [e1] at h
          rw [e2]
          exact h
abbrev ni0 (h0 : Nat) : va_W := [(h0, .inr (ciN, [.null, .null]))]
def niQ (D : va_G) (cA cW : ClassId) (h0 sz : Nat) : Array Value → State → Outcome → State → Prop :=
  va_Qv (fun _ : Unit => True) (fun _ t => ∃ T : Nat → Nat, T 0 = h0 ∧ nvT T ∧ (∀ k, k < 36 → va_A (ni0 h0) sz (T k)) ∧ va_P D vwCl (nvW cA cW T (fun _ => 0) (fun _ _ => 0)) t.heap) (va_A (ni0 h0) sz)
set_option maxHeartbeats 4000000 in
set_option maxRecDepth 100000 in
theorem lpN_init {p : Program} {e : Env} {s : State} {m : MethodId} {args : Array Value} {below : List Frame} {meth : Method} {c : Code} (l : Launch) (h0 : Nat) (S : CallFix p m c bN_init 2 s args nzG RN) (hr : meth.sig.returnType = none) (hlocks : meth.locks = false) (hNi : va_Nw (.methodLinkNest RN nmI yWord_init nmHost) s) (hK : va_K D vwCl (nvTy cA cW) s) (hA : ∀ q : Nat, s.heap.size ≤ q → va_A (ni0 h0) s.heap.size q) :
    ∀ (fuel i : Nat), i ≤ 16 → 16 < i + fuel → ∀ (T : Nat → Nat) (H : Heap) (locs : List Loc), T 0 = h0 → va_P D vwCl (bw (4 + 2 * i) T (cE cA cW i T)) H → va_D (va_A (ni0 h0) s.heap.size) (bw (4 + 2 * i) T (cE cA cW i T)) → va_S (va_A (ni0 h0) s.heap.size) s.heap H locs → ∀ ls : Array Slot, lv_has ls 2 [(0, .ref h0), (1, .int (nI i))] →
      W p l e ({ frames := 2, cells := 35, slots := 1138, locals := 32 }) s m args below meth c H locs (3 + 2 * i) (82 + 66 * i) (MQ below (niQ D cA cW h0 s.heap.size) args s 35 1138 (va_A (ni0 h0) s.heap.size)) (F0 m 26 ls []) := by
  have hx := S.1
  have hb := S.2.1
  intro fuel
  induction fuel with
  | zero =>
    intro i hi hfu
    exact absurd hfu (by omega)
  | succ fuel ih =>
    intro i hi hfu T H locs hT0 hP hD hS ls hl
    refine lv_iload_n hx hb dN_init_26 rfl (lv_at hl 1 rfl) ?_
    refine lv_bipush (v := 16) hx hb dN_init_27 (by decide) ?_
    refine lv_icmp_ge (tgt := 51) hx hb dN_init_29 (by decide) (fun c1 => ?_) (fun c1 => ?_)
    · have hi16 : 16 ≤ i := (nI_leI (a := 16) (by decide) (by omega)).mp c1
      obtain rfl : i = 16 := by omega
      refine W.widen (k := 35) (n := 1138) (by omega) (by omega) ?_
      refine W.vret hx hb hr (fun t ht hW => ⟨⟨(), rfl, trivial, fun k => T (cS k), hT0, fun i j h1 h2 h3 => ?_, fun k hk => ?_, fun k q hk => ?_⟩, hS.F ht⟩) hS.2.2 dN_init_51
      · exact cS_inj i h1 j h2 (hD.1 _ _ _ _ (bw_get (cS_lt i h1)) (bw_get (cS_lt j h2)) h3)
      · exact hD.2 _ _ (bw_get (cS_lt k hk))
      · obtain ⟨h1, rfl⟩ := bw_of hk
        rw [ht]
        exact cE_at h1 (hP _ _ (bw_get (cS_lt k h1)))
    · have hlt : i < 16 := Nat.lt_of_not_le (fun h => c1 ((nI_leI (a := 16) (by decide) (by omega)).mpr h))
      refine lv_aload_n hx hb dN_init_32 rfl (lv_at hl 0 rfl) ?_
      refine nz_eqr hT0.symm ?_
      refine va_get (D := D) (ci := ciN) (v := .ref (T 1)) (C := RN) (T := FN) (N := 2) S.1 S.2.1 S.2.2.2.2 in_N S.2.2.2.1 hK hP 0 (bw_get (by omega)) rfl 0 (by decide) (S.2.2.2.2 _ fl_N_places) (fun _ h9 => h9) rfl dN_init_33 ?_
      refine lv_iload_n hx hb dN_init_36 rfl (lv_at hl 1 rfl) ?_
      refine nm_newW (rest := [.int (nI i), .ref (T 1)]) S hNi hK hP hD hS hA hl.1 (by show 3 + 2 * i + 2 ≤ 35; omega) (by show 82 + 66 * i + 66 ≤ 1138; omega) ⟨Nat.le_of_ble_eq_true rfl, Nat.le_of_ble_eq_true rfl⟩ (Nat.le_of_ble_eq_true rfl) dN_init_37 dN_init_40 dN_init_41 (fun q q2 H locs hP hD hS => ?_)
      rw [cE_more i hlt] at hP hD
      have hT1 : cT T (4 + 2 * i) q q2 1 = T 1 := by unfold cT; rw [if_neg (by omega), if_neg (by omega)]
      have hT00 : cT T (4 + 2 * i) q q2 0 = h0 := by unfold cT; rw [if_neg (by omega), if_neg (by omega)]; exact hT0
      have hTq : cT T (4 + 2 * i) q q2 (4 + 2 * i) = q := if_pos rfl
      generalize cT T (4 + 2 * i) q q2 = T1 at hP hD hT1 hT00 hTq
      rw [← hT1, ← hTq]
      refine va_astq hx hb hK hP hD hS 1 1 (4 + 2 * i) ciW (bw_get (by omega)) rfl (vs := [.int 0, .ref (T1 (4 + 2 * i + 1))]) ?_ rfl (vp_in_nI hlt (by omega)) dN_init_44 (fun H locs hP hD hS => ?_)
      · rw [bw_get (by omega)]
        unfold cE
        rw [if_neg (by omega), if_neg (by omega), if_pos (by omega)]
      · rw [nI_clamp (by omega), cE_put i hlt T1 _ (by omega)] at hP hD
        refine lv_iinc (v := nI (i + 1)) (lv' := [(1, .int (nI (i + 1))), (0, .ref h0)]) hx hb dN_init_45 hl (k := 1) rfl (nI_1 i) (by decide) rfl (fun ls hl => ?_)
        refine lv_goto (tgt := 26) hx hb dN_init_48 (by decide) ?_
        have e9 : 4 + 2 * (i + 1) = 4 + 2 * i + 2 := by omega
        rw [show 3 + 2 * i + 2 = 3 + 2 * (i + 1) by omega, show 82 + 66 * i + 66 = 82 + 66 * (i + 1) by omega]
        refine ih (i + 1) (by omega) (by omega) T1 H locs hT00 (by rw [e9]; exact hP) (by rw [e9]; exact hD) hS ls (lv_sub hl [1, 0] rfl)
set_option maxHeartbeats 4000000 in
set_option maxRecDepth 100000 in
theorem c_N_init (l : Launch) (D : va_G) (cA cW : ClassId) (h0 sz : Nat) : Met l yN_init (Cond.code yN_init bN_init 2 none :: nzG) ({ frames := 2, cells := 35, slots := 1138, locals := 32 }) (va_Pc [.ref h0] (fun U => U.heap.size = sz ∧ va_P D vwCl (ni0 h0) U.heap ∧ va_K D vwCl (nvTy cA cW) U ∧ va_Nw (.methodLinkNest RN nmI yWord_init nmHost) U ∧ va_AO RW U)) (niQ D cA cW h0 sz) 35 1138 (va_A (ni0 h0) sz) := by
  refine nz_of (own := RN) (by decide) rfl ?_
  intro p e s m args below meth c S hr hlocks hin hv9
  obtain ⟨rfl, hsz, hP, hK, hNi, hAO⟩ := hv9
  have hx := S.1
  have hb := S.2.1
  subst hsz
  have hD : va_D (va_A (ni0 h0) s.heap.size) (ni0 h0) := va_D1 (Or.inl ⟨0, _, rfl⟩)
  have hA : ∀ q : Nat, s.heap.size ≤ q → va_A (ni0 h0) s.heap.size q := fun q h => Or.inr h
  have hS : va_S (va_A (ni0 h0) s.heap.size) s.heap s.heap [] := va_S.rf
  refine nz_entry (vs := [.ref h0]) (n := 2) (lv := [(0, .ref h0)]) (Nat.le_of_ble_eq_true rfl) rfl (fun ls hl => ?_)
  refine lv_aload_n hx hb dN_init_0 rfl (lv_at hl 0 rfl) ?_
  refine W.objInit hx hb S.2.2.2.1 (S.2.2.2.2 _ kN_oi.1) (S.2.2.2.2 _ kN_oi.2.1) (S.2.2.2.2 _ kN_oi.2.2) rfl (by rw [S.2.2.1]; exact hl.1) rfl dN_init_1 (Nat.le_of_ble_eq_true rfl) (Nat.le_of_ble_eq_true rfl) ?_
  refine W.eq (g2 := F0 m 4 ls []) rfl ?_
  refine lv_aload_n hx hb dN_init_4 rfl (lv_at hl 0 rfl) ?_
  refine lv_bipush (v := 16) hx hb dN_init_5 (by decide) ?_
  refine va_newq (N' := 16) hx hb S.2.2.2.1 (S.2.2.2.2 _ kN_clW) hAO hK hP hD hS hA (by decide) (by decide) (by decide) (Nat.le_of_ble_eq_true rfl) (Nat.le_of_ble_eq_true rfl) dN_init_7 (fun q1 cW' H hK1 hP hD hS => ?_)
  have hcc : cW' = cW := by
    have h1 := va_nmO (nm := "[LNineValues$Word;") (hK.2 1 (cW, .object "NineValues$Word") rfl).2 rfl
    have h2 := va_nmO (nm := "[LNineValues$Word;") (hK1.2 2 (cW', .object "NineValues$Word") rfl).2 rfl
    exact Option.some.inj (h2.symm.trans h1)
  subst hcc
  refine va_putF (D := D) (ci := ciN) (v := .ref q1) (ty := .array (.object "NineValues$Word")) (C := RN) (T := FN) (N := 2) hx hb S.2.2.2.2 in_N tyN tyN_ok nmN S.2.2.2.1 hK hP hD hS 0 rfl rfl 0 (by decide) (S.2.2.2.2 _ fl_N_places) (fun _ h9 => h9) rfl hin rfl (by decide +kernel) rfl rfl (Nat.le_of_ble_eq_true rfl) dN_init_10 (fun H locs hP hD hS => ?_)
  refine lv_aload_n hx hb dN_init_13 rfl (lv_at hl 0 rfl) ?_
  refine nm_newW (rest := [.ref h0]) S hNi hK hP hD hS hA hl.1 (Nat.le_of_ble_eq_true rfl) (Nat.le_of_ble_eq_true rfl) ⟨Nat.le_of_ble_eq_true rfl, Nat.le_of_ble_eq_true rfl⟩ (Nat.le_of_ble_eq_true rfl) dN_init_14 dN_init_17 dN_init_18 (fun q q2 H locs hP hD hS => ?_)
  refine va_putF (D := D) (ci := ciN) (v := .ref q) (ty := .object "NineValues$Word") (C := RN) (T := FN) (N := 2) hx hb S.2.2.2.2 in_N tyN tyN_ok nmN S.2.2.2.1 hK hP hD hS 0 rfl rfl 1 (by decide) (S.2.2.2.2 _ fl_N_answer) (fun _ h9 => h9) rfl hin rfl (by decide +kernel) rfl rfl (Nat.le_of_ble_eq_true rfl) dN_init_21 (fun H locs hP hD hS => ?_)
  refine lv_iconst (v := 0) hx hb dN_init_24 (by decide) ?_
  refine lv_istore_n (lv' := [(1, .int 0), (0, .ref h0)]) hx hb dN_init_25 rfl hl (by decide) rfl (fun ls hl => ?_)
  refine lpN_init l h0 S hr hlocks hNi hK hA 17 0 (by omega) (by omega) (fun k => if k = 0 then h0 else if k = 1 then q1 else if k = 2 then q else q2) H locs rfl hP hD hS ls (lv_sub hl [1, 0] rfl)
end Cn
end
section
theorem kclL_8 : Cond.classLink RL 8 "NineValues" ∈ nzG := nz_at 13 (by decide +kernel) rfl
theorem kclL_13 : Cond.classLink RL 13 "java/lang/IndexOutOfBoundsException" ∈ nzG := nz_at 48 (by decide +kernel) rfl
theorem kclL_15 : Cond.classLink RL 15 "java/lang/IllegalArgumentException" ∈ nzG := nz_at 49 (by decide +kernel) rfl
theorem kclL_36 : Cond.classLink RL 36 "java/lang/IllegalStateException" ∈ nzG := nz_at 193 (by decide +kernel) rfl
theorem kclL_42 : Cond.classLink RL 42 "java/lang/ArithmeticException" ∈ nzG := nz_at 239 (by decide +kernel) rfl
theorem kclL_74 : Cond.classLink RL 74 "NineValuesModel" ∈ nzG := nz_at 430 (by decide +kernel) rfl
theorem dL_fill_0 : decode bL_fill 0 = .ok (.aload_n 0, 1) := by decide +kernel
theorem dL_fill_1 : decode bL_fill 1 = .ok (.iload_n 1, 1) := by decide +kernel
theorem dL_fill_2 : decode bL_fill 2 = .ok (.iload_n 2, 1) := by decide +kernel
theorem dL_fill_3 : decode bL_fill 3 = .ok (.iload_n 3, 1) := by decide +kernel
theorem dL_fill_4 : decode bL_fill 4 = .ok (.invokevirtual 7, 3) := by decide +kernel
theorem dL_fill_7 : decode bL_fill 7 = .ok (.goto 11, 3) := by decide +kernel
theorem dL_fill_10 : decode bL_fill 10 = .ok (.astore 4, 2) := by decide +kernel
theorem dL_fill_12 : decode bL_fill 12 = .ok (.iconst 1, 1) := by decide +kernel
theorem dL_fill_13 : decode bL_fill 13 = .ok (.ireturn, 1) := by decide +kernel
theorem dL_fill_14 : decode bL_fill 14 = .ok (.astore 4, 2) := by decide +kernel
theorem dL_fill_16 : decode bL_fill 16 = .ok (.iconst 2, 1) := by decide +kernel
theorem dL_fill_17 : decode bL_fill 17 = .ok (.ireturn, 1) := by decide +kernel
theorem dL_fill_18 : decode bL_fill 18 = .ok (.iconst 0, 1) := by decide +kernel
theorem dL_fill_19 : decode bL_fill 19 = .ok (.ireturn, 1) := by decide +kernel
theorem dL_put_0 : decode bL_put 0 = .ok (.aload_n 0, 1) := by decide +kernel
theorem dL_put_1 : decode bL_put 1 = .ok (.iload_n 1, 1) := by decide +kernel
theorem dL_put_2 : decode bL_put 2 = .ok (.iload_n 2, 1) := by decide +kernel
theorem dL_put_3 : decode bL_put 3 = .ok (.iload_n 3, 1) := by decide +kernel
theorem dL_put_4 : decode bL_put 4 = .ok (.invokevirtual 17, 3) := by decide +kernel
theorem dL_put_7 : decode bL_put 7 = .ok (.goto 11, 3) := by decide +kernel
theorem dL_put_10 : decode bL_put 10 = .ok (.astore 4, 2) := by decide +kernel
theorem dL_put_12 : decode bL_put 12 = .ok (.iconst 1, 1) := by decide +kernel
theorem dL_put_13 : decode bL_put 13 = .ok (.ireturn, 1) := by decide +kernel
theorem dL_put_14 : decode bL_put 14 = .ok (.astore 4, 2) := by decide +kernel
theorem dL_put_16 : decode bL_put 16 = .ok (.iconst 2, 1) := by decide +kernel
theorem dL_put_17 : decode bL_put 17 = .ok (.ireturn, 1) := by decide +kernel
theorem dL_put_18 : decode bL_put 18 = .ok (.iconst 0, 1) := by decide +kernel
theorem dL_put_19 : decode bL_put 19 = .ok (.ireturn, 1) := by decide +kernel
theorem dL_get_0 : decode bL_get 0 = .ok (.aload_n 3, 1) := by decide +kernel
theorem dL_get_1 : decode bL_get 1 = .ok (.iconst 0, 1) := by decide +kernel
theorem dL_get_2 : decode bL_get 2 = .ok (.aload_n 0, 1) := by decide +kernel
theorem dL_get_3 : decode bL_get 3 = .ok (.iload_n 1, 1) := by decide +kernel
theorem dL_get_4 : decode bL_get 4 = .ok (.iload_n 2, 1) := by decide +kernel
theorem dL_get_5 : decode bL_get 5 = .ok (.invokevirtual 20, 3) := by decide +kernel
theorem dL_get_8 : decode bL_get 8 = .ok (.i2l, 1) := by decide +kernel
theorem dL_get_9 : decode bL_get 9 = .ok (.lastore, 1) := by decide +kernel
theorem dL_get_10 : decode bL_get 10 = .ok (.goto 7, 3) := by decide +kernel
theorem dL_get_13 : decode bL_get 13 = .ok (.astore 4, 2) := by decide +kernel
theorem dL_get_15 : decode bL_get 15 = .ok (.iconst 1, 1) := by decide +kernel
theorem dL_get_16 : decode bL_get 16 = .ok (.ireturn, 1) := by decide +kernel
theorem dL_get_17 : decode bL_get 17 = .ok (.iconst 0, 1) := by decide +kernel
theorem dL_get_18 : decode bL_get 18 = .ok (.ireturn, 1) := by decide +kernel
theorem dL_length_0 : decode bL_length 0 = .ok (.aload_n 2, 1) := by decide +kernel
theorem dL_length_1 : decode bL_length 1 = .ok (.iconst 0, 1) := by decide +kernel
theorem dL_length_2 : decode bL_length 2 = .ok (.aload_n 0, 1) := by decide +kernel
theorem dL_length_3 : decode bL_length 3 = .ok (.iload_n 1, 1) := by decide +kernel
theorem dL_length_4 : decode bL_length 4 = .ok (.invokevirtual 24, 3) := by decide +kernel
theorem dL_length_7 : decode bL_length 7 = .ok (.i2l, 1) := by decide +kernel
theorem dL_length_8 : decode bL_length 8 = .ok (.lastore, 1) := by decide +kernel
theorem dL_length_9 : decode bL_length 9 = .ok (.goto 6, 3) := by decide +kernel
theorem dL_length_12 : decode bL_length 12 = .ok (.astore_n 3, 1) := by decide +kernel
theorem dL_length_13 : decode bL_length 13 = .ok (.iconst 1, 1) := by decide +kernel
theorem dL_length_14 : decode bL_length 14 = .ok (.ireturn, 1) := by decide +kernel
theorem dL_length_15 : decode bL_length 15 = .ok (.iconst 0, 1) := by decide +kernel
theorem dL_length_16 : decode bL_length 16 = .ok (.ireturn, 1) := by decide +kernel
theorem dL_number_0 : decode bL_number 0 = .ok (.aload_n 0, 1) := by decide +kernel
theorem dL_number_1 : decode bL_number 1 = .ok (.iload_n 1, 1) := by decide +kernel
theorem dL_number_2 : decode bL_number 2 = .ok (.iload_n 2, 1) := by decide +kernel
theorem dL_number_3 : decode bL_number 3 = .ok (.lload_n 3, 1) := by decide +kernel
theorem dL_number_4 : decode bL_number 4 = .ok (.invokevirtual 28, 3) := by decide +kernel
theorem dL_number_7 : decode bL_number 7 = .ok (.goto 11, 3) := by decide +kernel
theorem dL_number_10 : decode bL_number 10 = .ok (.astore 5, 2) := by decide +kernel
theorem dL_number_12 : decode bL_number 12 = .ok (.iconst 1, 1) := by decide +kernel
theorem dL_number_13 : decode bL_number 13 = .ok (.ireturn, 1) := by decide +kernel
theorem dL_number_14 : decode bL_number 14 = .ok (.astore 5, 2) := by decide +kernel
theorem dL_number_16 : decode bL_number 16 = .ok (.iconst 2, 1) := by decide +kernel
theorem dL_number_17 : decode bL_number 17 = .ok (.ireturn, 1) := by decide +kernel
theorem dL_number_18 : decode bL_number 18 = .ok (.iconst 0, 1) := by decide +kernel
theorem dL_number_19 : decode bL_number 19 = .ok (.ireturn, 1) := by decide +kernel
theorem dL_numberOf_0 : decode bL_numberOf 0 = .ok (.aload_n 3, 1) := by decide +kernel
theorem dL_numberOf_1 : decode bL_numberOf 1 = .ok (.iconst 0, 1) := by decide +kernel
theorem dL_numberOf_2 : decode bL_numberOf 2 = .ok (.aload_n 0, 1) := by decide +kernel
theorem dL_numberOf_3 : decode bL_numberOf 3 = .ok (.iload_n 1, 1) := by decide +kernel
theorem dL_numberOf_4 : decode bL_numberOf 4 = .ok (.iload_n 2, 1) := by decide +kernel
theorem dL_numberOf_5 : decode bL_numberOf 5 = .ok (.invokevirtual 32, 3) := by decide +kernel
theorem dL_numberOf_8 : decode bL_numberOf 8 = .ok (.lastore, 1) := by decide +kernel
theorem dL_numberOf_9 : decode bL_numberOf 9 = .ok (.goto 11, 3) := by decide +kernel
theorem dL_numberOf_12 : decode bL_numberOf 12 = .ok (.astore 4, 2) := by decide +kernel
theorem dL_numberOf_14 : decode bL_numberOf 14 = .ok (.iconst 1, 1) := by decide +kernel
theorem dL_numberOf_15 : decode bL_numberOf 15 = .ok (.ireturn, 1) := by decide +kernel
theorem dL_numberOf_16 : decode bL_numberOf 16 = .ok (.astore 4, 2) := by decide +kernel
theorem dL_numberOf_18 : decode bL_numberOf 18 = .ok (.iconst 2, 1) := by decide +kernel
theorem dL_numberOf_19 : decode bL_numberOf 19 = .ok (.ireturn, 1) := by decide +kernel
theorem dL_numberOf_20 : decode bL_numberOf 20 = .ok (.iconst 0, 1) := by decide +kernel
theorem dL_numberOf_21 : decode bL_numberOf 21 = .ok (.ireturn, 1) := by decide +kernel
theorem dL_operate_0 : decode bL_operate 0 = .ok (.aload_n 0, 1) := by decide +kernel
theorem dL_operate_1 : decode bL_operate 1 = .ok (.iload_n 1, 1) := by decide +kernel
theorem dL_operate_2 : decode bL_operate 2 = .ok (.iload_n 2, 1) := by decide +kernel
theorem dL_operate_3 : decode bL_operate 3 = .ok (.iload_n 3, 1) := by decide +kernel
theorem dL_operate_4 : decode bL_operate 4 = .ok (.iload 4, 2) := by decide +kernel
theorem dL_operate_6 : decode bL_operate 6 = .ok (.iload 5, 2) := by decide +kernel
theorem dL_operate_8 : decode bL_operate 8 = .ok (.invokevirtual 38, 3) := by decide +kernel
theorem dL_operate_11 : decode bL_operate 11 = .ok (.goto 15, 3) := by decide +kernel
theorem dL_operate_14 : decode bL_operate 14 = .ok (.astore 6, 2) := by decide +kernel
theorem dL_operate_16 : decode bL_operate 16 = .ok (.iconst 1, 1) := by decide +kernel
theorem dL_operate_17 : decode bL_operate 17 = .ok (.ireturn, 1) := by decide +kernel
theorem dL_operate_18 : decode bL_operate 18 = .ok (.astore 6, 2) := by decide +kernel
theorem dL_operate_20 : decode bL_operate 20 = .ok (.iconst 2, 1) := by decide +kernel
theorem dL_operate_21 : decode bL_operate 21 = .ok (.ireturn, 1) := by decide +kernel
theorem dL_operate_22 : decode bL_operate 22 = .ok (.astore 6, 2) := by decide +kernel
theorem dL_operate_24 : decode bL_operate 24 = .ok (.iconst 3, 1) := by decide +kernel
theorem dL_operate_25 : decode bL_operate 25 = .ok (.ireturn, 1) := by decide +kernel
theorem dL_operate_26 : decode bL_operate 26 = .ok (.iconst 0, 1) := by decide +kernel
theorem dL_operate_27 : decode bL_operate 27 = .ok (.ireturn, 1) := by decide +kernel
theorem dL_change_0 : decode bL_change 0 = .ok (.aload_n 0, 1) := by decide +kernel
theorem dL_change_1 : decode bL_change 1 = .ok (.iload_n 1, 1) := by decide +kernel
theorem dL_change_2 : decode bL_change 2 = .ok (.iload_n 2, 1) := by decide +kernel
theorem dL_change_3 : decode bL_change 3 = .ok (.iload_n 3, 1) := by decide +kernel
theorem dL_change_4 : decode bL_change 4 = .ok (.invokevirtual 44, 3) := by decide +kernel
theorem dL_change_7 : decode bL_change 7 = .ok (.goto 11, 3) := by decide +kernel
theorem dL_change_10 : decode bL_change 10 = .ok (.astore 4, 2) := by decide +kernel
theorem dL_change_12 : decode bL_change 12 = .ok (.iconst 1, 1) := by decide +kernel
theorem dL_change_13 : decode bL_change 13 = .ok (.ireturn, 1) := by decide +kernel
theorem dL_change_14 : decode bL_change 14 = .ok (.astore 4, 2) := by decide +kernel
theorem dL_change_16 : decode bL_change 16 = .ok (.iconst 2, 1) := by decide +kernel
theorem dL_change_17 : decode bL_change 17 = .ok (.ireturn, 1) := by decide +kernel
theorem dL_change_18 : decode bL_change 18 = .ok (.iconst 0, 1) := by decide +kernel
theorem dL_change_19 : decode bL_change 19 = .ok (.ireturn, 1) := by decide +kernel
theorem dL_shift_0 : decode bL_shift 0 = .ok (.aload_n 0, 1) := by decide +kernel
theorem dL_shift_1 : decode bL_shift 1 = .ok (.iload_n 1, 1) := by decide +kernel
theorem dL_shift_2 : decode bL_shift 2 = .ok (.iload_n 2, 1) := by decide +kernel
theorem dL_shift_3 : decode bL_shift 3 = .ok (.iload_n 3, 1) := by decide +kernel
theorem dL_shift_4 : decode bL_shift 4 = .ok (.iload 4, 2) := by decide +kernel
theorem dL_shift_6 : decode bL_shift 6 = .ok (.iload 5, 2) := by decide +kernel
theorem dL_shift_8 : decode bL_shift 8 = .ok (.invokevirtual 47, 3) := by decide +kernel
theorem dL_shift_11 : decode bL_shift 11 = .ok (.goto 11, 3) := by decide +kernel
theorem dL_shift_14 : decode bL_shift 14 = .ok (.astore 6, 2) := by decide +kernel
theorem dL_shift_16 : decode bL_shift 16 = .ok (.iconst 1, 1) := by decide +kernel
theorem dL_shift_17 : decode bL_shift 17 = .ok (.ireturn, 1) := by decide +kernel
theorem dL_shift_18 : decode bL_shift 18 = .ok (.astore 6, 2) := by decide +kernel
theorem dL_shift_20 : decode bL_shift 20 = .ok (.iconst 2, 1) := by decide +kernel
theorem dL_shift_21 : decode bL_shift 21 = .ok (.ireturn, 1) := by decide +kernel
theorem dL_shift_22 : decode bL_shift 22 = .ok (.iconst 0, 1) := by decide +kernel
theorem dL_shift_23 : decode bL_shift 23 = .ok (.ireturn, 1) := by decide +kernel
theorem dL_bring_0 : decode bL_bring 0 = .ok (.aload_n 0, 1) := by decide +kernel
theorem dL_bring_1 : decode bL_bring 1 = .ok (.iload_n 1, 1) := by decide +kernel
theorem dL_bring_2 : decode bL_bring 2 = .ok (.iload_n 2, 1) := by decide +kernel
theorem dL_bring_3 : decode bL_bring 3 = .ok (.iload_n 3, 1) := by decide +kernel
theorem dL_bring_4 : decode bL_bring 4 = .ok (.iload 4, 2) := by decide +kernel
theorem dL_bring_6 : decode bL_bring 6 = .ok (.invokevirtual 51, 3) := by decide +kernel
theorem dL_bring_9 : decode bL_bring 9 = .ok (.goto 11, 3) := by decide +kernel
theorem dL_bring_12 : decode bL_bring 12 = .ok (.astore 5, 2) := by decide +kernel
theorem dL_bring_14 : decode bL_bring 14 = .ok (.iconst 1, 1) := by decide +kernel
theorem dL_bring_15 : decode bL_bring 15 = .ok (.ireturn, 1) := by decide +kernel
theorem dL_bring_16 : decode bL_bring 16 = .ok (.astore 5, 2) := by decide +kernel
theorem dL_bring_18 : decode bL_bring 18 = .ok (.iconst 2, 1) := by decide +kernel
theorem dL_bring_19 : decode bL_bring 19 = .ok (.ireturn, 1) := by decide +kernel
theorem dL_bring_20 : decode bL_bring 20 = .ok (.iconst 0, 1) := by decide +kernel
theorem dL_bring_21 : decode bL_bring 21 = .ok (.ireturn, 1) := by decide +kernel
theorem dL_cut_0 : decode bL_cut 0 = .ok (.aload_n 0, 1) := by decide +kernel
theorem dL_cut_1 : decode bL_cut 1 = .ok (.iload_n 1, 1) := by decide +kernel
theorem dL_cut_2 : decode bL_cut 2 = .ok (.iload_n 2, 1) := by decide +kernel
theorem dL_cut_3 : decode bL_cut 3 = .ok (.iload_n 3, 1) := by decide +kernel
theorem dL_cut_4 : decode bL_cut 4 = .ok (.iload 4, 2) := by decide +kernel
theorem dL_cut_6 : decode bL_cut 6 = .ok (.invokevirtual 55, 3) := by decide +kernel
theorem dL_cut_9 : decode bL_cut 9 = .ok (.goto 7, 3) := by decide +kernel
theorem dL_cut_12 : decode bL_cut 12 = .ok (.astore 5, 2) := by decide +kernel
theorem dL_cut_14 : decode bL_cut 14 = .ok (.iconst 1, 1) := by decide +kernel
theorem dL_cut_15 : decode bL_cut 15 = .ok (.ireturn, 1) := by decide +kernel
theorem dL_cut_16 : decode bL_cut 16 = .ok (.iconst 0, 1) := by decide +kernel
theorem dL_cut_17 : decode bL_cut 17 = .ok (.ireturn, 1) := by decide +kernel
theorem dL_compare_0 : decode bL_compare 0 = .ok (.aload 4, 2) := by decide +kernel
theorem dL_compare_2 : decode bL_compare 2 = .ok (.iconst 0, 1) := by decide +kernel
theorem dL_compare_3 : decode bL_compare 3 = .ok (.aload_n 0, 1) := by decide +kernel
theorem dL_compare_4 : decode bL_compare 4 = .ok (.iload_n 1, 1) := by decide +kernel
theorem dL_compare_5 : decode bL_compare 5 = .ok (.iload_n 2, 1) := by decide +kernel
theorem dL_compare_6 : decode bL_compare 6 = .ok (.iload_n 3, 1) := by decide +kernel
theorem dL_compare_7 : decode bL_compare 7 = .ok (.invokevirtual 59, 3) := by decide +kernel
theorem dL_compare_10 : decode bL_compare 10 = .ok (.i2l, 1) := by decide +kernel
theorem dL_compare_11 : decode bL_compare 11 = .ok (.lastore, 1) := by decide +kernel
theorem dL_compare_12 : decode bL_compare 12 = .ok (.goto 7, 3) := by decide +kernel
theorem dL_compare_15 : decode bL_compare 15 = .ok (.astore 5, 2) := by decide +kernel
theorem dL_compare_17 : decode bL_compare 17 = .ok (.iconst 1, 1) := by decide +kernel
theorem dL_compare_18 : decode bL_compare 18 = .ok (.ireturn, 1) := by decide +kernel
theorem dL_compare_19 : decode bL_compare 19 = .ok (.iconst 0, 1) := by decide +kernel
theorem dL_compare_20 : decode bL_compare 20 = .ok (.ireturn, 1) := by decide +kernel
theorem dL_same_0 : decode bL_same 0 = .ok (.aload 4, 2) := by decide +kernel
theorem dL_same_2 : decode bL_same 2 = .ok (.iconst 0, 1) := by decide +kernel
theorem dL_same_3 : decode bL_same 3 = .ok (.aload_n 0, 1) := by decide +kernel
theorem dL_same_4 : decode bL_same 4 = .ok (.iload_n 1, 1) := by decide +kernel
theorem dL_same_5 : decode bL_same 5 = .ok (.iload_n 2, 1) := by decide +kernel
theorem dL_same_6 : decode bL_same 6 = .ok (.iload_n 3, 1) := by decide +kernel
theorem dL_same_7 : decode bL_same 7 = .ok (.invokevirtual 63, 3) := by decide +kernel
theorem dL_same_10 : decode bL_same 10 = .ok (.ifCond .eq 7, 3) := by decide +kernel
theorem dL_same_13 : decode bL_same 13 = .ok (.lconst 1, 1) := by decide +kernel
theorem dL_same_14 : decode bL_same 14 = .ok (.goto 4, 3) := by decide +kernel
theorem dL_same_17 : decode bL_same 17 = .ok (.lconst 0, 1) := by decide +kernel
theorem dL_same_18 : decode bL_same 18 = .ok (.lastore, 1) := by decide +kernel
theorem dL_same_19 : decode bL_same 19 = .ok (.goto 7, 3) := by decide +kernel
theorem dL_same_22 : decode bL_same 22 = .ok (.astore 5, 2) := by decide +kernel
theorem dL_same_24 : decode bL_same 24 = .ok (.iconst 1, 1) := by decide +kernel
theorem dL_same_25 : decode bL_same 25 = .ok (.ireturn, 1) := by decide +kernel
theorem dL_same_26 : decode bL_same 26 = .ok (.iconst 0, 1) := by decide +kernel
theorem dL_same_27 : decode bL_same 27 = .ok (.ireturn, 1) := by decide +kernel
theorem dL_all_0 : decode bL_all 0 = .ok (.aload_n 3, 1) := by decide +kernel
theorem dL_all_1 : decode bL_all 1 = .ok (.iconst 0, 1) := by decide +kernel
theorem dL_all_2 : decode bL_all 2 = .ok (.aload_n 0, 1) := by decide +kernel
theorem dL_all_3 : decode bL_all 3 = .ok (.iload_n 1, 1) := by decide +kernel
theorem dL_all_4 : decode bL_all 4 = .ok (.iload_n 2, 1) := by decide +kernel
theorem dL_all_5 : decode bL_all 5 = .ok (.invokevirtual 67, 3) := by decide +kernel
theorem dL_all_8 : decode bL_all 8 = .ok (.i2l, 1) := by decide +kernel
theorem dL_all_9 : decode bL_all 9 = .ok (.lastore, 1) := by decide +kernel
theorem dL_all_10 : decode bL_all 10 = .ok (.goto 11, 3) := by decide +kernel
theorem dL_all_13 : decode bL_all 13 = .ok (.astore 4, 2) := by decide +kernel
theorem dL_all_15 : decode bL_all 15 = .ok (.iconst 1, 1) := by decide +kernel
theorem dL_all_16 : decode bL_all 16 = .ok (.ireturn, 1) := by decide +kernel
theorem dL_all_17 : decode bL_all 17 = .ok (.astore 4, 2) := by decide +kernel
theorem dL_all_19 : decode bL_all 19 = .ok (.iconst 2, 1) := by decide +kernel
theorem dL_all_20 : decode bL_all 20 = .ok (.ireturn, 1) := by decide +kernel
theorem dL_all_21 : decode bL_all 21 = .ok (.iconst 0, 1) := by decide +kernel
theorem dL_all_22 : decode bL_all 22 = .ok (.ireturn, 1) := by decide +kernel
theorem dL_edge_0 : decode bL_edge 0 = .ok (.aload_n 3, 1) := by decide +kernel
theorem dL_edge_1 : decode bL_edge 1 = .ok (.iconst 0, 1) := by decide +kernel
theorem dL_edge_2 : decode bL_edge 2 = .ok (.aload_n 0, 1) := by decide +kernel
theorem dL_edge_3 : decode bL_edge 3 = .ok (.iload_n 1, 1) := by decide +kernel
theorem dL_edge_4 : decode bL_edge 4 = .ok (.iload_n 2, 1) := by decide +kernel
theorem dL_edge_5 : decode bL_edge 5 = .ok (.invokevirtual 70, 3) := by decide +kernel
theorem dL_edge_8 : decode bL_edge 8 = .ok (.i2l, 1) := by decide +kernel
theorem dL_edge_9 : decode bL_edge 9 = .ok (.lastore, 1) := by decide +kernel
theorem dL_edge_10 : decode bL_edge 10 = .ok (.goto 7, 3) := by decide +kernel
theorem dL_edge_13 : decode bL_edge 13 = .ok (.astore 4, 2) := by decide +kernel
theorem dL_edge_15 : decode bL_edge 15 = .ok (.iconst 1, 1) := by decide +kernel
theorem dL_edge_16 : decode bL_edge 16 = .ok (.ireturn, 1) := by decide +kernel
theorem dL_edge_17 : decode bL_edge 17 = .ok (.iconst 0, 1) := by decide +kernel
theorem dL_edge_18 : decode bL_edge 18 = .ok (.ireturn, 1) := by decide +kernel
end
section
/-! ===== the law's wrappers: a call of the class, its exceptions caught and told as numbers ===== -/
section Wr
/-- what the wrappers ask beside nmX: which exception is caught where -/
def wrC (U : State) : Prop := va_Nc eIA eIO U ∧ va_Nc eIS eIO U ∧ va_Nc eAR eIO U ∧ va_Nc eAR eIA U
theorem wrC.to {u U : State} (hvm : u.vm.Alike U.vm) (h : wrC u) : wrC U := ⟨va_Nc.moved hvm h.1, va_Nc.moved hvm h.2.1, va_Nc.moved hvm h.2.2.1, va_Nc.moved hvm h.2.2.2⟩
def wrP (D : va_G) (cA cW : ClassId) (w : va_W) (U : State) : Prop := nmP D cA cW w U ∧ wrC U
variable {cA cW : ClassId} {T : Nat → Nat} {D : va_G}
theorem wrP.bl {w : va_W} : ∀ (a : Array Value) (U : State) (g : JFrame) (mk : MethodId), wrP D cA cW w U → wrP D cA cW w (U.calling g mk a) :=
  fun a U g mk q => ⟨nmP.bl a U g mk q.1, wrC.to (u := U) (U := U.calling g mk a) (Vm.Alike.refl U.vm) q.2⟩
theorem wr_kept {cl : List vw_C} {w : va_W} {E : String} {st t : State} {q : Addr} (hP : va_P D cl w st.heap) (h : ny_Thr E st q t) : va_P D cl w t.heap := by
  obtain ⟨ce, h1, h2, h3, h4, h5⟩ := h
  exact fun k x hx => (hP k x hx).kept (h5 x.1 (hP k x hx).lt)
theorem wr_F {A : Nat → Prop} {E : String} {st t : State} {q : Addr} (h : ny_Thr E st q t) : va_F A st t := by
  obtain ⟨ce, h1, h2, h3, h4, h5⟩ := h
  exact ⟨h4, fun z hz _ => h5 z hz⟩
variable {p : Program} {l : Launch} {e : Env} {R : Room} {s : State} {m : MethodId} {args : Array Value} {below : List Frame} {meth : Method} {c : Code} {Q : State → Prop}
variable {cc : ByteArray} {nL pc : Nat} {ls : Array Slot} {rest : List Value} {own : String} {i : Nat} {y : MethodName} {b : ByteArray} {mL n : Nat} {r : Option FieldType} {rm : Room} {As st0 : List Value} {A : Nat → Prop} {Pre : State → Prop} {ret : Option Value → State → State → Prop} {exc : String → Prop} {o : Nat} {C : String}
/-- the call: it returns, or an exception comes to this frame -/
theorem wr_call (S : CallFix p m c cc nL s args nzG own) (hM : ny_Met l y (Cond.code y b mL r :: nzG) rm (va_Pc (.ref o :: As) Pre) (nxQ ret exc) 0 0 1 6 A) (hw : nzV own i C y b mL r n) (hR : nzR rm R mL 1 6) (hc : 1 ≤ R.cells ∧ 6 ≤ R.slots)
    (hbl : ∀ (a : Array Value) (U : State) (g : JFrame) (mk : MethodId), Pre U → Pre (U.calling g mk a)) (hob : ∃ cellB : Cell, s.heap[o]? = some cellB ∧ cellB.vm.isStatics = false ∧ s.vm.findClass C = some cellB.cls) (hpre : ∀ U : State, U.heap = s.heap → s.WarmedH U.vm → Pre U)
    (hn : As.length = n) (hsz : ls.size = nL) (hst : st0 = As.reverse ++ .ref o :: rest) (hW : (rest.map fun v => v.category).sum ≤ 8) (hdg : decode cc pc = .ok (.invokevirtual i, 3))
    (kr : ∀ (v : Option Value) (st t : State) (L : List Loc), st.heap = s.heap → (∀ q ∈ L, A q.base) → ret v st t → W p l e R s m args below meth c t.heap L 0 0 Q (F0 m (pc + 3) ls (v.toList ++ rest)))
    (kx : ∀ (E : String) (q : Addr) (t : State) (L : List Loc), (∀ q ∈ L, A q.base) → exc E → ny_Thr E s q t → ny_W p l e R s m args below meth c t.heap L 1 6 Q (F0 m pc ls rest) q) : W p l e R s m args below meth c s.heap [] 0 0 Q (F0 m pc ls st0) := by
  refine ny_call (ny_runV S hM (hw.cb S.2.2.2.2 hR.1 hR.2.1 hR.2.2) ⟨fun a U g mk q => ⟨q.1, hbl a U g mk q.2⟩, hob, fun U hU hW => ⟨rfl, hpre U hU hW⟩⟩ rfl hn hsz hst (lv_room hW) hdg ⟨by omega, by omega⟩) ?_ ?_
  · intro v st t H1 L h0 hw0 ht hwt hL hq
    subst ht
    exact kr v st t _ h0 (fun q hq => hL q (by simpa using hq)) hq
  · intro q st t H1 L h0 hw0 ht hwt hL hq
    subst ht
    obtain ⟨E, h1, h2⟩ := hq
    exact kx E q t _ (fun q hq => hL q (by simpa using hq)) h1 (h2.up h0 hw0)
/-- a contract of a wrapper out of its walk -/
theorem wr_of {y : MethodName} {hh : List (Nat × Nat × Nat × Nat)} {Pc : Array Value → State → Prop} {Qc : Array Value → State → Outcome → State → Prop} {free : Addr → Prop} {mc ms : Nat} (hy : plainName y.cls = true) (ho : y.cls = own)
    (body : ∀ (p : Program) (e : Env) (s : State) (m : MethodId) (args : Array Value) (below : List Frame) (meth : Method) (c : Code), CallFix p m c b mL s args nzG own → meth.sig.returnType = r → meth.locks = false → c.exceptionTable.toList = tableOf hh → Pc args s →
      W p l e rm s m args below meth c s.heap [] 0 0 (MQ below Qc args s mc ms free) (entryFrame m args mL)) : Met l y (Cond.codeWith y b mL r hh :: nzG) rm Pc Qc mc ms free := by
  refine va_MetW (cc := b) (maxL := mL) (ret := r) (hh := hh) hy rfl ?_
  intro p e s m args below meth c s₁ B hml hP
  have hpre := atoms_spec (ws := Cond.codeWith y b mL r hh :: nzG) B.pre
  obtain ⟨m9, meth9, c9, h1, h2, h3, -, -, h6, -, -, -⟩ := Cond.codeWith_spec (hpre _ List.mem_cons_self)
  cases B.named.symm.trans h1
  cases B.method.symm.trans h2
  cases (Stand.of_body B).code.symm.trans h3
  exact body p e s m args below meth c ⟨B.exec, B.bytes, hml, by rw [← ho]; exact findClass_of_methodNamed B.named, fun w h => hpre w (List.mem_cons_of_mem _ h)⟩ B.returns B.notSynchronized (by rw [← h6, table_eq]) hP
end Wr
/-! ===== wrappers that hand an answer out by an array ===== -/
section Wo
/-- the out array's cell -/
abbrev woC (cJ : ClassId) (bo : Nat) (f : Nat → Int64) : va_W := [(bo, .inl (cJ, 1, .inr (.inl f)))]
abbrev woTy (cA cW cJ : ClassId) : List (ClassId × FieldType) := nvTy cA cW ++ [(cJ, .long)]
def woP (D : va_G) (cA cW cJ : ClassId) (w : va_W) (U : State) : Prop := va_P D vwCl w U.heap ∧ va_K D vwCl (woTy cA cW cJ) U ∧ va_D (fun _ => True) w ∧ nmX U ∧ wrC U
theorem woP.bl {D : va_G} {cA cW cJ : ClassId} {w : va_W} : ∀ (a : Array Value) (U : State) (g : JFrame) (mk : MethodId), woP D cA cW cJ w U → woP D cA cW cJ w (U.calling g mk a) :=
  fun a U g mk q => ⟨q.1, va_K.moved (u := U) (U := U.calling g mk a) (Vm.Alike.refl U.vm) q.2.1, q.2.2.1, nmX.bl a U g mk q.2.2.2.1, wrC.to (u := U) (U := U.calling g mk a) (Vm.Alike.refl U.vm) q.2.2.2.2⟩
theorem wo_store {D : va_G} {cA cW cJ : ClassId} {bo : Nat} {w : va_W} {p : Program} {l : Launch} {e : Env} {R : Room} {s : State} {m : MethodId} {args : Array Value} {below : List Frame} {meth : Method} {c : Code} {cells slots pc : Nat} {Q : State → Prop} {cc : ByteArray} {ls : Array Slot} {rest : List Value} {f : Nat → Int64} {x : Int64} {H : Heap} (hx : p.tables.exec = Jvm.exec) (hb : c.code = cc) (hK2 : va_K D vwCl (woTy cA cW cJ) s) (hP2 : va_P D vwCl (w ++ woC cJ bo f) s.heap) (hD2 : va_D (fun _ => True) (w ++ woC cJ bo f)) (hH : H = s.heap) (hdg : decode cc pc = .ok (.lastore, 1))
    (kk : ∀ (H1 : Heap) (locs1 : List Loc), va_P D vwCl (w ++ woC cJ bo (vp_updL f 0 x)) H1 → va_S (fun q => q = bo) s.heap H1 locs1 → W p l e R s m args below meth c H1 locs1 cells slots Q (F0 m (pc + 1) ls rest)) : W p l e R s m args below meth c H [] cells slots Q (F0 m pc ls (.long x :: .int 0 :: .ref bo :: rest)) := by
  subst hH
  refine va_last (A := fun q => q = bo) (H0 := s.heap) (ws := woC cJ bo f) hx hb hK2 (nw_P2 hP2) (va_D1 rfl) va_S.rf 0 2 rfl rfl (vp_in_nI (n := 0) (N := 1) (by decide) (by decide)) hdg (fun H1 locs1 h1 _ h3 => ?_)
  refine kk H1 locs1 (va_P.app (fun k q hq => ?_) h1) h3
  have h9 := nw_P1 hP2 k q hq
  exact h9.kept (h3.2.1 q.1 h9.lt (nw_ne hD2 (j := 0) hq rfl))
theorem wo_K {D : va_G} {cA cW cJ : ClassId} {s : State} (h : va_K D vwCl (woTy cA cW cJ) s) : va_K D vwCl (nvTy cA cW) s := h.sub [0, 1] rfl
end Wo
section Wk
theorem zSame_y {b1 N N' : Nat} {f h : Nat → Nat} (q : ¬ nI (zSame b1 f h N N') = 0) : zSame b1 f h N N' = 1 := by
  unfold zSame at q ⊢
  by_cases hc : N = N' ∧ ∀ k, k < N → (if b1 = 1 then zMatch (f k) (h k) = 1 else f k = h k)
  · exact if_pos hc
  · rw [if_neg hc] at q
    exact absurd rfl q
theorem in1 {p : Prop} [Decidable p] (h : (if p then 1 else 0 : Nat) ≠ 0) : (if p then 1 else 0 : Nat) = 1 := by
  by_cases hp : p
  · exact if_pos hp
  · exact absurd (if_neg hp) h
theorem in12 {p q : Prop} [Decidable p] [Decidable q] (h : (if p then 1 else if q then 2 else 0 : Nat) ≠ 0) : (if p then 1 else if q then 2 else 0 : Nat) = 1 ∨ (if p then 1 else if q then 2 else 0 : Nat) = 2 := by
  by_cases hp : p
  · exact Or.inl (if_pos hp)
  · by_cases hq : q
    · exact Or.inr (by rw [if_neg hp, if_pos hq])
    · exact absurd (by rw [if_neg hp, if_neg hq]) h
theorem in102 {p q : Prop} [Decidable p] [Decidable q] (h : (if p then 1 else if q then 0 else 2 : Nat) ≠ 0) : (if p then 1 else if q then 0 else 2 : Nat) = 1 ∨ (if p then 1 else if q then 0 else 2 : Nat) = 2 := by
  by_cases hp : p
  · exact Or.inl (if_pos hp)
  · by_cases hq : q
    · exact absurd (by rw [if_neg hp, if_pos hq]) h
    · exact Or.inr (by rw [if_neg hp, if_neg hq])
theorem kFill_in {x1 x2 x3 : Int32} (h : kFill x1 x2 x3 ≠ 0) : kFill x1 x2 x3 = 1 ∨ kFill x1 x2 x3 = 2 := in12 (p := plB x1) (q := lenB x2 ∨ valB x3) h
theorem kPut_in {n : Nat → Nat} {x1 x2 x3 : Int32} (h : kPut n x1 x2 x3 ≠ 0) : kPut n x1 x2 x3 = 1 ∨ kPut n x1 x2 x3 = 2 := in12 (p := elB n x1 x2) (q := valB x3) h
theorem kNumber_in {x1 x2 : Int32} (h : kNumber x1 x2 ≠ 0) : kNumber x1 x2 = 1 ∨ kNumber x1 x2 = 2 := in12 (p := plB x1) (q := lenB x2) h
theorem kChange_in {x1 x2 x3 : Int32} (h : kChange x1 x2 x3 ≠ 0) : kChange x1 x2 x3 = 1 ∨ kChange x1 x2 x3 = 2 := in12 (p := plB x2 ∨ plB x3) (q := x1 < 0 ∨ 6 < x1) h
theorem kShift_in {x1 x2 x3 x4 x5 : Int32} (h : kShift x1 x2 x3 x4 x5 ≠ 0) : kShift x1 x2 x3 x4 x5 = 1 ∨ kShift x1 x2 x3 x4 x5 = 2 := in12 (p := plB x4 ∨ plB x5) (q := shB x1 x2 x3) h
theorem kBring_in {x2 x3 x4 : Int32} (h : kBring x2 x3 x4 ≠ 0) : kBring x2 x3 x4 = 1 ∨ kBring x2 x3 x4 = 2 := in12 (p := plB x3 ∨ plB x4) (q := lenB x2) h
theorem kAll_in {x1 x2 : Int32} (h : kAll x1 x2 ≠ 0) : kAll x1 x2 = 1 ∨ kAll x1 x2 = 2 := in12 (p := plB x2) (q := x1 < 0 ∨ 3 < x1) h
theorem kNumberOf_in {n : Nat → Nat} {g : Nat → Nat → Nat} {x1 : Int32} (h : kNumberOf n g x1 ≠ 0) : kNumberOf n g x1 = 1 ∨ kNumberOf n g x1 = 2 := in102 (p := plB x1) (q := zAll (g (ix x1)) (n (ix x1)) = 1) h
theorem kCut_in {n : Nat → Nat} {x1 x2 x3 x4 : Int32} (h : kCut n x1 x2 x3 x4 ≠ 0) : kCut n x1 x2 x3 x4 = 1 := in1 (p := plB x3 ∨ plB x4 ∨ x1 < 0 ∨ nI (n (ix x3)) < x1 ∨ x2 < 0 ∨ nI (n (ix x3)) - x1 < x2) h
theorem kGet_in {n : Nat → Nat} {x1 x2 : Int32} (h : kGet n x1 x2 ≠ 0) : kGet n x1 x2 = 1 := in1 (p := elB n x1 x2) h
theorem kPl_in {x1 : Int32} (h : kPl x1 ≠ 0) : kPl x1 = 1 := in1 (p := plB x1) h
theorem kPl2_in {x1 x2 : Int32} (h : kPl2 x1 x2 ≠ 0) : kPl2 x1 x2 = 1 := in1 (p := plB x1 ∨ plB x2) h
theorem kEdge_in {x1 x2 : Int32} (h : kEdge x1 x2 ≠ 0) : kEdge x1 x2 = 1 := in1 (p := valB x1 ∨ valB x2) h
theorem kOp_in {o b1 N N' : Nat} {f h : Nat → Nat} (q : kOp o b1 f N h N' ≠ 0) : kOp o b1 f N h N' = 2 ∨ kOp o b1 f N h N' = 3 := by
  unfold kOp kCalc at q ⊢
  by_cases h1 : o ≤ 6
  · rw [if_pos h1] at q ⊢
    by_cases h2 : N = N'
    · exact absurd (if_pos h2) q
    · exact Or.inl (if_neg h2)
  · rw [if_neg h1] at q ⊢
    by_cases h2 : o = 13
    · rw [if_pos h2] at q ⊢
      by_cases h3 : N + N' ≤ 64
      · exact absurd (if_pos h3) q
      · exact Or.inl (if_neg h3)
    · rw [if_neg h2] at q ⊢
      by_cases h3 : 64 < zLen o N N'
      · exact Or.inl (if_pos h3)
      · rw [if_neg h3] at q ⊢
        by_cases h4 : zCnt f N = 1 ∧ zCnt h N' = 1 ∧ 10 ≤ o ∧ zLong b1 h N' = 0
        · exact Or.inr (if_pos h4)
        · exact absurd (if_neg h4) q
theorem kOperate_in {n : Nat → Nat} {g : Nat → Nat → Nat} {b1 : Nat} {x1 x3 x4 x5 : Int32} (h : kOperate n g b1 x1 x3 x4 x5 ≠ 0) : kOperate n g b1 x1 x3 x4 x5 = 1 ∨ kOperate n g b1 x1 x3 x4 x5 = 2 ∨ kOperate n g b1 x1 x3 x4 x5 = 3 := by
  unfold kOperate at h ⊢
  by_cases h1 : plB x3 ∨ plB x4 ∨ plB x5
  · exact Or.inl (if_pos h1)
  · rw [if_neg h1] at h ⊢
    by_cases h2 : x1 < 0 ∨ 13 < x1
    · exact Or.inr (Or.inl (if_pos h2))
    · rw [if_neg h2] at h ⊢
      exact Or.inr (kOp_in h)
end Wk
end
section
set_option maxHeartbeats 4000000 in
set_option maxRecDepth 100000 in
theorem cL_fill (l : Launch) (hfl : l.flags = pinnedFlags ++ [noTraceFlag]) (D : va_G) (cA cW : ClassId) (T : Nat → Nat) (hT : nvT T) (n : Nat → Nat) (g : Nat → Nat → Nat) (ok : nvOk n g)  (x1 x2 x3 : Int32) : Met l yL_fill (Cond.codeWith yL_fill bL_fill 5 (some .int) [(0, 7, 10, 13), (0, 7, 14, 15)] :: nzG) ({ frames := 8, cells := 1, slots := 6, locals := 133 }) (va_Pc [.ref (T 0), .int x1, .int x2, .int x3] (wrP D cA cW (nvW cA cW T n g))) (va_Qi (fun r (_ : Unit) => r = nI (kFill x1 x2 x3)) (fun _ t => (kFill x1 x2 x3 = 0 ∧ (fun H9 : Heap => ∃ n9 g9, nvU 16 n g (ix x1) (ix x2) (fun _ => ix x3) n9 g9 ∧ va_P D vwCl (nvW cA cW T n9 g9) H9) t.heap) ∨ (¬ kFill x1 x2 x3 = 0 ∧ va_P D vwCl (nvW cA cW T n g) t.heap)) (nvA T)) 1 6 (nvA T) := by
  refine wr_of (own := RL) (by decide) rfl ?_
  intro p e s m args below meth c S hr hlocks htab hv9
  obtain ⟨rfl, ⟨hP, hK, hX⟩, hC⟩ := hv9
  have hob0 := nv_ob0 hK hP
  have hx := S.1
  have hb := S.2.1
  refine nz_entry (vs := [.ref (T 0), .int x1, .int x2, .int x3]) (n := 5) (lv := [(0, .ref (T 0)), (1, .int x1), (2, .int x2), (3, .int x3)]) (Nat.le_of_ble_eq_true rfl) rfl (fun ls hl => ?_)
  refine lv_aload_n hx hb dL_fill_0 rfl (lv_at hl 0 rfl) ?_
  refine lv_iload_n hx hb dL_fill_1 rfl (lv_at hl 1 rfl) ?_
  refine lv_iload_n hx hb dL_fill_2 rfl (lv_at hl 2 rfl) ?_
  refine lv_iload_n hx hb dL_fill_3 rfl (lv_at hl 3 rfl) ?_
  refine wr_call (As := [.int x1, .int x2, .int x3]) (rest := []) S (cN_fill l hfl D cA cW T hT n g ok x1 x2 x3) kL_7 ⟨rfl, rfl, Nat.le_of_ble_eq_true rfl, Nat.le_of_ble_eq_true rfl⟩ ⟨Nat.le_of_ble_eq_true rfl, Nat.le_of_ble_eq_true rfl⟩ nmP.bl hob0 (nmP.to hP hK hX) rfl hl.1 rfl (Nat.le_of_ble_eq_true rfl) dL_fill_4 (fun v st t L h0 hL hq => ?_) (fun E q t L hL hE hT => ?_)
  · obtain ⟨rfl, hk, hB, hF⟩ := hq
    refine lv_goto (tgt := 18) hx hb dL_fill_7 (by decide) ?_
    refine lv_iconst (v := 0) hx hb dL_fill_18 (by decide) ?_
    refine W.widen (k := 1) (n := 6) (Nat.zero_le _) (Nat.zero_le _) ?_
    exact W.iret (v := 0) hx hb hr (fun t2 ht hW => ⟨⟨0, (), rfl, by rw [hk]; rfl, Or.inl ⟨hk, by rw [ht]; exact hB⟩⟩, ⟨by rw [ht, ← h0]; exact hF.1, fun z h1 h2 => by rw [ht, ← h0]; exact hF.2 z (by rw [h0]; exact h1) h2⟩⟩) hL dL_fill_19
  · have hks : kFill x1 x2 x3 = 1 ∨ kFill x1 x2 x3 = 2 := by
      exact kFill_in hE.1
    rcases hks with hk | hk
    · obtain rfl : E = eIO := by rw [hE.2, hk]; rfl
      obtain ⟨ce, hc1, hc2, hc3, hc4, hc5⟩ := id hT
      refine ny_catch (own := RL) (name := eIO) (E := eIO) S.2.2.2.1 [] ⟨0, 7, 10, 13⟩ [⟨0, 7, 14, 15⟩] (htab.trans rfl) (fun z hz => nomatch hz) rfl (by decide) (S.2.2.2.2 _ kclL_13) (va_Nw.use rfl (hX.2.2.1 eIO (by decide))) hc1 hc2 hc3 ?_
      refine lv_astore (lv' := [(4, .ref q), (0, .ref (T 0)), (1, .int x1), (2, .int x2), (3, .int x3)]) hx hb dL_fill_10 hl (by decide) rfl (fun ls hl => ?_)
      refine lv_iconst (v := 1) hx hb dL_fill_12 (by decide) ?_
      exact W.iret (v := 1) hx hb hr (fun t2 ht hW => ⟨⟨1, (), rfl, by rw [hk]; rfl, Or.inr ⟨by rw [hk]; decide, by rw [ht]; exact wr_kept hP hT⟩⟩, ⟨by rw [ht]; exact hc4, fun z h1 h2 => by rw [ht]; exact hc5 z h1⟩⟩) hL dL_fill_13
    · obtain rfl : E = eIA := by rw [hE.2, hk]; rfl
      obtain ⟨ce, hc1, hc2, hc3, hc4, hc5⟩ := id hT
      refine ny_catch (own := RL) (name := eIA) (E := eIA) S.2.2.2.1 [⟨0, 7, 10, 13⟩] ⟨0, 7, 14, 15⟩ [] (htab.trans rfl) (fun z hz => by
            rw [List.mem_singleton.mp hz]
            exact ⟨rfl, by decide, eIO, S.2.2.2.2 _ kclL_13, hC.1⟩) rfl (by decide) (S.2.2.2.2 _ kclL_15) (va_Nw.use rfl (hX.2.2.1 eIA (by decide))) hc1 hc2 hc3 ?_
      refine lv_astore (lv' := [(4, .ref q), (0, .ref (T 0)), (1, .int x1), (2, .int x2), (3, .int x3)]) hx hb dL_fill_14 hl (by decide) rfl (fun ls hl => ?_)
      refine lv_iconst (v := 2) hx hb dL_fill_16 (by decide) ?_
      exact W.iret (v := 2) hx hb hr (fun t2 ht hW => ⟨⟨2, (), rfl, by rw [hk]; rfl, Or.inr ⟨by rw [hk]; decide, by rw [ht]; exact wr_kept hP hT⟩⟩, ⟨by rw [ht]; exact hc4, fun z h1 h2 => by rw [ht]; exact hc5 z h1⟩⟩) hL dL_fill_17
set_option maxHeartbeats 4000000 in
set_option maxRecDepth 100000 in
theorem cL_put (l : Launch) (hfl : l.flags = pinnedFlags ++ [noTraceFlag]) (D : va_G) (cA cW : ClassId) (T : Nat → Nat) (hT : nvT T) (n : Nat → Nat) (g : Nat → Nat → Nat) (ok : nvOk n g)  (x1 x2 x3 : Int32) : Met l yL_put (Cond.codeWith yL_put bL_put 5 (some .int) [(0, 7, 10, 13), (0, 7, 14, 15)] :: nzG) ({ frames := 9, cells := 1, slots := 6, locals := 155 }) (va_Pc [.ref (T 0), .int x1, .int x2, .int x3] (wrP D cA cW (nvW cA cW T n g))) (va_Qi (fun r (_ : Unit) => r = nI (kPut n x1 x2 x3)) (fun _ t => (kPut n x1 x2 x3 = 0 ∧ (fun H9 : Heap => ∃ n9 g9, nvU 16 n g (ix x1) (n (ix x1)) (va_up (g (ix x1)) (ix x2) (ix x3)) n9 g9 ∧ va_P D vwCl (nvW cA cW T n9 g9) H9) t.heap) ∨ (¬ kPut n x1 x2 x3 = 0 ∧ va_P D vwCl (nvW cA cW T n g) t.heap)) (nvA T)) 1 6 (nvA T) := by
  refine wr_of (own := RL) (by decide) rfl ?_
  intro p e s m args below meth c S hr hlocks htab hv9
  obtain ⟨rfl, ⟨hP, hK, hX⟩, hC⟩ := hv9
  have hob0 := nv_ob0 hK hP
  have hx := S.1
  have hb := S.2.1
  refine nz_entry (vs := [.ref (T 0), .int x1, .int x2, .int x3]) (n := 5) (lv := [(0, .ref (T 0)), (1, .int x1), (2, .int x2), (3, .int x3)]) (Nat.le_of_ble_eq_true rfl) rfl (fun ls hl => ?_)
  refine lv_aload_n hx hb dL_put_0 rfl (lv_at hl 0 rfl) ?_
  refine lv_iload_n hx hb dL_put_1 rfl (lv_at hl 1 rfl) ?_
  refine lv_iload_n hx hb dL_put_2 rfl (lv_at hl 2 rfl) ?_
  refine lv_iload_n hx hb dL_put_3 rfl (lv_at hl 3 rfl) ?_
  refine wr_call (As := [.int x1, .int x2, .int x3]) (rest := []) S (cN_put l hfl D cA cW T hT n g ok x1 x2 x3) kL_17 ⟨rfl, rfl, Nat.le_of_ble_eq_true rfl, Nat.le_of_ble_eq_true rfl⟩ ⟨Nat.le_of_ble_eq_true rfl, Nat.le_of_ble_eq_true rfl⟩ nmP.bl hob0 (nmP.to hP hK hX) rfl hl.1 rfl (Nat.le_of_ble_eq_true rfl) dL_put_4 (fun v st t L h0 hL hq => ?_) (fun E q t L hL hE hT => ?_)
  · obtain ⟨rfl, hk, hB, hF⟩ := hq
    refine lv_goto (tgt := 18) hx hb dL_put_7 (by decide) ?_
    refine lv_iconst (v := 0) hx hb dL_put_18 (by decide) ?_
    refine W.widen (k := 1) (n := 6) (Nat.zero_le _) (Nat.zero_le _) ?_
    exact W.iret (v := 0) hx hb hr (fun t2 ht hW => ⟨⟨0, (), rfl, by rw [hk]; rfl, Or.inl ⟨hk, by rw [ht]; exact hB⟩⟩, ⟨by rw [ht, ← h0]; exact hF.1, fun z h1 h2 => by rw [ht, ← h0]; exact hF.2 z (by rw [h0]; exact h1) h2⟩⟩) hL dL_put_19
  · have hks : kPut n x1 x2 x3 = 1 ∨ kPut n x1 x2 x3 = 2 := by
      exact kPut_in hE.1
    rcases hks with hk | hk
    · obtain rfl : E = eIO := by rw [hE.2, hk]; rfl
      obtain ⟨ce, hc1, hc2, hc3, hc4, hc5⟩ := id hT
      refine ny_catch (own := RL) (name := eIO) (E := eIO) S.2.2.2.1 [] ⟨0, 7, 10, 13⟩ [⟨0, 7, 14, 15⟩] (htab.trans rfl) (fun z hz => nomatch hz) rfl (by decide) (S.2.2.2.2 _ kclL_13) (va_Nw.use rfl (hX.2.2.1 eIO (by decide))) hc1 hc2 hc3 ?_
      refine lv_astore (lv' := [(4, .ref q), (0, .ref (T 0)), (1, .int x1), (2, .int x2), (3, .int x3)]) hx hb dL_put_10 hl (by decide) rfl (fun ls hl => ?_)
      refine lv_iconst (v := 1) hx hb dL_put_12 (by decide) ?_
      exact W.iret (v := 1) hx hb hr (fun t2 ht hW => ⟨⟨1, (), rfl, by rw [hk]; rfl, Or.inr ⟨by rw [hk]; decide, by rw [ht]; exact wr_kept hP hT⟩⟩, ⟨by rw [ht]; exact hc4, fun z h1 h2 => by rw [ht]; exact hc5 z h1⟩⟩) hL dL_put_13
    · obtain rfl : E = eIA := by rw [hE.2, hk]; rfl
      obtain ⟨ce, hc1, hc2, hc3, hc4, hc5⟩ := id hT
      refine ny_catch (own := RL) (name := eIA) (E := eIA) S.2.2.2.1 [⟨0, 7, 10, 13⟩] ⟨0, 7, 14, 15⟩ [] (htab.trans rfl) (fun z hz => by
            rw [List.mem_singleton.mp hz]
            exact ⟨rfl, by decide, eIO, S.2.2.2.2 _ kclL_13, hC.1⟩) rfl (by decide) (S.2.2.2.2 _ kclL_15) (va_Nw.use rfl (hX.2.2.1 eIA (by decide))) hc1 hc2 hc3 ?_
      refine lv_astore (lv' := [(4, .ref q), (0, .ref (T 0)), (1, .int x1), (2, .int x2), (3, .int x3)]) hx hb dL_put_14 hl (by decide) rfl (fun ls hl => ?_)
      refine lv_iconst (v := 2) hx hb dL_put_16 (by decide) ?_
      exact W.iret (v := 2) hx hb hr (fun t2 ht hW => ⟨⟨2, (), rfl, by rw [hk]; rfl, Or.inr ⟨by rw [hk]; decide, by rw [ht]; exact wr_kept hP hT⟩⟩, ⟨by rw [ht]; exact hc4, fun z h1 h2 => by rw [ht]; exact hc5 z h1⟩⟩) hL dL_put_17
set_option maxHeartbeats 4000000 in
set_option maxRecDepth 100000 in
theorem cL_get (l : Launch) (hfl : l.flags = pinnedFlags ++ [noTraceFlag]) (D : va_G) (cA cW : ClassId) (T : Nat → Nat) (hT : nvT T) (n : Nat → Nat) (g : Nat → Nat → Nat) (ok : nvOk n g) (cJ : ClassId) (bo : Nat) (f : Nat → Int64) (x1 x2 : Int32) : Met l yL_get (Cond.codeWith yL_get bL_get 5 (some .int) [(0, 10, 13, 13)] :: nzG) ({ frames := 9, cells := 1, slots := 6, locals := 154 }) (va_Pc [.ref (T 0), .int x1, .int x2, .ref bo] (woP D cA cW cJ (nvW cA cW T n g ++ woC cJ bo f))) (va_Qi (fun r (_ : Unit) => r = nI (kGet n x1 x2)) (fun _ t => ∃ f9 : Nat → Int64, (kGet n x1 x2 = 0 → f9 0 = (nI (g (ix x1) (ix x2))).toInt64) ∧ va_P D vwCl (nvW cA cW T n g ++ woC cJ bo f9) t.heap) (fun q => q = bo)) 1 6 (fun q => q = bo) := by
  refine wr_of (own := RL) (by decide) rfl ?_
  intro p e s m args below meth c S hr hlocks htab hv9
  obtain ⟨rfl, hP2, hK2, hD2, hX, hC⟩ := hv9
  have hP := nw_P1 hP2
  have hK := wo_K hK2
  have hob0 := nv_ob0 hK hP
  have hx := S.1
  have hb := S.2.1
  refine nz_entry (vs := [.ref (T 0), .int x1, .int x2, .ref bo]) (n := 5) (lv := [(0, .ref (T 0)), (1, .int x1), (2, .int x2), (3, .ref bo)]) (Nat.le_of_ble_eq_true rfl) rfl (fun ls hl => ?_)
  refine lv_aload_n hx hb dL_get_0 rfl (lv_at hl 3 rfl) ?_
  refine lv_iconst (v := 0) hx hb dL_get_1 (by decide) ?_
  refine lv_aload_n hx hb dL_get_2 rfl (lv_at hl 0 rfl) ?_
  refine lv_iload_n hx hb dL_get_3 rfl (lv_at hl 1 rfl) ?_
  refine lv_iload_n hx hb dL_get_4 rfl (lv_at hl 2 rfl) ?_
  refine wr_call (As := [.int x1, .int x2]) (rest := [.int 0, .ref bo]) S (cN_get l hfl D cA cW T hT n g ok x1 x2) kL_20 ⟨rfl, rfl, Nat.le_of_ble_eq_true rfl, Nat.le_of_ble_eq_true rfl⟩ ⟨Nat.le_of_ble_eq_true rfl, Nat.le_of_ble_eq_true rfl⟩ nmP.bl hob0 (nmP.to hP hK hX) rfl hl.1 rfl (Nat.le_of_ble_eq_true rfl) dL_get_5 (fun v st t L h0 hL hq => ?_) (fun E q t L hL hE hT => ?_)
  · obtain ⟨hk, rfl, hh9⟩ := hq
    obtain rfl : L = [] := by
      cases L with
      | nil => rfl
      | cons z L => exact (hL z List.mem_cons_self).elim
    have hh0 : t.heap = s.heap := by rw [hh9, h0]
    refine lv_i2l (v := (nI (g (ix x1) (ix x2))).toInt64) hx hb dL_get_8 rfl ?_
    refine wo_store hx hb hK2 hP2 hD2 hh0 dL_get_9 (fun H locs hP2 hS => ?_)
    refine lv_goto (tgt := 17) hx hb dL_get_10 (by decide) ?_
    refine lv_iconst (v := 0) hx hb dL_get_17 (by decide) ?_
    refine W.widen (k := 1) (n := 6) (Nat.zero_le _) (Nat.zero_le _) ?_
    exact W.iret (v := 0) hx hb hr (fun t2 ht hW => ⟨⟨0, (), rfl, by rw [hk]; rfl, vp_updL f 0 ((nI (g (ix x1) (ix x2))).toInt64), fun _ => rfl, by rw [ht]; exact hP2⟩, hS.F ht⟩) hS.2.2 dL_get_18
  · have hks : kGet n x1 x2 = 1 := by
      exact kGet_in hE.1
    have hk := hks
    obtain rfl : E = eIO := by rw [hE.2, hk]; rfl
    obtain ⟨ce, hc1, hc2, hc3, hc4, hc5⟩ := id hT
    refine ny_catch (own := RL) (name := eIO) (E := eIO) S.2.2.2.1 [] ⟨0, 10, 13, 13⟩ [] (htab.trans rfl) (fun z hz => nomatch hz) rfl (by decide) (S.2.2.2.2 _ kclL_13) (va_Nw.use rfl (hX.2.2.1 eIO (by decide))) hc1 hc2 hc3 ?_
    refine lv_astore (lv' := [(4, .ref q), (0, .ref (T 0)), (1, .int x1), (2, .int x2), (3, .ref bo)]) hx hb dL_get_13 hl (by decide) rfl (fun ls hl => ?_)
    refine lv_iconst (v := 1) hx hb dL_get_15 (by decide) ?_
    exact W.iret (v := 1) hx hb hr (fun t2 ht hW => ⟨⟨1, (), rfl, by rw [hk]; rfl, f, fun h => absurd h (by rw [hk]; decide), by rw [ht]; exact wr_kept hP2 hT⟩, ⟨by rw [ht]; exact hc4, fun z h1 h2 => by rw [ht]; exact hc5 z h1⟩⟩) (fun z hz => (hL z hz).elim) dL_get_16
set_option maxHeartbeats 4000000 in
set_option maxRecDepth 100000 in
theorem cL_length (l : Launch) (hfl : l.flags = pinnedFlags ++ [noTraceFlag]) (D : va_G) (cA cW : ClassId) (T : Nat → Nat) (hT : nvT T) (n : Nat → Nat) (g : Nat → Nat → Nat) (ok : nvOk n g) (cJ : ClassId) (bo : Nat) (f : Nat → Int64) (x1 : Int32) : Met l yL_length (Cond.codeWith yL_length bL_length 4 (some .int) [(0, 9, 12, 13)] :: nzG) ({ frames := 8, cells := 1, slots := 6, locals := 131 }) (va_Pc [.ref (T 0), .int x1, .ref bo] (woP D cA cW cJ (nvW cA cW T n g ++ woC cJ bo f))) (va_Qi (fun r (_ : Unit) => r = nI (kPl x1)) (fun _ t => ∃ f9 : Nat → Int64, (kPl x1 = 0 → f9 0 = (nI (n (ix x1))).toInt64) ∧ va_P D vwCl (nvW cA cW T n g ++ woC cJ bo f9) t.heap) (fun q => q = bo)) 1 6 (fun q => q = bo) := by
  refine wr_of (own := RL) (by decide) rfl ?_
  intro p e s m args below meth c S hr hlocks htab hv9
  obtain ⟨rfl, hP2, hK2, hD2, hX, hC⟩ := hv9
  have hP := nw_P1 hP2
  have hK := wo_K hK2
  have hob0 := nv_ob0 hK hP
  have hx := S.1
  have hb := S.2.1
  refine nz_entry (vs := [.ref (T 0), .int x1, .ref bo]) (n := 4) (lv := [(0, .ref (T 0)), (1, .int x1), (2, .ref bo)]) (Nat.le_of_ble_eq_true rfl) rfl (fun ls hl => ?_)
  refine lv_aload_n hx hb dL_length_0 rfl (lv_at hl 2 rfl) ?_
  refine lv_iconst (v := 0) hx hb dL_length_1 (by decide) ?_
  refine lv_aload_n hx hb dL_length_2 rfl (lv_at hl 0 rfl) ?_
  refine lv_iload_n hx hb dL_length_3 rfl (lv_at hl 1 rfl) ?_
  refine wr_call (As := [.int x1]) (rest := [.int 0, .ref bo]) S (cN_length l hfl D cA cW T hT n g ok x1) kL_24 ⟨rfl, rfl, Nat.le_of_ble_eq_true rfl, Nat.le_of_ble_eq_true rfl⟩ ⟨Nat.le_of_ble_eq_true rfl, Nat.le_of_ble_eq_true rfl⟩ nmP.bl hob0 (nmP.to hP hK hX) rfl hl.1 rfl (Nat.le_of_ble_eq_true rfl) dL_length_4 (fun v st t L h0 hL hq => ?_) (fun E q t L hL hE hT => ?_)
  · obtain ⟨hk, rfl, hh9⟩ := hq
    obtain rfl : L = [] := by
      cases L with
      | nil => rfl
      | cons z L => exact (hL z List.mem_cons_self).elim
    have hh0 : t.heap = s.heap := by rw [hh9, h0]
    refine lv_i2l (v := (nI (n (ix x1))).toInt64) hx hb dL_length_7 rfl ?_
    refine wo_store hx hb hK2 hP2 hD2 hh0 dL_length_8 (fun H locs hP2 hS => ?_)
    refine lv_goto (tgt := 15) hx hb dL_length_9 (by decide) ?_
    refine lv_iconst (v := 0) hx hb dL_length_15 (by decide) ?_
    refine W.widen (k := 1) (n := 6) (Nat.zero_le _) (Nat.zero_le _) ?_
    exact W.iret (v := 0) hx hb hr (fun t2 ht hW => ⟨⟨0, (), rfl, by rw [hk]; rfl, vp_updL f 0 ((nI (n (ix x1))).toInt64), fun _ => rfl, by rw [ht]; exact hP2⟩, hS.F ht⟩) hS.2.2 dL_length_16
  · have hks : kPl x1 = 1 := by
      exact kPl_in hE.1
    have hk := hks
    obtain rfl : E = eIO := by rw [hE.2, hk]; rfl
    obtain ⟨ce, hc1, hc2, hc3, hc4, hc5⟩ := id hT
    refine ny_catch (own := RL) (name := eIO) (E := eIO) S.2.2.2.1 [] ⟨0, 9, 12, 13⟩ [] (htab.trans rfl) (fun z hz => nomatch hz) rfl (by decide) (S.2.2.2.2 _ kclL_13) (va_Nw.use rfl (hX.2.2.1 eIO (by decide))) hc1 hc2 hc3 ?_
    refine lv_astore_n (lv' := [(3, .ref q), (0, .ref (T 0)), (1, .int x1), (2, .ref bo)]) hx hb dL_length_12 rfl hl (by decide) rfl (fun ls hl => ?_)
    refine lv_iconst (v := 1) hx hb dL_length_13 (by decide) ?_
    exact W.iret (v := 1) hx hb hr (fun t2 ht hW => ⟨⟨1, (), rfl, by rw [hk]; rfl, f, fun h => absurd h (by rw [hk]; decide), by rw [ht]; exact wr_kept hP2 hT⟩, ⟨by rw [ht]; exact hc4, fun z h1 h2 => by rw [ht]; exact hc5 z h1⟩⟩) (fun z hz => (hL z hz).elim) dL_length_14
set_option maxHeartbeats 4000000 in
set_option maxRecDepth 100000 in
theorem cL_number (l : Launch) (hfl : l.flags = pinnedFlags ++ [noTraceFlag]) (D : va_G) (cA cW : ClassId) (T : Nat → Nat) (hT : nvT T) (n : Nat → Nat) (g : Nat → Nat → Nat) (ok : nvOk n g)  (x1 x2 : Int32) (v1 : Nat) (hv1 : v1 < 2 ^ 64) : Met l yL_number (Cond.codeWith yL_number bL_number 6 (some .int) [(0, 7, 10, 13), (0, 7, 14, 15)] :: nzG) ({ frames := 8, cells := 1, slots := 6, locals := 134 }) (va_Pc [.ref (T 0), .int x1, .int x2, .long (lN v1)] (wrP D cA cW (nvW cA cW T n g))) (va_Qi (fun r (_ : Unit) => r = nI (kNumber x1 x2)) (fun _ t => (kNumber x1 x2 = 0 ∧ (fun H9 : Heap => ∃ n9 g9, nvU 16 n g (ix x1) (ix x2) (zPut v1) n9 g9 ∧ va_P D vwCl (nvW cA cW T n9 g9) H9) t.heap) ∨ (¬ kNumber x1 x2 = 0 ∧ va_P D vwCl (nvW cA cW T n g) t.heap)) (nvA T)) 1 6 (nvA T) := by
  refine wr_of (own := RL) (by decide) rfl ?_
  intro p e s m args below meth c S hr hlocks htab hv9
  obtain ⟨rfl, ⟨hP, hK, hX⟩, hC⟩ := hv9
  have hob0 := nv_ob0 hK hP
  have hx := S.1
  have hb := S.2.1
  refine nz_entry (vs := [.ref (T 0), .int x1, .int x2, .long (lN v1)]) (n := 6) (lv := [(0, .ref (T 0)), (1, .int x1), (2, .int x2), (3, .long (lN v1))]) (Nat.le_of_ble_eq_true rfl) rfl (fun ls hl => ?_)
  refine lv_aload_n hx hb dL_number_0 rfl (lv_at hl 0 rfl) ?_
  refine lv_iload_n hx hb dL_number_1 rfl (lv_at hl 1 rfl) ?_
  refine lv_iload_n hx hb dL_number_2 rfl (lv_at hl 2 rfl) ?_
  refine lv_lload_n hx hb dL_number_3 rfl (lv_at hl 3 rfl) ?_
  refine wr_call (As := [.int x1, .int x2, .long (lN v1)]) (rest := []) S (cN_number l hfl D cA cW T hT n g ok x1 x2 v1 hv1) kL_28 ⟨rfl, rfl, Nat.le_of_ble_eq_true rfl, Nat.le_of_ble_eq_true rfl⟩ ⟨Nat.le_of_ble_eq_true rfl, Nat.le_of_ble_eq_true rfl⟩ nmP.bl hob0 (nmP.to hP hK hX) rfl hl.1 rfl (Nat.le_of_ble_eq_true rfl) dL_number_4 (fun v st t L h0 hL hq => ?_) (fun E q t L hL hE hT => ?_)
  · obtain ⟨rfl, hk, hB, hF⟩ := hq
    refine lv_goto (tgt := 18) hx hb dL_number_7 (by decide) ?_
    refine lv_iconst (v := 0) hx hb dL_number_18 (by decide) ?_
    refine W.widen (k := 1) (n := 6) (Nat.zero_le _) (Nat.zero_le _) ?_
    exact W.iret (v := 0) hx hb hr (fun t2 ht hW => ⟨⟨0, (), rfl, by rw [hk]; rfl, Or.inl ⟨hk, by rw [ht]; exact hB⟩⟩, ⟨by rw [ht, ← h0]; exact hF.1, fun z h1 h2 => by rw [ht, ← h0]; exact hF.2 z (by rw [h0]; exact h1) h2⟩⟩) hL dL_number_19
  · have hks : kNumber x1 x2 = 1 ∨ kNumber x1 x2 = 2 := by
      exact kNumber_in hE.1
    rcases hks with hk | hk
    · obtain rfl : E = eIO := by rw [hE.2, hk]; rfl
      obtain ⟨ce, hc1, hc2, hc3, hc4, hc5⟩ := id hT
      refine ny_catch (own := RL) (name := eIO) (E := eIO) S.2.2.2.1 [] ⟨0, 7, 10, 13⟩ [⟨0, 7, 14, 15⟩] (htab.trans rfl) (fun z hz => nomatch hz) rfl (by decide) (S.2.2.2.2 _ kclL_13) (va_Nw.use rfl (hX.2.2.1 eIO (by decide))) hc1 hc2 hc3 ?_
      refine lv_astore (lv' := [(5, .ref q), (0, .ref (T 0)), (1, .int x1), (2, .int x2), (3, .long (lN v1))]) hx hb dL_number_10 hl (by decide) rfl (fun ls hl => ?_)
      refine lv_iconst (v := 1) hx hb dL_number_12 (by decide) ?_
      exact W.iret (v := 1) hx hb hr (fun t2 ht hW => ⟨⟨1, (), rfl, by rw [hk]; rfl, Or.inr ⟨by rw [hk]; decide, by rw [ht]; exact wr_kept hP hT⟩⟩, ⟨by rw [ht]; exact hc4, fun z h1 h2 => by rw [ht]; exact hc5 z h1⟩⟩) hL dL_number_13
    · obtain rfl : E = eIA := by rw [hE.2, hk]; rfl
      obtain ⟨ce, hc1, hc2, hc3, hc4, hc5⟩ := id hT
      refine ny_catch (own := RL) (name := eIA) (E := eIA) S.2.2.2.1 [⟨0, 7, 10, 13⟩] ⟨0, 7, 14, 15⟩ [] (htab.trans rfl) (fun z hz => by
            rw [List.mem_singleton.mp hz]
            exact ⟨rfl, by decide, eIO, S.2.2.2.2 _ kclL_13, hC.1⟩) rfl (by decide) (S.2.2.2.2 _ kclL_15) (va_Nw.use rfl (hX.2.2.1 eIA (by decide))) hc1 hc2 hc3 ?_
      refine lv_astore (lv' := [(5, .ref q), (0, .ref (T 0)), (1, .int x1), (2, .int x2), (3, .long (lN v1))]) hx hb dL_number_14 hl (by decide) rfl (fun ls hl => ?_)
      refine lv_iconst (v := 2) hx hb dL_number_16 (by decide) ?_
      exact W.iret (v := 2) hx hb hr (fun t2 ht hW => ⟨⟨2, (), rfl, by rw [hk]; rfl, Or.inr ⟨by rw [hk]; decide, by rw [ht]; exact wr_kept hP hT⟩⟩, ⟨by rw [ht]; exact hc4, fun z h1 h2 => by rw [ht]; exact hc5 z h1⟩⟩) hL dL_number_17
set_option maxHeartbeats 4000000 in
set_option maxRecDepth 100000 in
theorem cL_numberOf (l : Launch) (hfl : l.flags = pinnedFlags ++ [noTraceFlag]) (D : va_G) (cA cW : ClassId) (T : Nat → Nat) (hT : nvT T) (n : Nat → Nat) (g : Nat → Nat → Nat) (ok : nvOk n g) (cJ : ClassId) (bo : Nat) (f : Nat → Int64) (x1 : Int32) (b1 : Nat) (hb1 : b1 < 2) : Met l yL_numberOf (Cond.codeWith yL_numberOf bL_numberOf 5 (some .int) [(0, 9, 12, 13), (0, 9, 16, 36)] :: nzG) ({ frames := 8, cells := 1, slots := 6, locals := 132 }) (va_Pc [.ref (T 0), .int x1, .int (nI b1), .ref bo] (woP D cA cW cJ (nvW cA cW T n g ++ woC cJ bo f))) (va_Qi (fun r (_ : Unit) => r = nI (kNumberOf n g x1)) (fun _ t => ∃ f9 : Nat → Int64, (kNumberOf n g x1 = 0 → f9 0 = lN (zLong b1 (g (ix x1)) (n (ix x1)))) ∧ va_P D vwCl (nvW cA cW T n g ++ woC cJ bo f9) t.heap) (fun q => q = bo)) 1 6 (fun q => q = bo) := by
  refine wr_of (own := RL) (by decide) rfl ?_
  intro p e s m args below meth c S hr hlocks htab hv9
  obtain ⟨rfl, hP2, hK2, hD2, hX, hC⟩ := hv9
  have hP := nw_P1 hP2
  have hK := wo_K hK2
  have hob0 := nv_ob0 hK hP
  have hx := S.1
  have hb := S.2.1
  refine nz_entry (vs := [.ref (T 0), .int x1, .int (nI b1), .ref bo]) (n := 5) (lv := [(0, .ref (T 0)), (1, .int x1), (2, .int (nI b1)), (3, .ref bo)]) (Nat.le_of_ble_eq_true rfl) rfl (fun ls hl => ?_)
  refine lv_aload_n hx hb dL_numberOf_0 rfl (lv_at hl 3 rfl) ?_
  refine lv_iconst (v := 0) hx hb dL_numberOf_1 (by decide) ?_
  refine lv_aload_n hx hb dL_numberOf_2 rfl (lv_at hl 0 rfl) ?_
  refine lv_iload_n hx hb dL_numberOf_3 rfl (lv_at hl 1 rfl) ?_
  refine lv_iload_n hx hb dL_numberOf_4 rfl (lv_at hl 2 rfl) ?_
  refine wr_call (As := [.int x1, .int (nI b1)]) (rest := [.int 0, .ref bo]) S (cN_numberOf l hfl D cA cW T hT n g ok x1 b1 hb1) kL_32 ⟨rfl, rfl, Nat.le_of_ble_eq_true rfl, Nat.le_of_ble_eq_true rfl⟩ ⟨Nat.le_of_ble_eq_true rfl, Nat.le_of_ble_eq_true rfl⟩ nmP.bl hob0 (nmP.to hP hK hX) rfl hl.1 rfl (Nat.le_of_ble_eq_true rfl) dL_numberOf_5 (fun v st t L h0 hL hq => ?_) (fun E q t L hL hE hT => ?_)
  · obtain ⟨hk, rfl, hh9⟩ := hq
    obtain rfl : L = [] := by
      cases L with
      | nil => rfl
      | cons z L => exact (hL z List.mem_cons_self).elim
    have hh0 : t.heap = s.heap := by rw [hh9, h0]
    refine wo_store hx hb hK2 hP2 hD2 hh0 dL_numberOf_8 (fun H locs hP2 hS => ?_)
    refine lv_goto (tgt := 20) hx hb dL_numberOf_9 (by decide) ?_
    refine lv_iconst (v := 0) hx hb dL_numberOf_20 (by decide) ?_
    refine W.widen (k := 1) (n := 6) (Nat.zero_le _) (Nat.zero_le _) ?_
    exact W.iret (v := 0) hx hb hr (fun t2 ht hW => ⟨⟨0, (), rfl, by rw [hk]; rfl, vp_updL f 0 (lN (zLong b1 (g (ix x1)) (n (ix x1)))), fun _ => rfl, by rw [ht]; exact hP2⟩, hS.F ht⟩) hS.2.2 dL_numberOf_21
  · have hks : kNumberOf n g x1 = 1 ∨ kNumberOf n g x1 = 2 := by
      exact kNumberOf_in hE.1
    rcases hks with hk | hk
    · obtain rfl : E = eIO := by rw [hE.2, hk]; rfl
      obtain ⟨ce, hc1, hc2, hc3, hc4, hc5⟩ := id hT
      refine ny_catch (own := RL) (name := eIO) (E := eIO) S.2.2.2.1 [] ⟨0, 9, 12, 13⟩ [⟨0, 9, 16, 36⟩] (htab.trans rfl) (fun z hz => nomatch hz) rfl (by decide) (S.2.2.2.2 _ kclL_13) (va_Nw.use rfl (hX.2.2.1 eIO (by decide))) hc1 hc2 hc3 ?_
      refine lv_astore (lv' := [(4, .ref q), (0, .ref (T 0)), (1, .int x1), (2, .int (nI b1)), (3, .ref bo)]) hx hb dL_numberOf_12 hl (by decide) rfl (fun ls hl => ?_)
      refine lv_iconst (v := 1) hx hb dL_numberOf_14 (by decide) ?_
      exact W.iret (v := 1) hx hb hr (fun t2 ht hW => ⟨⟨1, (), rfl, by rw [hk]; rfl, f, fun h => absurd h (by rw [hk]; decide), by rw [ht]; exact wr_kept hP2 hT⟩, ⟨by rw [ht]; exact hc4, fun z h1 h2 => by rw [ht]; exact hc5 z h1⟩⟩) (fun z hz => (hL z hz).elim) dL_numberOf_15
    · obtain rfl : E = eIS := by rw [hE.2, hk]; rfl
      obtain ⟨ce, hc1, hc2, hc3, hc4, hc5⟩ := id hT
      refine ny_catch (own := RL) (name := eIS) (E := eIS) S.2.2.2.1 [⟨0, 9, 12, 13⟩] ⟨0, 9, 16, 36⟩ [] (htab.trans rfl) (fun z hz => by
            rw [List.mem_singleton.mp hz]
            exact ⟨rfl, by decide, eIO, S.2.2.2.2 _ kclL_13, hC.2.1⟩) rfl (by decide) (S.2.2.2.2 _ kclL_36) (va_Nw.use rfl (hX.2.2.1 eIS (by decide))) hc1 hc2 hc3 ?_
      refine lv_astore (lv' := [(4, .ref q), (0, .ref (T 0)), (1, .int x1), (2, .int (nI b1)), (3, .ref bo)]) hx hb dL_numberOf_16 hl (by decide) rfl (fun ls hl => ?_)
      refine lv_iconst (v := 2) hx hb dL_numberOf_18 (by decide) ?_
      exact W.iret (v := 2) hx hb hr (fun t2 ht hW => ⟨⟨2, (), rfl, by rw [hk]; rfl, f, fun h => absurd h (by rw [hk]; decide), by rw [ht]; exact wr_kept hP2 hT⟩, ⟨by rw [ht]; exact hc4, fun z h1 h2 => by rw [ht]; exact hc5 z h1⟩⟩) (fun z hz => (hL z hz).elim) dL_numberOf_19
set_option maxHeartbeats 4000000 in
set_option maxRecDepth 100000 in
theorem cL_operate (l : Launch) (hfl : l.flags = pinnedFlags ++ [noTraceFlag]) (D : va_G) (cA cW : ClassId) (T : Nat → Nat) (hT : nvT T) (n : Nat → Nat) (g : Nat → Nat → Nat) (ok : nvOk n g)  (x1 x3 x4 x5 : Int32) (b1 : Nat) (hb1 : b1 < 2) : Met l yL_operate (Cond.codeWith yL_operate bL_operate 7 (some .int) [(0, 11, 14, 13), (0, 11, 18, 15), (0, 11, 22, 42)] :: nzG) ({ frames := 9, cells := 1, slots := 6, locals := 164 }) (va_Pc [.ref (T 0), .int x1, .int (nI b1), .int x3, .int x4, .int x5] (wrP D cA cW (nvW cA cW T n g))) (va_Qi (fun r (_ : Unit) => r = nI (kOperate n g b1 x1 x3 x4 x5)) (fun _ t => (kOperate n g b1 x1 x3 x4 x5 = 0 ∧ (fun H9 : Heap => ∃ n9 g9, nvU 16 n g (ix x5) (nOp (ix x1) (g (ix x3)) (n (ix x3)) (g (ix x4)) (n (ix x4))) (fOp (ix x1) b1 (g (ix x3)) (n (ix x3)) (g (ix x4)) (n (ix x4))) n9 g9 ∧ va_P D vwCl (nvW cA cW T n9 g9) H9) t.heap) ∨ (¬ kOperate n g b1 x1 x3 x4 x5 = 0 ∧ va_P D vwCl (nvW cA cW T n g) t.heap)) (nvA T)) 1 6 (nvA T) := by
  refine wr_of (own := RL) (by decide) rfl ?_
  intro p e s m args below meth c S hr hlocks htab hv9
  obtain ⟨rfl, ⟨hP, hK, hX⟩, hC⟩ := hv9
  have hob0 := nv_ob0 hK hP
  have hx := S.1
  have hb := S.2.1
  refine nz_entry (vs := [.ref (T 0), .int x1, .int (nI b1), .int x3, .int x4, .int x5]) (n := 7) (lv := [(0, .ref (T 0)), (1, .int x1), (2, .int (nI b1)), (3, .int x3), (4, .int x4), (5, .int x5)]) (Nat.le_of_ble_eq_true rfl) rfl (fun ls hl => ?_)
  refine lv_aload_n hx hb dL_operate_0 rfl (lv_at hl 0 rfl) ?_
  refine lv_iload_n hx hb dL_operate_1 rfl (lv_at hl 1 rfl) ?_
  refine lv_iload_n hx hb dL_operate_2 rfl (lv_at hl 2 rfl) ?_
  refine lv_iload_n hx hb dL_operate_3 rfl (lv_at hl 3 rfl) ?_
  refine lv_iload hx hb dL_operate_4 (lv_at hl 4 rfl) ?_
  refine lv_iload hx hb dL_operate_6 (lv_at hl 5 rfl) ?_
  refine wr_call (As := [.int x1, .int (nI b1), .int x3, .int x4, .int x5]) (rest := []) S (cN_operate l hfl D cA cW T hT n g ok x1 b1 hb1 x3 x4 x5) kL_38 ⟨rfl, rfl, Nat.le_of_ble_eq_true rfl, Nat.le_of_ble_eq_true rfl⟩ ⟨Nat.le_of_ble_eq_true rfl, Nat.le_of_ble_eq_true rfl⟩ nmP.bl hob0 (nmP.to hP hK hX) rfl hl.1 rfl (Nat.le_of_ble_eq_true rfl) dL_operate_8 (fun v st t L h0 hL hq => ?_) (fun E q t L hL hE hT => ?_)
  · obtain ⟨rfl, hk, hB, hF⟩ := hq
    refine lv_goto (tgt := 26) hx hb dL_operate_11 (by decide) ?_
    refine lv_iconst (v := 0) hx hb dL_operate_26 (by decide) ?_
    refine W.widen (k := 1) (n := 6) (Nat.zero_le _) (Nat.zero_le _) ?_
    exact W.iret (v := 0) hx hb hr (fun t2 ht hW => ⟨⟨0, (), rfl, by rw [hk]; rfl, Or.inl ⟨hk, by rw [ht]; exact hB⟩⟩, ⟨by rw [ht, ← h0]; exact hF.1, fun z h1 h2 => by rw [ht, ← h0]; exact hF.2 z (by rw [h0]; exact h1) h2⟩⟩) hL dL_operate_27
  · have hks : kOperate n g b1 x1 x3 x4 x5 = 1 ∨ kOperate n g b1 x1 x3 x4 x5 = 2 ∨ kOperate n g b1 x1 x3 x4 x5 = 3 := by
      exact kOperate_in hE.1
    rcases hks with hk | hk | hk
    · obtain rfl : E = eIO := by rw [hE.2, hk]; rfl
      obtain ⟨ce, hc1, hc2, hc3, hc4, hc5⟩ := id hT
      refine ny_catch (own := RL) (name := eIO) (E := eIO) S.2.2.2.1 [] ⟨0, 11, 14, 13⟩ [⟨0, 11, 18, 15⟩, ⟨0, 11, 22, 42⟩] (htab.trans rfl) (fun z hz => nomatch hz) rfl (by decide) (S.2.2.2.2 _ kclL_13) (va_Nw.use rfl (hX.2.2.1 eIO (by decide))) hc1 hc2 hc3 ?_
      refine lv_astore (lv' := [(6, .ref q), (0, .ref (T 0)), (1, .int x1), (2, .int (nI b1)), (3, .int x3), (4, .int x4), (5, .int x5)]) hx hb dL_operate_14 hl (by decide) rfl (fun ls hl => ?_)
      refine lv_iconst (v := 1) hx hb dL_operate_16 (by decide) ?_
      exact W.iret (v := 1) hx hb hr (fun t2 ht hW => ⟨⟨1, (), rfl, by rw [hk]; rfl, Or.inr ⟨by rw [hk]; decide, by rw [ht]; exact wr_kept hP hT⟩⟩, ⟨by rw [ht]; exact hc4, fun z h1 h2 => by rw [ht]; exact hc5 z h1⟩⟩) hL dL_operate_17
    · obtain rfl : E = eIA := by rw [hE.2, hk]; rfl
      obtain ⟨ce, hc1, hc2, hc3, hc4, hc5⟩ := id hT
      refine ny_catch (own := RL) (name := eIA) (E := eIA) S.2.2.2.1 [⟨0, 11, 14, 13⟩] ⟨0, 11, 18, 15⟩ [⟨0, 11, 22, 42⟩] (htab.trans rfl) (fun z hz => by
            rw [List.mem_singleton.mp hz]
            exact ⟨rfl, by decide, eIO, S.2.2.2.2 _ kclL_13, hC.1⟩) rfl (by decide) (S.2.2.2.2 _ kclL_15) (va_Nw.use rfl (hX.2.2.1 eIA (by decide))) hc1 hc2 hc3 ?_
      refine lv_astore (lv' := [(6, .ref q), (0, .ref (T 0)), (1, .int x1), (2, .int (nI b1)), (3, .int x3), (4, .int x4), (5, .int x5)]) hx hb dL_operate_18 hl (by decide) rfl (fun ls hl => ?_)
      refine lv_iconst (v := 2) hx hb dL_operate_20 (by decide) ?_
      exact W.iret (v := 2) hx hb hr (fun t2 ht hW => ⟨⟨2, (), rfl, by rw [hk]; rfl, Or.inr ⟨by rw [hk]; decide, by rw [ht]; exact wr_kept hP hT⟩⟩, ⟨by rw [ht]; exact hc4, fun z h1 h2 => by rw [ht]; exact hc5 z h1⟩⟩) hL dL_operate_21
    · obtain rfl : E = eAR := by rw [hE.2, hk]; rfl
      obtain ⟨ce, hc1, hc2, hc3, hc4, hc5⟩ := id hT
      refine ny_catch (own := RL) (name := eAR) (E := eAR) S.2.2.2.1 [⟨0, 11, 14, 13⟩, ⟨0, 11, 18, 15⟩] ⟨0, 11, 22, 42⟩ [] (htab.trans rfl) (fun z hz => by
            rcases List.mem_cons.mp hz with h | h
            · rw [h]; exact ⟨rfl, by decide, eIO, S.2.2.2.2 _ kclL_13, hC.2.2.1⟩
            · rw [List.mem_singleton.mp h]; exact ⟨rfl, by decide, eIA, S.2.2.2.2 _ kclL_15, hC.2.2.2⟩) rfl (by decide) (S.2.2.2.2 _ kclL_42) (va_Nw.use rfl (hX.2.2.1 eAR (by decide))) hc1 hc2 hc3 ?_
      refine lv_astore (lv' := [(6, .ref q), (0, .ref (T 0)), (1, .int x1), (2, .int (nI b1)), (3, .int x3), (4, .int x4), (5, .int x5)]) hx hb dL_operate_22 hl (by decide) rfl (fun ls hl => ?_)
      refine lv_iconst (v := 3) hx hb dL_operate_24 (by decide) ?_
      exact W.iret (v := 3) hx hb hr (fun t2 ht hW => ⟨⟨3, (), rfl, by rw [hk]; rfl, Or.inr ⟨by rw [hk]; decide, by rw [ht]; exact wr_kept hP hT⟩⟩, ⟨by rw [ht]; exact hc4, fun z h1 h2 => by rw [ht]; exact hc5 z h1⟩⟩) hL dL_operate_25
set_option maxHeartbeats 4000000 in
set_option maxRecDepth 100000 in
theorem cL_change (l : Launch) (hfl : l.flags = pinnedFlags ++ [noTraceFlag]) (D : va_G) (cA cW : ClassId) (T : Nat → Nat) (hT : nvT T) (n : Nat → Nat) (g : Nat → Nat → Nat) (ok : nvOk n g)  (x1 x2 x3 : Int32) : Met l yL_change (Cond.codeWith yL_change bL_change 5 (some .int) [(0, 7, 10, 13), (0, 7, 14, 15)] :: nzG) ({ frames := 8, cells := 1, slots := 6, locals := 133 }) (va_Pc [.ref (T 0), .int x1, .int x2, .int x3] (wrP D cA cW (nvW cA cW T n g))) (va_Qi (fun r (_ : Unit) => r = nI (kChange x1 x2 x3)) (fun _ t => (kChange x1 x2 x3 = 0 ∧ (fun H9 : Heap => ∃ n9 g9, nvU 16 n g (ix x3) (n (ix x2)) (fChange (ix x1) (g (ix x2)) (n (ix x2))) n9 g9 ∧ va_P D vwCl (nvW cA cW T n9 g9) H9) t.heap) ∨ (¬ kChange x1 x2 x3 = 0 ∧ va_P D vwCl (nvW cA cW T n g) t.heap)) (nvA T)) 1 6 (nvA T) := by
  refine wr_of (own := RL) (by decide) rfl ?_
  intro p e s m args below meth c S hr hlocks htab hv9
  obtain ⟨rfl, ⟨hP, hK, hX⟩, hC⟩ := hv9
  have hob0 := nv_ob0 hK hP
  have hx := S.1
  have hb := S.2.1
  refine nz_entry (vs := [.ref (T 0), .int x1, .int x2, .int x3]) (n := 5) (lv := [(0, .ref (T 0)), (1, .int x1), (2, .int x2), (3, .int x3)]) (Nat.le_of_ble_eq_true rfl) rfl (fun ls hl => ?_)
  refine lv_aload_n hx hb dL_change_0 rfl (lv_at hl 0 rfl) ?_
  refine lv_iload_n hx hb dL_change_1 rfl (lv_at hl 1 rfl) ?_
  refine lv_iload_n hx hb dL_change_2 rfl (lv_at hl 2 rfl) ?_
  refine lv_iload_n hx hb dL_change_3 rfl (lv_at hl 3 rfl) ?_
  refine wr_call (As := [.int x1, .int x2, .int x3]) (rest := []) S (cN_change l hfl D cA cW T hT n g ok x1 x2 x3) kL_44 ⟨rfl, rfl, Nat.le_of_ble_eq_true rfl, Nat.le_of_ble_eq_true rfl⟩ ⟨Nat.le_of_ble_eq_true rfl, Nat.le_of_ble_eq_true rfl⟩ nmP.bl hob0 (nmP.to hP hK hX) rfl hl.1 rfl (Nat.le_of_ble_eq_true rfl) dL_change_4 (fun v st t L h0 hL hq => ?_) (fun E q t L hL hE hT => ?_)
  · obtain ⟨rfl, hk, hB, hF⟩ := hq
    refine lv_goto (tgt := 18) hx hb dL_change_7 (by decide) ?_
    refine lv_iconst (v := 0) hx hb dL_change_18 (by decide) ?_
    refine W.widen (k := 1) (n := 6) (Nat.zero_le _) (Nat.zero_le _) ?_
    exact W.iret (v := 0) hx hb hr (fun t2 ht hW => ⟨⟨0, (), rfl, by rw [hk]; rfl, Or.inl ⟨hk, by rw [ht]; exact hB⟩⟩, ⟨by rw [ht, ← h0]; exact hF.1, fun z h1 h2 => by rw [ht, ← h0]; exact hF.2 z (by rw [h0]; exact h1) h2⟩⟩) hL dL_change_19
  · have hks : kChange x1 x2 x3 = 1 ∨ kChange x1 x2 x3 = 2 := by
      exact kChange_in hE.1
    rcases hks with hk | hk
    · obtain rfl : E = eIO := by rw [hE.2, hk]; rfl
      obtain ⟨ce, hc1, hc2, hc3, hc4, hc5⟩ := id hT
      refine ny_catch (own := RL) (name := eIO) (E := eIO) S.2.2.2.1 [] ⟨0, 7, 10, 13⟩ [⟨0, 7, 14, 15⟩] (htab.trans rfl) (fun z hz => nomatch hz) rfl (by decide) (S.2.2.2.2 _ kclL_13) (va_Nw.use rfl (hX.2.2.1 eIO (by decide))) hc1 hc2 hc3 ?_
      refine lv_astore (lv' := [(4, .ref q), (0, .ref (T 0)), (1, .int x1), (2, .int x2), (3, .int x3)]) hx hb dL_change_10 hl (by decide) rfl (fun ls hl => ?_)
      refine lv_iconst (v := 1) hx hb dL_change_12 (by decide) ?_
      exact W.iret (v := 1) hx hb hr (fun t2 ht hW => ⟨⟨1, (), rfl, by rw [hk]; rfl, Or.inr ⟨by rw [hk]; decide, by rw [ht]; exact wr_kept hP hT⟩⟩, ⟨by rw [ht]; exact hc4, fun z h1 h2 => by rw [ht]; exact hc5 z h1⟩⟩) hL dL_change_13
    · obtain rfl : E = eIA := by rw [hE.2, hk]; rfl
      obtain ⟨ce, hc1, hc2, hc3, hc4, hc5⟩ := id hT
      refine ny_catch (own := RL) (name := eIA) (E := eIA) S.2.2.2.1 [⟨0, 7, 10, 13⟩] ⟨0, 7, 14, 15⟩ [] (htab.trans rfl) (fun z hz => by
            rw [List.mem_singleton.mp hz]
            exact ⟨rfl, by decide, eIO, S.2.2.2.2 _ kclL_13, hC.1⟩) rfl (by decide) (S.2.2.2.2 _ kclL_15) (va_Nw.use rfl (hX.2.2.1 eIA (by decide))) hc1 hc2 hc3 ?_
      refine lv_astore (lv' := [(4, .ref q), (0, .ref (T 0)), (1, .int x1), (2, .int x2), (3, .int x3)]) hx hb dL_change_14 hl (by decide) rfl (fun ls hl => ?_)
      refine lv_iconst (v := 2) hx hb dL_change_16 (by decide) ?_
      exact W.iret (v := 2) hx hb hr (fun t2 ht hW => ⟨⟨2, (), rfl, by rw [hk]; rfl, Or.inr ⟨by rw [hk]; decide, by rw [ht]; exact wr_kept hP hT⟩⟩, ⟨by rw [ht]; exact hc4, fun z h1 h2 => by rw [ht]; exact hc5 z h1⟩⟩) hL dL_change_17
set_option maxHeartbeats 4000000 in
set_option maxRecDepth 100000 in
theorem cL_shift (l : Launch) (hfl : l.flags = pinnedFlags ++ [noTraceFlag]) (D : va_G) (cA cW : ClassId) (T : Nat → Nat) (hT : nvT T) (n : Nat → Nat) (g : Nat → Nat → Nat) (ok : nvOk n g)  (x1 x2 x3 x4 x5 : Int32) : Met l yL_shift (Cond.codeWith yL_shift bL_shift 7 (some .int) [(0, 11, 14, 13), (0, 11, 18, 15)] :: nzG) ({ frames := 8, cells := 1, slots := 6, locals := 136 }) (va_Pc [.ref (T 0), .int x1, .int x2, .int x3, .int x4, .int x5] (wrP D cA cW (nvW cA cW T n g))) (va_Qi (fun r (_ : Unit) => r = nI (kShift x1 x2 x3 x4 x5)) (fun _ t => (kShift x1 x2 x3 x4 x5 = 0 ∧ (fun H9 : Heap => ∃ n9 g9, nvU 16 n g (ix x5) (n (ix x4)) (fShift (ix x1) x2.toInt (ix x3) (g (ix x4)) (n (ix x4))) n9 g9 ∧ va_P D vwCl (nvW cA cW T n9 g9) H9) t.heap) ∨ (¬ kShift x1 x2 x3 x4 x5 = 0 ∧ va_P D vwCl (nvW cA cW T n g) t.heap)) (nvA T)) 1 6 (nvA T) := by
  refine wr_of (own := RL) (by decide) rfl ?_
  intro p e s m args below meth c S hr hlocks htab hv9
  obtain ⟨rfl, ⟨hP, hK, hX⟩, hC⟩ := hv9
  have hob0 := nv_ob0 hK hP
  have hx := S.1
  have hb := S.2.1
  refine nz_entry (vs := [.ref (T 0), .int x1, .int x2, .int x3, .int x4, .int x5]) (n := 7) (lv := [(0, .ref (T 0)), (1, .int x1), (2, .int x2), (3, .int x3), (4, .int x4), (5, .int x5)]) (Nat.le_of_ble_eq_true rfl) rfl (fun ls hl => ?_)
  refine lv_aload_n hx hb dL_shift_0 rfl (lv_at hl 0 rfl) ?_
  refine lv_iload_n hx hb dL_shift_1 rfl (lv_at hl 1 rfl) ?_
  refine lv_iload_n hx hb dL_shift_2 rfl (lv_at hl 2 rfl) ?_
  refine lv_iload_n hx hb dL_shift_3 rfl (lv_at hl 3 rfl) ?_
  refine lv_iload hx hb dL_shift_4 (lv_at hl 4 rfl) ?_
  refine lv_iload hx hb dL_shift_6 (lv_at hl 5 rfl) ?_
  refine wr_call (As := [.int x1, .int x2, .int x3, .int x4, .int x5]) (rest := []) S (cN_shift l hfl D cA cW T hT n g ok x1 x2 x3 x4 x5) kL_47 ⟨rfl, rfl, Nat.le_of_ble_eq_true rfl, Nat.le_of_ble_eq_true rfl⟩ ⟨Nat.le_of_ble_eq_true rfl, Nat.le_of_ble_eq_true rfl⟩ nmP.bl hob0 (nmP.to hP hK hX) rfl hl.1 rfl (Nat.le_of_ble_eq_true rfl) dL_shift_8 (fun v st t L h0 hL hq => ?_) (fun E q t L hL hE hT => ?_)
  · obtain ⟨rfl, hk, hB, hF⟩ := hq
    refine lv_goto (tgt := 22) hx hb dL_shift_11 (by decide) ?_
    refine lv_iconst (v := 0) hx hb dL_shift_22 (by decide) ?_
    refine W.widen (k := 1) (n := 6) (Nat.zero_le _) (Nat.zero_le _) ?_
    exact W.iret (v := 0) hx hb hr (fun t2 ht hW => ⟨⟨0, (), rfl, by rw [hk]; rfl, Or.inl ⟨hk, by rw [ht]; exact hB⟩⟩, ⟨by rw [ht, ← h0]; exact hF.1, fun z h1 h2 => by rw [ht, ← h0]; exact hF.2 z (by rw [h0]; exact h1) h2⟩⟩) hL dL_shift_23
  · have hks : kShift x1 x2 x3 x4 x5 = 1 ∨ kShift x1 x2 x3 x4 x5 = 2 := by
      exact kShift_in hE.1
    rcases hks with hk | hk
    · obtain rfl : E = eIO := by rw [hE.2, hk]; rfl
      obtain ⟨ce, hc1, hc2, hc3, hc4, hc5⟩ := id hT
      refine ny_catch (own := RL) (name := eIO) (E := eIO) S.2.2.2.1 [] ⟨0, 11, 14, 13⟩ [⟨0, 11, 18, 15⟩] (htab.trans rfl) (fun z hz => nomatch hz) rfl (by decide) (S.2.2.2.2 _ kclL_13) (va_Nw.use rfl (hX.2.2.1 eIO (by decide))) hc1 hc2 hc3 ?_
      refine lv_astore (lv' := [(6, .ref q), (0, .ref (T 0)), (1, .int x1), (2, .int x2), (3, .int x3), (4, .int x4), (5, .int x5)]) hx hb dL_shift_14 hl (by decide) rfl (fun ls hl => ?_)
      refine lv_iconst (v := 1) hx hb dL_shift_16 (by decide) ?_
      exact W.iret (v := 1) hx hb hr (fun t2 ht hW => ⟨⟨1, (), rfl, by rw [hk]; rfl, Or.inr ⟨by rw [hk]; decide, by rw [ht]; exact wr_kept hP hT⟩⟩, ⟨by rw [ht]; exact hc4, fun z h1 h2 => by rw [ht]; exact hc5 z h1⟩⟩) hL dL_shift_17
    · obtain rfl : E = eIA := by rw [hE.2, hk]; rfl
      obtain ⟨ce, hc1, hc2, hc3, hc4, hc5⟩ := id hT
      refine ny_catch (own := RL) (name := eIA) (E := eIA) S.2.2.2.1 [⟨0, 11, 14, 13⟩] ⟨0, 11, 18, 15⟩ [] (htab.trans rfl) (fun z hz => by
            rw [List.mem_singleton.mp hz]
            exact ⟨rfl, by decide, eIO, S.2.2.2.2 _ kclL_13, hC.1⟩) rfl (by decide) (S.2.2.2.2 _ kclL_15) (va_Nw.use rfl (hX.2.2.1 eIA (by decide))) hc1 hc2 hc3 ?_
      refine lv_astore (lv' := [(6, .ref q), (0, .ref (T 0)), (1, .int x1), (2, .int x2), (3, .int x3), (4, .int x4), (5, .int x5)]) hx hb dL_shift_18 hl (by decide) rfl (fun ls hl => ?_)
      refine lv_iconst (v := 2) hx hb dL_shift_20 (by decide) ?_
      exact W.iret (v := 2) hx hb hr (fun t2 ht hW => ⟨⟨2, (), rfl, by rw [hk]; rfl, Or.inr ⟨by rw [hk]; decide, by rw [ht]; exact wr_kept hP hT⟩⟩, ⟨by rw [ht]; exact hc4, fun z h1 h2 => by rw [ht]; exact hc5 z h1⟩⟩) hL dL_shift_21
set_option maxHeartbeats 4000000 in
set_option maxRecDepth 100000 in
theorem cL_bring (l : Launch) (hfl : l.flags = pinnedFlags ++ [noTraceFlag]) (D : va_G) (cA cW : ClassId) (T : Nat → Nat) (hT : nvT T) (n : Nat → Nat) (g : Nat → Nat → Nat) (ok : nvOk n g)  (x2 x3 x4 : Int32) (b1 : Nat) (hb1 : b1 < 2) : Met l yL_bring (Cond.codeWith yL_bring bL_bring 6 (some .int) [(0, 9, 12, 13), (0, 9, 16, 15)] :: nzG) ({ frames := 8, cells := 1, slots := 6, locals := 135 }) (va_Pc [.ref (T 0), .int (nI b1), .int x2, .int x3, .int x4] (wrP D cA cW (nvW cA cW T n g))) (va_Qi (fun r (_ : Unit) => r = nI (kBring x2 x3 x4)) (fun _ t => (kBring x2 x3 x4 = 0 ∧ (fun H9 : Heap => ∃ n9 g9, nvU 16 n g (ix x4) (ix x2) (fBring b1 (g (ix x3)) (n (ix x3))) n9 g9 ∧ va_P D vwCl (nvW cA cW T n9 g9) H9) t.heap) ∨ (¬ kBring x2 x3 x4 = 0 ∧ va_P D vwCl (nvW cA cW T n g) t.heap)) (nvA T)) 1 6 (nvA T) := by
  refine wr_of (own := RL) (by decide) rfl ?_
  intro p e s m args below meth c S hr hlocks htab hv9
  obtain ⟨rfl, ⟨hP, hK, hX⟩, hC⟩ := hv9
  have hob0 := nv_ob0 hK hP
  have hx := S.1
  have hb := S.2.1
  refine nz_entry (vs := [.ref (T 0), .int (nI b1), .int x2, .int x3, .int x4]) (n := 6) (lv := [(0, .ref (T 0)), (1, .int (nI b1)), (2, .int x2), (3, .int x3), (4, .int x4)]) (Nat.le_of_ble_eq_true rfl) rfl (fun ls hl => ?_)
  refine lv_aload_n hx hb dL_bring_0 rfl (lv_at hl 0 rfl) ?_
  refine lv_iload_n hx hb dL_bring_1 rfl (lv_at hl 1 rfl) ?_
  refine lv_iload_n hx hb dL_bring_2 rfl (lv_at hl 2 rfl) ?_
  refine lv_iload_n hx hb dL_bring_3 rfl (lv_at hl 3 rfl) ?_
  refine lv_iload hx hb dL_bring_4 (lv_at hl 4 rfl) ?_
  refine wr_call (As := [.int (nI b1), .int x2, .int x3, .int x4]) (rest := []) S (cN_bring l hfl D cA cW T hT n g ok b1 hb1 x2 x3 x4) kL_51 ⟨rfl, rfl, Nat.le_of_ble_eq_true rfl, Nat.le_of_ble_eq_true rfl⟩ ⟨Nat.le_of_ble_eq_true rfl, Nat.le_of_ble_eq_true rfl⟩ nmP.bl hob0 (nmP.to hP hK hX) rfl hl.1 rfl (Nat.le_of_ble_eq_true rfl) dL_bring_6 (fun v st t L h0 hL hq => ?_) (fun E q t L hL hE hT => ?_)
  · obtain ⟨rfl, hk, hB, hF⟩ := hq
    refine lv_goto (tgt := 20) hx hb dL_bring_9 (by decide) ?_
    refine lv_iconst (v := 0) hx hb dL_bring_20 (by decide) ?_
    refine W.widen (k := 1) (n := 6) (Nat.zero_le _) (Nat.zero_le _) ?_
    exact W.iret (v := 0) hx hb hr (fun t2 ht hW => ⟨⟨0, (), rfl, by rw [hk]; rfl, Or.inl ⟨hk, by rw [ht]; exact hB⟩⟩, ⟨by rw [ht, ← h0]; exact hF.1, fun z h1 h2 => by rw [ht, ← h0]; exact hF.2 z (by rw [h0]; exact h1) h2⟩⟩) hL dL_bring_21
  · have hks : kBring x2 x3 x4 = 1 ∨ kBring x2 x3 x4 = 2 := by
      exact kBring_in hE.1
    rcases hks with hk | hk
    · obtain rfl : E = eIO := by rw [hE.2, hk]; rfl
      obtain ⟨ce, hc1, hc2, hc3, hc4, hc5⟩ := id hT
      refine ny_catch (own := RL) (name := eIO) (E := eIO) S.2.2.2.1 [] ⟨0, 9, 12, 13⟩ [⟨0, 9, 16, 15⟩] (htab.trans rfl) (fun z hz => nomatch hz) rfl (by decide) (S.2.2.2.2 _ kclL_13) (va_Nw.use rfl (hX.2.2.1 eIO (by decide))) hc1 hc2 hc3 ?_
      refine lv_astore (lv' := [(5, .ref q), (0, .ref (T 0)), (1, .int (nI b1)), (2, .int x2), (3, .int x3), (4, .int x4)]) hx hb dL_bring_12 hl (by decide) rfl (fun ls hl => ?_)
      refine lv_iconst (v := 1) hx hb dL_bring_14 (by decide) ?_
      exact W.iret (v := 1) hx hb hr (fun t2 ht hW => ⟨⟨1, (), rfl, by rw [hk]; rfl, Or.inr ⟨by rw [hk]; decide, by rw [ht]; exact wr_kept hP hT⟩⟩, ⟨by rw [ht]; exact hc4, fun z h1 h2 => by rw [ht]; exact hc5 z h1⟩⟩) hL dL_bring_15
    · obtain rfl : E = eIA := by rw [hE.2, hk]; rfl
      obtain ⟨ce, hc1, hc2, hc3, hc4, hc5⟩ := id hT
      refine ny_catch (own := RL) (name := eIA) (E := eIA) S.2.2.2.1 [⟨0, 9, 12, 13⟩] ⟨0, 9, 16, 15⟩ [] (htab.trans rfl) (fun z hz => by
            rw [List.mem_singleton.mp hz]
            exact ⟨rfl, by decide, eIO, S.2.2.2.2 _ kclL_13, hC.1⟩) rfl (by decide) (S.2.2.2.2 _ kclL_15) (va_Nw.use rfl (hX.2.2.1 eIA (by decide))) hc1 hc2 hc3 ?_
      refine lv_astore (lv' := [(5, .ref q), (0, .ref (T 0)), (1, .int (nI b1)), (2, .int x2), (3, .int x3), (4, .int x4)]) hx hb dL_bring_16 hl (by decide) rfl (fun ls hl => ?_)
      refine lv_iconst (v := 2) hx hb dL_bring_18 (by decide) ?_
      exact W.iret (v := 2) hx hb hr (fun t2 ht hW => ⟨⟨2, (), rfl, by rw [hk]; rfl, Or.inr ⟨by rw [hk]; decide, by rw [ht]; exact wr_kept hP hT⟩⟩, ⟨by rw [ht]; exact hc4, fun z h1 h2 => by rw [ht]; exact hc5 z h1⟩⟩) hL dL_bring_19
set_option maxHeartbeats 4000000 in
set_option maxRecDepth 100000 in
theorem cL_cut (l : Launch) (hfl : l.flags = pinnedFlags ++ [noTraceFlag]) (D : va_G) (cA cW : ClassId) (T : Nat → Nat) (hT : nvT T) (n : Nat → Nat) (g : Nat → Nat → Nat) (ok : nvOk n g)  (x1 x2 x3 x4 : Int32) : Met l yL_cut (Cond.codeWith yL_cut bL_cut 6 (some .int) [(0, 9, 12, 13)] :: nzG) ({ frames := 8, cells := 1, slots := 6, locals := 135 }) (va_Pc [.ref (T 0), .int x1, .int x2, .int x3, .int x4] (wrP D cA cW (nvW cA cW T n g))) (va_Qi (fun r (_ : Unit) => r = nI (kCut n x1 x2 x3 x4)) (fun _ t => (kCut n x1 x2 x3 x4 = 0 ∧ (fun H9 : Heap => ∃ n9 g9, nvU 16 n g (ix x4) (ix x2) (fun i => g (ix x3) (ix x1 + i)) n9 g9 ∧ va_P D vwCl (nvW cA cW T n9 g9) H9) t.heap) ∨ (¬ kCut n x1 x2 x3 x4 = 0 ∧ va_P D vwCl (nvW cA cW T n g) t.heap)) (nvA T)) 1 6 (nvA T) := by
  refine wr_of (own := RL) (by decide) rfl ?_
  intro p e s m args below meth c S hr hlocks htab hv9
  obtain ⟨rfl, ⟨hP, hK, hX⟩, hC⟩ := hv9
  have hob0 := nv_ob0 hK hP
  have hx := S.1
  have hb := S.2.1
  refine nz_entry (vs := [.ref (T 0), .int x1, .int x2, .int x3, .int x4]) (n := 6) (lv := [(0, .ref (T 0)), (1, .int x1), (2, .int x2), (3, .int x3), (4, .int x4)]) (Nat.le_of_ble_eq_true rfl) rfl (fun ls hl => ?_)
  refine lv_aload_n hx hb dL_cut_0 rfl (lv_at hl 0 rfl) ?_
  refine lv_iload_n hx hb dL_cut_1 rfl (lv_at hl 1 rfl) ?_
  refine lv_iload_n hx hb dL_cut_2 rfl (lv_at hl 2 rfl) ?_
  refine lv_iload_n hx hb dL_cut_3 rfl (lv_at hl 3 rfl) ?_
  refine lv_iload hx hb dL_cut_4 (lv_at hl 4 rfl) ?_
  refine wr_call (As := [.int x1, .int x2, .int x3, .int x4]) (rest := []) S (cN_cut l hfl D cA cW T hT n g ok x1 x2 x3 x4) kL_55 ⟨rfl, rfl, Nat.le_of_ble_eq_true rfl, Nat.le_of_ble_eq_true rfl⟩ ⟨Nat.le_of_ble_eq_true rfl, Nat.le_of_ble_eq_true rfl⟩ nmP.bl hob0 (nmP.to hP hK hX) rfl hl.1 rfl (Nat.le_of_ble_eq_true rfl) dL_cut_6 (fun v st t L h0 hL hq => ?_) (fun E q t L hL hE hT => ?_)
  · obtain ⟨rfl, hk, hB, hF⟩ := hq
    refine lv_goto (tgt := 16) hx hb dL_cut_9 (by decide) ?_
    refine lv_iconst (v := 0) hx hb dL_cut_16 (by decide) ?_
    refine W.widen (k := 1) (n := 6) (Nat.zero_le _) (Nat.zero_le _) ?_
    exact W.iret (v := 0) hx hb hr (fun t2 ht hW => ⟨⟨0, (), rfl, by rw [hk]; rfl, Or.inl ⟨hk, by rw [ht]; exact hB⟩⟩, ⟨by rw [ht, ← h0]; exact hF.1, fun z h1 h2 => by rw [ht, ← h0]; exact hF.2 z (by rw [h0]; exact h1) h2⟩⟩) hL dL_cut_17
  · have hks : kCut n x1 x2 x3 x4 = 1 := by
      exact kCut_in hE.1
    have hk := hks
    obtain rfl : E = eIO := by rw [hE.2, hk]; rfl
    obtain ⟨ce, hc1, hc2, hc3, hc4, hc5⟩ := id hT
    refine ny_catch (own := RL) (name := eIO) (E := eIO) S.2.2.2.1 [] ⟨0, 9, 12, 13⟩ [] (htab.trans rfl) (fun z hz => nomatch hz) rfl (by decide) (S.2.2.2.2 _ kclL_13) (va_Nw.use rfl (hX.2.2.1 eIO (by decide))) hc1 hc2 hc3 ?_
    refine lv_astore (lv' := [(5, .ref q), (0, .ref (T 0)), (1, .int x1), (2, .int x2), (3, .int x3), (4, .int x4)]) hx hb dL_cut_12 hl (by decide) rfl (fun ls hl => ?_)
    refine lv_iconst (v := 1) hx hb dL_cut_14 (by decide) ?_
    exact W.iret (v := 1) hx hb hr (fun t2 ht hW => ⟨⟨1, (), rfl, by rw [hk]; rfl, Or.inr ⟨by rw [hk]; decide, by rw [ht]; exact wr_kept hP hT⟩⟩, ⟨by rw [ht]; exact hc4, fun z h1 h2 => by rw [ht]; exact hc5 z h1⟩⟩) hL dL_cut_15
set_option maxHeartbeats 4000000 in
set_option maxRecDepth 100000 in
theorem cL_compare (l : Launch) (hfl : l.flags = pinnedFlags ++ [noTraceFlag]) (D : va_G) (cA cW : ClassId) (T : Nat → Nat) (hT : nvT T) (n : Nat → Nat) (g : Nat → Nat → Nat) (ok : nvOk n g) (cJ : ClassId) (bo : Nat) (f : Nat → Int64) (x2 x3 : Int32) (b1 : Nat) (hb1 : b1 < 2) : Met l yL_compare (Cond.codeWith yL_compare bL_compare 6 (some .int) [(0, 12, 15, 13)] :: nzG) ({ frames := 8, cells := 1, slots := 6, locals := 137 }) (va_Pc [.ref (T 0), .int (nI b1), .int x2, .int x3, .ref bo] (woP D cA cW cJ (nvW cA cW T n g ++ woC cJ bo f))) (va_Qi (fun r (_ : Unit) => r = nI (kPl2 x2 x3)) (fun _ t => ∃ f9 : Nat → Int64, (kPl2 x2 x3 = 0 → f9 0 = (zCompare b1 (g (ix x2)) (n (ix x2)) (g (ix x3)) (n (ix x3))).toInt64) ∧ va_P D vwCl (nvW cA cW T n g ++ woC cJ bo f9) t.heap) (fun q => q = bo)) 1 6 (fun q => q = bo) := by
  refine wr_of (own := RL) (by decide) rfl ?_
  intro p e s m args below meth c S hr hlocks htab hv9
  obtain ⟨rfl, hP2, hK2, hD2, hX, hC⟩ := hv9
  have hP := nw_P1 hP2
  have hK := wo_K hK2
  have hob0 := nv_ob0 hK hP
  have hx := S.1
  have hb := S.2.1
  refine nz_entry (vs := [.ref (T 0), .int (nI b1), .int x2, .int x3, .ref bo]) (n := 6) (lv := [(0, .ref (T 0)), (1, .int (nI b1)), (2, .int x2), (3, .int x3), (4, .ref bo)]) (Nat.le_of_ble_eq_true rfl) rfl (fun ls hl => ?_)
  refine lv_aload hx hb dL_compare_0 (lv_at hl 4 rfl) ?_
  refine lv_iconst (v := 0) hx hb dL_compare_2 (by decide) ?_
  refine lv_aload_n hx hb dL_compare_3 rfl (lv_at hl 0 rfl) ?_
  refine lv_iload_n hx hb dL_compare_4 rfl (lv_at hl 1 rfl) ?_
  refine lv_iload_n hx hb dL_compare_5 rfl (lv_at hl 2 rfl) ?_
  refine lv_iload_n hx hb dL_compare_6 rfl (lv_at hl 3 rfl) ?_
  refine wr_call (As := [.int (nI b1), .int x2, .int x3]) (rest := [.int 0, .ref bo]) S (cN_compare l hfl D cA cW T hT n g ok b1 hb1 x2 x3) kL_59 ⟨rfl, rfl, Nat.le_of_ble_eq_true rfl, Nat.le_of_ble_eq_true rfl⟩ ⟨Nat.le_of_ble_eq_true rfl, Nat.le_of_ble_eq_true rfl⟩ nmP.bl hob0 (nmP.to hP hK hX) rfl hl.1 rfl (Nat.le_of_ble_eq_true rfl) dL_compare_7 (fun v st t L h0 hL hq => ?_) (fun E q t L hL hE hT => ?_)
  · obtain ⟨hk, rfl, hh9⟩ := hq
    obtain rfl : L = [] := by
      cases L with
      | nil => rfl
      | cons z L => exact (hL z List.mem_cons_self).elim
    have hh0 : t.heap = s.heap := by rw [hh9, h0]
    refine lv_i2l (v := (zCompare b1 (g (ix x2)) (n (ix x2)) (g (ix x3)) (n (ix x3))).toInt64) hx hb dL_compare_10 rfl ?_
    refine wo_store hx hb hK2 hP2 hD2 hh0 dL_compare_11 (fun H locs hP2 hS => ?_)
    refine lv_goto (tgt := 19) hx hb dL_compare_12 (by decide) ?_
    refine lv_iconst (v := 0) hx hb dL_compare_19 (by decide) ?_
    refine W.widen (k := 1) (n := 6) (Nat.zero_le _) (Nat.zero_le _) ?_
    exact W.iret (v := 0) hx hb hr (fun t2 ht hW => ⟨⟨0, (), rfl, by rw [hk]; rfl, vp_updL f 0 ((zCompare b1 (g (ix x2)) (n (ix x2)) (g (ix x3)) (n (ix x3))).toInt64), fun _ => rfl, by rw [ht]; exact hP2⟩, hS.F ht⟩) hS.2.2 dL_compare_20
  · have hks : kPl2 x2 x3 = 1 := by
      exact kPl2_in hE.1
    have hk := hks
    obtain rfl : E = eIO := by rw [hE.2, hk]; rfl
    obtain ⟨ce, hc1, hc2, hc3, hc4, hc5⟩ := id hT
    refine ny_catch (own := RL) (name := eIO) (E := eIO) S.2.2.2.1 [] ⟨0, 12, 15, 13⟩ [] (htab.trans rfl) (fun z hz => nomatch hz) rfl (by decide) (S.2.2.2.2 _ kclL_13) (va_Nw.use rfl (hX.2.2.1 eIO (by decide))) hc1 hc2 hc3 ?_
    refine lv_astore (lv' := [(5, .ref q), (0, .ref (T 0)), (1, .int (nI b1)), (2, .int x2), (3, .int x3), (4, .ref bo)]) hx hb dL_compare_15 hl (by decide) rfl (fun ls hl => ?_)
    refine lv_iconst (v := 1) hx hb dL_compare_17 (by decide) ?_
    exact W.iret (v := 1) hx hb hr (fun t2 ht hW => ⟨⟨1, (), rfl, by rw [hk]; rfl, f, fun h => absurd h (by rw [hk]; decide), by rw [ht]; exact wr_kept hP2 hT⟩, ⟨by rw [ht]; exact hc4, fun z h1 h2 => by rw [ht]; exact hc5 z h1⟩⟩) (fun z hz => (hL z hz).elim) dL_compare_18
set_option maxHeartbeats 4000000 in
set_option maxRecDepth 100000 in
theorem cL_same (l : Launch) (hfl : l.flags = pinnedFlags ++ [noTraceFlag]) (D : va_G) (cA cW : ClassId) (T : Nat → Nat) (hT : nvT T) (n : Nat → Nat) (g : Nat → Nat → Nat) (ok : nvOk n g) (cJ : ClassId) (bo : Nat) (f : Nat → Int64) (x2 x3 : Int32) (b1 : Nat) (hb1 : b1 < 2) : Met l yL_same (Cond.codeWith yL_same bL_same 6 (some .int) [(0, 19, 22, 13)] :: nzG) ({ frames := 8, cells := 1, slots := 6, locals := 138 }) (va_Pc [.ref (T 0), .int (nI b1), .int x2, .int x3, .ref bo] (woP D cA cW cJ (nvW cA cW T n g ++ woC cJ bo f))) (va_Qi (fun r (_ : Unit) => r = nI (kPl2 x2 x3)) (fun _ t => ∃ f9 : Nat → Int64, (kPl2 x2 x3 = 0 → f9 0 = (nI (zSame b1 (g (ix x2)) (g (ix x3)) (n (ix x2)) (n (ix x3)))).toInt64) ∧ va_P D vwCl (nvW cA cW T n g ++ woC cJ bo f9) t.heap) (fun q => q = bo)) 1 6 (fun q => q = bo) := by
  refine wr_of (own := RL) (by decide) rfl ?_
  intro p e s m args below meth c S hr hlocks htab hv9
  obtain ⟨rfl, hP2, hK2, hD2, hX, hC⟩ := hv9
  have hP := nw_P1 hP2
  have hK := wo_K hK2
  have hob0 := nv_ob0 hK hP
  have hx := S.1
  have hb := S.2.1
  refine nz_entry (vs := [.ref (T 0), .int (nI b1), .int x2, .int x3, .ref bo]) (n := 6) (lv := [(0, .ref (T 0)), (1, .int (nI b1)), (2, .int x2), (3, .int x3), (4, .ref bo)]) (Nat.le_of_ble_eq_true rfl) rfl (fun ls hl => ?_)
  refine lv_aload hx hb dL_same_0 (lv_at hl 4 rfl) ?_
  refine lv_iconst (v := 0) hx hb dL_same_2 (by decide) ?_
  refine lv_aload_n hx hb dL_same_3 rfl (lv_at hl 0 rfl) ?_
  refine lv_iload_n hx hb dL_same_4 rfl (lv_at hl 1 rfl) ?_
  refine lv_iload_n hx hb dL_same_5 rfl (lv_at hl 2 rfl) ?_
  refine lv_iload_n hx hb dL_same_6 rfl (lv_at hl 3 rfl) ?_
  refine wr_call (As := [.int (nI b1), .int x2, .int x3]) (rest := [.int 0, .ref bo]) S (cN_same l hfl D cA cW T hT n g ok b1 hb1 x2 x3) kL_63 ⟨rfl, rfl, Nat.le_of_ble_eq_true rfl, Nat.le_of_ble_eq_true rfl⟩ ⟨Nat.le_of_ble_eq_true rfl, Nat.le_of_ble_eq_true rfl⟩ nmP.bl hob0 (nmP.to hP hK hX) rfl hl.1 rfl (Nat.le_of_ble_eq_true rfl) dL_same_7 (fun v st t L h0 hL hq => ?_) (fun E q t L hL hE hT => ?_)
  · obtain ⟨hk, rfl, hh9⟩ := hq
    obtain rfl : L = [] := by
      cases L with
      | nil => rfl
      | cons z L => exact (hL z List.mem_cons_self).elim
    have hh0 : t.heap = s.heap := by rw [hh9, h0]
    refine lv_if_eq (tgt := 17) hx hb dL_same_10 (by decide) (fun c1 => ?_) (fun c1 => ?_)
    · refine lv_lconst (v := 0) hx hb dL_same_17 (by decide) ?_
      refine wo_store hx hb hK2 hP2 hD2 hh0 dL_same_18 (fun H locs hP2 hS => ?_)
      refine lv_goto (tgt := 26) hx hb dL_same_19 (by decide) ?_
      refine lv_iconst (v := 0) hx hb dL_same_26 (by decide) ?_
      refine W.widen (k := 1) (n := 6) (Nat.zero_le _) (Nat.zero_le _) ?_
      exact W.iret (v := 0) hx hb hr (fun t2 ht hW => ⟨⟨0, (), rfl, by rw [hk]; rfl, vp_updL f 0 0, fun _ => (by rw [c1]; rfl), by rw [ht]; exact hP2⟩, hS.F ht⟩) hS.2.2 dL_same_27
    · refine lv_lconst (v := 1) hx hb dL_same_13 (by decide) ?_
      refine lv_goto (tgt := 18) hx hb dL_same_14 (by decide) ?_
      refine wo_store hx hb hK2 hP2 hD2 hh0 dL_same_18 (fun H locs hP2 hS => ?_)
      refine lv_goto (tgt := 26) hx hb dL_same_19 (by decide) ?_
      refine lv_iconst (v := 0) hx hb dL_same_26 (by decide) ?_
      refine W.widen (k := 1) (n := 6) (Nat.zero_le _) (Nat.zero_le _) ?_
      exact W.iret (v := 0) hx hb hr (fun t2 ht hW => ⟨⟨0, (), rfl, by rw [hk]; rfl, vp_updL f 0 1, fun _ => (by rw [zSame_y c1]; rfl), by rw [ht]; exact hP2⟩, hS.F ht⟩) hS.2.2 dL_same_27
  · have hks : kPl2 x2 x3 = 1 := by
      exact kPl2_in hE.1
    have hk := hks
    obtain rfl : E = eIO := by rw [hE.2, hk]; rfl
    obtain ⟨ce, hc1, hc2, hc3, hc4, hc5⟩ := id hT
    refine ny_catch (own := RL) (name := eIO) (E := eIO) S.2.2.2.1 [] ⟨0, 19, 22, 13⟩ [] (htab.trans rfl) (fun z hz => nomatch hz) rfl (by decide) (S.2.2.2.2 _ kclL_13) (va_Nw.use rfl (hX.2.2.1 eIO (by decide))) hc1 hc2 hc3 ?_
    refine lv_astore (lv' := [(5, .ref q), (0, .ref (T 0)), (1, .int (nI b1)), (2, .int x2), (3, .int x3), (4, .ref bo)]) hx hb dL_same_22 hl (by decide) rfl (fun ls hl => ?_)
    refine lv_iconst (v := 1) hx hb dL_same_24 (by decide) ?_
    exact W.iret (v := 1) hx hb hr (fun t2 ht hW => ⟨⟨1, (), rfl, by rw [hk]; rfl, f, fun h => absurd h (by rw [hk]; decide), by rw [ht]; exact wr_kept hP2 hT⟩, ⟨by rw [ht]; exact hc4, fun z h1 h2 => by rw [ht]; exact hc5 z h1⟩⟩) (fun z hz => (hL z hz).elim) dL_same_25
set_option maxHeartbeats 4000000 in
set_option maxRecDepth 100000 in
theorem cL_all (l : Launch) (hfl : l.flags = pinnedFlags ++ [noTraceFlag]) (D : va_G) (cA cW : ClassId) (T : Nat → Nat) (hT : nvT T) (n : Nat → Nat) (g : Nat → Nat → Nat) (ok : nvOk n g) (cJ : ClassId) (bo : Nat) (f : Nat → Int64) (x1 x2 : Int32) : Met l yL_all (Cond.codeWith yL_all bL_all 5 (some .int) [(0, 10, 13, 13), (0, 10, 17, 15)] :: nzG) ({ frames := 8, cells := 1, slots := 6, locals := 132 }) (va_Pc [.ref (T 0), .int x1, .int x2, .ref bo] (woP D cA cW cJ (nvW cA cW T n g ++ woC cJ bo f))) (va_Qi (fun r (_ : Unit) => r = nI (kAll x1 x2)) (fun _ t => ∃ f9 : Nat → Int64, (kAll x1 x2 = 0 → f9 0 = (nI (zAllOf (ix x1) (g (ix x2)) (n (ix x2)))).toInt64) ∧ va_P D vwCl (nvW cA cW T n g ++ woC cJ bo f9) t.heap) (fun q => q = bo)) 1 6 (fun q => q = bo) := by
  refine wr_of (own := RL) (by decide) rfl ?_
  intro p e s m args below meth c S hr hlocks htab hv9
  obtain ⟨rfl, hP2, hK2, hD2, hX, hC⟩ := hv9
  have hP := nw_P1 hP2
  have hK := wo_K hK2
  have hob0 := nv_ob0 hK hP
  have hx := S.1
  have hb := S.2.1
  refine nz_entry (vs := [.ref (T 0), .int x1, .int x2, .ref bo]) (n := 5) (lv := [(0, .ref (T 0)), (1, .int x1), (2, .int x2), (3, .ref bo)]) (Nat.le_of_ble_eq_true rfl) rfl (fun ls hl => ?_)
  refine lv_aload_n hx hb dL_all_0 rfl (lv_at hl 3 rfl) ?_
  refine lv_iconst (v := 0) hx hb dL_all_1 (by decide) ?_
  refine lv_aload_n hx hb dL_all_2 rfl (lv_at hl 0 rfl) ?_
  refine lv_iload_n hx hb dL_all_3 rfl (lv_at hl 1 rfl) ?_
  refine lv_iload_n hx hb dL_all_4 rfl (lv_at hl 2 rfl) ?_
  refine wr_call (As := [.int x1, .int x2]) (rest := [.int 0, .ref bo]) S (cN_all l hfl D cA cW T hT n g ok x1 x2) kL_67 ⟨rfl, rfl, Nat.le_of_ble_eq_true rfl, Nat.le_of_ble_eq_true rfl⟩ ⟨Nat.le_of_ble_eq_true rfl, Nat.le_of_ble_eq_true rfl⟩ nmP.bl hob0 (nmP.to hP hK hX) rfl hl.1 rfl (Nat.le_of_ble_eq_true rfl) dL_all_5 (fun v st t L h0 hL hq => ?_) (fun E q t L hL hE hT => ?_)
  · obtain ⟨hk, rfl, hh9⟩ := hq
    obtain rfl : L = [] := by
      cases L with
      | nil => rfl
      | cons z L => exact (hL z List.mem_cons_self).elim
    have hh0 : t.heap = s.heap := by rw [hh9, h0]
    refine lv_i2l (v := (nI (zAllOf (ix x1) (g (ix x2)) (n (ix x2)))).toInt64) hx hb dL_all_8 rfl ?_
    refine wo_store hx hb hK2 hP2 hD2 hh0 dL_all_9 (fun H locs hP2 hS => ?_)
    refine lv_goto (tgt := 21) hx hb dL_all_10 (by decide) ?_
    refine lv_iconst (v := 0) hx hb dL_all_21 (by decide) ?_
    refine W.widen (k := 1) (n := 6) (Nat.zero_le _) (Nat.zero_le _) ?_
    exact W.iret (v := 0) hx hb hr (fun t2 ht hW => ⟨⟨0, (), rfl, by rw [hk]; rfl, vp_updL f 0 ((nI (zAllOf (ix x1) (g (ix x2)) (n (ix x2)))).toInt64), fun _ => rfl, by rw [ht]; exact hP2⟩, hS.F ht⟩) hS.2.2 dL_all_22
  · have hks : kAll x1 x2 = 1 ∨ kAll x1 x2 = 2 := by
      exact kAll_in hE.1
    rcases hks with hk | hk
    · obtain rfl : E = eIO := by rw [hE.2, hk]; rfl
      obtain ⟨ce, hc1, hc2, hc3, hc4, hc5⟩ := id hT
      refine ny_catch (own := RL) (name := eIO) (E := eIO) S.2.2.2.1 [] ⟨0, 10, 13, 13⟩ [⟨0, 10, 17, 15⟩] (htab.trans rfl) (fun z hz => nomatch hz) rfl (by decide) (S.2.2.2.2 _ kclL_13) (va_Nw.use rfl (hX.2.2.1 eIO (by decide))) hc1 hc2 hc3 ?_
      refine lv_astore (lv' := [(4, .ref q), (0, .ref (T 0)), (1, .int x1), (2, .int x2), (3, .ref bo)]) hx hb dL_all_13 hl (by decide) rfl (fun ls hl => ?_)
      refine lv_iconst (v := 1) hx hb dL_all_15 (by decide) ?_
      exact W.iret (v := 1) hx hb hr (fun t2 ht hW => ⟨⟨1, (), rfl, by rw [hk]; rfl, f, fun h => absurd h (by rw [hk]; decide), by rw [ht]; exact wr_kept hP2 hT⟩, ⟨by rw [ht]; exact hc4, fun z h1 h2 => by rw [ht]; exact hc5 z h1⟩⟩) (fun z hz => (hL z hz).elim) dL_all_16
    · obtain rfl : E = eIA := by rw [hE.2, hk]; rfl
      obtain ⟨ce, hc1, hc2, hc3, hc4, hc5⟩ := id hT
      refine ny_catch (own := RL) (name := eIA) (E := eIA) S.2.2.2.1 [⟨0, 10, 13, 13⟩] ⟨0, 10, 17, 15⟩ [] (htab.trans rfl) (fun z hz => by
            rw [List.mem_singleton.mp hz]
            exact ⟨rfl, by decide, eIO, S.2.2.2.2 _ kclL_13, hC.1⟩) rfl (by decide) (S.2.2.2.2 _ kclL_15) (va_Nw.use rfl (hX.2.2.1 eIA (by decide))) hc1 hc2 hc3 ?_
      refine lv_astore (lv' := [(4, .ref q), (0, .ref (T 0)), (1, .int x1), (2, .int x2), (3, .ref bo)]) hx hb dL_all_17 hl (by decide) rfl (fun ls hl => ?_)
      refine lv_iconst (v := 2) hx hb dL_all_19 (by decide) ?_
      exact W.iret (v := 2) hx hb hr (fun t2 ht hW => ⟨⟨2, (), rfl, by rw [hk]; rfl, f, fun h => absurd h (by rw [hk]; decide), by rw [ht]; exact wr_kept hP2 hT⟩, ⟨by rw [ht]; exact hc4, fun z h1 h2 => by rw [ht]; exact hc5 z h1⟩⟩) (fun z hz => (hL z hz).elim) dL_all_20
set_option maxHeartbeats 4000000 in
set_option maxRecDepth 100000 in
theorem cL_edge (l : Launch) (hfl : l.flags = pinnedFlags ++ [noTraceFlag]) (D : va_G) (cA cW : ClassId) (T : Nat → Nat) (hT : nvT T) (n : Nat → Nat) (g : Nat → Nat → Nat) (ok : nvOk n g) (cJ : ClassId) (bo : Nat) (f : Nat → Int64) (x1 x2 : Int32) : Met l yL_edge (Cond.codeWith yL_edge bL_edge 5 (some .int) [(0, 10, 13, 15)] :: nzG) ({ frames := 8, cells := 1, slots := 6, locals := 132 }) (va_Pc [.ref (T 0), .int x1, .int x2, .ref bo] (woP D cA cW cJ (nvW cA cW T n g ++ woC cJ bo f))) (va_Qi (fun r (_ : Unit) => r = nI (kEdge x1 x2)) (fun _ t => ∃ f9 : Nat → Int64, (kEdge x1 x2 = 0 → f9 0 = (zEdge (ix x1) (ix x2)).toInt64) ∧ va_P D vwCl (nvW cA cW T n g ++ woC cJ bo f9) t.heap) (fun q => q = bo)) 1 6 (fun q => q = bo) := by
  refine wr_of (own := RL) (by decide) rfl ?_
  intro p e s m args below meth c S hr hlocks htab hv9
  obtain ⟨rfl, hP2, hK2, hD2, hX, hC⟩ := hv9
  have hP := nw_P1 hP2
  have hK := wo_K hK2
  have hob0 := nv_ob0 hK hP
  have hx := S.1
  have hb := S.2.1
  refine nz_entry (vs := [.ref (T 0), .int x1, .int x2, .ref bo]) (n := 5) (lv := [(0, .ref (T 0)), (1, .int x1), (2, .int x2), (3, .ref bo)]) (Nat.le_of_ble_eq_true rfl) rfl (fun ls hl => ?_)
  refine lv_aload_n hx hb dL_edge_0 rfl (lv_at hl 3 rfl) ?_
  refine lv_iconst (v := 0) hx hb dL_edge_1 (by decide) ?_
  refine lv_aload_n hx hb dL_edge_2 rfl (lv_at hl 0 rfl) ?_
  refine lv_iload_n hx hb dL_edge_3 rfl (lv_at hl 1 rfl) ?_
  refine lv_iload_n hx hb dL_edge_4 rfl (lv_at hl 2 rfl) ?_
  refine wr_call (As := [.int x1, .int x2]) (rest := [.int 0, .ref bo]) S (cN_edge l hfl D cA cW T hT n g ok x1 x2) kL_70 ⟨rfl, rfl, Nat.le_of_ble_eq_true rfl, Nat.le_of_ble_eq_true rfl⟩ ⟨Nat.le_of_ble_eq_true rfl, Nat.le_of_ble_eq_true rfl⟩ nmP.bl hob0 (nmP.to hP hK hX) rfl hl.1 rfl (Nat.le_of_ble_eq_true rfl) dL_edge_5 (fun v st t L h0 hL hq => ?_) (fun E q t L hL hE hT => ?_)
  · obtain ⟨hk, rfl, hh9⟩ := hq
    obtain rfl : L = [] := by
      cases L with
      | nil => rfl
      | cons z L => exact (hL z List.mem_cons_self).elim
    have hh0 : t.heap = s.heap := by rw [hh9, h0]
    refine lv_i2l (v := (zEdge (ix x1) (ix x2)).toInt64) hx hb dL_edge_8 rfl ?_
    refine wo_store hx hb hK2 hP2 hD2 hh0 dL_edge_9 (fun H locs hP2 hS => ?_)
    refine lv_goto (tgt := 17) hx hb dL_edge_10 (by decide) ?_
    refine lv_iconst (v := 0) hx hb dL_edge_17 (by decide) ?_
    refine W.widen (k := 1) (n := 6) (Nat.zero_le _) (Nat.zero_le _) ?_
    exact W.iret (v := 0) hx hb hr (fun t2 ht hW => ⟨⟨0, (), rfl, by rw [hk]; rfl, vp_updL f 0 ((zEdge (ix x1) (ix x2)).toInt64), fun _ => rfl, by rw [ht]; exact hP2⟩, hS.F ht⟩) hS.2.2 dL_edge_18
  · have hks : kEdge x1 x2 = 1 := by
      exact kEdge_in hE.1
    have hk := hks
    obtain rfl : E = eIA := by exact hE.2
    obtain ⟨ce, hc1, hc2, hc3, hc4, hc5⟩ := id hT
    refine ny_catch (own := RL) (name := eIA) (E := eIA) S.2.2.2.1 [] ⟨0, 10, 13, 15⟩ [] (htab.trans rfl) (fun z hz => nomatch hz) rfl (by decide) (S.2.2.2.2 _ kclL_15) (va_Nw.use rfl (hX.2.2.1 eIA (by decide))) hc1 hc2 hc3 ?_
    refine lv_astore (lv' := [(4, .ref q), (0, .ref (T 0)), (1, .int x1), (2, .int x2), (3, .ref bo)]) hx hb dL_edge_13 hl (by decide) rfl (fun ls hl => ?_)
    refine lv_iconst (v := 1) hx hb dL_edge_15 (by decide) ?_
    exact W.iret (v := 1) hx hb hr (fun t2 ht hW => ⟨⟨1, (), rfl, by rw [hk]; rfl, f, fun h => absurd h (by rw [hk]; decide), by rw [ht]; exact wr_kept hP2 hT⟩, ⟨by rw [ht]; exact hc4, fun z h1 h2 => by rw [ht]; exact hc5 z h1⟩⟩) (fun z hz => (hL z hz).elim) dL_edge_16
end
