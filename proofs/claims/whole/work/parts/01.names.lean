/-- a private method of a class that the tables say can be made, by its rows of tables_1 -/
def lw_okq (q : MethodName × Nat) : Prop := (q.1.cls ≠ "java/lang/invoke/MethodHandle" ∧ q.1.cls ≠ "java/lang/invoke/VarHandle") ∧ Cond.instantiable q.1.cls q.2 ∈ tables_1 ∧ Cond.privateMethod q.1 ∈ tables_1 ∧ Cond.instanceMethod q.1 ∈ tables_1
theorem lw_p0 : lw_okq (⟨"java/lang/Throwable", "fillInStackTrace", "(I)Ljava/lang/Throwable;"⟩, 6) := ⟨⟨by decide +kernel, by decide +kernel⟩, List.mem_of_getElem? (i := 97) (by decide +kernel), List.mem_of_getElem? (i := 95) (by decide +kernel), List.mem_of_getElem? (i := 96) (by decide +kernel)⟩
theorem lw_p1 : lw_okq (⟨"NineValues", "requireElement", "(II)V"⟩, 2) := ⟨⟨by decide +kernel, by decide +kernel⟩, List.mem_of_getElem? (i := 14) (by decide +kernel), List.mem_of_getElem? (i := 161) (by decide +kernel), List.mem_of_getElem? (i := 162) (by decide +kernel)⟩
theorem lw_p2 : lw_okq (⟨"NineValues", "joinElements", "(ILNineValues$Word;LNineValues$Word;)V"⟩, 2) := ⟨⟨by decide +kernel, by decide +kernel⟩, List.mem_of_getElem? (i := 14) (by decide +kernel), List.mem_of_getElem? (i := 246) (by decide +kernel), List.mem_of_getElem? (i := 247) (by decide +kernel)⟩
theorem lw_p3 : lw_okq (⟨"NineValues", "setBehind", "(LNineValues$Word;LNineValues$Word;)V"⟩, 2) := ⟨⟨by decide +kernel, by decide +kernel⟩, List.mem_of_getElem? (i := 14) (by decide +kernel), List.mem_of_getElem? (i := 270) (by decide +kernel), List.mem_of_getElem? (i := 271) (by decide +kernel)⟩
theorem lw_p4 : lw_okq (⟨"NineValues", "calculate", "(IZLNineValues$Word;LNineValues$Word;)V"⟩, 2) := ⟨⟨by decide +kernel, by decide +kernel⟩, List.mem_of_getElem? (i := 14) (by decide +kernel), List.mem_of_getElem? (i := 278) (by decide +kernel), List.mem_of_getElem? (i := 279) (by decide +kernel)⟩
theorem lw_p5 : lw_okq (⟨"NineValues", "changeElements", "(ILNineValues$Word;)V"⟩, 2) := ⟨⟨by decide +kernel, by decide +kernel⟩, List.mem_of_getElem? (i := 14) (by decide +kernel), List.mem_of_getElem? (i := 341) (by decide +kernel), List.mem_of_getElem? (i := 342) (by decide +kernel)⟩
theorem lw_p6 : lw_okq (⟨"NineValues", "changeNumber", "(ILNineValues$Word;)V"⟩, 2) := ⟨⟨by decide +kernel, by decide +kernel⟩, List.mem_of_getElem? (i := 14) (by decide +kernel), List.mem_of_getElem? (i := 349) (by decide +kernel), List.mem_of_getElem? (i := 350) (by decide +kernel)⟩
theorem lw_p7 : lw_okq (⟨"NineValues", "moveBy", "(IIILNineValues$Word;)V"⟩, 2) := ⟨⟨by decide +kernel, by decide +kernel⟩, List.mem_of_getElem? (i := 14) (by decide +kernel), List.mem_of_getElem? (i := 362) (by decide +kernel), List.mem_of_getElem? (i := 363) (by decide +kernel)⟩
theorem lw_p8 : lw_okq (⟨"NineValues", "move", "(IILNineValues$Word;)V"⟩, 2) := ⟨⟨by decide +kernel, by decide +kernel⟩, List.mem_of_getElem? (i := 14) (by decide +kernel), List.mem_of_getElem? (i := 366) (by decide +kernel), List.mem_of_getElem? (i := 367) (by decide +kernel)⟩
theorem lw_p9 : lw_okq (⟨"NineValues", "turnRound", "(ILNineValues$Word;)V"⟩, 2) := ⟨⟨by decide +kernel, by decide +kernel⟩, List.mem_of_getElem? (i := 14) (by decide +kernel), List.mem_of_getElem? (i := 371) (by decide +kernel), List.mem_of_getElem? (i := 372) (by decide +kernel)⟩
theorem lw_p10 : lw_okq (⟨"NineValuesModel", "keep", "(I)V"⟩, 5) := ⟨⟨by decide +kernel, by decide +kernel⟩, List.mem_of_getElem? (i := 435) (by decide +kernel), List.mem_of_getElem? (i := 468) (by decide +kernel), List.mem_of_getElem? (i := 469) (by decide +kernel)⟩
theorem lw_p11 : lw_okq (⟨"NineValuesModel", "cell", "(II)I"⟩, 5) := ⟨⟨by decide +kernel, by decide +kernel⟩, List.mem_of_getElem? (i := 435) (by decide +kernel), List.mem_of_getElem? (i := 480) (by decide +kernel), List.mem_of_getElem? (i := 481) (by decide +kernel)⟩
theorem lw_p12 : lw_okq (⟨"NineValuesModel", "bits", "(IJ)V"⟩, 5) := ⟨⟨by decide +kernel, by decide +kernel⟩, List.mem_of_getElem? (i := 435) (by decide +kernel), List.mem_of_getElem? (i := 492) (by decide +kernel), List.mem_of_getElem? (i := 493) (by decide +kernel)⟩
theorem lw_p13 : lw_okq (⟨"NineValuesModel", "clear", "(I)Z"⟩, 5) := ⟨⟨by decide +kernel, by decide +kernel⟩, List.mem_of_getElem? (i := 435) (by decide +kernel), List.mem_of_getElem? (i := 500) (by decide +kernel), List.mem_of_getElem? (i := 501) (by decide +kernel)⟩
theorem lw_p14 : lw_okq (⟨"NineValuesModel", "value", "(IZ)J"⟩, 5) := ⟨⟨by decide +kernel, by decide +kernel⟩, List.mem_of_getElem? (i := 435) (by decide +kernel), List.mem_of_getElem? (i := 513) (by decide +kernel), List.mem_of_getElem? (i := 514) (by decide +kernel)⟩
theorem lw_p15 : lw_okq (⟨"NineValuesModel", "numbers", "(IZIII)V"⟩, 5) := ⟨⟨by decide +kernel, by decide +kernel⟩, List.mem_of_getElem? (i := 435) (by decide +kernel), List.mem_of_getElem? (i := 540) (by decide +kernel), List.mem_of_getElem? (i := 541) (by decide +kernel)⟩
def lw_privs_1 : List (MethodName × Nat) := [(⟨"java/lang/Throwable", "fillInStackTrace", "(I)Ljava/lang/Throwable;"⟩, 6), (⟨"NineValues", "requireElement", "(II)V"⟩, 2), (⟨"NineValues", "joinElements", "(ILNineValues$Word;LNineValues$Word;)V"⟩, 2), (⟨"NineValues", "setBehind", "(LNineValues$Word;LNineValues$Word;)V"⟩, 2), (⟨"NineValues", "calculate", "(IZLNineValues$Word;LNineValues$Word;)V"⟩, 2), (⟨"NineValues", "changeElements", "(ILNineValues$Word;)V"⟩, 2), (⟨"NineValues", "changeNumber", "(ILNineValues$Word;)V"⟩, 2), (⟨"NineValues", "moveBy", "(IIILNineValues$Word;)V"⟩, 2), (⟨"NineValues", "move", "(IILNineValues$Word;)V"⟩, 2), (⟨"NineValues", "turnRound", "(ILNineValues$Word;)V"⟩, 2), (⟨"NineValuesModel", "keep", "(I)V"⟩, 5), (⟨"NineValuesModel", "cell", "(II)I"⟩, 5), (⟨"NineValuesModel", "bits", "(IJ)V"⟩, 5), (⟨"NineValuesModel", "clear", "(I)Z"⟩, 5), (⟨"NineValuesModel", "value", "(IZ)J"⟩, 5), (⟨"NineValuesModel", "numbers", "(IZIII)V"⟩, 5)]
theorem lw_r1 : ∀ q ∈ lw_privs_1, lw_okq q := List.forall_mem_cons.mpr ⟨lw_p0, List.forall_mem_cons.mpr ⟨lw_p1, List.forall_mem_cons.mpr ⟨lw_p2, List.forall_mem_cons.mpr ⟨lw_p3, List.forall_mem_cons.mpr ⟨lw_p4, List.forall_mem_cons.mpr ⟨lw_p5, List.forall_mem_cons.mpr ⟨lw_p6, List.forall_mem_cons.mpr ⟨lw_p7, List.forall_mem_cons.mpr ⟨lw_p8, List.forall_mem_cons.mpr ⟨lw_p9, List.forall_mem_cons.mpr ⟨lw_p10, List.forall_mem_cons.mpr ⟨lw_p11, List.forall_mem_cons.mpr ⟨lw_p12, List.forall_mem_cons.mpr ⟨lw_p13, List.forall_mem_cons.mpr ⟨lw_p14, List.forall_mem_cons.mpr ⟨lw_p15, fun _ h => absurd h List.not_mem_nil⟩⟩⟩⟩⟩⟩⟩⟩⟩⟩⟩⟩⟩⟩⟩⟩
theorem lw_p16 : lw_okq (⟨"NineValuesModel", "divide", "(JJZ)J"⟩, 5) := ⟨⟨by decide +kernel, by decide +kernel⟩, List.mem_of_getElem? (i := 435) (by decide +kernel), List.mem_of_getElem? (i := 544) (by decide +kernel), List.mem_of_getElem? (i := 545) (by decide +kernel)⟩
theorem lw_p17 : lw_okq (⟨"NineValuesModel", "bit", "(IIZ)I"⟩, 5) := ⟨⟨by decide +kernel, by decide +kernel⟩, List.mem_of_getElem? (i := 435) (by decide +kernel), List.mem_of_getElem? (i := 572) (by decide +kernel), List.mem_of_getElem? (i := 573) (by decide +kernel)⟩
def lw_privs_2 : List (MethodName × Nat) := [(⟨"NineValuesModel", "divide", "(JJZ)J"⟩, 5), (⟨"NineValuesModel", "bit", "(IIZ)I"⟩, 5)]
theorem lw_r2 : ∀ q ∈ lw_privs_2, lw_okq q := List.forall_mem_cons.mpr ⟨lw_p16, List.forall_mem_cons.mpr ⟨lw_p17, fun _ h => absurd h List.not_mem_nil⟩⟩
def lw_privs : List (MethodName × Nat) := lw_privs_1 ++ (lw_privs_2)
def lw_tbl : List Cond := k2_sels lw_privs ++ tables_1
theorem lw_privs_ok : ∀ q ∈ lw_privs, lw_okq q := by
  show ∀ q ∈ lw_privs_1 ++ (lw_privs_2), lw_okq q
  exact List.forall_mem_append.mpr ⟨lw_r1, lw_r2⟩
def RI : String := "NineValues$Wire"
abbrev bWire_isLow : ByteArray := prog_2_method_2_code
def yWire_isLow : MethodName := ⟨RI, "isLow", "(I)Z"⟩
abbrev bWire_isHigh : ByteArray := prog_2_method_3_code
def yWire_isHigh : MethodName := ⟨RI, "isHigh", "(I)Z"⟩
abbrev bWire_isClear : ByteArray := prog_2_method_4_code
def yWire_isClear : MethodName := ⟨RI, "isClear", "(I)Z"⟩
abbrev bWire_join : ByteArray := prog_2_method_5_code
def yWire_join : MethodName := ⟨RI, "join", "(III)I"⟩
abbrev bWire_drive : ByteArray := prog_2_method_6_code
def yWire_drive : MethodName := ⟨RI, "drive", "(II)I"⟩
abbrev bWire_and : ByteArray := prog_2_method_7_code
def yWire_and : MethodName := ⟨RI, "and", "(II)I"⟩
abbrev bWire_or : ByteArray := prog_2_method_8_code
def yWire_or : MethodName := ⟨RI, "or", "(II)I"⟩
abbrev bWire_xor : ByteArray := prog_2_method_9_code
def yWire_xor : MethodName := ⟨RI, "xor", "(II)I"⟩
abbrev bWire_not : ByteArray := prog_2_method_10_code
def yWire_not : MethodName := ⟨RI, "not", "(I)I"⟩
abbrev bWire_strip : ByteArray := prog_2_method_11_code
def yWire_strip : MethodName := ⟨RI, "strip", "(II)I"⟩
abbrev bWire_goTogether : ByteArray := prog_2_method_12_code
def yWire_goTogether : MethodName := ⟨RI, "goTogether", "(II)Z"⟩
def RW : String := "NineValues$Word"
abbrev bWord_init : ByteArray := prog_3_method_1_code
def yWord_init : MethodName := ⟨RW, "<init>", "()V"⟩
abbrev bWord_become : ByteArray := prog_3_method_2_code
def yWord_become : MethodName := ⟨RW, "become", "(II)V"⟩
abbrev bWord_hold : ByteArray := prog_3_method_3_code
def yWord_hold : MethodName := ⟨RW, "hold", "(IJ)V"⟩
abbrev bWord_copy : ByteArray := prog_3_method_4_code
def yWord_copy : MethodName := ⟨RW, "copy", "(LNineValues$Word;)V"⟩
abbrev bWord_lay : ByteArray := prog_3_method_5_code
def yWord_lay : MethodName := ⟨RW, "lay", "(LNineValues$Word;III)V"⟩
abbrev bWord_last : ByteArray := prog_3_method_6_code
def yWord_last : MethodName := ⟨RW, "last", "()I"⟩
abbrev bWord_isClear : ByteArray := prog_3_method_7_code
def yWord_isClear : MethodName := ⟨RW, "isClear", "()Z"⟩
abbrev bWord_counts : ByteArray := prog_3_method_8_code
def yWord_counts : MethodName := ⟨RW, "counts", "()Z"⟩
abbrev bWord_asLong : ByteArray := prog_3_method_9_code
def yWord_asLong : MethodName := ⟨RW, "asLong", "(Z)J"⟩
abbrev bWord_joined : ByteArray := prog_3_method_10_code
def yWord_joined : MethodName := ⟨RW, "joined", "(II)I"⟩
def RN : String := "NineValues"
abbrev bN_init : ByteArray := prog_1_method_1_code
def yN_init : MethodName := ⟨RN, "<init>", "()V"⟩
abbrev bN_fill : ByteArray := prog_1_method_2_code
def yN_fill : MethodName := ⟨RN, "fill", "(III)V"⟩
abbrev bN_put : ByteArray := prog_1_method_3_code
def yN_put : MethodName := ⟨RN, "put", "(III)V"⟩
abbrev bN_get : ByteArray := prog_1_method_4_code
def yN_get : MethodName := ⟨RN, "get", "(II)I"⟩
abbrev bN_length : ByteArray := prog_1_method_5_code
def yN_length : MethodName := ⟨RN, "length", "(I)I"⟩
abbrev bN_number : ByteArray := prog_1_method_6_code
def yN_number : MethodName := ⟨RN, "number", "(IIJ)V"⟩
abbrev bN_numberOf : ByteArray := prog_1_method_7_code
def yN_numberOf : MethodName := ⟨RN, "numberOf", "(IZ)J"⟩
abbrev bN_operate : ByteArray := prog_1_method_8_code
def yN_operate : MethodName := ⟨RN, "operate", "(IZIII)V"⟩
abbrev bN_change : ByteArray := prog_1_method_9_code
def yN_change : MethodName := ⟨RN, "change", "(III)V"⟩
abbrev bN_shift : ByteArray := prog_1_method_10_code
def yN_shift : MethodName := ⟨RN, "shift", "(IIIII)V"⟩
abbrev bN_bring : ByteArray := prog_1_method_11_code
def yN_bring : MethodName := ⟨RN, "bring", "(ZIII)V"⟩
abbrev bN_cut : ByteArray := prog_1_method_12_code
def yN_cut : MethodName := ⟨RN, "cut", "(IIII)V"⟩
abbrev bN_compare : ByteArray := prog_1_method_13_code
def yN_compare : MethodName := ⟨RN, "compare", "(ZII)I"⟩
abbrev bN_same : ByteArray := prog_1_method_14_code
def yN_same : MethodName := ⟨RN, "same", "(ZII)Z"⟩
abbrev bN_all : ByteArray := prog_1_method_15_code
def yN_all : MethodName := ⟨RN, "all", "(II)I"⟩
abbrev bN_edge : ByteArray := prog_1_method_16_code
def yN_edge : MethodName := ⟨RN, "edge", "(II)I"⟩
abbrev bN_requirePlace : ByteArray := prog_1_method_17_code
def yN_requirePlace : MethodName := ⟨RN, "requirePlace", "(I)V"⟩
abbrev bN_requireElement : ByteArray := prog_1_method_18_code
def yN_requireElement : MethodName := ⟨RN, "requireElement", "(II)V"⟩
abbrev bN_requireLength : ByteArray := prog_1_method_19_code
def yN_requireLength : MethodName := ⟨RN, "requireLength", "(I)V"⟩
abbrev bN_requireValue : ByteArray := prog_1_method_20_code
def yN_requireValue : MethodName := ⟨RN, "requireValue", "(I)V"⟩
abbrev bN_joinElements : ByteArray := prog_1_method_21_code
def yN_joinElements : MethodName := ⟨RN, "joinElements", "(ILNineValues$Word;LNineValues$Word;)V"⟩
abbrev bN_setBehind : ByteArray := prog_1_method_22_code
def yN_setBehind : MethodName := ⟨RN, "setBehind", "(LNineValues$Word;LNineValues$Word;)V"⟩
abbrev bN_calculate : ByteArray := prog_1_method_23_code
def yN_calculate : MethodName := ⟨RN, "calculate", "(IZLNineValues$Word;LNineValues$Word;)V"⟩
abbrev bN_lengthOfResult : ByteArray := prog_1_method_24_code
def yN_lengthOfResult : MethodName := ⟨RN, "lengthOfResult", "(III)I"⟩
abbrev bN_sumOrProduct : ByteArray := prog_1_method_25_code
def yN_sumOrProduct : MethodName := ⟨RN, "sumOrProduct", "(IJJ)J"⟩
abbrev bN_divideSigned : ByteArray := prog_1_method_26_code
def yN_divideSigned : MethodName := ⟨RN, "divideSigned", "(IJJ)J"⟩
abbrev bN_divideUnsigned : ByteArray := prog_1_method_27_code
def yN_divideUnsigned : MethodName := ⟨RN, "divideUnsigned", "(IJJ)J"⟩
abbrev bN_quotientUnsigned : ByteArray := prog_1_method_28_code
def yN_quotientUnsigned : MethodName := ⟨RN, "quotientUnsigned", "(JJ)J"⟩
abbrev bN_isBelowUnsigned : ByteArray := prog_1_method_29_code
def yN_isBelowUnsigned : MethodName := ⟨RN, "isBelowUnsigned", "(JJ)Z"⟩
abbrev bN_changeElements : ByteArray := prog_1_method_30_code
def yN_changeElements : MethodName := ⟨RN, "changeElements", "(ILNineValues$Word;)V"⟩
abbrev bN_changeNumber : ByteArray := prog_1_method_31_code
def yN_changeNumber : MethodName := ⟨RN, "changeNumber", "(ILNineValues$Word;)V"⟩
abbrev bN_moveBy : ByteArray := prog_1_method_32_code
def yN_moveBy : MethodName := ⟨RN, "moveBy", "(IIILNineValues$Word;)V"⟩
abbrev bN_move : ByteArray := prog_1_method_33_code
def yN_move : MethodName := ⟨RN, "move", "(IILNineValues$Word;)V"⟩
abbrev bN_turnRound : ByteArray := prog_1_method_34_code
def yN_turnRound : MethodName := ⟨RN, "turnRound", "(ILNineValues$Word;)V"⟩
def RM : String := "NineValuesModel"
abbrev bMo_init : ByteArray := prog_5_method_1_code
def yMo_init : MethodName := ⟨RM, "<init>", "()V"⟩
abbrev bMo_thrown : ByteArray := prog_5_method_2_code
def yMo_thrown : MethodName := ⟨RM, "thrown", "()I"⟩
abbrev bMo_none : ByteArray := prog_5_method_3_code
def yMo_none : MethodName := ⟨RM, "none", "(I)Z"⟩
abbrev bMo_isLow : ByteArray := prog_5_method_4_code
def yMo_isLow : MethodName := ⟨RM, "isLow", "(I)Z"⟩
abbrev bMo_isHigh : ByteArray := prog_5_method_5_code
def yMo_isHigh : MethodName := ⟨RM, "isHigh", "(I)Z"⟩
abbrev bMo_isClear : ByteArray := prog_5_method_6_code
def yMo_isClear : MethodName := ⟨RM, "isClear", "(I)Z"⟩
abbrev bMo_cell : ByteArray := prog_5_method_7_code
def yMo_cell : MethodName := ⟨RM, "cell", "(II)I"⟩
abbrev bMo_keep : ByteArray := prog_5_method_8_code
def yMo_keep : MethodName := ⟨RM, "keep", "(I)V"⟩
abbrev bMo_fill : ByteArray := prog_5_method_9_code
def yMo_fill : MethodName := ⟨RM, "fill", "(III)V"⟩
abbrev bMo_put : ByteArray := prog_5_method_10_code
def yMo_put : MethodName := ⟨RM, "put", "(III)V"⟩
abbrev bMo_get : ByteArray := prog_5_method_11_code
def yMo_get : MethodName := ⟨RM, "get", "(II)I"⟩
abbrev bMo_length : ByteArray := prog_5_method_12_code
def yMo_length : MethodName := ⟨RM, "length", "(I)I"⟩
abbrev bMo_bits : ByteArray := prog_5_method_13_code
def yMo_bits : MethodName := ⟨RM, "bits", "(IJ)V"⟩
abbrev bMo_number : ByteArray := prog_5_method_14_code
def yMo_number : MethodName := ⟨RM, "number", "(IIJ)V"⟩
abbrev bMo_clear : ByteArray := prog_5_method_15_code
def yMo_clear : MethodName := ⟨RM, "clear", "(I)Z"⟩
abbrev bMo_value : ByteArray := prog_5_method_16_code
def yMo_value : MethodName := ⟨RM, "value", "(IZ)J"⟩
abbrev bMo_numberOf : ByteArray := prog_5_method_17_code
def yMo_numberOf : MethodName := ⟨RM, "numberOf", "(IZ)J"⟩
abbrev bMo_together : ByteArray := prog_5_method_18_code
def yMo_together : MethodName := ⟨RM, "together", "(II)I"⟩
abbrev bMo_and : ByteArray := prog_5_method_19_code
def yMo_and : MethodName := ⟨RM, "and", "(II)I"⟩
abbrev bMo_or : ByteArray := prog_5_method_20_code
def yMo_or : MethodName := ⟨RM, "or", "(II)I"⟩
abbrev bMo_xor : ByteArray := prog_5_method_21_code
def yMo_xor : MethodName := ⟨RM, "xor", "(II)I"⟩
abbrev bMo_not : ByteArray := prog_5_method_22_code
def yMo_not : MethodName := ⟨RM, "not", "(I)I"⟩
abbrev bMo_strip : ByteArray := prog_5_method_23_code
def yMo_strip : MethodName := ⟨RM, "strip", "(II)I"⟩
abbrev bMo_byTable : ByteArray := prog_5_method_24_code
def yMo_byTable : MethodName := ⟨RM, "byTable", "(III)I"⟩
abbrev bMo_divide : ByteArray := prog_5_method_25_code
def yMo_divide : MethodName := ⟨RM, "divide", "(JJZ)J"⟩
abbrev bMo_numbers : ByteArray := prog_5_method_26_code
def yMo_numbers : MethodName := ⟨RM, "numbers", "(IZIII)V"⟩
abbrev bMo_operate : ByteArray := prog_5_method_27_code
def yMo_operate : MethodName := ⟨RM, "operate", "(IZIII)V"⟩
abbrev bMo_change : ByteArray := prog_5_method_28_code
def yMo_change : MethodName := ⟨RM, "change", "(III)V"⟩
abbrev bMo_shift : ByteArray := prog_5_method_29_code
def yMo_shift : MethodName := ⟨RM, "shift", "(IIIII)V"⟩
abbrev bMo_bring : ByteArray := prog_5_method_30_code
def yMo_bring : MethodName := ⟨RM, "bring", "(ZIII)V"⟩
abbrev bMo_cut : ByteArray := prog_5_method_31_code
def yMo_cut : MethodName := ⟨RM, "cut", "(IIII)V"⟩
abbrev bMo_bit : ByteArray := prog_5_method_32_code
def yMo_bit : MethodName := ⟨RM, "bit", "(IIZ)I"⟩
abbrev bMo_compare : ByteArray := prog_5_method_33_code
def yMo_compare : MethodName := ⟨RM, "compare", "(ZII)I"⟩
abbrev bMo_goes : ByteArray := prog_5_method_34_code
def yMo_goes : MethodName := ⟨RM, "goes", "(II)Z"⟩
abbrev bMo_same : ByteArray := prog_5_method_35_code
def yMo_same : MethodName := ⟨RM, "same", "(ZII)Z"⟩
abbrev bMo_all : ByteArray := prog_5_method_36_code
def yMo_all : MethodName := ⟨RM, "all", "(II)I"⟩
abbrev bMo_edge : ByteArray := prog_5_method_37_code
def yMo_edge : MethodName := ⟨RM, "edge", "(II)I"⟩
def RL : String := "NineValuesLaw"
abbrev bL_fill : ByteArray := method_3_code
def yL_fill : MethodName := ⟨RL, "fill", "(LNineValues;III)I"⟩
abbrev bL_put : ByteArray := method_4_code
def yL_put : MethodName := ⟨RL, "put", "(LNineValues;III)I"⟩
abbrev bL_get : ByteArray := method_5_code
def yL_get : MethodName := ⟨RL, "get", "(LNineValues;II[J)I"⟩
abbrev bL_length : ByteArray := method_6_code
def yL_length : MethodName := ⟨RL, "length", "(LNineValues;I[J)I"⟩
abbrev bL_number : ByteArray := method_7_code
def yL_number : MethodName := ⟨RL, "number", "(LNineValues;IIJ)I"⟩
abbrev bL_numberOf : ByteArray := method_8_code
def yL_numberOf : MethodName := ⟨RL, "numberOf", "(LNineValues;IZ[J)I"⟩
abbrev bL_operate : ByteArray := method_9_code
def yL_operate : MethodName := ⟨RL, "operate", "(LNineValues;IZIII)I"⟩
abbrev bL_change : ByteArray := method_10_code
def yL_change : MethodName := ⟨RL, "change", "(LNineValues;III)I"⟩
abbrev bL_shift : ByteArray := method_11_code
def yL_shift : MethodName := ⟨RL, "shift", "(LNineValues;IIIII)I"⟩
abbrev bL_bring : ByteArray := method_12_code
def yL_bring : MethodName := ⟨RL, "bring", "(LNineValues;ZIII)I"⟩
abbrev bL_cut : ByteArray := method_13_code
def yL_cut : MethodName := ⟨RL, "cut", "(LNineValues;IIII)I"⟩
abbrev bL_compare : ByteArray := method_14_code
def yL_compare : MethodName := ⟨RL, "compare", "(LNineValues;ZII[J)I"⟩
abbrev bL_same : ByteArray := method_15_code
def yL_same : MethodName := ⟨RL, "same", "(LNineValues;ZII[J)I"⟩
abbrev bL_all : ByteArray := method_16_code
def yL_all : MethodName := ⟨RL, "all", "(LNineValues;II[J)I"⟩
abbrev bL_edge : ByteArray := method_17_code
def yL_edge : MethodName := ⟨RL, "edge", "(LNineValues;II[J)I"⟩
abbrev bL_law : ByteArray := code
def yL_law : MethodName := ⟨RL, "law", "([I)Z"⟩
def FW : u_T := fun k => match k with
  | 0 => ("NineValues$Word", "size", "I", false)
  | _ => ("NineValues$Word", "elements", "[I", true)
def tyW : Nat → FieldType := fun k => match k with
  | 0 => .int
  | _ => .array .int
def FN : u_T := fun k => match k with
  | 0 => ("NineValues", "places", "[LNineValues$Word;", true)
  | _ => ("NineValues", "answer", "LNineValues$Word;", true)
def tyN : Nat → FieldType := fun k => match k with
  | 0 => .array (.object "NineValues$Word")
  | _ => .object "NineValues$Word"
def FM : u_T := fun k => match k with
  | 0 => ("NineValuesModel", "code", "I", false)
  | 1 => ("NineValuesModel", "cells", "[I", true)
  | 2 => ("NineValuesModel", "lengths", "[I", true)
  | 3 => ("NineValuesModel", "out", "[I", true)
  | _ => ("NineValuesModel", "count", "I", false)
def tyM : Nat → FieldType := fun k => match k with
  | 0 => .int
  | 1 => .array .int
  | 2 => .array .int
  | 3 => .array .int
  | _ => .int
theorem nmW : ∀ a, a < 2 → ∀ b, b < 2 → a ≠ b → (FW a).2.1 ≠ (FW b).2.1 := by decide +kernel
theorem tyW_ok : ∀ k, k < 2 → parseFieldDescriptor (FW k).2.2.1 = some (tyW k) := by decide +kernel
theorem nmN : ∀ a, a < 2 → ∀ b, b < 2 → a ≠ b → (FN a).2.1 ≠ (FN b).2.1 := by decide +kernel
theorem tyN_ok : ∀ k, k < 2 → parseFieldDescriptor (FN k).2.2.1 = some (tyN k) := by decide +kernel
theorem nmM : ∀ a, a < 5 → ∀ b, b < 5 → a ≠ b → (FM a).2.1 ≠ (FM b).2.1 := by decide +kernel
theorem tyM_ok : ∀ k, k < 5 → parseFieldDescriptor (FM k).2.2.1 = some (tyM k) := by decide +kernel
abbrev vwCl : List vw_C := [(RW, FW, 2), (RN, FN, 2), (RM, FM, 5)]
abbrev ciW : Nat := 0
abbrev ciN : Nat := 1
abbrev ciM : Nat := 2
abbrev nmHost : String := "NineValues"
abbrev bJ_floorMod : ByteArray := prog_11_method_50_code
def yJ_floorMod : MethodName := ⟨"java/lang/Math", "floorMod", "(II)I"⟩
abbrev bJ_floorModL : ByteArray := prog_11_method_52_code
def yJ_floorModL : MethodName := ⟨"java/lang/Math", "floorMod", "(JJ)J"⟩
