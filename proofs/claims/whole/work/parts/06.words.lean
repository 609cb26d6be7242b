theorem nz_at {w : Cond} (i : Nat) (h : tables_1[i]? = some w) (hg : goodWord w = true) : w ∈ nzG := List.mem_filter.mpr ⟨List.mem_append_right _ (List.mem_of_getElem? h), hg⟩
theorem nz_pv {w : Cond} (i : Nat) (h : (k2_sels lw_privs)[i]? = some w) (hg : goodWord w = true := by rfl) : w ∈ nzG := List.mem_filter.mpr ⟨List.mem_append_left _ (List.mem_of_getElem? h), hg⟩
def nmSp (E : String) : List Cond := [.isRef (.static Bundle.tN "UNASSIGNED_STACK" Bundle.steD), .isRef (.static Bundle.tN "SUPPRESSED_SENTINEL" Bundle.listD), .laysStatic Bundle.tN "UNASSIGNED_STACK" Bundle.steD, .laysStatic Bundle.tN "SUPPRESSED_SENTINEL" Bundle.listD, .castable E E, .declares (Bundle.initS "java/lang/RuntimeException"), .declares (Bundle.initS "java/lang/Exception"), .declares (Bundle.initS Bundle.tN)]
theorem kat_of {L sp : List Cond} (ps : List Nat) (hp : L = ps.filterMap (fun i => (sp ++ tables_1)[i]?)) (hg : L.all (fun w => goodWord w || sp.any (fun x => decide (w = x))) = true) : ∀ w ∈ L, w ∈ sp ∨ w ∈ nzG := by
  intro w hw
  have h1 := List.all_eq_true.mp hg w hw
  rw [hp] at hw
  obtain ⟨i, -, hi⟩ := List.mem_filterMap.mp hw
  rcases List.mem_append.mp (List.mem_of_getElem? hi) with h | h
  · exact Or.inl h
  · rcases (Bool.or_eq_true _ _).mp h1 with g | g
    · exact Or.inr (List.mem_filter.mpr ⟨List.mem_append_right _ h, g⟩)
    · obtain ⟨x, hx, e⟩ := List.any_eq_true.mp g
      rw [of_decide_eq_true e]
      exact Or.inl hx
set_option maxRecDepth 100000 in
theorem in_W : ∀ w ∈ u_ws RW FW 2, w ∈ nzG := by decide +kernel
set_option maxRecDepth 100000 in
theorem in_N : ∀ w ∈ u_ws RN FN 2, w ∈ nzG := by decide +kernel
set_option maxRecDepth 100000 in
theorem in_M : ∀ w ∈ u_ws RM FM 5, w ∈ nzG := by decide +kernel
set_option maxRecDepth 100000 in
theorem kWire_9 : nzS RI 9 yWire_isLow bWire_isLow 1 (some .boolean) 1 := ⟨nz_at 205 (by decide +kernel) rfl, nz_at 206 (by decide +kernel) rfl, nz_at 9 (by decide +kernel) rfl, nz_at 207 (by decide +kernel) rfl, by decide, by decide +kernel⟩
set_option maxRecDepth 100000 in
theorem kWire_15 : nzS RI 15 yWire_isHigh bWire_isHigh 1 (some .boolean) 1 := ⟨nz_at 208 (by decide +kernel) rfl, nz_at 209 (by decide +kernel) rfl, nz_at 9 (by decide +kernel) rfl, nz_at 210 (by decide +kernel) rfl, by decide, by decide +kernel⟩
set_option maxRecDepth 100000 in
theorem kWire_18 : nzS RI 18 yWire_drive bWire_drive 4 (some .int) 2 := ⟨nz_at 253 (by decide +kernel) rfl, nz_at 254 (by decide +kernel) rfl, nz_at 9 (by decide +kernel) rfl, nz_at 255 (by decide +kernel) rfl, by decide, by decide +kernel⟩
set_option maxRecDepth 100000 in
theorem kWire_22 : nzS RI 22 yWire_and bWire_and 2 (some .int) 2 := ⟨nz_at 256 (by decide +kernel) rfl, nz_at 257 (by decide +kernel) rfl, nz_at 9 (by decide +kernel) rfl, nz_at 258 (by decide +kernel) rfl, by decide, by decide +kernel⟩
set_option maxRecDepth 100000 in
theorem kWire_25 : nzS RI 25 yWire_or bWire_or 2 (some .int) 2 := ⟨nz_at 259 (by decide +kernel) rfl, nz_at 260 (by decide +kernel) rfl, nz_at 9 (by decide +kernel) rfl, nz_at 261 (by decide +kernel) rfl, by decide, by decide +kernel⟩
set_option maxRecDepth 100000 in
theorem kWire_28 : nzS RI 28 yWire_xor bWire_xor 2 (some .int) 2 := ⟨nz_at 262 (by decide +kernel) rfl, nz_at 263 (by decide +kernel) rfl, nz_at 9 (by decide +kernel) rfl, nz_at 264 (by decide +kernel) rfl, by decide, by decide +kernel⟩
set_option maxRecDepth 100000 in
theorem kWire_31 : nzS RI 31 yWire_not bWire_not 1 (some .int) 1 := ⟨nz_at 266 (by decide +kernel) rfl, nz_at 267 (by decide +kernel) rfl, nz_at 9 (by decide +kernel) rfl, nz_at 268 (by decide +kernel) rfl, by decide, by decide +kernel⟩
set_option maxRecDepth 100000 in
theorem kWire_35 : nzS RI 35 yWire_isClear bWire_isClear 1 (some .boolean) 1 := ⟨nz_at 265 (by decide +kernel) rfl, nz_at 203 (by decide +kernel) rfl, nz_at 9 (by decide +kernel) rfl, nz_at 204 (by decide +kernel) rfl, by decide, by decide +kernel⟩
set_option maxRecDepth 100000 in
theorem kW_oi : Cond.methodLink RW 3 Lib.objectInit ∈ nzG ∧ Cond.instanceMethod Lib.objectInit ∈ nzG ∧ Cond.code Lib.objectInit ⟨#[0xb1]⟩ 1 none ∈ nzG := ⟨nz_at 27 (by decide +kernel) rfl, nz_at 19 (by decide +kernel) rfl, nz_at 20 (by decide +kernel) rfl⟩
abbrev fW_size : Nat := 9
set_option maxRecDepth 100000 in
theorem fl_W_size : Cond.fieldLink RW 9 "NineValues$Word" "size" "I" ∈ nzG := nz_at 28 (by decide +kernel) rfl
abbrev fW_elements : Nat := 15
set_option maxRecDepth 100000 in
theorem fl_W_elements : Cond.fieldLink RW 15 "NineValues$Word" "elements" "[I" ∈ nzG := nz_at 30 (by decide +kernel) rfl
set_option maxRecDepth 100000 in
theorem kWord_19 : nzV RW 19 RW yWord_lay bWord_lay 6 none 4 := ⟨nz_at 331 (by decide +kernel) rfl, nz_at 274 (by decide +kernel) rfl, nz_at 275 (by decide +kernel) rfl, nz_at 2 (by decide +kernel) rfl, nz_at 276 (by decide +kernel) rfl, by decide, by decide +kernel⟩
set_option maxRecDepth 100000 in
theorem kWord_23 : nzS RW 23 yWire_isClear bWire_isClear 1 (some .boolean) 1 := ⟨nz_at 202 (by decide +kernel) rfl, nz_at 203 (by decide +kernel) rfl, nz_at 9 (by decide +kernel) rfl, nz_at 204 (by decide +kernel) rfl, by decide, by decide +kernel⟩
set_option maxRecDepth 100000 in
theorem kWord_29 : nzV RW 29 RW yWord_isClear bWord_isClear 2 (some .boolean) 0 := ⟨nz_at 291 (by decide +kernel) rfl, nz_at 199 (by decide +kernel) rfl, nz_at 200 (by decide +kernel) rfl, nz_at 2 (by decide +kernel) rfl, nz_at 201 (by decide +kernel) rfl, by decide, by decide +kernel⟩
set_option maxRecDepth 100000 in
theorem kWord_32 : nzV RW 32 RW yWord_last bWord_last 1 (some .int) 0 := ⟨nz_at 231 (by decide +kernel) rfl, nz_at 232 (by decide +kernel) rfl, nz_at 233 (by decide +kernel) rfl, nz_at 2 (by decide +kernel) rfl, nz_at 234 (by decide +kernel) rfl, by decide, by decide +kernel⟩
set_option maxRecDepth 100000 in
theorem kWord_36 : nzS RW 36 yWire_isHigh bWire_isHigh 1 (some .boolean) 1 := ⟨nz_at 235 (by decide +kernel) rfl, nz_at 209 (by decide +kernel) rfl, nz_at 9 (by decide +kernel) rfl, nz_at 210 (by decide +kernel) rfl, by decide, by decide +kernel⟩
set_option maxRecDepth 100000 in
theorem kWord_39 : nzS RW 39 yWire_join bWire_join 3 (some .int) 3 := ⟨nz_at 423 (by decide +kernel) rfl, nz_at 251 (by decide +kernel) rfl, nz_at 9 (by decide +kernel) rfl, nz_at 252 (by decide +kernel) rfl, by decide, by decide +kernel⟩
set_option maxRecDepth 100000 in
theorem kN_oi : Cond.methodLink RN 1 Lib.objectInit ∈ nzG ∧ Cond.instanceMethod Lib.objectInit ∈ nzG ∧ Cond.code Lib.objectInit ⟨#[0xb1]⟩ 1 none ∈ nzG := ⟨nz_at 18 (by decide +kernel) rfl, nz_at 19 (by decide +kernel) rfl, nz_at 20 (by decide +kernel) rfl⟩
abbrev fN_places : Nat := 11
set_option maxRecDepth 100000 in
theorem fl_N_places : Cond.fieldLink RN 11 "NineValues" "places" "[LNineValues$Word;" ∈ nzG := nz_at 38 (by decide +kernel) rfl
abbrev nmK : Nat := 9
set_option maxRecDepth 100000 in
theorem kN_clW : Cond.classLink RN 9 RW ∈ nzG := nz_at 21 (by decide +kernel) rfl
abbrev nmI : Nat := 15
abbrev fN_answer : Nat := 16
set_option maxRecDepth 100000 in
theorem fl_N_answer : Cond.fieldLink RN 16 "NineValues" "answer" "LNineValues$Word;" ∈ nzG := nz_at 39 (by decide +kernel) rfl
set_option maxRecDepth 100000 in
theorem kN_20 : nzS RN 20 yN_requirePlace bN_requirePlace 1 none 1 := ⟨nz_at 54 (by decide +kernel) rfl, nz_at 55 (by decide +kernel) rfl, nz_at 1 (by decide +kernel) rfl, nz_at 56 (by decide +kernel) rfl, by decide, by decide +kernel⟩
set_option maxRecDepth 100000 in
theorem kN_24 : nzS RN 24 yN_requireLength bN_requireLength 1 none 1 := ⟨nz_at 126 (by decide +kernel) rfl, nz_at 127 (by decide +kernel) rfl, nz_at 1 (by decide +kernel) rfl, nz_at 128 (by decide +kernel) rfl, by decide, by decide +kernel⟩
set_option maxRecDepth 100000 in
theorem kN_27 : nzS RN 27 yN_requireValue bN_requireValue 1 none 1 := ⟨nz_at 145 (by decide +kernel) rfl, nz_at 146 (by decide +kernel) rfl, nz_at 1 (by decide +kernel) rfl, nz_at 147 (by decide +kernel) rfl, by decide, by decide +kernel⟩
set_option maxRecDepth 100000 in
theorem kN_30 : nzV RN 30 RW yWord_become bWord_become 4 none 2 := ⟨nz_at 149 (by decide +kernel) rfl, nz_at 150 (by decide +kernel) rfl, nz_at 151 (by decide +kernel) rfl, nz_at 2 (by decide +kernel) rfl, nz_at 152 (by decide +kernel) rfl, by decide, by decide +kernel⟩
set_option maxRecDepth 100000 in
theorem kN_34 : nzV RN 34 RN yN_requireElement bN_requireElement 3 none 2 := ⟨nz_at 160 (by decide +kernel) rfl, nz_at 162 (by decide +kernel) rfl, nz_pv 1 (by decide +kernel), nz_at 1 (by decide +kernel) rfl, nz_at 163 (by decide +kernel) rfl, by decide, by decide +kernel⟩
abbrev fN_elements : Nat := 37
abbrev fN_size : Nat := 41
set_option maxRecDepth 100000 in
theorem kN_45 : nzV RN 45 RW yWord_hold bWord_hold 5 none 2 := ⟨nz_at 186 (by decide +kernel) rfl, nz_at 187 (by decide +kernel) rfl, nz_at 188 (by decide +kernel) rfl, nz_at 2 (by decide +kernel) rfl, nz_at 189 (by decide +kernel) rfl, by decide, by decide +kernel⟩
set_option maxRecDepth 100000 in
theorem kN_49 : nzV RN 49 RW yWord_isClear bWord_isClear 2 (some .boolean) 0 := ⟨nz_at 198 (by decide +kernel) rfl, nz_at 199 (by decide +kernel) rfl, nz_at 200 (by decide +kernel) rfl, nz_at 2 (by decide +kernel) rfl, nz_at 201 (by decide +kernel) rfl, by decide, by decide +kernel⟩
set_option maxRecDepth 100000 in
theorem kcl_53 : Cond.classLink RN 53 "java/lang/IllegalStateException" ∈ nzG := nz_at 211 (by decide +kernel) rfl
set_option maxRecDepth 100000 in
theorem kin_eIS : Cond.initialized "java/lang/IllegalStateException" ∈ nzG := nz_at 10 (by decide +kernel) rfl
set_option maxRecDepth 100000 in
theorem kat_eIS : ∀ w ∈ Bundle.ownAtoms RN 57 "java/lang/IllegalStateException" ["java/lang/RuntimeException", "java/lang/Exception"], w ∈ nmSp "java/lang/IllegalStateException" ∨ w ∈ nzG := kat_of [12, 87, 96, 101, 104, 106, 88, 89, 27, 28, 90, 95, 102, 122, 77, 123, 79, 124, 81, 91, 2, 93, 3, 83, 118, 119, 121, 83, 230, 231, 232, 112, 5, 112, 113, 114, 115, 6, 115, 116, 117, 118, 7, 229, 220, 4, 222, 100, 223, 224, 225, 226, 0, 1, 86, 85, 227] (by decide +kernel) (by decide +kernel)
set_option maxRecDepth 100000 in
theorem kN_60 : nzV RN 60 RW yWord_asLong bWord_asLong 7 (some .long) 1 := ⟨nz_at 227 (by decide +kernel) rfl, nz_at 228 (by decide +kernel) rfl, nz_at 229 (by decide +kernel) rfl, nz_at 2 (by decide +kernel) rfl, nz_at 230 (by decide +kernel) rfl, by decide, by decide +kernel⟩
set_option maxRecDepth 100000 in
theorem kcl_64 : Cond.classLink RN 64 "java/lang/IllegalArgumentException" ∈ nzG := nz_at 129 (by decide +kernel) rfl
set_option maxRecDepth 100000 in
theorem kin_eIA : Cond.initialized "java/lang/IllegalArgumentException" ∈ nzG := nz_at 8 (by decide +kernel) rfl
set_option maxRecDepth 100000 in
theorem kat_eIA : ∀ w ∈ Bundle.ownAtoms RN 68 "java/lang/IllegalArgumentException" ["java/lang/RuntimeException", "java/lang/Exception"], w ∈ nmSp "java/lang/IllegalArgumentException" ∨ w ∈ nzG := kat_of [12, 87, 96, 101, 104, 106, 88, 89, 27, 28, 90, 95, 102, 122, 77, 123, 79, 124, 81, 91, 2, 93, 3, 83, 118, 119, 121, 83, 148, 149, 150, 112, 5, 112, 113, 114, 115, 6, 115, 116, 117, 118, 7, 147, 138, 4, 140, 99, 141, 142, 143, 144, 0, 1, 86, 85, 145] (by decide +kernel) (by decide +kernel)
set_option maxRecDepth 100000 in
theorem kN_69 : nzV RN 69 RN yN_joinElements bN_joinElements 5 none 3 := ⟨nz_at 245 (by decide +kernel) rfl, nz_at 247 (by decide +kernel) rfl, nz_pv 2 (by decide +kernel), nz_at 1 (by decide +kernel) rfl, nz_at 248 (by decide +kernel) rfl, by decide, by decide +kernel⟩
set_option maxRecDepth 100000 in
theorem kN_73 : nzV RN 73 RN yN_setBehind bN_setBehind 3 none 2 := ⟨nz_at 269 (by decide +kernel) rfl, nz_at 271 (by decide +kernel) rfl, nz_pv 3 (by decide +kernel), nz_at 1 (by decide +kernel) rfl, nz_at 272 (by decide +kernel) rfl, by decide, by decide +kernel⟩
set_option maxRecDepth 100000 in
theorem kN_77 : nzV RN 77 RN yN_calculate bN_calculate 10 none 4 := ⟨nz_at 277 (by decide +kernel) rfl, nz_at 279 (by decide +kernel) rfl, nz_pv 4 (by decide +kernel), nz_at 1 (by decide +kernel) rfl, nz_at 280 (by decide +kernel) rfl, by decide, by decide +kernel⟩
set_option maxRecDepth 100000 in
theorem kN_81 : nzV RN 81 RW yWord_copy bWord_copy 2 none 1 := ⟨nz_at 327 (by decide +kernel) rfl, nz_at 328 (by decide +kernel) rfl, nz_at 329 (by decide +kernel) rfl, nz_at 2 (by decide +kernel) rfl, nz_at 330 (by decide +kernel) rfl, by decide, by decide +kernel⟩
set_option maxRecDepth 100000 in
theorem kN_87 : nzV RN 87 RN yN_changeElements bN_changeElements 5 none 2 := ⟨nz_at 340 (by decide +kernel) rfl, nz_at 342 (by decide +kernel) rfl, nz_pv 5 (by decide +kernel), nz_at 1 (by decide +kernel) rfl, nz_at 343 (by decide +kernel) rfl, by decide, by decide +kernel⟩
set_option maxRecDepth 100000 in
theorem kN_91 : nzV RN 91 RN yN_changeNumber bN_changeNumber 5 none 2 := ⟨nz_at 348 (by decide +kernel) rfl, nz_at 350 (by decide +kernel) rfl, nz_pv 6 (by decide +kernel), nz_at 1 (by decide +kernel) rfl, nz_at 351 (by decide +kernel) rfl, by decide, by decide +kernel⟩
set_option maxRecDepth 100000 in
theorem kN_98 : nzV RN 98 RN yN_moveBy bN_moveBy 5 none 4 := ⟨nz_at 361 (by decide +kernel) rfl, nz_at 363 (by decide +kernel) rfl, nz_pv 7 (by decide +kernel), nz_at 1 (by decide +kernel) rfl, nz_at 364 (by decide +kernel) rfl, by decide, by decide +kernel⟩
set_option maxRecDepth 100000 in
theorem kN_102 : nzV RN 102 RW yWord_last bWord_last 1 (some .int) 0 := ⟨nz_at 369 (by decide +kernel) rfl, nz_at 232 (by decide +kernel) rfl, nz_at 233 (by decide +kernel) rfl, nz_at 2 (by decide +kernel) rfl, nz_at 234 (by decide +kernel) rfl, by decide, by decide +kernel⟩
set_option maxRecDepth 100000 in
theorem kN_min : Cond.methodLink RN 106 Lib.Math.min.name ∈ nzG ∧ Cond.static Lib.Math.min.name ∈ nzG ∧ Cond.initialized "java/lang/Math" ∈ nzG ∧ Cond.code Lib.Math.min.name Lib.Math.min.code 2 (some .int) ∈ nzG := ⟨nz_at 384 (by decide +kernel) rfl, nz_at 385 (by decide +kernel) rfl, nz_at 11 (by decide +kernel) rfl, nz_at 386 (by decide +kernel) rfl⟩
set_option maxRecDepth 100000 in
theorem kN_112 : nzV RN 112 RW yWord_lay bWord_lay 6 none 4 := ⟨nz_at 273 (by decide +kernel) rfl, nz_at 274 (by decide +kernel) rfl, nz_at 275 (by decide +kernel) rfl, nz_at 2 (by decide +kernel) rfl, nz_at 276 (by decide +kernel) rfl, by decide, by decide +kernel⟩
set_option maxRecDepth 100000 in
theorem kcl_116 : Cond.classLink RN 116 "java/lang/IndexOutOfBoundsException" ∈ nzG := nz_at 57 (by decide +kernel) rfl
set_option maxRecDepth 100000 in
theorem kin_eIO : Cond.initialized "java/lang/IndexOutOfBoundsException" ∈ nzG := nz_at 7 (by decide +kernel) rfl
set_option maxRecDepth 100000 in
theorem kat_eIO : ∀ w ∈ Bundle.ownAtoms RN 120 "java/lang/IndexOutOfBoundsException" ["java/lang/RuntimeException", "java/lang/Exception"], w ∈ nmSp "java/lang/IndexOutOfBoundsException" ∨ w ∈ nzG := kat_of [12, 87, 96, 101, 104, 106, 88, 89, 27, 28, 90, 95, 102, 122, 77, 123, 79, 124, 81, 91, 2, 93, 3, 83, 118, 119, 121, 83, 109, 110, 111, 112, 5, 112, 113, 114, 115, 6, 115, 116, 117, 118, 7, 108, 66, 4, 74, 75, 76, 78, 80, 82, 0, 1, 86, 85, 84] (by decide +kernel) (by decide +kernel)
set_option maxRecDepth 100000 in
theorem kN_121 : nzV RN 121 RW yWord_counts bWord_counts 1 (some .boolean) 0 := ⟨nz_at 287 (by decide +kernel) rfl, nz_at 288 (by decide +kernel) rfl, nz_at 289 (by decide +kernel) rfl, nz_at 2 (by decide +kernel) rfl, nz_at 290 (by decide +kernel) rfl, by decide, by decide +kernel⟩
set_option maxRecDepth 100000 in
theorem kN_124 : nzS RN 124 yN_isBelowUnsigned bN_isBelowUnsigned 4 (some .boolean) 2 := ⟨nz_at 323 (by decide +kernel) rfl, nz_at 324 (by decide +kernel) rfl, nz_at 1 (by decide +kernel) rfl, nz_at 325 (by decide +kernel) rfl, by decide, by decide +kernel⟩
set_option maxRecDepth 100000 in
theorem kN_128 : nzS RN 128 yWire_goTogether bWire_goTogether 2 (some .boolean) 2 := ⟨nz_at 409 (by decide +kernel) rfl, nz_at 410 (by decide +kernel) rfl, nz_at 9 (by decide +kernel) rfl, nz_at 411 (by decide +kernel) rfl, by decide, by decide +kernel⟩
set_option maxRecDepth 100000 in
theorem kN_134 : nzV RN 134 RW yWord_joined bWord_joined 5 (some .int) 2 := ⟨nz_at 419 (by decide +kernel) rfl, nz_at 420 (by decide +kernel) rfl, nz_at 421 (by decide +kernel) rfl, nz_at 2 (by decide +kernel) rfl, nz_at 422 (by decide +kernel) rfl, by decide, by decide +kernel⟩
set_option maxRecDepth 100000 in
theorem kN_139 : nzS RN 139 yWire_isLow bWire_isLow 1 (some .boolean) 1 := ⟨nz_at 432 (by decide +kernel) rfl, nz_at 206 (by decide +kernel) rfl, nz_at 9 (by decide +kernel) rfl, nz_at 207 (by decide +kernel) rfl, by decide, by decide +kernel⟩
set_option maxRecDepth 100000 in
theorem kN_143 : nzS RN 143 yWire_isHigh bWire_isHigh 1 (some .boolean) 1 := ⟨nz_at 433 (by decide +kernel) rfl, nz_at 209 (by decide +kernel) rfl, nz_at 9 (by decide +kernel) rfl, nz_at 210 (by decide +kernel) rfl, by decide, by decide +kernel⟩
set_option maxRecDepth 100000 in
theorem kN_156 : nzS RN 156 yWire_join bWire_join 3 (some .int) 3 := ⟨nz_at 250 (by decide +kernel) rfl, nz_at 251 (by decide +kernel) rfl, nz_at 9 (by decide +kernel) rfl, nz_at 252 (by decide +kernel) rfl, by decide, by decide +kernel⟩
set_option maxRecDepth 100000 in
theorem kN_160 : nzS RN 160 yN_lengthOfResult bN_lengthOfResult 3 (some .int) 3 := ⟨nz_at 281 (by decide +kernel) rfl, nz_at 282 (by decide +kernel) rfl, nz_at 1 (by decide +kernel) rfl, nz_at 283 (by decide +kernel) rfl, by decide, by decide +kernel⟩
set_option maxRecDepth 100000 in
theorem kN_163 : nzS RN 163 yN_sumOrProduct bN_sumOrProduct 5 (some .long) 3 := ⟨nz_at 292 (by decide +kernel) rfl, nz_at 293 (by decide +kernel) rfl, nz_at 1 (by decide +kernel) rfl, nz_at 294 (by decide +kernel) rfl, by decide, by decide +kernel⟩
set_option maxRecDepth 100000 in
theorem kcl_167 : Cond.classLink RN 167 "java/lang/ArithmeticException" ∈ nzG := nz_at 295 (by decide +kernel) rfl
set_option maxRecDepth 100000 in
theorem kin_eAR : Cond.initialized "java/lang/ArithmeticException" ∈ nzG := nz_at 12 (by decide +kernel) rfl
set_option maxRecDepth 100000 in
theorem kat_eAR : ∀ w ∈ Bundle.ownAtoms RN 171 "java/lang/ArithmeticException" ["java/lang/RuntimeException", "java/lang/Exception"], w ∈ nmSp "java/lang/ArithmeticException" ∨ w ∈ nzG := kat_of [12, 87, 96, 101, 104, 106, 88, 89, 27, 28, 90, 95, 102, 122, 77, 123, 79, 124, 81, 91, 2, 93, 3, 83, 118, 119, 121, 83, 314, 315, 316, 112, 5, 112, 113, 114, 115, 6, 115, 116, 117, 118, 7, 313, 304, 4, 306, 98, 307, 308, 309, 310, 0, 1, 86, 85, 311] (by decide +kernel) (by decide +kernel)
set_option maxRecDepth 100000 in
theorem kN_172 : nzS RN 172 yN_divideSigned bN_divideSigned 5 (some .long) 3 := ⟨nz_at 311 (by decide +kernel) rfl, nz_at 312 (by decide +kernel) rfl, nz_at 1 (by decide +kernel) rfl, nz_at 313 (by decide +kernel) rfl, by decide, by decide +kernel⟩
set_option maxRecDepth 100000 in
theorem kN_175 : nzS RN 175 yN_divideUnsigned bN_divideUnsigned 7 (some .long) 3 := ⟨nz_at 317 (by decide +kernel) rfl, nz_at 318 (by decide +kernel) rfl, nz_at 1 (by decide +kernel) rfl, nz_at 319 (by decide +kernel) rfl, by decide, by decide +kernel⟩
set_option maxRecDepth 100000 in
theorem kN_max : Cond.methodLink RN 178 Lib.Math.max.name ∈ nzG ∧ Cond.static Lib.Math.max.name ∈ nzG ∧ Cond.initialized "java/lang/Math" ∈ nzG ∧ Cond.code Lib.Math.max.name Lib.Math.max.code 2 (some .int) ∈ nzG := ⟨nz_at 284 (by decide +kernel) rfl, nz_at 285 (by decide +kernel) rfl, nz_at 11 (by decide +kernel) rfl, nz_at 286 (by decide +kernel) rfl⟩
set_option maxRecDepth 100000 in
theorem kN_181 : nzS RN 181 yJ_floorModL bJ_floorModL 6 (some .long) 2 := ⟨nz_at 314 (by decide +kernel) rfl, nz_at 315 (by decide +kernel) rfl, nz_at 11 (by decide +kernel) rfl, nz_at 316 (by decide +kernel) rfl, by decide, by decide +kernel⟩
set_option maxRecDepth 100000 in
theorem kN_185 : nzS RN 185 yN_quotientUnsigned bN_quotientUnsigned 6 (some .long) 2 := ⟨nz_at 320 (by decide +kernel) rfl, nz_at 321 (by decide +kernel) rfl, nz_at 1 (by decide +kernel) rfl, nz_at 322 (by decide +kernel) rfl, by decide, by decide +kernel⟩
set_option maxRecDepth 100000 in
theorem kN_c188 : Cond.constantLong RN 188 (-9223372036854775808) ∈ nzG := nz_at 326 (by decide +kernel) rfl
set_option maxRecDepth 100000 in
theorem kN_190 : nzS RN 190 yWire_not bWire_not 1 (some .int) 1 := ⟨nz_at 344 (by decide +kernel) rfl, nz_at 267 (by decide +kernel) rfl, nz_at 9 (by decide +kernel) rfl, nz_at 268 (by decide +kernel) rfl, by decide, by decide +kernel⟩
set_option maxRecDepth 100000 in
theorem kN_194 : nzS RN 194 yWire_strip bWire_strip 2 (some .int) 2 := ⟨nz_at 345 (by decide +kernel) rfl, nz_at 346 (by decide +kernel) rfl, nz_at 9 (by decide +kernel) rfl, nz_at 347 (by decide +kernel) rfl, by decide, by decide +kernel⟩
set_option maxRecDepth 100000 in
theorem kN_197 : nzV RN 197 RN yN_move bN_move 6 none 3 := ⟨nz_at 365 (by decide +kernel) rfl, nz_at 367 (by decide +kernel) rfl, nz_pv 8 (by decide +kernel), nz_at 1 (by decide +kernel) rfl, nz_at 368 (by decide +kernel) rfl, by decide, by decide +kernel⟩
set_option maxRecDepth 100000 in
theorem kN_201 : nzV RN 201 RN yN_turnRound bN_turnRound 4 none 2 := ⟨nz_at 370 (by decide +kernel) rfl, nz_at 372 (by decide +kernel) rfl, nz_pv 9 (by decide +kernel), nz_at 1 (by decide +kernel) rfl, nz_at 373 (by decide +kernel) rfl, by decide, by decide +kernel⟩
set_option maxRecDepth 100000 in
theorem kN_204 : nzS RN 204 yJ_floorMod bJ_floorMod 3 (some .int) 2 := ⟨nz_at 374 (by decide +kernel) rfl, nz_at 375 (by decide +kernel) rfl, nz_at 11 (by decide +kernel) rfl, nz_at 376 (by decide +kernel) rfl, by decide, by decide +kernel⟩
set_option maxRecDepth 100000 in
theorem kM_oi : Cond.methodLink RM 1 Lib.objectInit ∈ nzG ∧ Cond.instanceMethod Lib.objectInit ∈ nzG ∧ Cond.code Lib.objectInit ⟨#[0xb1]⟩ 1 none ∈ nzG := ⟨nz_at 439 (by decide +kernel) rfl, nz_at 19 (by decide +kernel) rfl, nz_at 20 (by decide +kernel) rfl⟩
abbrev fM_cells : Nat := 7
set_option maxRecDepth 100000 in
theorem fl_M_cells : Cond.fieldLink RM 7 "NineValuesModel" "cells" "[I" ∈ nzG := nz_at 441 (by decide +kernel) rfl
abbrev fM_lengths : Nat := 13
set_option maxRecDepth 100000 in
theorem fl_M_lengths : Cond.fieldLink RM 13 "NineValuesModel" "lengths" "[I" ∈ nzG := nz_at 442 (by decide +kernel) rfl
abbrev fM_out : Nat := 16
set_option maxRecDepth 100000 in
theorem fl_M_out : Cond.fieldLink RM 16 "NineValuesModel" "out" "[I" ∈ nzG := nz_at 443 (by decide +kernel) rfl
abbrev fM_code : Nat := 19
set_option maxRecDepth 100000 in
theorem fl_M_code : Cond.fieldLink RM 19 "NineValuesModel" "code" "I" ∈ nzG := nz_at 440 (by decide +kernel) rfl
set_option maxRecDepth 100000 in
theorem kMo_23 : nzS RM 23 yMo_isLow bMo_isLow 1 (some .boolean) 1 := ⟨nz_at 506 (by decide +kernel) rfl, nz_at 507 (by decide +kernel) rfl, nz_at 3 (by decide +kernel) rfl, nz_at 508 (by decide +kernel) rfl, by decide, by decide +kernel⟩
set_option maxRecDepth 100000 in
theorem kMo_27 : nzS RM 27 yMo_isHigh bMo_isHigh 1 (some .boolean) 1 := ⟨nz_at 509 (by decide +kernel) rfl, nz_at 510 (by decide +kernel) rfl, nz_at 3 (by decide +kernel) rfl, nz_at 511 (by decide +kernel) rfl, by decide, by decide +kernel⟩
abbrev fM_count : Nat := 30
set_option maxRecDepth 100000 in
theorem fl_M_count : Cond.fieldLink RM 30 "NineValuesModel" "count" "I" ∈ nzG := nz_at 444 (by decide +kernel) rfl
set_option maxRecDepth 100000 in
theorem kMo_33 : nzS RM 33 yMo_none bMo_none 1 (some .boolean) 1 := ⟨nz_at 464 (by decide +kernel) rfl, nz_at 465 (by decide +kernel) rfl, nz_at 3 (by decide +kernel) rfl, nz_at 466 (by decide +kernel) rfl, by decide, by decide +kernel⟩
set_option maxRecDepth 100000 in
theorem kMo_36 : nzV RM 36 RM yMo_keep bMo_keep 3 none 1 := ⟨nz_at 467 (by decide +kernel) rfl, nz_at 469 (by decide +kernel) rfl, nz_pv 10 (by decide +kernel), nz_at 3 (by decide +kernel) rfl, nz_at 470 (by decide +kernel) rfl, by decide, by decide +kernel⟩
set_option maxRecDepth 100000 in
theorem kMo_40 : nzV RM 40 RM yMo_cell bMo_cell 3 (some .int) 2 := ⟨nz_at 479 (by decide +kernel) rfl, nz_at 481 (by decide +kernel) rfl, nz_pv 11 (by decide +kernel), nz_at 3 (by decide +kernel) rfl, nz_at 482 (by decide +kernel) rfl, by decide, by decide +kernel⟩
set_option maxRecDepth 100000 in
theorem kMo_44 : nzV RM 44 RM yMo_bits bMo_bits 5 none 2 := ⟨nz_at 491 (by decide +kernel) rfl, nz_at 493 (by decide +kernel) rfl, nz_pv 12 (by decide +kernel), nz_at 3 (by decide +kernel) rfl, nz_at 494 (by decide +kernel) rfl, by decide, by decide +kernel⟩
set_option maxRecDepth 100000 in
theorem kMo_48 : nzS RM 48 yMo_isClear bMo_isClear 1 (some .boolean) 1 := ⟨nz_at 503 (by decide +kernel) rfl, nz_at 504 (by decide +kernel) rfl, nz_at 3 (by decide +kernel) rfl, nz_at 505 (by decide +kernel) rfl, by decide, by decide +kernel⟩
set_option maxRecDepth 100000 in
theorem kMo_c51 : Cond.constantLong RM 51 (2) ∈ nzG := nz_at 516 (by decide +kernel) rfl
set_option maxRecDepth 100000 in
theorem kMo_53 : nzV RM 53 RM yMo_clear bMo_clear 4 (some .boolean) 1 := ⟨nz_at 499 (by decide +kernel) rfl, nz_at 501 (by decide +kernel) rfl, nz_pv 13 (by decide +kernel), nz_at 3 (by decide +kernel) rfl, nz_at 502 (by decide +kernel) rfl, by decide, by decide +kernel⟩
set_option maxRecDepth 100000 in
theorem kMo_56 : nzV RM 56 RM yMo_value bMo_value 9 (some .long) 2 := ⟨nz_at 512 (by decide +kernel) rfl, nz_at 514 (by decide +kernel) rfl, nz_pv 14 (by decide +kernel), nz_at 3 (by decide +kernel) rfl, nz_at 515 (by decide +kernel) rfl, by decide, by decide +kernel⟩
set_option maxRecDepth 100000 in
theorem kMo_60 : nzS RM 60 yMo_together bMo_together 2 (some .int) 2 := ⟨nz_at 524 (by decide +kernel) rfl, nz_at 525 (by decide +kernel) rfl, nz_at 3 (by decide +kernel) rfl, nz_at 526 (by decide +kernel) rfl, by decide, by decide +kernel⟩
set_option maxRecDepth 100000 in
theorem kMo_63 : nzS RM 63 yMo_and bMo_and 2 (some .int) 2 := ⟨nz_at 527 (by decide +kernel) rfl, nz_at 528 (by decide +kernel) rfl, nz_at 3 (by decide +kernel) rfl, nz_at 529 (by decide +kernel) rfl, by decide, by decide +kernel⟩
set_option maxRecDepth 100000 in
theorem kMo_66 : nzS RM 66 yMo_or bMo_or 2 (some .int) 2 := ⟨nz_at 530 (by decide +kernel) rfl, nz_at 531 (by decide +kernel) rfl, nz_at 3 (by decide +kernel) rfl, nz_at 532 (by decide +kernel) rfl, by decide, by decide +kernel⟩
set_option maxRecDepth 100000 in
theorem kMo_69 : nzS RM 69 yMo_xor bMo_xor 2 (some .int) 2 := ⟨nz_at 533 (by decide +kernel) rfl, nz_at 534 (by decide +kernel) rfl, nz_at 3 (by decide +kernel) rfl, nz_at 535 (by decide +kernel) rfl, by decide, by decide +kernel⟩
set_option maxRecDepth 100000 in
theorem kMo_72 : nzS RM 72 yMo_not bMo_not 1 (some .int) 1 := ⟨nz_at 536 (by decide +kernel) rfl, nz_at 537 (by decide +kernel) rfl, nz_at 3 (by decide +kernel) rfl, nz_at 538 (by decide +kernel) rfl, by decide, by decide +kernel⟩
set_option maxRecDepth 100000 in
theorem kMo_c78 : Cond.constantLong RM 78 (-9223372036854775808) ∈ nzG := nz_at 547 (by decide +kernel) rfl
set_option maxRecDepth 100000 in
theorem kMo_80 : nzV RM 80 RM yMo_divide bMo_divide 13 (some .long) 3 := ⟨nz_at 543 (by decide +kernel) rfl, nz_at 545 (by decide +kernel) rfl, nz_pv 16 (by decide +kernel), nz_at 3 (by decide +kernel) rfl, nz_at 546 (by decide +kernel) rfl, by decide, by decide +kernel⟩
set_option maxRecDepth 100000 in
theorem kMo_84 : nzS RM 84 yMo_byTable bMo_byTable 3 (some .int) 3 := ⟨nz_at 521 (by decide +kernel) rfl, nz_at 522 (by decide +kernel) rfl, nz_at 3 (by decide +kernel) rfl, nz_at 523 (by decide +kernel) rfl, by decide, by decide +kernel⟩
set_option maxRecDepth 100000 in
theorem kMo_88 : nzV RM 88 RM yMo_numbers bMo_numbers 20 none 5 := ⟨nz_at 539 (by decide +kernel) rfl, nz_at 541 (by decide +kernel) rfl, nz_pv 15 (by decide +kernel), nz_at 3 (by decide +kernel) rfl, nz_at 542 (by decide +kernel) rfl, by decide, by decide +kernel⟩
set_option maxRecDepth 100000 in
theorem kMo_92 : nzS RM 92 yMo_strip bMo_strip 2 (some .int) 2 := ⟨nz_at 552 (by decide +kernel) rfl, nz_at 553 (by decide +kernel) rfl, nz_at 3 (by decide +kernel) rfl, nz_at 554 (by decide +kernel) rfl, by decide, by decide +kernel⟩
set_option maxRecDepth 100000 in
theorem kMo_95 : nzV RM 95 RM yMo_bit bMo_bit 4 (some .int) 3 := ⟨nz_at 571 (by decide +kernel) rfl, nz_at 573 (by decide +kernel) rfl, nz_pv 17 (by decide +kernel), nz_at 3 (by decide +kernel) rfl, nz_at 574 (by decide +kernel) rfl, by decide, by decide +kernel⟩
set_option maxRecDepth 100000 in
theorem kMo_99 : nzS RM 99 yMo_goes bMo_goes 2 (some .boolean) 2 := ⟨nz_at 579 (by decide +kernel) rfl, nz_at 580 (by decide +kernel) rfl, nz_at 3 (by decide +kernel) rfl, nz_at 581 (by decide +kernel) rfl, by decide, by decide +kernel⟩
set_option maxRecDepth 100000 in
theorem kL_7 : nzV RL 7 RN yN_fill bN_fill 4 none 3 := ⟨nz_at 50 (by decide +kernel) rfl, nz_at 51 (by decide +kernel) rfl, nz_at 52 (by decide +kernel) rfl, nz_at 1 (by decide +kernel) rfl, nz_at 53 (by decide +kernel) rfl, by decide, by decide +kernel⟩
set_option maxRecDepth 100000 in
theorem kL_17 : nzV RL 17 RN yN_put bN_put 4 none 3 := ⟨nz_at 156 (by decide +kernel) rfl, nz_at 157 (by decide +kernel) rfl, nz_at 158 (by decide +kernel) rfl, nz_at 1 (by decide +kernel) rfl, nz_at 159 (by decide +kernel) rfl, by decide, by decide +kernel⟩
set_option maxRecDepth 100000 in
theorem kL_20 : nzV RL 20 RN yN_get bN_get 3 (some .int) 2 := ⟨nz_at 168 (by decide +kernel) rfl, nz_at 169 (by decide +kernel) rfl, nz_at 170 (by decide +kernel) rfl, nz_at 1 (by decide +kernel) rfl, nz_at 171 (by decide +kernel) rfl, by decide, by decide +kernel⟩
set_option maxRecDepth 100000 in
theorem kL_24 : nzV RL 24 RN yN_length bN_length 2 (some .int) 1 := ⟨nz_at 175 (by decide +kernel) rfl, nz_at 176 (by decide +kernel) rfl, nz_at 177 (by decide +kernel) rfl, nz_at 1 (by decide +kernel) rfl, nz_at 178 (by decide +kernel) rfl, by decide, by decide +kernel⟩
set_option maxRecDepth 100000 in
theorem kL_28 : nzV RL 28 RN yN_number bN_number 5 none 3 := ⟨nz_at 182 (by decide +kernel) rfl, nz_at 183 (by decide +kernel) rfl, nz_at 184 (by decide +kernel) rfl, nz_at 1 (by decide +kernel) rfl, nz_at 185 (by decide +kernel) rfl, by decide, by decide +kernel⟩
set_option maxRecDepth 100000 in
theorem kL_32 : nzV RL 32 RN yN_numberOf bN_numberOf 3 (some .long) 2 := ⟨nz_at 194 (by decide +kernel) rfl, nz_at 195 (by decide +kernel) rfl, nz_at 196 (by decide +kernel) rfl, nz_at 1 (by decide +kernel) rfl, nz_at 197 (by decide +kernel) rfl, by decide, by decide +kernel⟩
set_option maxRecDepth 100000 in
theorem kL_38 : nzV RL 38 RN yN_operate bN_operate 6 none 5 := ⟨nz_at 240 (by decide +kernel) rfl, nz_at 241 (by decide +kernel) rfl, nz_at 242 (by decide +kernel) rfl, nz_at 1 (by decide +kernel) rfl, nz_at 243 (by decide +kernel) rfl, by decide, by decide +kernel⟩
set_option maxRecDepth 100000 in
theorem kL_44 : nzV RL 44 RN yN_change bN_change 4 none 3 := ⟨nz_at 335 (by decide +kernel) rfl, nz_at 336 (by decide +kernel) rfl, nz_at 337 (by decide +kernel) rfl, nz_at 1 (by decide +kernel) rfl, nz_at 338 (by decide +kernel) rfl, by decide, by decide +kernel⟩
set_option maxRecDepth 100000 in
theorem kL_47 : nzV RL 47 RN yN_shift bN_shift 6 none 5 := ⟨nz_at 355 (by decide +kernel) rfl, nz_at 356 (by decide +kernel) rfl, nz_at 357 (by decide +kernel) rfl, nz_at 1 (by decide +kernel) rfl, nz_at 358 (by decide +kernel) rfl, by decide, by decide +kernel⟩
set_option maxRecDepth 100000 in
theorem kL_51 : nzV RL 51 RN yN_bring bN_bring 6 none 4 := ⟨nz_at 380 (by decide +kernel) rfl, nz_at 381 (by decide +kernel) rfl, nz_at 382 (by decide +kernel) rfl, nz_at 1 (by decide +kernel) rfl, nz_at 383 (by decide +kernel) rfl, by decide, by decide +kernel⟩
set_option maxRecDepth 100000 in
theorem kL_55 : nzV RL 55 RN yN_cut bN_cut 6 none 4 := ⟨nz_at 390 (by decide +kernel) rfl, nz_at 391 (by decide +kernel) rfl, nz_at 392 (by decide +kernel) rfl, nz_at 1 (by decide +kernel) rfl, nz_at 393 (by decide +kernel) rfl, by decide, by decide +kernel⟩
set_option maxRecDepth 100000 in
theorem kL_59 : nzV RL 59 RN yN_compare bN_compare 8 (some .int) 3 := ⟨nz_at 398 (by decide +kernel) rfl, nz_at 399 (by decide +kernel) rfl, nz_at 400 (by decide +kernel) rfl, nz_at 1 (by decide +kernel) rfl, nz_at 401 (by decide +kernel) rfl, by decide, by decide +kernel⟩
set_option maxRecDepth 100000 in
theorem kL_63 : nzV RL 63 RN yN_same bN_same 9 (some .boolean) 3 := ⟨nz_at 405 (by decide +kernel) rfl, nz_at 406 (by decide +kernel) rfl, nz_at 407 (by decide +kernel) rfl, nz_at 1 (by decide +kernel) rfl, nz_at 408 (by decide +kernel) rfl, by decide, by decide +kernel⟩
set_option maxRecDepth 100000 in
theorem kL_67 : nzV RL 67 RN yN_all bN_all 3 (some .int) 2 := ⟨nz_at 415 (by decide +kernel) rfl, nz_at 416 (by decide +kernel) rfl, nz_at 417 (by decide +kernel) rfl, nz_at 1 (by decide +kernel) rfl, nz_at 418 (by decide +kernel) rfl, by decide, by decide +kernel⟩
set_option maxRecDepth 100000 in
theorem kL_70 : nzV RL 70 RN yN_edge bN_edge 3 (some .int) 2 := ⟨nz_at 428 (by decide +kernel) rfl, nz_at 429 (by decide +kernel) rfl, nz_at 430 (by decide +kernel) rfl, nz_at 1 (by decide +kernel) rfl, nz_at 431 (by decide +kernel) rfl, by decide, by decide +kernel⟩
set_option maxRecDepth 100000 in
theorem kL_82 : nzV RL 82 RM yMo_fill bMo_fill 5 none 3 := ⟨nz_at 460 (by decide +kernel) rfl, nz_at 461 (by decide +kernel) rfl, nz_at 462 (by decide +kernel) rfl, nz_at 3 (by decide +kernel) rfl, nz_at 463 (by decide +kernel) rfl, by decide, by decide +kernel⟩
set_option maxRecDepth 100000 in
theorem kL_83 : nzV RL 83 RM yMo_thrown bMo_thrown 1 (some .int) 0 := ⟨nz_at 456 (by decide +kernel) rfl, nz_at 457 (by decide +kernel) rfl, nz_at 458 (by decide +kernel) rfl, nz_at 3 (by decide +kernel) rfl, nz_at 459 (by decide +kernel) rfl, by decide, by decide +kernel⟩
set_option maxRecDepth 100000 in
theorem kL_89 : nzV RL 89 RM yMo_put bMo_put 4 none 3 := ⟨nz_at 471 (by decide +kernel) rfl, nz_at 472 (by decide +kernel) rfl, nz_at 473 (by decide +kernel) rfl, nz_at 3 (by decide +kernel) rfl, nz_at 474 (by decide +kernel) rfl, by decide, by decide +kernel⟩
set_option maxRecDepth 100000 in
theorem kL_93 : nzV RL 93 RM yMo_get bMo_get 3 (some .int) 2 := ⟨nz_at 475 (by decide +kernel) rfl, nz_at 476 (by decide +kernel) rfl, nz_at 477 (by decide +kernel) rfl, nz_at 3 (by decide +kernel) rfl, nz_at 478 (by decide +kernel) rfl, by decide, by decide +kernel⟩
set_option maxRecDepth 100000 in
theorem kL_97 : nzV RL 97 RM yMo_length bMo_length 2 (some .int) 1 := ⟨nz_at 483 (by decide +kernel) rfl, nz_at 484 (by decide +kernel) rfl, nz_at 485 (by decide +kernel) rfl, nz_at 3 (by decide +kernel) rfl, nz_at 486 (by decide +kernel) rfl, by decide, by decide +kernel⟩
set_option maxRecDepth 100000 in
theorem kL_c98 : Cond.constantLong RL 98 (4294967295) ∈ nzG := nz_at 590 (by decide +kernel) rfl
set_option maxRecDepth 100000 in
theorem kL_103 : nzV RL 103 RM yMo_number bMo_number 5 none 3 := ⟨nz_at 487 (by decide +kernel) rfl, nz_at 488 (by decide +kernel) rfl, nz_at 489 (by decide +kernel) rfl, nz_at 3 (by decide +kernel) rfl, nz_at 490 (by decide +kernel) rfl, by decide, by decide +kernel⟩
set_option maxRecDepth 100000 in
theorem kL_107 : nzV RL 107 RM yMo_numberOf bMo_numberOf 3 (some .long) 2 := ⟨nz_at 495 (by decide +kernel) rfl, nz_at 496 (by decide +kernel) rfl, nz_at 497 (by decide +kernel) rfl, nz_at 3 (by decide +kernel) rfl, nz_at 498 (by decide +kernel) rfl, by decide, by decide +kernel⟩
set_option maxRecDepth 100000 in
theorem kL_111 : nzV RL 111 RM yMo_operate bMo_operate 10 none 5 := ⟨nz_at 517 (by decide +kernel) rfl, nz_at 518 (by decide +kernel) rfl, nz_at 519 (by decide +kernel) rfl, nz_at 3 (by decide +kernel) rfl, nz_at 520 (by decide +kernel) rfl, by decide, by decide +kernel⟩
set_option maxRecDepth 100000 in
theorem kL_114 : nzV RL 114 RM yMo_change bMo_change 6 none 3 := ⟨nz_at 548 (by decide +kernel) rfl, nz_at 549 (by decide +kernel) rfl, nz_at 550 (by decide +kernel) rfl, nz_at 3 (by decide +kernel) rfl, nz_at 551 (by decide +kernel) rfl, by decide, by decide +kernel⟩
set_option maxRecDepth 100000 in
theorem kL_118 : nzV RL 118 RM yMo_shift bMo_shift 12 none 5 := ⟨nz_at 555 (by decide +kernel) rfl, nz_at 556 (by decide +kernel) rfl, nz_at 557 (by decide +kernel) rfl, nz_at 3 (by decide +kernel) rfl, nz_at 558 (by decide +kernel) rfl, by decide, by decide +kernel⟩
set_option maxRecDepth 100000 in
theorem kL_122 : nzV RL 122 RM yMo_bring bMo_bring 8 none 4 := ⟨nz_at 559 (by decide +kernel) rfl, nz_at 560 (by decide +kernel) rfl, nz_at 561 (by decide +kernel) rfl, nz_at 3 (by decide +kernel) rfl, nz_at 562 (by decide +kernel) rfl, by decide, by decide +kernel⟩
set_option maxRecDepth 100000 in
theorem kL_126 : nzV RL 126 RM yMo_cut bMo_cut 6 none 4 := ⟨nz_at 563 (by decide +kernel) rfl, nz_at 564 (by decide +kernel) rfl, nz_at 565 (by decide +kernel) rfl, nz_at 3 (by decide +kernel) rfl, nz_at 566 (by decide +kernel) rfl, by decide, by decide +kernel⟩
set_option maxRecDepth 100000 in
theorem kL_130 : nzV RL 130 RM yMo_compare bMo_compare 9 (some .int) 3 := ⟨nz_at 567 (by decide +kernel) rfl, nz_at 568 (by decide +kernel) rfl, nz_at 569 (by decide +kernel) rfl, nz_at 3 (by decide +kernel) rfl, nz_at 570 (by decide +kernel) rfl, by decide, by decide +kernel⟩
set_option maxRecDepth 100000 in
theorem kL_133 : nzV RL 133 RM yMo_same bMo_same 6 (some .boolean) 3 := ⟨nz_at 575 (by decide +kernel) rfl, nz_at 576 (by decide +kernel) rfl, nz_at 577 (by decide +kernel) rfl, nz_at 3 (by decide +kernel) rfl, nz_at 578 (by decide +kernel) rfl, by decide, by decide +kernel⟩
set_option maxRecDepth 100000 in
theorem kL_136 : nzV RL 136 RM yMo_all bMo_all 5 (some .int) 2 := ⟨nz_at 582 (by decide +kernel) rfl, nz_at 583 (by decide +kernel) rfl, nz_at 584 (by decide +kernel) rfl, nz_at 3 (by decide +kernel) rfl, nz_at 585 (by decide +kernel) rfl, by decide, by decide +kernel⟩
set_option maxRecDepth 100000 in
theorem kL_139 : nzV RL 139 RM yMo_edge bMo_edge 3 (some .int) 2 := ⟨nz_at 586 (by decide +kernel) rfl, nz_at 587 (by decide +kernel) rfl, nz_at 588 (by decide +kernel) rfl, nz_at 3 (by decide +kernel) rfl, nz_at 589 (by decide +kernel) rfl, by decide, by decide +kernel⟩
set_option maxRecDepth 100000 in
theorem kN_instW : Cond.instantiable RW 2 ∈ nzG := nz_at 23 (by decide +kernel) rfl
set_option maxRecDepth 100000 in
theorem kN_iniW : Cond.initialized RW ∈ nzG := nz_at 2 (by decide +kernel) rfl
set_option maxRecDepth 100000 in
theorem kN_cdW : Cond.code yWord_init bWord_init 1 none ∈ nzG := nz_at 26 (by decide +kernel) rfl
set_option maxRecDepth 100000 in
theorem kN_imW : Cond.instanceMethod yWord_init ∈ nzG := nz_at 25 (by decide +kernel) rfl
set_option maxRecDepth 100000 in
theorem k_arrI : Cond.arrayClass (newarray.typeOf .int) ∈ nzG := by decide +kernel
def nmStr : List (Nat × String) := [(55, "the word is not clear"), (66, "no such operation"), (85, "no such kind of change"), (94, "no such kind of shift"), (96, "a shift goes by -1000 to 1000"), (118, "the word has no such elements"), (137, "no such kind of joining"), (146, "no such place"), (148, "no such element"), (150, "a length is 0 to 64"), (152, "no such value"), (154, "the words have not the same length"), (169, "division by zero")]
