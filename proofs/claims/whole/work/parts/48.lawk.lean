/-! ===== the law: the words of its calls ===== -/
/-- a static call of a method that catches, by its words -/
def nzW (own : String) (i : Nat) (y : MethodName) (b : ByteArray) (mL : Nat) (r : Option FieldType) (hh : List (Nat × Nat × Nat × Nat)) (n : Nat) : Prop :=
  Cond.methodLink own i y ∈ nzG ∧ Cond.static y ∈ nzG ∧ Cond.initialized y.cls ∈ nzG ∧ Cond.codeWith y b mL r hh ∈ nzG ∧ (y.cls ≠ "java/lang/invoke/MethodHandle" ∧ y.cls ≠ "java/lang/invoke/VarHandle") ∧ (parseMethodDescriptor y.desc).map (fun d => d.parameters.length) = some n
set_option maxRecDepth 100000 in
theorem kLs_fill : nzW RL 77 yL_fill bL_fill 5 (some .int) [(0, 7, 10, 13), (0, 7, 14, 15)] 4 := ⟨nz_at 45 (by decide +kernel) rfl, nz_at 46 (by decide +kernel) rfl, nz_at 0 (by decide +kernel) rfl, nz_at 47 (by decide +kernel) rfl, by decide, by decide +kernel⟩
set_option maxRecDepth 100000 in
theorem kLs_put : nzW RL 87 yL_put bL_put 5 (some .int) [(0, 7, 10, 13), (0, 7, 14, 15)] 4 := ⟨nz_at 153 (by decide +kernel) rfl, nz_at 154 (by decide +kernel) rfl, nz_at 0 (by decide +kernel) rfl, nz_at 155 (by decide +kernel) rfl, by decide, by decide +kernel⟩
set_option maxRecDepth 100000 in
theorem kLs_get : nzW RL 90 yL_get bL_get 5 (some .int) [(0, 10, 13, 13)] 4 := ⟨nz_at 165 (by decide +kernel) rfl, nz_at 166 (by decide +kernel) rfl, nz_at 0 (by decide +kernel) rfl, nz_at 167 (by decide +kernel) rfl, by decide, by decide +kernel⟩
set_option maxRecDepth 100000 in
theorem kLs_length : nzW RL 94 yL_length bL_length 4 (some .int) [(0, 9, 12, 13)] 3 := ⟨nz_at 172 (by decide +kernel) rfl, nz_at 173 (by decide +kernel) rfl, nz_at 0 (by decide +kernel) rfl, nz_at 174 (by decide +kernel) rfl, by decide, by decide +kernel⟩
set_option maxRecDepth 100000 in
theorem kLs_number : nzW RL 100 yL_number bL_number 6 (some .int) [(0, 7, 10, 13), (0, 7, 14, 15)] 4 := ⟨nz_at 179 (by decide +kernel) rfl, nz_at 180 (by decide +kernel) rfl, nz_at 0 (by decide +kernel) rfl, nz_at 181 (by decide +kernel) rfl, by decide, by decide +kernel⟩
set_option maxRecDepth 100000 in
theorem kLs_numberOf : nzW RL 104 yL_numberOf bL_numberOf 5 (some .int) [(0, 9, 12, 13), (0, 9, 16, 36)] 4 := ⟨nz_at 190 (by decide +kernel) rfl, nz_at 191 (by decide +kernel) rfl, nz_at 0 (by decide +kernel) rfl, nz_at 192 (by decide +kernel) rfl, by decide, by decide +kernel⟩
set_option maxRecDepth 100000 in
theorem kLs_operate : nzW RL 108 yL_operate bL_operate 7 (some .int) [(0, 11, 14, 13), (0, 11, 18, 15), (0, 11, 22, 42)] 6 := ⟨nz_at 236 (by decide +kernel) rfl, nz_at 237 (by decide +kernel) rfl, nz_at 0 (by decide +kernel) rfl, nz_at 238 (by decide +kernel) rfl, by decide, by decide +kernel⟩
set_option maxRecDepth 100000 in
theorem kLs_change : nzW RL 112 yL_change bL_change 5 (some .int) [(0, 7, 10, 13), (0, 7, 14, 15)] 4 := ⟨nz_at 332 (by decide +kernel) rfl, nz_at 333 (by decide +kernel) rfl, nz_at 0 (by decide +kernel) rfl, nz_at 334 (by decide +kernel) rfl, by decide, by decide +kernel⟩
set_option maxRecDepth 100000 in
theorem kLs_shift : nzW RL 115 yL_shift bL_shift 7 (some .int) [(0, 11, 14, 13), (0, 11, 18, 15)] 6 := ⟨nz_at 352 (by decide +kernel) rfl, nz_at 353 (by decide +kernel) rfl, nz_at 0 (by decide +kernel) rfl, nz_at 354 (by decide +kernel) rfl, by decide, by decide +kernel⟩
set_option maxRecDepth 100000 in
theorem kLs_bring : nzW RL 119 yL_bring bL_bring 6 (some .int) [(0, 9, 12, 13), (0, 9, 16, 15)] 5 := ⟨nz_at 377 (by decide +kernel) rfl, nz_at 378 (by decide +kernel) rfl, nz_at 0 (by decide +kernel) rfl, nz_at 379 (by decide +kernel) rfl, by decide, by decide +kernel⟩
set_option maxRecDepth 100000 in
theorem kLs_cut : nzW RL 123 yL_cut bL_cut 6 (some .int) [(0, 9, 12, 13)] 5 := ⟨nz_at 387 (by decide +kernel) rfl, nz_at 388 (by decide +kernel) rfl, nz_at 0 (by decide +kernel) rfl, nz_at 389 (by decide +kernel) rfl, by decide, by decide +kernel⟩
set_option maxRecDepth 100000 in
theorem kLs_compare : nzW RL 127 yL_compare bL_compare 6 (some .int) [(0, 12, 15, 13)] 5 := ⟨nz_at 395 (by decide +kernel) rfl, nz_at 396 (by decide +kernel) rfl, nz_at 0 (by decide +kernel) rfl, nz_at 397 (by decide +kernel) rfl, by decide, by decide +kernel⟩
set_option maxRecDepth 100000 in
theorem kLs_same : nzW RL 131 yL_same bL_same 6 (some .int) [(0, 19, 22, 13)] 5 := ⟨nz_at 402 (by decide +kernel) rfl, nz_at 403 (by decide +kernel) rfl, nz_at 0 (by decide +kernel) rfl, nz_at 404 (by decide +kernel) rfl, by decide, by decide +kernel⟩
set_option maxRecDepth 100000 in
theorem kLs_all : nzW RL 134 yL_all bL_all 5 (some .int) [(0, 10, 13, 13), (0, 10, 17, 15)] 4 := ⟨nz_at 412 (by decide +kernel) rfl, nz_at 413 (by decide +kernel) rfl, nz_at 0 (by decide +kernel) rfl, nz_at 414 (by decide +kernel) rfl, by decide, by decide +kernel⟩
set_option maxRecDepth 100000 in
theorem kLs_edge : nzW RL 137 yL_edge bL_edge 5 (some .int) [(0, 10, 13, 15)] 4 := ⟨nz_at 425 (by decide +kernel) rfl, nz_at 426 (by decide +kernel) rfl, nz_at 0 (by decide +kernel) rfl, nz_at 427 (by decide +kernel) rfl, by decide, by decide +kernel⟩
set_option maxRecDepth 100000 in
theorem kL_clN : Cond.classLink RL 8 RN ∈ nzG := nz_at 13 (by decide +kernel) rfl
set_option maxRecDepth 100000 in
theorem kL_clM : Cond.classLink RL 74 RM ∈ nzG := nz_at 434 (by decide +kernel) rfl
set_option maxRecDepth 100000 in
theorem kL_inN : Cond.instantiable RN 2 ∈ nzG := nz_at 14 (by decide +kernel) rfl
set_option maxRecDepth 100000 in
theorem kL_inM : Cond.instantiable RM 5 ∈ nzG := nz_at 435 (by decide +kernel) rfl
set_option maxRecDepth 100000 in
theorem kL_iniN : Cond.initialized RN ∈ nzG := nz_at 1 (by decide +kernel) rfl
set_option maxRecDepth 100000 in
theorem kL_iniM : Cond.initialized RM ∈ nzG := nz_at 3 (by decide +kernel) rfl
set_option maxRecDepth 100000 in
theorem kL_mlN : Cond.methodLink RL 73 yN_init ∈ nzG := nz_at 15 (by decide +kernel) rfl
set_option maxRecDepth 100000 in
theorem kL_imN : Cond.instanceMethod yN_init ∈ nzG := nz_at 16 (by decide +kernel) rfl
set_option maxRecDepth 100000 in
theorem kL_cdN : Cond.code yN_init bN_init 2 none ∈ nzG := nz_at 17 (by decide +kernel) rfl
set_option maxRecDepth 100000 in
theorem kL_mlMo : Cond.methodLink RL 76 yMo_init ∈ nzG := nz_at 436 (by decide +kernel) rfl
set_option maxRecDepth 100000 in
theorem kL_imMo : Cond.instanceMethod yMo_init ∈ nzG := nz_at 437 (by decide +kernel) rfl
set_option maxRecDepth 100000 in
theorem kL_cdMo : Cond.code yMo_init bMo_init 1 none ∈ nzG := nz_at 438 (by decide +kernel) rfl
set_option maxRecDepth 100000 in
theorem k_arrJ : Cond.arrayClass (newarray.typeOf .long) ∈ nzG := nz_at 591 (by decide +kernel) rfl
