set_option maxHeartbeats 4000000 in
set_option maxRecDepth 100000 in
theorem lpM_sh1 {p : Program} {e : Env} {s : State} {m : MethodId} {args : Array Value} {below : List Frame} {meth : Method} {c : Code} {Q : State → Prop} (l : Launch) (D : va_G) (cA : ClassId) (T : Nat → Nat) (hT : moT T) (k0 : Int32) (C L O : Nat → Nat) (c0 : Nat) (o v a u j : Nat) (x7 : Int32) (hN0 : 0 < c0) (hN : c0 ≤ 64) (H : Heap) (locs : List Loc) (S : CallFix p m c bMo_shift 12 s args nzG RM) (hK : va_K D vwCl (moTy cA) s) (hP : va_P D vwCl (moW cA T k0 C L O c0) H) (z0 : Int) (kk : ∀ (x : Int32) (ls : Array Slot), 0 ≤ x.toInt → x.toInt < 3000 → x.toInt % (c0 : Int) = z0 % (c0 : Int) → lv_has ls 12 [(0, .ref (T 0)), (1, .int (nI o)), (3, .int (nI v)), (4, .int (nI a)), (5, .int (nI u)), (7, .int x7), (8, .int (nI j)), (9, .int x)] → W p l e ({ frames := 1, cells := 0, slots := 0, locals := 22 }) s m args below meth c H locs 0 0 Q (F0 m 151 ls [])) : ∀ (fuel : Nat) (x : Int32), -2000 ≤ x.toInt → x.toInt < 3000 → -x.toInt < (fuel : Int) → x.toInt % (c0 : Int) = z0 % (c0 : Int) → ∀ (ls : Array Slot), lv_has ls 12 [(0, .ref (T 0)), (1, .int (nI o)), (3, .int (nI v)), (4, .int (nI a)), (5, .int (nI u)), (7, .int x7), (8, .int (nI j)), (9, .int x)] → W p l e ({ frames := 1, cells := 0, slots := 0, locals := 22 }) s m args below meth c H locs 0 0 Q (F0 m 134 ls []) := by
  have hx := S.1
  have hb := S.2.1
  have hci : (nI c0).toInt = (c0 : Int) := nI_toInt (by omega)
  intro fuel
  induction fuel with
  | zero =>
    intro x h1 h2 h3 h4 ls hl
    refine lv_iload hx hb dMo_shift_134 (lv_at hl 7 rfl) ?_
    refine lv_if_ge (tgt := 151) hx hb dMo_shift_136 (by decide) (fun q1 => ?_) (fun q1 => absurd (i32_0le.mpr (by omega)) q1)
    exact kk x ls (i32_0le.mp q1) h2 h4 hl
  | succ fuel ih =>
    intro x h1 h2 h3 h4 ls hl
    refine lv_iload hx hb dMo_shift_134 (lv_at hl 7 rfl) ?_
    refine lv_if_ge (tgt := 151) hx hb dMo_shift_136 (by decide) (fun q1 => ?_) (fun q1 => ?_)
    · exact kk x ls (i32_0le.mp q1) h2 h4 hl
    · have hz : x.toInt < 0 := Int.not_le.mp (fun w => q1 (i32_0le.mpr w))
      refine lv_iload hx hb dMo_shift_139 (lv_at hl 7 rfl) ?_
      refine lv_aload_n hx hb dMo_shift_141 rfl (lv_at hl 0 rfl) ?_
      refine mo_getc S hK hP dMo_shift_142 ?_
      refine lv_iadd hx hb dMo_shift_145 ?_
      have hs : (x + nI c0).toInt = x.toInt + c0 := by rw [iadd_toInt (by omega) (by omega), hci]
      refine lv_istore (lv' := [(9, .int (x + nI c0)), (0, .ref (T 0)), (1, .int (nI o)), (3, .int (nI v)), (4, .int (nI a)), (5, .int (nI u)), (7, .int x7), (8, .int (nI j))]) hx hb dMo_shift_146 hl (by decide) rfl (fun ls hl => ?_)
      refine lv_goto (tgt := 134) hx hb dMo_shift_148 (by decide) ?_
      exact ih (x + nI c0) (by omega) (by omega) (by omega) (by rw [hs, Int.add_emod_right]; exact h4) ls (lv_sub hl [1, 2, 3, 4, 5, 6, 7, 0] rfl)
set_option maxHeartbeats 4000000 in
set_option maxRecDepth 100000 in
theorem lpM_sh2 {p : Program} {e : Env} {s : State} {m : MethodId} {args : Array Value} {below : List Frame} {meth : Method} {c : Code} {Q : State → Prop} (l : Launch) (D : va_G) (cA : ClassId) (T : Nat → Nat) (hT : moT T) (k0 : Int32) (C L O : Nat → Nat) (c0 : Nat) (o v a u j : Nat) (x7 : Int32) (hN0 : 0 < c0) (hN : c0 ≤ 64) (H : Heap) (locs : List Loc) (S : CallFix p m c bMo_shift 12 s args nzG RM) (hK : va_K D vwCl (moTy cA) s) (hP : va_P D vwCl (moW cA T k0 C L O c0) H) (z0 : Int) (kk : ∀ (ls : Array Slot), lv_has ls 12 [(0, .ref (T 0)), (1, .int (nI o)), (3, .int (nI v)), (4, .int (nI a)), (5, .int (nI u)), (7, .int x7), (8, .int (nI j)), (9, .int (nI ((z0 % (c0 : Int)).toNat)))] → W p l e ({ frames := 1, cells := 0, slots := 0, locals := 22 }) s m args below meth c H locs 0 0 Q (F0 m 172 ls [])) : ∀ (fuel : Nat) (x : Int32), 0 ≤ x.toInt → x.toInt < 3000 → x.toInt < (fuel : Int) → x.toInt % (c0 : Int) = z0 % (c0 : Int) → ∀ (ls : Array Slot), lv_has ls 12 [(0, .ref (T 0)), (1, .int (nI o)), (3, .int (nI v)), (4, .int (nI a)), (5, .int (nI u)), (7, .int x7), (8, .int (nI j)), (9, .int x)] → W p l e ({ frames := 1, cells := 0, slots := 0, locals := 22 }) s m args below meth c H locs 0 0 Q (F0 m 151 ls []) := by
  have hx := S.1
  have hb := S.2.1
  have hci : (nI c0).toInt = (c0 : Int) := nI_toInt (by omega)
  intro fuel
  induction fuel with
  | zero =>
    intro x h1 h2 h3
    exact absurd h3 (by omega)
  | succ fuel ih =>
    intro x h1 h2 h3 h4 ls hl
    refine lv_iload hx hb dMo_shift_151 (lv_at hl 7 rfl) ?_
    refine lv_aload_n hx hb dMo_shift_153 rfl (lv_at hl 0 rfl) ?_
    refine mo_getc S hK hP dMo_shift_154 ?_
    refine lv_icmp_lt (tgt := 172) hx hb dMo_shift_157 (by decide) (fun q1 => ?_) (fun q1 => ?_)
    · have h5 := (i32_lt (by omega)).mp q1
      have h6 : x = nI (z0 % (c0 : Int)).toNat := by rw [← h4, Int.emod_eq_of_lt h1 h5]; exact i32_toNat h1 h5 (by omega)
      rw [h6] at hl
      exact kk ls hl
    · have h5 : (c0 : Int) ≤ x.toInt := Int.not_lt.mp (fun w => q1 ((i32_lt (by omega)).mpr w))
      refine lv_iload hx hb dMo_shift_160 (lv_at hl 7 rfl) ?_
      refine lv_aload_n hx hb dMo_shift_162 rfl (lv_at hl 0 rfl) ?_
      refine mo_getc S hK hP dMo_shift_163 ?_
      refine lv_isub hx hb dMo_shift_166 ?_
      have hs : (x - nI c0).toInt = x.toInt - c0 := by rw [isub_toInt (by omega) (by omega), hci]
      refine lv_istore (lv' := [(9, .int (x - nI c0)), (0, .ref (T 0)), (1, .int (nI o)), (3, .int (nI v)), (4, .int (nI a)), (5, .int (nI u)), (7, .int x7), (8, .int (nI j))]) hx hb dMo_shift_167 hl (by decide) rfl (fun ls hl => ?_)
      refine lv_goto (tgt := 151) hx hb dMo_shift_169 (by decide) ?_
      exact ih (x - nI c0) (by omega) (by omega) (by omega) (by rw [hs, Int.sub_emod_right]; exact h4) ls (lv_sub hl [1, 2, 3, 4, 5, 6, 7, 0] rfl)
set_option maxHeartbeats 4000000 in
set_option maxRecDepth 100000 in
theorem lpM_shift {p : Program} {e : Env} {s : State} {m : MethodId} {args : Array Value} {below : List Frame} {meth : Method} {c : Code} {Q : State → Prop} (l : Launch) (D : va_G) (cA : ClassId) (T : Nat → Nat) (hT : moT T) (k0 : Int32) (C L O : Nat → Nat) (c0 : Nat) (ok : moOk C L O) (o : Nat) (ho : o < 5) (v : Nat) (a : Nat) (ha : a < 16) (u : Nat) (x7 : Int32) (dl : Int) (hdl : -1000 ≤ dl ∧ dl ≤ 1000) (h7 : x7.toInt = (if o = 0 ∨ o = 3 then dl else -dl)) (hN : c0 ≤ 64) (S : CallFix p m c bMo_shift 12 s args nzG RM) (hK : va_K D vwCl (moTy cA) s) (kk : ∀ (H : Heap) (locs : List Loc) (ls : Array Slot), va_P D vwCl (moW cA T k0 C L (pov (fShift o dl v (mR C a) c0) O 0 c0) c0) H → va_S (moA T) s.heap H locs → lv_has ls 12 [(0, .ref (T 0)), (1, .int (nI o)), (3, .int (nI v)), (4, .int (nI a)), (5, .int (nI u)), (7, .int x7), (8, .int (nI c0))] → W p l e ({ frames := 1, cells := 0, slots := 0, locals := 22 }) s m args below meth c H locs 0 0 Q (F0 m 256 ls [])) : ∀ (fuel j : Nat), j ≤ c0 → c0 < j + fuel → ∀ (H : Heap) (locs : List Loc), va_P D vwCl (moW cA T k0 C L (pov (fShift o dl v (mR C a) c0) O 0 j) c0) H → va_S (moA T) s.heap H locs → ∀ (ls : Array Slot), lv_has ls 12 [(0, .ref (T 0)), (1, .int (nI o)), (3, .int (nI v)), (4, .int (nI a)), (5, .int (nI u)), (7, .int x7), (8, .int (nI j))] → W p l e ({ frames := 1, cells := 0, slots := 0, locals := 22 }) s m args below meth c H locs 0 0 Q (F0 m 113 ls []) := by
  have hx := S.1
  have hb := S.2.1
  intro fuel
  induction fuel with
  | zero =>
    intro j hj hfu
    exact absurd hfu (by omega)
  | succ fuel ih =>
    intro j hj hfu H locs hP hS ls hl
    refine lv_iload hx hb dMo_shift_113 (lv_at hl 6 rfl) ?_
    refine lv_aload_n hx hb dMo_shift_115 rfl (lv_at hl 0 rfl) ?_
    refine mo_getc S hK hP dMo_shift_116 ?_
    refine lv_icmp_ge (tgt := 256) hx hb dMo_shift_119 (by decide) (fun c1 => ?_) (fun c1 => ?_)
    · have mc1 : c0 ≤ j := (nI_leI (a := c0) (b := j) (by omega) (by omega)).mp c1
      obtain rfl : j = c0 := by omega
      exact kk H locs ls hP hS (lv_sub hl [0, 1, 2, 3, 4, 5, 6] rfl)
    · have mc1 : j < c0 := Nat.lt_of_not_le (fun h => c1 ((nI_leI (a := c0) (b := j) (by omega) (by omega)).mpr h))
      have hsb : (nI j - x7).toInt = (j : Int) - (if o = 0 ∨ o = 3 then dl else -dl) := by rw [isub_toInt (by rw [nI_toInt (by omega), h7]; split <;> omega) (by rw [nI_toInt (by omega), h7]; split <;> omega), nI_toInt (by omega), h7]
      rcases (show o = 0 ∨ o = 1 ∨ o = 2 ∨ o = 3 ∨ o = 4 by omega) with rfl | rfl | rfl | rfl | rfl
      · have hsb : (nI j - x7).toInt = (j : Int) - (dl) := hsb
        have h7 : x7.toInt = (dl) := h7
        refine lv_iload hx hb dMo_shift_122 (lv_at hl 6 rfl) ?_
        refine lv_iload hx hb dMo_shift_124 (lv_at hl 5 rfl) ?_
        refine lv_isub hx hb dMo_shift_126 ?_
        refine lv_istore (lv' := [(9, .int (nI j - x7)), (0, .ref (T 0)), (1, .int 0), (3, .int (nI v)), (4, .int (nI a)), (5, .int (nI u)), (7, .int x7), (8, .int (nI j))]) hx hb dMo_shift_127 hl (by decide) rfl (fun ls hl => ?_)
        refine lv_iload_n hx hb dMo_shift_129 rfl (lv_at hl 2 rfl) ?_
        refine lv_iconst (v := 2) hx hb dMo_shift_130 (by decide) ?_
        refine lv_icmp_le (tgt := 172) hx hb dMo_shift_131 (by decide) (fun _ => ?_) (fun c2 => absurd (by decide) c2)
        refine lv_iload hx hb dMo_shift_172 (lv_at hl 0 rfl) ?_
        refine lv_if_lt (tgt := 190) hx hb dMo_shift_174 (by decide) (fun c3 => ?_) (fun c3 => ?_)
        · refine lv_iconst (v := 0) hx hb dMo_shift_190 (by decide) ?_
          refine lv_istore (lv' := [(10, .int 0), (9, .int (nI j - x7)), (0, .ref (T 0)), (1, .int 0), (3, .int (nI v)), (4, .int (nI a)), (5, .int (nI u)), (7, .int x7), (8, .int (nI j))]) hx hb dMo_shift_191 hl (by decide) rfl (fun ls hl => ?_)
          refine lv_iload_n hx hb dMo_shift_193 rfl (lv_at hl 3 rfl) ?_
          refine lv_iconst (v := 2) hx hb dMo_shift_194 (by decide) ?_
          refine lv_icmp_eq (tgt := 202) hx hb dMo_shift_195 (by decide) (fun c4 => absurd c4 (by decide)) (fun _ => ?_)
          refine lv_iload_n hx hb dMo_shift_198 rfl (lv_at hl 4 rfl) ?_
          refine lv_goto (tgt := 223) hx hb dMo_shift_199 (by decide) ?_
          refine lv_istore (lv' := [(11, .int (nI v)), (10, .int 0), (9, .int (nI j - x7)), (0, .ref (T 0)), (1, .int 0), (3, .int (nI v)), (4, .int (nI a)), (5, .int (nI u)), (7, .int x7), (8, .int (nI j))]) hx hb dMo_shift_223 hl (by decide) rfl (fun ls hl => ?_)
          refine lv_aload_n hx hb dMo_shift_225 rfl (lv_at hl 3 rfl) ?_
          refine mo_getO S hK hP dMo_shift_226 ?_
          refine lv_iload hx hb dMo_shift_229 (lv_at hl 9 rfl) ?_
          refine lv_iload hx hb dMo_shift_231 (lv_at hl 1 rfl) ?_
          refine lv_if_eq (tgt := 247) hx hb dMo_shift_233 (by decide) (fun _ => ?_) (fun c5 => absurd (by decide) c5)
          refine lv_iload hx hb dMo_shift_247 (lv_at hl 0 rfl) ?_
          refine nz_eqi (y := nI ((fShift 0 dl v (mR C a) c0) j)) (by show _ = nI (fMove (dl) v (mR C a) c0 j); unfold fMove; rw [if_neg (by rw [← hsb]; exact fun q => absurd (i32_lt0.mp c3) (by omega))]) ?_
          refine mo_stO (j := j) (v := (fShift 0 dl v (mR C a) c0) j) S hT hK hP hS (by omega) dMo_shift_249 (fun H locs hP hS => ?_)
          rw [pov_s0] at hP
          refine lv_iinc (v := nI (j + 1)) (lv' := [(8, .int (nI (j + 1))), (11, .int (nI v)), (10, .int 0), (9, .int (nI j - x7)), (0, .ref (T 0)), (1, .int 0), (3, .int (nI v)), (4, .int (nI a)), (5, .int (nI u)), (7, .int x7)]) hx hb dMo_shift_250 hl (k := 9) rfl (nI_1 j) (by decide) rfl (fun ls hl => ?_)
          refine lv_goto (tgt := 113) hx hb dMo_shift_253 (by decide) ?_
          exact ih (j + 1) (by omega) (by omega) _ _ hP hS ls (lv_sub hl [4, 5, 6, 7, 8, 9, 0] rfl)
        · refine lv_iload hx hb dMo_shift_177 (lv_at hl 0 rfl) ?_
          refine lv_aload_n hx hb dMo_shift_179 rfl (lv_at hl 1 rfl) ?_
          refine mo_getc S hK hP dMo_shift_180 ?_
          refine lv_icmp_ge (tgt := 190) hx hb dMo_shift_183 (by decide) (fun c6 => ?_) (fun c6 => ?_)
          · refine lv_iconst (v := 0) hx hb dMo_shift_190 (by decide) ?_
            refine lv_istore (lv' := [(10, .int 0), (9, .int (nI j - x7)), (0, .ref (T 0)), (1, .int 0), (3, .int (nI v)), (4, .int (nI a)), (5, .int (nI u)), (7, .int x7), (8, .int (nI j))]) hx hb dMo_shift_191 hl (by decide) rfl (fun ls hl => ?_)
            refine lv_iload_n hx hb dMo_shift_193 rfl (lv_at hl 3 rfl) ?_
            refine lv_iconst (v := 2) hx hb dMo_shift_194 (by decide) ?_
            refine lv_icmp_eq (tgt := 202) hx hb dMo_shift_195 (by decide) (fun c7 => absurd c7 (by decide)) (fun _ => ?_)
            refine lv_iload_n hx hb dMo_shift_198 rfl (lv_at hl 4 rfl) ?_
            refine lv_goto (tgt := 223) hx hb dMo_shift_199 (by decide) ?_
            refine lv_istore (lv' := [(11, .int (nI v)), (10, .int 0), (9, .int (nI j - x7)), (0, .ref (T 0)), (1, .int 0), (3, .int (nI v)), (4, .int (nI a)), (5, .int (nI u)), (7, .int x7), (8, .int (nI j))]) hx hb dMo_shift_223 hl (by decide) rfl (fun ls hl => ?_)
            refine lv_aload_n hx hb dMo_shift_225 rfl (lv_at hl 3 rfl) ?_
            refine mo_getO S hK hP dMo_shift_226 ?_
            refine lv_iload hx hb dMo_shift_229 (lv_at hl 9 rfl) ?_
            refine lv_iload hx hb dMo_shift_231 (lv_at hl 1 rfl) ?_
            refine lv_if_eq (tgt := 247) hx hb dMo_shift_233 (by decide) (fun _ => ?_) (fun c8 => absurd (by decide) c8)
            refine lv_iload hx hb dMo_shift_247 (lv_at hl 0 rfl) ?_
            refine nz_eqi (y := nI ((fShift 0 dl v (mR C a) c0) j)) (by show _ = nI (fMove (dl) v (mR C a) c0 j); unfold fMove; rw [if_neg (by rw [← hsb]; exact fun q => absurd ((i32_ge (by omega)).mp c6) (by omega))]) ?_
            refine mo_stO (j := j) (v := (fShift 0 dl v (mR C a) c0) j) S hT hK hP hS (by omega) dMo_shift_249 (fun H locs hP hS => ?_)
            rw [pov_s0] at hP
            refine lv_iinc (v := nI (j + 1)) (lv' := [(8, .int (nI (j + 1))), (11, .int (nI v)), (10, .int 0), (9, .int (nI j - x7)), (0, .ref (T 0)), (1, .int 0), (3, .int (nI v)), (4, .int (nI a)), (5, .int (nI u)), (7, .int x7)]) hx hb dMo_shift_250 hl (k := 9) rfl (nI_1 j) (by decide) rfl (fun ls hl => ?_)
            refine lv_goto (tgt := 113) hx hb dMo_shift_253 (by decide) ?_
            exact ih (j + 1) (by omega) (by omega) _ _ hP hS ls (lv_sub hl [4, 5, 6, 7, 8, 9, 0] rfl)
          · refine lv_iconst (v := 1) hx hb dMo_shift_186 (by decide) ?_
            refine lv_goto (tgt := 191) hx hb dMo_shift_187 (by decide) ?_
            refine lv_istore (lv' := [(10, .int 1), (9, .int (nI j - x7)), (0, .ref (T 0)), (1, .int 0), (3, .int (nI v)), (4, .int (nI a)), (5, .int (nI u)), (7, .int x7), (8, .int (nI j))]) hx hb dMo_shift_191 hl (by decide) rfl (fun ls hl => ?_)
            refine lv_iload_n hx hb dMo_shift_193 rfl (lv_at hl 3 rfl) ?_
            refine lv_iconst (v := 2) hx hb dMo_shift_194 (by decide) ?_
            refine lv_icmp_eq (tgt := 202) hx hb dMo_shift_195 (by decide) (fun c9 => absurd c9 (by decide)) (fun _ => ?_)
            refine lv_iload_n hx hb dMo_shift_198 rfl (lv_at hl 4 rfl) ?_
            refine lv_goto (tgt := 223) hx hb dMo_shift_199 (by decide) ?_
            refine lv_istore (lv' := [(11, .int (nI v)), (10, .int 1), (9, .int (nI j - x7)), (0, .ref (T 0)), (1, .int 0), (3, .int (nI v)), (4, .int (nI a)), (5, .int (nI u)), (7, .int x7), (8, .int (nI j))]) hx hb dMo_shift_223 hl (by decide) rfl (fun ls hl => ?_)
            refine lv_aload_n hx hb dMo_shift_225 rfl (lv_at hl 3 rfl) ?_
            refine mo_getO S hK hP dMo_shift_226 ?_
            refine lv_iload hx hb dMo_shift_229 (lv_at hl 9 rfl) ?_
            refine lv_iload hx hb dMo_shift_231 (lv_at hl 1 rfl) ?_
            refine lv_if_eq (tgt := 247) hx hb dMo_shift_233 (by decide) (fun c10 => absurd c10 (by decide)) (fun _ => ?_)
            refine lv_aload_n hx hb dMo_shift_236 rfl (lv_at hl 3 rfl) ?_
            refine lv_iload hx hb dMo_shift_237 (lv_at hl 6 rfl) ?_
            refine lv_iload hx hb dMo_shift_239 (lv_at hl 2 rfl) ?_
            have p1 : 0 ≤ (nI j - x7).toInt := i32_0le.mp (Int32.not_lt.mp c3)
            have p2 : (nI j - x7).toInt < (c0 : Int) := (i32_lt (by omega)).mp (Int32.not_le.mp c6)
            have hfr : nI j - x7 = nI (nI j - x7).toInt.toNat := i32_toNat p1 p2 (by omega)
            rw [hfr]
            refine nz_vi (As := [.int (nI a), .int (nI ((nI j - x7).toInt.toNat))]) (rest := [.int (nI j), .ref (T 3)]) S (c_Mo_cell l D cA T hT k0 C L (pov (fShift 0 dl v (mR C a) c0) O 0 j) c0 a ha ((nI j - x7).toInt.toNat) (by omega)) kMo_40 ⟨rfl, rfl, Nat.le_of_ble_eq_true rfl, Nat.le_of_ble_eq_true rfl⟩ ⟨Nat.zero_le _, Nat.zero_le _⟩ moP.bl (mo_ob hK hP) (moP.to hP hK) rfl hl.1 rfl (Nat.le_of_ble_eq_true rfl) dMo_shift_241 (fun r11 er11 => ?_)
            subst er11
            refine lv_goto (tgt := 249) hx hb dMo_shift_244 (by decide) ?_
            refine nz_eqi (y := nI ((fShift 0 dl v (mR C a) c0) j)) (by show _ = nI (fMove (dl) v (mR C a) c0 j); unfold fMove; rw [if_pos (by rw [← hsb]; exact ⟨p1, p2⟩), hsb]) ?_
            refine mo_stO (j := j) (v := (fShift 0 dl v (mR C a) c0) j) S hT hK hP hS (by omega) dMo_shift_249 (fun H locs hP hS => ?_)
            rw [pov_s0] at hP
            refine lv_iinc (v := nI (j + 1)) (lv' := [(8, .int (nI (j + 1))), (11, .int (nI v)), (10, .int 1), (9, .int (nI j - x7)), (0, .ref (T 0)), (1, .int 0), (3, .int (nI v)), (4, .int (nI a)), (5, .int (nI u)), (7, .int x7)]) hx hb dMo_shift_250 hl (k := 9) rfl (nI_1 j) (by decide) rfl (fun ls hl => ?_)
            refine lv_goto (tgt := 113) hx hb dMo_shift_253 (by decide) ?_
            exact ih (j + 1) (by omega) (by omega) _ _ hP hS ls (lv_sub hl [4, 5, 6, 7, 8, 9, 0] rfl)
      · have hsb : (nI j - x7).toInt = (j : Int) - (-dl) := hsb
        have h7 : x7.toInt = (-dl) := h7
        refine lv_iload hx hb dMo_shift_122 (lv_at hl 6 rfl) ?_
        refine lv_iload hx hb dMo_shift_124 (lv_at hl 5 rfl) ?_
        refine lv_isub hx hb dMo_shift_126 ?_
        refine lv_istore (lv' := [(9, .int (nI j - x7)), (0, .ref (T 0)), (1, .int 1), (3, .int (nI v)), (4, .int (nI a)), (5, .int (nI u)), (7, .int x7), (8, .int (nI j))]) hx hb dMo_shift_127 hl (by decide) rfl (fun ls hl => ?_)
        refine lv_iload_n hx hb dMo_shift_129 rfl (lv_at hl 2 rfl) ?_
        refine lv_iconst (v := 2) hx hb dMo_shift_130 (by decide) ?_
        refine lv_icmp_le (tgt := 172) hx hb dMo_shift_131 (by decide) (fun _ => ?_) (fun c12 => absurd (by decide) c12)
        refine lv_iload hx hb dMo_shift_172 (lv_at hl 0 rfl) ?_
        refine lv_if_lt (tgt := 190) hx hb dMo_shift_174 (by decide) (fun c13 => ?_) (fun c13 => ?_)
        · refine lv_iconst (v := 0) hx hb dMo_shift_190 (by decide) ?_
          refine lv_istore (lv' := [(10, .int 0), (9, .int (nI j - x7)), (0, .ref (T 0)), (1, .int 1), (3, .int (nI v)), (4, .int (nI a)), (5, .int (nI u)), (7, .int x7), (8, .int (nI j))]) hx hb dMo_shift_191 hl (by decide) rfl (fun ls hl => ?_)
          refine lv_iload_n hx hb dMo_shift_193 rfl (lv_at hl 3 rfl) ?_
          refine lv_iconst (v := 2) hx hb dMo_shift_194 (by decide) ?_
          refine lv_icmp_eq (tgt := 202) hx hb dMo_shift_195 (by decide) (fun c14 => absurd c14 (by decide)) (fun _ => ?_)
          refine lv_iload_n hx hb dMo_shift_198 rfl (lv_at hl 4 rfl) ?_
          refine lv_goto (tgt := 223) hx hb dMo_shift_199 (by decide) ?_
          refine lv_istore (lv' := [(11, .int (nI v)), (10, .int 0), (9, .int (nI j - x7)), (0, .ref (T 0)), (1, .int 1), (3, .int (nI v)), (4, .int (nI a)), (5, .int (nI u)), (7, .int x7), (8, .int (nI j))]) hx hb dMo_shift_223 hl (by decide) rfl (fun ls hl => ?_)
          refine lv_aload_n hx hb dMo_shift_225 rfl (lv_at hl 3 rfl) ?_
          refine mo_getO S hK hP dMo_shift_226 ?_
          refine lv_iload hx hb dMo_shift_229 (lv_at hl 9 rfl) ?_
          refine lv_iload hx hb dMo_shift_231 (lv_at hl 1 rfl) ?_
          refine lv_if_eq (tgt := 247) hx hb dMo_shift_233 (by decide) (fun _ => ?_) (fun c15 => absurd (by decide) c15)
          refine lv_iload hx hb dMo_shift_247 (lv_at hl 0 rfl) ?_
          refine nz_eqi (y := nI ((fShift 1 dl v (mR C a) c0) j)) (by show _ = nI (fMove (-dl) v (mR C a) c0 j); unfold fMove; rw [if_neg (by rw [← hsb]; exact fun q => absurd (i32_lt0.mp c13) (by omega))]) ?_
          refine mo_stO (j := j) (v := (fShift 1 dl v (mR C a) c0) j) S hT hK hP hS (by omega) dMo_shift_249 (fun H locs hP hS => ?_)
          rw [pov_s0] at hP
          refine lv_iinc (v := nI (j + 1)) (lv' := [(8, .int (nI (j + 1))), (11, .int (nI v)), (10, .int 0), (9, .int (nI j - x7)), (0, .ref (T 0)), (1, .int 1), (3, .int (nI v)), (4, .int (nI a)), (5, .int (nI u)), (7, .int x7)]) hx hb dMo_shift_250 hl (k := 9) rfl (nI_1 j) (by decide) rfl (fun ls hl => ?_)
          refine lv_goto (tgt := 113) hx hb dMo_shift_253 (by decide) ?_
          exact ih (j + 1) (by omega) (by omega) _ _ hP hS ls (lv_sub hl [4, 5, 6, 7, 8, 9, 0] rfl)
        · refine lv_iload hx hb dMo_shift_177 (lv_at hl 0 rfl) ?_
          refine lv_aload_n hx hb dMo_shift_179 rfl (lv_at hl 1 rfl) ?_
          refine mo_getc S hK hP dMo_shift_180 ?_
          refine lv_icmp_ge (tgt := 190) hx hb dMo_shift_183 (by decide) (fun c16 => ?_) (fun c16 => ?_)
          · refine lv_iconst (v := 0) hx hb dMo_shift_190 (by decide) ?_
            refine lv_istore (lv' := [(10, .int 0), (9, .int (nI j - x7)), (0, .ref (T 0)), (1, .int 1), (3, .int (nI v)), (4, .int (nI a)), (5, .int (nI u)), (7, .int x7), (8, .int (nI j))]) hx hb dMo_shift_191 hl (by decide) rfl (fun ls hl => ?_)
            refine lv_iload_n hx hb dMo_shift_193 rfl (lv_at hl 3 rfl) ?_
            refine lv_iconst (v := 2) hx hb dMo_shift_194 (by decide) ?_
            refine lv_icmp_eq (tgt := 202) hx hb dMo_shift_195 (by decide) (fun c17 => absurd c17 (by decide)) (fun _ => ?_)
            refine lv_iload_n hx hb dMo_shift_198 rfl (lv_at hl 4 rfl) ?_
            refine lv_goto (tgt := 223) hx hb dMo_shift_199 (by decide) ?_
            refine lv_istore (lv' := [(11, .int (nI v)), (10, .int 0), (9, .int (nI j - x7)), (0, .ref (T 0)), (1, .int 1), (3, .int (nI v)), (4, .int (nI a)), (5, .int (nI u)), (7, .int x7), (8, .int (nI j))]) hx hb dMo_shift_223 hl (by decide) rfl (fun ls hl => ?_)
            refine lv_aload_n hx hb dMo_shift_225 rfl (lv_at hl 3 rfl) ?_
            refine mo_getO S hK hP dMo_shift_226 ?_
            refine lv_iload hx hb dMo_shift_229 (lv_at hl 9 rfl) ?_
            refine lv_iload hx hb dMo_shift_231 (lv_at hl 1 rfl) ?_
            refine lv_if_eq (tgt := 247) hx hb dMo_shift_233 (by decide) (fun _ => ?_) (fun c18 => absurd (by decide) c18)
            refine lv_iload hx hb dMo_shift_247 (lv_at hl 0 rfl) ?_
            refine nz_eqi (y := nI ((fShift 1 dl v (mR C a) c0) j)) (by show _ = nI (fMove (-dl) v (mR C a) c0 j); unfold fMove; rw [if_neg (by rw [← hsb]; exact fun q => absurd ((i32_ge (by omega)).mp c16) (by omega))]) ?_
            refine mo_stO (j := j) (v := (fShift 1 dl v (mR C a) c0) j) S hT hK hP hS (by omega) dMo_shift_249 (fun H locs hP hS => ?_)
            rw [pov_s0] at hP
            refine lv_iinc (v := nI (j + 1)) (lv' := [(8, .int (nI (j + 1))), (11, .int (nI v)), (10, .int 0), (9, .int (nI j - x7)), (0, .ref (T 0)), (1, .int 1), (3, .int (nI v)), (4, .int (nI a)), (5, .int (nI u)), (7, .int x7)]) hx hb dMo_shift_250 hl (k := 9) rfl (nI_1 j) (by decide) rfl (fun ls hl => ?_)
            refine lv_goto (tgt := 113) hx hb dMo_shift_253 (by decide) ?_
            exact ih (j + 1) (by omega) (by omega) _ _ hP hS ls (lv_sub hl [4, 5, 6, 7, 8, 9, 0] rfl)
          · refine lv_iconst (v := 1) hx hb dMo_shift_186 (by decide) ?_
            refine lv_goto (tgt := 191) hx hb dMo_shift_187 (by decide) ?_
            refine lv_istore (lv' := [(10, .int 1), (9, .int (nI j - x7)), (0, .ref (T 0)), (1, .int 1), (3, .int (nI v)), (4, .int (nI a)), (5, .int (nI u)), (7, .int x7), (8, .int (nI j))]) hx hb dMo_shift_191 hl (by decide) rfl (fun ls hl => ?_)
            refine lv_iload_n hx hb dMo_shift_193 rfl (lv_at hl 3 rfl) ?_
            refine lv_iconst (v := 2) hx hb dMo_shift_194 (by decide) ?_
            refine lv_icmp_eq (tgt := 202) hx hb dMo_shift_195 (by decide) (fun c19 => absurd c19 (by decide)) (fun _ => ?_)
            refine lv_iload_n hx hb dMo_shift_198 rfl (lv_at hl 4 rfl) ?_
            refine lv_goto (tgt := 223) hx hb dMo_shift_199 (by decide) ?_
            refine lv_istore (lv' := [(11, .int (nI v)), (10, .int 1), (9, .int (nI j - x7)), (0, .ref (T 0)), (1, .int 1), (3, .int (nI v)), (4, .int (nI a)), (5, .int (nI u)), (7, .int x7), (8, .int (nI j))]) hx hb dMo_shift_223 hl (by decide) rfl (fun ls hl => ?_)
            refine lv_aload_n hx hb dMo_shift_225 rfl (lv_at hl 3 rfl) ?_
            refine mo_getO S hK hP dMo_shift_226 ?_
            refine lv_iload hx hb dMo_shift_229 (lv_at hl 9 rfl) ?_
            refine lv_iload hx hb dMo_shift_231 (lv_at hl 1 rfl) ?_
            refine lv_if_eq (tgt := 247) hx hb dMo_shift_233 (by decide) (fun c20 => absurd c20 (by decide)) (fun _ => ?_)
            refine lv_aload_n hx hb dMo_shift_236 rfl (lv_at hl 3 rfl) ?_
            refine lv_iload hx hb dMo_shift_237 (lv_at hl 6 rfl) ?_
            refine lv_iload hx hb dMo_shift_239 (lv_at hl 2 rfl) ?_
            have p1 : 0 ≤ (nI j - x7).toInt := i32_0le.mp (Int32.not_lt.mp c13)
            have p2 : (nI j - x7).toInt < (c0 : Int) := (i32_lt (by omega)).mp (Int32.not_le.mp c16)
            have hfr : nI j - x7 = nI (nI j - x7).toInt.toNat := i32_toNat p1 p2 (by omega)
            rw [hfr]
            refine nz_vi (As := [.int (nI a), .int (nI ((nI j - x7).toInt.toNat))]) (rest := [.int (nI j), .ref (T 3)]) S (c_Mo_cell l D cA T hT k0 C L (pov (fShift 1 dl v (mR C a) c0) O 0 j) c0 a ha ((nI j - x7).toInt.toNat) (by omega)) kMo_40 ⟨rfl, rfl, Nat.le_of_ble_eq_true rfl, Nat.le_of_ble_eq_true rfl⟩ ⟨Nat.zero_le _, Nat.zero_le _⟩ moP.bl (mo_ob hK hP) (moP.to hP hK) rfl hl.1 rfl (Nat.le_of_ble_eq_true rfl) dMo_shift_241 (fun r21 er21 => ?_)
            subst er21
            refine lv_goto (tgt := 249) hx hb dMo_shift_244 (by decide) ?_
            refine nz_eqi (y := nI ((fShift 1 dl v (mR C a) c0) j)) (by show _ = nI (fMove (-dl) v (mR C a) c0 j); unfold fMove; rw [if_pos (by rw [← hsb]; exact ⟨p1, p2⟩), hsb]) ?_
            refine mo_stO (j := j) (v := (fShift 1 dl v (mR C a) c0) j) S hT hK hP hS (by omega) dMo_shift_249 (fun H locs hP hS => ?_)
            rw [pov_s0] at hP
            refine lv_iinc (v := nI (j + 1)) (lv' := [(8, .int (nI (j + 1))), (11, .int (nI v)), (10, .int 1), (9, .int (nI j - x7)), (0, .ref (T 0)), (1, .int 1), (3, .int (nI v)), (4, .int (nI a)), (5, .int (nI u)), (7, .int x7)]) hx hb dMo_shift_250 hl (k := 9) rfl (nI_1 j) (by decide) rfl (fun ls hl => ?_)
            refine lv_goto (tgt := 113) hx hb dMo_shift_253 (by decide) ?_
            exact ih (j + 1) (by omega) (by omega) _ _ hP hS ls (lv_sub hl [4, 5, 6, 7, 8, 9, 0] rfl)
      · have hsb : (nI j - x7).toInt = (j : Int) - (-dl) := hsb
        have h7 : x7.toInt = (-dl) := h7
        refine lv_iload hx hb dMo_shift_122 (lv_at hl 6 rfl) ?_
        refine lv_iload hx hb dMo_shift_124 (lv_at hl 5 rfl) ?_
        refine lv_isub hx hb dMo_shift_126 ?_
        refine lv_istore (lv' := [(9, .int (nI j - x7)), (0, .ref (T 0)), (1, .int 2), (3, .int (nI v)), (4, .int (nI a)), (5, .int (nI u)), (7, .int x7), (8, .int (nI j))]) hx hb dMo_shift_127 hl (by decide) rfl (fun ls hl => ?_)
        refine lv_iload_n hx hb dMo_shift_129 rfl (lv_at hl 2 rfl) ?_
        refine lv_iconst (v := 2) hx hb dMo_shift_130 (by decide) ?_
        refine lv_icmp_le (tgt := 172) hx hb dMo_shift_131 (by decide) (fun _ => ?_) (fun c22 => absurd (by decide) c22)
        refine lv_iload hx hb dMo_shift_172 (lv_at hl 0 rfl) ?_
        refine lv_if_lt (tgt := 190) hx hb dMo_shift_174 (by decide) (fun c23 => ?_) (fun c23 => ?_)
        · refine lv_iconst (v := 0) hx hb dMo_shift_190 (by decide) ?_
          refine lv_istore (lv' := [(10, .int 0), (9, .int (nI j - x7)), (0, .ref (T 0)), (1, .int 2), (3, .int (nI v)), (4, .int (nI a)), (5, .int (nI u)), (7, .int x7), (8, .int (nI j))]) hx hb dMo_shift_191 hl (by decide) rfl (fun ls hl => ?_)
          refine lv_iload_n hx hb dMo_shift_193 rfl (lv_at hl 3 rfl) ?_
          refine lv_iconst (v := 2) hx hb dMo_shift_194 (by decide) ?_
          refine lv_icmp_eq (tgt := 202) hx hb dMo_shift_195 (by decide) (fun _ => ?_) (fun c24 => absurd (by decide) c24)
          refine lv_iload hx hb dMo_shift_202 (lv_at hl 7 rfl) ?_
          refine lv_if_le (tgt := 211) hx hb dMo_shift_204 (by decide) (fun c25 => ?_) (fun c25 => ?_)
          · refine lv_aload_n hx hb dMo_shift_211 rfl (lv_at hl 2 rfl) ?_
            refine lv_iload hx hb dMo_shift_212 (lv_at hl 5 rfl) ?_
            refine lv_aload_n hx hb dMo_shift_214 rfl (lv_at hl 2 rfl) ?_
            refine mo_getc S hK hP dMo_shift_215 ?_
            refine lv_iconst (v := 1) hx hb dMo_shift_218 (by decide) ?_
            refine lv_isub hx hb dMo_shift_219 ?_
            refine nz_eqi (show nI c0 - nI 1 = nI (c0 - 1) from pk_sub (by omega)) ?_
            refine nz_vi (As := [.int (nI a), .int (nI (c0 - 1))]) (rest := []) S (c_Mo_cell l D cA T hT k0 C L (pov (fShift 2 dl v (mR C a) c0) O 0 j) c0 a ha (c0 - 1) (by omega)) kMo_40 ⟨rfl, rfl, Nat.le_of_ble_eq_true rfl, Nat.le_of_ble_eq_true rfl⟩ ⟨Nat.zero_le _, Nat.zero_le _⟩ moP.bl (mo_ob hK hP) (moP.to hP hK) rfl hl.1 rfl (Nat.le_of_ble_eq_true rfl) dMo_shift_220 (fun r26 er26 => ?_)
            subst er26
            refine lv_istore (lv' := [(11, .int (nI (mR C a (c0 - 1)))), (10, .int 0), (9, .int (nI j - x7)), (0, .ref (T 0)), (1, .int 2), (3, .int (nI v)), (4, .int (nI a)), (5, .int (nI u)), (7, .int x7), (8, .int (nI j))]) hx hb dMo_shift_223 hl (by decide) rfl (fun ls hl => ?_)
            refine lv_aload_n hx hb dMo_shift_225 rfl (lv_at hl 3 rfl) ?_
            refine mo_getO S hK hP dMo_shift_226 ?_
            refine lv_iload hx hb dMo_shift_229 (lv_at hl 9 rfl) ?_
            refine lv_iload hx hb dMo_shift_231 (lv_at hl 1 rfl) ?_
            refine lv_if_eq (tgt := 247) hx hb dMo_shift_233 (by decide) (fun _ => ?_) (fun c27 => absurd (by decide) c27)
            refine lv_iload hx hb dMo_shift_247 (lv_at hl 0 rfl) ?_
            refine nz_eqi (y := nI ((fShift 2 dl v (mR C a) c0) j)) (by show _ = nI (fMove (-dl) (if dl < 0 then 2 else zLast (mR C a) c0) (mR C a) c0 j); unfold fMove; rw [if_neg (by rw [← hsb]; exact fun q => absurd (i32_lt0.mp c23) (by omega)), if_neg (show ¬ dl < 0 by have := Int32.le_iff_toInt_le.mp c25; rw [h7] at this; have h0 : (0 : Int32).toInt = 0 := rfl; omega), show zLast (mR C a) c0 = mR C a (c0 - 1) from if_neg (by omega)]) ?_
            refine mo_stO (j := j) (v := (fShift 2 dl v (mR C a) c0) j) S hT hK hP hS (by omega) dMo_shift_249 (fun H locs hP hS => ?_)
            rw [pov_s0] at hP
            refine lv_iinc (v := nI (j + 1)) (lv' := [(8, .int (nI (j + 1))), (11, .int (nI (mR C a (c0 - 1)))), (10, .int 0), (9, .int (nI j - x7)), (0, .ref (T 0)), (1, .int 2), (3, .int (nI v)), (4, .int (nI a)), (5, .int (nI u)), (7, .int x7)]) hx hb dMo_shift_250 hl (k := 9) rfl (nI_1 j) (by decide) rfl (fun ls hl => ?_)
            refine lv_goto (tgt := 113) hx hb dMo_shift_253 (by decide) ?_
            exact ih (j + 1) (by omega) (by omega) _ _ hP hS ls (lv_sub hl [4, 5, 6, 7, 8, 9, 0] rfl)
          · refine lv_iconst (v := 2) hx hb dMo_shift_207 (by decide) ?_
            refine lv_goto (tgt := 223) hx hb dMo_shift_208 (by decide) ?_
            refine lv_istore (lv' := [(11, .int 2), (10, .int 0), (9, .int (nI j - x7)), (0, .ref (T 0)), (1, .int 2), (3, .int (nI v)), (4, .int (nI a)), (5, .int (nI u)), (7, .int x7), (8, .int (nI j))]) hx hb dMo_shift_223 hl (by decide) rfl (fun ls hl => ?_)
            refine lv_aload_n hx hb dMo_shift_225 rfl (lv_at hl 3 rfl) ?_
            refine mo_getO S hK hP dMo_shift_226 ?_
            refine lv_iload hx hb dMo_shift_229 (lv_at hl 9 rfl) ?_
            refine lv_iload hx hb dMo_shift_231 (lv_at hl 1 rfl) ?_
            refine lv_if_eq (tgt := 247) hx hb dMo_shift_233 (by decide) (fun _ => ?_) (fun c28 => absurd (by decide) c28)
            refine lv_iload hx hb dMo_shift_247 (lv_at hl 0 rfl) ?_
            refine nz_eqi (y := nI ((fShift 2 dl v (mR C a) c0) j)) (by show _ = nI (fMove (-dl) (if dl < 0 then 2 else zLast (mR C a) c0) (mR C a) c0 j); unfold fMove; rw [if_neg (by rw [← hsb]; exact fun q => absurd (i32_lt0.mp c23) (by omega)), if_pos (show dl < 0 by have := Int.not_le.mp (fun w => c25 (Int32.le_iff_toInt_le.mpr (by rw [h7]; exact w))); have h0 : (0 : Int32).toInt = 0 := rfl; omega)]; rfl) ?_
            refine mo_stO (j := j) (v := (fShift 2 dl v (mR C a) c0) j) S hT hK hP hS (by omega) dMo_shift_249 (fun H locs hP hS => ?_)
            rw [pov_s0] at hP
            refine lv_iinc (v := nI (j + 1)) (lv' := [(8, .int (nI (j + 1))), (11, .int 2), (10, .int 0), (9, .int (nI j - x7)), (0, .ref (T 0)), (1, .int 2), (3, .int (nI v)), (4, .int (nI a)), (5, .int (nI u)), (7, .int x7)]) hx hb dMo_shift_250 hl (k := 9) rfl (nI_1 j) (by decide) rfl (fun ls hl => ?_)
            refine lv_goto (tgt := 113) hx hb dMo_shift_253 (by decide) ?_
            exact ih (j + 1) (by omega) (by omega) _ _ hP hS ls (lv_sub hl [4, 5, 6, 7, 8, 9, 0] rfl)
        · refine lv_iload hx hb dMo_shift_177 (lv_at hl 0 rfl) ?_
          refine lv_aload_n hx hb dMo_shift_179 rfl (lv_at hl 1 rfl) ?_
          refine mo_getc S hK hP dMo_shift_180 ?_
          refine lv_icmp_ge (tgt := 190) hx hb dMo_shift_183 (by decide) (fun c29 => ?_) (fun c29 => ?_)
          · refine lv_iconst (v := 0) hx hb dMo_shift_190 (by decide) ?_
            refine lv_istore (lv' := [(10, .int 0), (9, .int (nI j - x7)), (0, .ref (T 0)), (1, .int 2), (3, .int (nI v)), (4, .int (nI a)), (5, .int (nI u)), (7, .int x7), (8, .int (nI j))]) hx hb dMo_shift_191 hl (by decide) rfl (fun ls hl => ?_)
            refine lv_iload_n hx hb dMo_shift_193 rfl (lv_at hl 3 rfl) ?_
            refine lv_iconst (v := 2) hx hb dMo_shift_194 (by decide) ?_
            refine lv_icmp_eq (tgt := 202) hx hb dMo_shift_195 (by decide) (fun _ => ?_) (fun c30 => absurd (by decide) c30)
            refine lv_iload hx hb dMo_shift_202 (lv_at hl 7 rfl) ?_
            refine lv_if_le (tgt := 211) hx hb dMo_shift_204 (by decide) (fun c31 => ?_) (fun c31 => ?_)
            · refine lv_aload_n hx hb dMo_shift_211 rfl (lv_at hl 2 rfl) ?_
              refine lv_iload hx hb dMo_shift_212 (lv_at hl 5 rfl) ?_
              refine lv_aload_n hx hb dMo_shift_214 rfl (lv_at hl 2 rfl) ?_
              refine mo_getc S hK hP dMo_shift_215 ?_
              refine lv_iconst (v := 1) hx hb dMo_shift_218 (by decide) ?_
              refine lv_isub hx hb dMo_shift_219 ?_
              refine nz_eqi (show nI c0 - nI 1 = nI (c0 - 1) from pk_sub (by omega)) ?_
              refine nz_vi (As := [.int (nI a), .int (nI (c0 - 1))]) (rest := []) S (c_Mo_cell l D cA T hT k0 C L (pov (fShift 2 dl v (mR C a) c0) O 0 j) c0 a ha (c0 - 1) (by omega)) kMo_40 ⟨rfl, rfl, Nat.le_of_ble_eq_true rfl, Nat.le_of_ble_eq_true rfl⟩ ⟨Nat.zero_le _, Nat.zero_le _⟩ moP.bl (mo_ob hK hP) (moP.to hP hK) rfl hl.1 rfl (Nat.le_of_ble_eq_true rfl) dMo_shift_220 (fun r32 er32 => ?_)
              subst er32
              refine lv_istore (lv' := [(11, .int (nI (mR C a (c0 - 1)))), (10, .int 0), (9, .int (nI j - x7)), (0, .ref (T 0)), (1, .int 2), (3, .int (nI v)), (4, .int (nI a)), (5, .int (nI u)), (7, .int x7), (8, .int (nI j))]) hx hb dMo_shift_223 hl (by decide) rfl (fun ls hl => ?_)
              refine lv_aload_n hx hb dMo_shift_225 rfl (lv_at hl 3 rfl) ?_
              refine mo_getO S hK hP dMo_shift_226 ?_
              refine lv_iload hx hb dMo_shift_229 (lv_at hl 9 rfl) ?_
              refine lv_iload hx hb dMo_shift_231 (lv_at hl 1 rfl) ?_
              refine lv_if_eq (tgt := 247) hx hb dMo_shift_233 (by decide) (fun _ => ?_) (fun c33 => absurd (by decide) c33)
              refine lv_iload hx hb dMo_shift_247 (lv_at hl 0 rfl) ?_
              refine nz_eqi (y := nI ((fShift 2 dl v (mR C a) c0) j)) (by show _ = nI (fMove (-dl) (if dl < 0 then 2 else zLast (mR C a) c0) (mR C a) c0 j); unfold fMove; rw [if_neg (by rw [← hsb]; exact fun q => absurd ((i32_ge (by omega)).mp c29) (by omega)), if_neg (show ¬ dl < 0 by have := Int32.le_iff_toInt_le.mp c31; rw [h7] at this; have h0 : (0 : Int32).toInt = 0 := rfl; omega), show zLast (mR C a) c0 = mR C a (c0 - 1) from if_neg (by omega)]) ?_
              refine mo_stO (j := j) (v := (fShift 2 dl v (mR C a) c0) j) S hT hK hP hS (by omega) dMo_shift_249 (fun H locs hP hS => ?_)
              rw [pov_s0] at hP
              refine lv_iinc (v := nI (j + 1)) (lv' := [(8, .int (nI (j + 1))), (11, .int (nI (mR C a (c0 - 1)))), (10, .int 0), (9, .int (nI j - x7)), (0, .ref (T 0)), (1, .int 2), (3, .int (nI v)), (4, .int (nI a)), (5, .int (nI u)), (7, .int x7)]) hx hb dMo_shift_250 hl (k := 9) rfl (nI_1 j) (by decide) rfl (fun ls hl => ?_)
              refine lv_goto (tgt := 113) hx hb dMo_shift_253 (by decide) ?_
              exact ih (j + 1) (by omega) (by omega) _ _ hP hS ls (lv_sub hl [4, 5, 6, 7, 8, 9, 0] rfl)
            · refine lv_iconst (v := 2) hx hb dMo_shift_207 (by decide) ?_
              refine lv_goto (tgt := 223) hx hb dMo_shift_208 (by decide) ?_
              refine lv_istore (lv' := [(11, .int 2), (10, .int 0), (9, .int (nI j - x7)), (0, .ref (T 0)), (1, .int 2), (3, .int (nI v)), (4, .int (nI a)), (5, .int (nI u)), (7, .int x7), (8, .int (nI j))]) hx hb dMo_shift_223 hl (by decide) rfl (fun ls hl => ?_)
              refine lv_aload_n hx hb dMo_shift_225 rfl (lv_at hl 3 rfl) ?_
              refine mo_getO S hK hP dMo_shift_226 ?_
              refine lv_iload hx hb dMo_shift_229 (lv_at hl 9 rfl) ?_
              refine lv_iload hx hb dMo_shift_231 (lv_at hl 1 rfl) ?_
              refine lv_if_eq (tgt := 247) hx hb dMo_shift_233 (by decide) (fun _ => ?_) (fun c34 => absurd (by decide) c34)
              refine lv_iload hx hb dMo_shift_247 (lv_at hl 0 rfl) ?_
              refine nz_eqi (y := nI ((fShift 2 dl v (mR C a) c0) j)) (by show _ = nI (fMove (-dl) (if dl < 0 then 2 else zLast (mR C a) c0) (mR C a) c0 j); unfold fMove; rw [if_neg (by rw [← hsb]; exact fun q => absurd ((i32_ge (by omega)).mp c29) (by omega)), if_pos (show dl < 0 by have := Int.not_le.mp (fun w => c31 (Int32.le_iff_toInt_le.mpr (by rw [h7]; exact w))); have h0 : (0 : Int32).toInt = 0 := rfl; omega)]; rfl) ?_
              refine mo_stO (j := j) (v := (fShift 2 dl v (mR C a) c0) j) S hT hK hP hS (by omega) dMo_shift_249 (fun H locs hP hS => ?_)
              rw [pov_s0] at hP
              refine lv_iinc (v := nI (j + 1)) (lv' := [(8, .int (nI (j + 1))), (11, .int 2), (10, .int 0), (9, .int (nI j - x7)), (0, .ref (T 0)), (1, .int 2), (3, .int (nI v)), (4, .int (nI a)), (5, .int (nI u)), (7, .int x7)]) hx hb dMo_shift_250 hl (k := 9) rfl (nI_1 j) (by decide) rfl (fun ls hl => ?_)
              refine lv_goto (tgt := 113) hx hb dMo_shift_253 (by decide) ?_
              exact ih (j + 1) (by omega) (by omega) _ _ hP hS ls (lv_sub hl [4, 5, 6, 7, 8, 9, 0] rfl)
          · refine lv_iconst (v := 1) hx hb dMo_shift_186 (by decide) ?_
            refine lv_goto (tgt := 191) hx hb dMo_shift_187 (by decide) ?_
            refine lv_istore (lv' := [(10, .int 1), (9, .int (nI j - x7)), (0, .ref (T 0)), (1, .int 2), (3, .int (nI v)), (4, .int (nI a)), (5, .int (nI u)), (7, .int x7), (8, .int (nI j))]) hx hb dMo_shift_191 hl (by decide) rfl (fun ls hl => ?_)
            refine lv_iload_n hx hb dMo_shift_193 rfl (lv_at hl 3 rfl) ?_
            refine lv_iconst (v := 2) hx hb dMo_shift_194 (by decide) ?_
            refine lv_icmp_eq (tgt := 202) hx hb dMo_shift_195 (by decide) (fun _ => ?_) (fun c35 => absurd (by decide) c35)
            refine lv_iload hx hb dMo_shift_202 (lv_at hl 7 rfl) ?_
            refine lv_if_le (tgt := 211) hx hb dMo_shift_204 (by decide) (fun c36 => ?_) (fun c36 => ?_)
            · refine lv_aload_n hx hb dMo_shift_211 rfl (lv_at hl 2 rfl) ?_
              refine lv_iload hx hb dMo_shift_212 (lv_at hl 5 rfl) ?_
              refine lv_aload_n hx hb dMo_shift_214 rfl (lv_at hl 2 rfl) ?_
              refine mo_getc S hK hP dMo_shift_215 ?_
              refine lv_iconst (v := 1) hx hb dMo_shift_218 (by decide) ?_
              refine lv_isub hx hb dMo_shift_219 ?_
              refine nz_eqi (show nI c0 - nI 1 = nI (c0 - 1) from pk_sub (by omega)) ?_
              refine nz_vi (As := [.int (nI a), .int (nI (c0 - 1))]) (rest := []) S (c_Mo_cell l D cA T hT k0 C L (pov (fShift 2 dl v (mR C a) c0) O 0 j) c0 a ha (c0 - 1) (by omega)) kMo_40 ⟨rfl, rfl, Nat.le_of_ble_eq_true rfl, Nat.le_of_ble_eq_true rfl⟩ ⟨Nat.zero_le _, Nat.zero_le _⟩ moP.bl (mo_ob hK hP) (moP.to hP hK) rfl hl.1 rfl (Nat.le_of_ble_eq_true rfl) dMo_shift_220 (fun r37 er37 => ?_)
              subst er37
              refine lv_istore (lv' := [(11, .int (nI (mR C a (c0 - 1)))), (10, .int 1), (9, .int (nI j - x7)), (0, .ref (T 0)), (1, .int 2), (3, .int (nI v)), (4, .int (nI a)), (5, .int (nI u)), (7, .int x7), (8, .int (nI j))]) hx hb dMo_shift_223 hl (by decide) rfl (fun ls hl => ?_)
              refine lv_aload_n hx hb dMo_shift_225 rfl (lv_at hl 3 rfl) ?_
              refine mo_getO S hK hP dMo_shift_226 ?_
              refine lv_iload hx hb dMo_shift_229 (lv_at hl 9 rfl) ?_
              refine lv_iload hx hb dMo_shift_231 (lv_at hl 1 rfl) ?_
              refine lv_if_eq (tgt := 247) hx hb dMo_shift_233 (by decide) (fun c38 => absurd c38 (by decide)) (fun _ => ?_)
              refine lv_aload_n hx hb dMo_shift_236 rfl (lv_at hl 3 rfl) ?_
              refine lv_iload hx hb dMo_shift_237 (lv_at hl 6 rfl) ?_
              refine lv_iload hx hb dMo_shift_239 (lv_at hl 2 rfl) ?_
              have p1 : 0 ≤ (nI j - x7).toInt := i32_0le.mp (Int32.not_lt.mp c23)
              have p2 : (nI j - x7).toInt < (c0 : Int) := (i32_lt (by omega)).mp (Int32.not_le.mp c29)
              have hfr : nI j - x7 = nI (nI j - x7).toInt.toNat := i32_toNat p1 p2 (by omega)
              rw [hfr]
              refine nz_vi (As := [.int (nI a), .int (nI ((nI j - x7).toInt.toNat))]) (rest := [.int (nI j), .ref (T 3)]) S (c_Mo_cell l D cA T hT k0 C L (pov (fShift 2 dl v (mR C a) c0) O 0 j) c0 a ha ((nI j - x7).toInt.toNat) (by omega)) kMo_40 ⟨rfl, rfl, Nat.le_of_ble_eq_true rfl, Nat.le_of_ble_eq_true rfl⟩ ⟨Nat.zero_le _, Nat.zero_le _⟩ moP.bl (mo_ob hK hP) (moP.to hP hK) rfl hl.1 rfl (Nat.le_of_ble_eq_true rfl) dMo_shift_241 (fun r39 er39 => ?_)
              subst er39
              refine lv_goto (tgt := 249) hx hb dMo_shift_244 (by decide) ?_
              refine nz_eqi (y := nI ((fShift 2 dl v (mR C a) c0) j)) (by show _ = nI (fMove (-dl) (if dl < 0 then 2 else zLast (mR C a) c0) (mR C a) c0 j); unfold fMove; rw [if_pos (by rw [← hsb]; exact ⟨p1, p2⟩), hsb]) ?_
              refine mo_stO (j := j) (v := (fShift 2 dl v (mR C a) c0) j) S hT hK hP hS (by omega) dMo_shift_249 (fun H locs hP hS => ?_)
              rw [pov_s0] at hP
              refine lv_iinc (v := nI (j + 1)) (lv' := [(8, .int (nI (j + 1))), (11, .int (nI (mR C a (c0 - 1)))), (10, .int 1), (9, .int (nI j - x7)), (0, .ref (T 0)), (1, .int 2), (3, .int (nI v)), (4, .int (nI a)), (5, .int (nI u)), (7, .int x7)]) hx hb dMo_shift_250 hl (k := 9) rfl (nI_1 j) (by decide) rfl (fun ls hl => ?_)
              refine lv_goto (tgt := 113) hx hb dMo_shift_253 (by decide) ?_
              exact ih (j + 1) (by omega) (by omega) _ _ hP hS ls (lv_sub hl [4, 5, 6, 7, 8, 9, 0] rfl)
            · refine lv_iconst (v := 2) hx hb dMo_shift_207 (by decide) ?_
              refine lv_goto (tgt := 223) hx hb dMo_shift_208 (by decide) ?_
              refine lv_istore (lv' := [(11, .int 2), (10, .int 1), (9, .int (nI j - x7)), (0, .ref (T 0)), (1, .int 2), (3, .int (nI v)), (4, .int (nI a)), (5, .int (nI u)), (7, .int x7), (8, .int (nI j))]) hx hb dMo_shift_223 hl (by decide) rfl (fun ls hl => ?_)
              refine lv_aload_n hx hb dMo_shift_225 rfl (lv_at hl 3 rfl) ?_
              refine mo_getO S hK hP dMo_shift_226 ?_
              refine lv_iload hx hb dMo_shift_229 (lv_at hl 9 rfl) ?_
              refine lv_iload hx hb dMo_shift_231 (lv_at hl 1 rfl) ?_
              refine lv_if_eq (tgt := 247) hx hb dMo_shift_233 (by decide) (fun c40 => absurd c40 (by decide)) (fun _ => ?_)
              refine lv_aload_n hx hb dMo_shift_236 rfl (lv_at hl 3 rfl) ?_
              refine lv_iload hx hb dMo_shift_237 (lv_at hl 6 rfl) ?_
              refine lv_iload hx hb dMo_shift_239 (lv_at hl 2 rfl) ?_
              have p1 : 0 ≤ (nI j - x7).toInt := i32_0le.mp (Int32.not_lt.mp c23)
              have p2 : (nI j - x7).toInt < (c0 : Int) := (i32_lt (by omega)).mp (Int32.not_le.mp c29)
              have hfr : nI j - x7 = nI (nI j - x7).toInt.toNat := i32_toNat p1 p2 (by omega)
              rw [hfr]
              refine nz_vi (As := [.int (nI a), .int (nI ((nI j - x7).toInt.toNat))]) (rest := [.int (nI j), .ref (T 3)]) S (c_Mo_cell l D cA T hT k0 C L (pov (fShift 2 dl v (mR C a) c0) O 0 j) c0 a ha ((nI j - x7).toInt.toNat) (by omega)) kMo_40 ⟨rfl, rfl, Nat.le_of_ble_eq_true rfl, Nat.le_of_ble_eq_true rfl⟩ ⟨Nat.zero_le _, Nat.zero_le _⟩ moP.bl (mo_ob hK hP) (moP.to hP hK) rfl hl.1 rfl (Nat.le_of_ble_eq_true rfl) dMo_shift_241 (fun r41 er41 => ?_)
              subst er41
              refine lv_goto (tgt := 249) hx hb dMo_shift_244 (by decide) ?_
              refine nz_eqi (y := nI ((fShift 2 dl v (mR C a) c0) j)) (by show _ = nI (fMove (-dl) (if dl < 0 then 2 else zLast (mR C a) c0) (mR C a) c0 j); unfold fMove; rw [if_pos (by rw [← hsb]; exact ⟨p1, p2⟩), hsb]) ?_
              refine mo_stO (j := j) (v := (fShift 2 dl v (mR C a) c0) j) S hT hK hP hS (by omega) dMo_shift_249 (fun H locs hP hS => ?_)
              rw [pov_s0] at hP
              refine lv_iinc (v := nI (j + 1)) (lv' := [(8, .int (nI (j + 1))), (11, .int 2), (10, .int 1), (9, .int (nI j - x7)), (0, .ref (T 0)), (1, .int 2), (3, .int (nI v)), (4, .int (nI a)), (5, .int (nI u)), (7, .int x7)]) hx hb dMo_shift_250 hl (k := 9) rfl (nI_1 j) (by decide) rfl (fun ls hl => ?_)
              refine lv_goto (tgt := 113) hx hb dMo_shift_253 (by decide) ?_
              exact ih (j + 1) (by omega) (by omega) _ _ hP hS ls (lv_sub hl [4, 5, 6, 7, 8, 9, 0] rfl)
      · have hsb : (nI j - x7).toInt = (j : Int) - (dl) := hsb
        have h7 : x7.toInt = (dl) := h7
        refine lv_iload hx hb dMo_shift_122 (lv_at hl 6 rfl) ?_
        refine lv_iload hx hb dMo_shift_124 (lv_at hl 5 rfl) ?_
        refine lv_isub hx hb dMo_shift_126 ?_
        refine lv_istore (lv' := [(9, .int (nI j - x7)), (0, .ref (T 0)), (1, .int 3), (3, .int (nI v)), (4, .int (nI a)), (5, .int (nI u)), (7, .int x7), (8, .int (nI j))]) hx hb dMo_shift_127 hl (by decide) rfl (fun ls hl => ?_)
        refine lv_iload_n hx hb dMo_shift_129 rfl (lv_at hl 2 rfl) ?_
        refine lv_iconst (v := 2) hx hb dMo_shift_130 (by decide) ?_
        refine lv_icmp_le (tgt := 172) hx hb dMo_shift_131 (by decide) (fun c42 => absurd c42 (by decide)) (fun _ => ?_)
        refine lpM_sh1 l D cA T hT k0 C L (pov (fShift 3 dl v (mR C a) c0) O 0 j) c0 3 v a u j x7 (by omega) hN _ _ S hK hP ((j : Int) - (dl)) (fun x ls p1 p2 p3 hl => ?_) 2000 (nI j - x7) (by omega) (by omega) (by omega) (by rw [hsb]) ls (lv_sub hl [1, 2, 3, 4, 5, 6, 7, 0] rfl)
        refine lpM_sh2 l D cA T hT k0 C L (pov (fShift 3 dl v (mR C a) c0) O 0 j) c0 3 v a u j x7 (by omega) hN _ _ S hK hP ((j : Int) - (dl)) (fun ls hl => ?_) 3000 x p1 p2 p2 p3 ls hl
        have hel := Int.emod_lt_of_pos ((j : Int) - (dl)) (show (0 : Int) < (c0 : Int) by omega)
        have hen := Int.emod_nonneg ((j : Int) - (dl)) (show (c0 : Int) ≠ 0 by omega)
        refine lv_iload hx hb dMo_shift_172 (lv_at hl 7 rfl) ?_
        refine lv_if_lt (tgt := 190) hx hb dMo_shift_174 (by decide) (fun q9 => absurd q9 (nI_pos (by omega))) (fun _ => ?_)
        refine lv_iload hx hb dMo_shift_177 (lv_at hl 7 rfl) ?_
        refine lv_aload_n hx hb dMo_shift_179 rfl (lv_at hl 0 rfl) ?_
        refine mo_getc S hK hP dMo_shift_180 ?_
        refine lv_icmp_ge (tgt := 190) hx hb dMo_shift_183 (by decide) (fun q9 => absurd ((nI_leI (by omega) (by omega)).mp q9) (by omega)) (fun _ => ?_)
        refine lv_iconst (v := 1) hx hb dMo_shift_186 (by decide) ?_
        refine lv_goto (tgt := 191) hx hb dMo_shift_187 (by decide) ?_
        refine lv_istore (lv' := [(10, .int 1), (0, .ref (T 0)), (1, .int 3), (3, .int (nI v)), (4, .int (nI a)), (5, .int (nI u)), (7, .int x7), (8, .int (nI j)), (9, .int (nI ((((j : Int) - (dl)) % (c0 : Int)).toNat)))]) hx hb dMo_shift_191 hl (by decide) rfl (fun ls hl => ?_)
        refine lv_iload_n hx hb dMo_shift_193 rfl (lv_at hl 2 rfl) ?_
        refine lv_iconst (v := 2) hx hb dMo_shift_194 (by decide) ?_
        refine lv_icmp_eq (tgt := 202) hx hb dMo_shift_195 (by decide) (fun c43 => absurd c43 (by decide)) (fun _ => ?_)
        refine lv_iload_n hx hb dMo_shift_198 rfl (lv_at hl 3 rfl) ?_
        refine lv_goto (tgt := 223) hx hb dMo_shift_199 (by decide) ?_
        refine lv_istore (lv' := [(11, .int (nI v)), (10, .int 1), (0, .ref (T 0)), (1, .int 3), (3, .int (nI v)), (4, .int (nI a)), (5, .int (nI u)), (7, .int x7), (8, .int (nI j)), (9, .int (nI ((((j : Int) - (dl)) % (c0 : Int)).toNat)))]) hx hb dMo_shift_223 hl (by decide) rfl (fun ls hl => ?_)
        refine lv_aload_n hx hb dMo_shift_225 rfl (lv_at hl 2 rfl) ?_
        refine mo_getO S hK hP dMo_shift_226 ?_
        refine lv_iload hx hb dMo_shift_229 (lv_at hl 8 rfl) ?_
        refine lv_iload hx hb dMo_shift_231 (lv_at hl 1 rfl) ?_
        refine lv_if_eq (tgt := 247) hx hb dMo_shift_233 (by decide) (fun c44 => absurd c44 (by decide)) (fun _ => ?_)
        refine lv_aload_n hx hb dMo_shift_236 rfl (lv_at hl 2 rfl) ?_
        refine lv_iload hx hb dMo_shift_237 (lv_at hl 5 rfl) ?_
        refine lv_iload hx hb dMo_shift_239 (lv_at hl 9 rfl) ?_
        refine nz_vi (As := [.int (nI a), .int (nI ((((j : Int) - (dl)) % (c0 : Int)).toNat))]) (rest := [.int (nI j), .ref (T 3)]) S (c_Mo_cell l D cA T hT k0 C L (pov (fShift 3 dl v (mR C a) c0) O 0 j) c0 a ha ((((j : Int) - (dl)) % (c0 : Int)).toNat) (by omega)) kMo_40 ⟨rfl, rfl, Nat.le_of_ble_eq_true rfl, Nat.le_of_ble_eq_true rfl⟩ ⟨Nat.zero_le _, Nat.zero_le _⟩ moP.bl (mo_ob hK hP) (moP.to hP hK) rfl hl.1 rfl (Nat.le_of_ble_eq_true rfl) dMo_shift_241 (fun r45 er45 => ?_)
        subst er45
        refine lv_goto (tgt := 249) hx hb dMo_shift_244 (by decide) ?_
        refine nz_eqi (y := nI ((fShift 3 dl v (mR C a) c0) j)) (rfl) ?_
        refine mo_stO (j := j) (v := (fShift 3 dl v (mR C a) c0) j) S hT hK hP hS (by omega) dMo_shift_249 (fun H locs hP hS => ?_)
        rw [pov_s0] at hP
        refine lv_iinc (v := nI (j + 1)) (lv' := [(8, .int (nI (j + 1))), (11, .int (nI v)), (10, .int 1), (0, .ref (T 0)), (1, .int 3), (3, .int (nI v)), (4, .int (nI a)), (5, .int (nI u)), (7, .int x7), (9, .int (nI ((((j : Int) - (dl)) % (c0 : Int)).toNat)))]) hx hb dMo_shift_250 hl (k := 8) rfl (nI_1 j) (by decide) rfl (fun ls hl => ?_)
        refine lv_goto (tgt := 113) hx hb dMo_shift_253 (by decide) ?_
        exact ih (j + 1) (by omega) (by omega) _ _ hP hS ls (lv_sub hl [3, 4, 5, 6, 7, 8, 0] rfl)
      · have hsb : (nI j - x7).toInt = (j : Int) - (-dl) := hsb
        have h7 : x7.toInt = (-dl) := h7
        refine lv_iload hx hb dMo_shift_122 (lv_at hl 6 rfl) ?_
        refine lv_iload hx hb dMo_shift_124 (lv_at hl 5 rfl) ?_
        refine lv_isub hx hb dMo_shift_126 ?_
        refine lv_istore (lv' := [(9, .int (nI j - x7)), (0, .ref (T 0)), (1, .int 4), (3, .int (nI v)), (4, .int (nI a)), (5, .int (nI u)), (7, .int x7), (8, .int (nI j))]) hx hb dMo_shift_127 hl (by decide) rfl (fun ls hl => ?_)
        refine lv_iload_n hx hb dMo_shift_129 rfl (lv_at hl 2 rfl) ?_
        refine lv_iconst (v := 2) hx hb dMo_shift_130 (by decide) ?_
        refine lv_icmp_le (tgt := 172) hx hb dMo_shift_131 (by decide) (fun c46 => absurd c46 (by decide)) (fun _ => ?_)
        refine lpM_sh1 l D cA T hT k0 C L (pov (fShift 4 dl v (mR C a) c0) O 0 j) c0 4 v a u j x7 (by omega) hN _ _ S hK hP ((j : Int) - (-dl)) (fun x ls p1 p2 p3 hl => ?_) 2000 (nI j - x7) (by omega) (by omega) (by omega) (by rw [hsb]) ls (lv_sub hl [1, 2, 3, 4, 5, 6, 7, 0] rfl)
        refine lpM_sh2 l D cA T hT k0 C L (pov (fShift 4 dl v (mR C a) c0) O 0 j) c0 4 v a u j x7 (by omega) hN _ _ S hK hP ((j : Int) - (-dl)) (fun ls hl => ?_) 3000 x p1 p2 p2 p3 ls hl
        have hel := Int.emod_lt_of_pos ((j : Int) - (-dl)) (show (0 : Int) < (c0 : Int) by omega)
        have hen := Int.emod_nonneg ((j : Int) - (-dl)) (show (c0 : Int) ≠ 0 by omega)
        refine lv_iload hx hb dMo_shift_172 (lv_at hl 7 rfl) ?_
        refine lv_if_lt (tgt := 190) hx hb dMo_shift_174 (by decide) (fun q9 => absurd q9 (nI_pos (by omega))) (fun _ => ?_)
        refine lv_iload hx hb dMo_shift_177 (lv_at hl 7 rfl) ?_
        refine lv_aload_n hx hb dMo_shift_179 rfl (lv_at hl 0 rfl) ?_
        refine mo_getc S hK hP dMo_shift_180 ?_
        refine lv_icmp_ge (tgt := 190) hx hb dMo_shift_183 (by decide) (fun q9 => absurd ((nI_leI (by omega) (by omega)).mp q9) (by omega)) (fun _ => ?_)
        refine lv_iconst (v := 1) hx hb dMo_shift_186 (by decide) ?_
        refine lv_goto (tgt := 191) hx hb dMo_shift_187 (by decide) ?_
        refine lv_istore (lv' := [(10, .int 1), (0, .ref (T 0)), (1, .int 4), (3, .int (nI v)), (4, .int (nI a)), (5, .int (nI u)), (7, .int x7), (8, .int (nI j)), (9, .int (nI ((((j : Int) - (-dl)) % (c0 : Int)).toNat)))]) hx hb dMo_shift_191 hl (by decide) rfl (fun ls hl => ?_)
        refine lv_iload_n hx hb dMo_shift_193 rfl (lv_at hl 2 rfl) ?_
        refine lv_iconst (v := 2) hx hb dMo_shift_194 (by decide) ?_
        refine lv_icmp_eq (tgt := 202) hx hb dMo_shift_195 (by decide) (fun c47 => absurd c47 (by decide)) (fun _ => ?_)
        refine lv_iload_n hx hb dMo_shift_198 rfl (lv_at hl 3 rfl) ?_
        refine lv_goto (tgt := 223) hx hb dMo_shift_199 (by decide) ?_
        refine lv_istore (lv' := [(11, .int (nI v)), (10, .int 1), (0, .ref (T 0)), (1, .int 4), (3, .int (nI v)), (4, .int (nI a)), (5, .int (nI u)), (7, .int x7), (8, .int (nI j)), (9, .int (nI ((((j : Int) - (-dl)) % (c0 : Int)).toNat)))]) hx hb dMo_shift_223 hl (by decide) rfl (fun ls hl => ?_)
        refine lv_aload_n hx hb dMo_shift_225 rfl (lv_at hl 2 rfl) ?_
        refine mo_getO S hK hP dMo_shift_226 ?_
        refine lv_iload hx hb dMo_shift_229 (lv_at hl 8 rfl) ?_
        refine lv_iload hx hb dMo_shift_231 (lv_at hl 1 rfl) ?_
        refine lv_if_eq (tgt := 247) hx hb dMo_shift_233 (by decide) (fun c48 => absurd c48 (by decide)) (fun _ => ?_)
        refine lv_aload_n hx hb dMo_shift_236 rfl (lv_at hl 2 rfl) ?_
        refine lv_iload hx hb dMo_shift_237 (lv_at hl 5 rfl) ?_
        refine lv_iload hx hb dMo_shift_239 (lv_at hl 9 rfl) ?_
        refine nz_vi (As := [.int (nI a), .int (nI ((((j : Int) - (-dl)) % (c0 : Int)).toNat))]) (rest := [.int (nI j), .ref (T 3)]) S (c_Mo_cell l D cA T hT k0 C L (pov (fShift 4 dl v (mR C a) c0) O 0 j) c0 a ha ((((j : Int) - (-dl)) % (c0 : Int)).toNat) (by omega)) kMo_40 ⟨rfl, rfl, Nat.le_of_ble_eq_true rfl, Nat.le_of_ble_eq_true rfl⟩ ⟨Nat.zero_le _, Nat.zero_le _⟩ moP.bl (mo_ob hK hP) (moP.to hP hK) rfl hl.1 rfl (Nat.le_of_ble_eq_true rfl) dMo_shift_241 (fun r49 er49 => ?_)
        subst er49
        refine lv_goto (tgt := 249) hx hb dMo_shift_244 (by decide) ?_
        refine nz_eqi (y := nI ((fShift 4 dl v (mR C a) c0) j)) (rfl) ?_
        refine mo_stO (j := j) (v := (fShift 4 dl v (mR C a) c0) j) S hT hK hP hS (by omega) dMo_shift_249 (fun H locs hP hS => ?_)
        rw [pov_s0] at hP
        refine lv_iinc (v := nI (j + 1)) (lv' := [(8, .int (nI (j + 1))), (11, .int (nI v)), (10, .int 1), (0, .ref (T 0)), (1, .int 4), (3, .int (nI v)), (4, .int (nI a)), (5, .int (nI u)), (7, .int x7), (9, .int (nI ((((j : Int) - (-dl)) % (c0 : Int)).toNat)))]) hx hb dMo_shift_250 hl (k := 8) rfl (nI_1 j) (by decide) rfl (fun ls hl => ?_)
        refine lv_goto (tgt := 113) hx hb dMo_shift_253 (by decide) ?_
        exact ih (j + 1) (by omega) (by omega) _ _ hP hS ls (lv_sub hl [3, 4, 5, 6, 7, 8, 0] rfl)
set_option maxHeartbeats 4000000 in
set_option maxRecDepth 100000 in
theorem c_Mo_shift (l : Launch) (D : va_G) (cA : ClassId) (T : Nat → Nat) (hT : moT T) (k0 : Int32) (C L O : Nat → Nat) (c0 : Nat) (ok : moOk C L O) (x1 x2 x3 x4 x5 : Int32) : Met l yMo_shift (Cond.code yMo_shift bMo_shift 12 none :: nzG) ({ frames := 1, cells := 0, slots := 0, locals := 22 }) (va_Pc [.ref (T 0), .int x1, .int x2, .int x3, .int x4, .int x5] (moP D cA (moW cA T k0 C L O c0))) (va_Qv (fun _ : Unit => True) (fun _ t => moV D cA T C L (kShift x1 x2 x3 x4 x5) (ix x5) (L (ix x4)) (fShift (ix x1) x2.toInt (ix x3) (mR C (ix x4)) (L (ix x4))) t) (moA T)) 0 0 (moA T) := by
  refine nz_of (own := RM) (by decide) rfl ?_
  intro p e s m args below meth c S hr hlocks _ hv9
  obtain ⟨rfl, hP, hK⟩ := hv9
  have hS : va_S (moA T) s.heap s.heap [] := va_S.rf
  have hx := S.1
  have hb := S.2.1
  refine nz_entry (vs := [.ref (T 0), .int x1, .int x2, .int x3, .int x4, .int x5]) (n := 12) (lv := [(0, .ref (T 0)), (1, .int x1), (2, .int x2), (3, .int x3), (4, .int x4), (5, .int x5)]) (Nat.le_of_ble_eq_true rfl) rfl (fun ls hl => ?_)
  refine lv_aload_n hx hb dMo_shift_0 rfl (lv_at hl 0 rfl) ?_
  refine lv_iload hx hb dMo_shift_1 (lv_at hl 4 rfl) ?_
  refine nz_si (As := [.int x4]) (rest := [.ref (T 0)]) S (c_Mo_none l x4) kMo_33 ⟨rfl, rfl, Nat.le_of_ble_eq_true rfl, Nat.le_of_ble_eq_true rfl⟩ ⟨Nat.zero_le _, Nat.zero_le _⟩ (fun _ _ _ _ h => h) (fun _ _ _ => trivial) rfl hl.1 rfl (Nat.le_of_ble_eq_true rfl) dMo_shift_3 (fun r1 er1 => ?_)
  subst er1
  refine lv_if_ne (tgt := 17) hx hb dMo_shift_6 (by decide) (fun c2 => ?_) (fun c2 => ?_)
  · have bc2 := ifn_y c2
    refine lv_iconst (v := 1) hx hb dMo_shift_17 (by decide) ?_
    refine lv_goto (tgt := 59) hx hb dMo_shift_18 (by decide) ?_
    refine mo_putk (k1 := 1) S hT hK hP hS dMo_shift_59 (fun H locs hP hS => ?_)
    have hk0 : kShift x1 x2 x3 x4 x5 = 1 := by unfold kShift; rw [if_pos (Or.inl bc2)]
    refine lv_aload_n hx hb dMo_shift_62 rfl (lv_at hl 0 rfl) ?_
    refine mo_getk S hK hP dMo_shift_63 ?_
    refine lv_if_le (tgt := 70) hx hb dMo_shift_66 (by decide) (fun c3 => absurd c3 (by decide)) (fun _ => ?_)
    exact W.vret hx hb hr (fun t ht hW => ⟨⟨(), rfl, trivial, C, L, O, c0, fun h => absurd h (by rw [hk0]; decide), fun _ => ⟨rfl, rfl⟩, ok, by rw [hk0, ht]; exact hP⟩, hS.F ht⟩) hS.2.2 dMo_shift_69
  · have bc2 := ifn_n c2
    obtain ⟨a, ha, rfl⟩ := plB_not bc2
    have ea : ix (nI a) = a := ix_nI (by omega)
    have hLa := ok.2.1 a
    refine lv_iload hx hb dMo_shift_9 (lv_at hl 5 rfl) ?_
    refine nz_si (As := [.int x5]) (rest := [.ref (T 0)]) S (c_Mo_none l x5) kMo_33 ⟨rfl, rfl, Nat.le_of_ble_eq_true rfl, Nat.le_of_ble_eq_true rfl⟩ ⟨Nat.zero_le _, Nat.zero_le _⟩ (fun _ _ _ _ h => h) (fun _ _ _ => trivial) rfl hl.1 rfl (Nat.le_of_ble_eq_true rfl) dMo_shift_11 (fun r4 er4 => ?_)
    subst er4
    refine lv_if_eq (tgt := 21) hx hb dMo_shift_14 (by decide) (fun c5 => ?_) (fun c5 => ?_)
    · have bc5 := ifn_n c5
      obtain ⟨u, hu, rfl⟩ := plB_not bc5
      have eu : ix (nI u) = u := ix_nI (by omega)
      have hLu := ok.2.1 u
      refine lv_iload_n hx hb dMo_shift_21 rfl (lv_at hl 1 rfl) ?_
      refine lv_if_lt (tgt := 54) hx hb dMo_shift_22 (by decide) (fun c6 => ?_) (fun c6 => ?_)
      · refine lv_iconst (v := 2) hx hb dMo_shift_54 (by decide) ?_
        refine lv_goto (tgt := 59) hx hb dMo_shift_55 (by decide) ?_
        refine mo_putk (k1 := 2) S hT hK hP hS dMo_shift_59 (fun H locs hP hS => ?_)
        have hk0 : kShift x1 x2 x3 (nI a) (nI u) = 2 := by unfold kShift; rw [if_neg (fun h => h.elim bc2 bc5), if_pos (Or.inr (Or.inl (Or.inl c6)))]
        refine lv_aload_n hx hb dMo_shift_62 rfl (lv_at hl 0 rfl) ?_
        refine mo_getk S hK hP dMo_shift_63 ?_
        refine lv_if_le (tgt := 70) hx hb dMo_shift_66 (by decide) (fun c7 => absurd c7 (by decide)) (fun _ => ?_)
        exact W.vret hx hb hr (fun t ht hW => ⟨⟨(), rfl, trivial, C, L, O, c0, fun h => absurd h (by rw [hk0]; decide), fun _ => ⟨rfl, rfl⟩, ok, by rw [hk0, ht]; exact hP⟩, hS.F ht⟩) hS.2.2 dMo_shift_69
      · refine lv_iload_n hx hb dMo_shift_25 rfl (lv_at hl 1 rfl) ?_
        refine lv_iconst (v := 4) hx hb dMo_shift_26 (by decide) ?_
        refine lv_icmp_gt (tgt := 54) hx hb dMo_shift_27 (by decide) (fun c8 => ?_) (fun c8 => ?_)
        · refine lv_iconst (v := 2) hx hb dMo_shift_54 (by decide) ?_
          refine lv_goto (tgt := 59) hx hb dMo_shift_55 (by decide) ?_
          refine mo_putk (k1 := 2) S hT hK hP hS dMo_shift_59 (fun H locs hP hS => ?_)
          have hk0 : kShift x1 x2 x3 (nI a) (nI u) = 2 := by unfold kShift; rw [if_neg (fun h => h.elim bc2 bc5), if_pos (Or.inr (Or.inl (Or.inr c8)))]
          refine lv_aload_n hx hb dMo_shift_62 rfl (lv_at hl 0 rfl) ?_
          refine mo_getk S hK hP dMo_shift_63 ?_
          refine lv_if_le (tgt := 70) hx hb dMo_shift_66 (by decide) (fun c9 => absurd c9 (by decide)) (fun _ => ?_)
          exact W.vret hx hb hr (fun t ht hW => ⟨⟨(), rfl, trivial, C, L, O, c0, fun h => absurd h (by rw [hk0]; decide), fun _ => ⟨rfl, rfl⟩, ok, by rw [hk0, ht]; exact hP⟩, hS.F ht⟩) hS.2.2 dMo_shift_69
        · refine lv_iload_n hx hb dMo_shift_30 rfl (lv_at hl 3 rfl) ?_
          refine lv_if_lt (tgt := 54) hx hb dMo_shift_31 (by decide) (fun c10 => ?_) (fun c10 => ?_)
          · refine lv_iconst (v := 2) hx hb dMo_shift_54 (by decide) ?_
            refine lv_goto (tgt := 59) hx hb dMo_shift_55 (by decide) ?_
            refine mo_putk (k1 := 2) S hT hK hP hS dMo_shift_59 (fun H locs hP hS => ?_)
            have hk0 : kShift x1 x2 x3 (nI a) (nI u) = 2 := by unfold kShift; rw [if_neg (fun h => h.elim bc2 bc5), if_pos (Or.inl (Or.inl c10))]
            refine lv_aload_n hx hb dMo_shift_62 rfl (lv_at hl 0 rfl) ?_
            refine mo_getk S hK hP dMo_shift_63 ?_
            refine lv_if_le (tgt := 70) hx hb dMo_shift_66 (by decide) (fun c11 => absurd c11 (by decide)) (fun _ => ?_)
            exact W.vret hx hb hr (fun t ht hW => ⟨⟨(), rfl, trivial, C, L, O, c0, fun h => absurd h (by rw [hk0]; decide), fun _ => ⟨rfl, rfl⟩, ok, by rw [hk0, ht]; exact hP⟩, hS.F ht⟩) hS.2.2 dMo_shift_69
          · refine lv_iload_n hx hb dMo_shift_34 rfl (lv_at hl 3 rfl) ?_
            refine lv_bipush (v := 8) hx hb dMo_shift_35 (by decide) ?_
            refine lv_icmp_gt (tgt := 54) hx hb dMo_shift_37 (by decide) (fun c12 => ?_) (fun c12 => ?_)
            · refine lv_iconst (v := 2) hx hb dMo_shift_54 (by decide) ?_
              refine lv_goto (tgt := 59) hx hb dMo_shift_55 (by decide) ?_
              refine mo_putk (k1 := 2) S hT hK hP hS dMo_shift_59 (fun H locs hP hS => ?_)
              have hk0 : kShift x1 x2 x3 (nI a) (nI u) = 2 := by unfold kShift; rw [if_neg (fun h => h.elim bc2 bc5), if_pos (Or.inl (Or.inr c12))]
              refine lv_aload_n hx hb dMo_shift_62 rfl (lv_at hl 0 rfl) ?_
              refine mo_getk S hK hP dMo_shift_63 ?_
              refine lv_if_le (tgt := 70) hx hb dMo_shift_66 (by decide) (fun c13 => absurd c13 (by decide)) (fun _ => ?_)
              exact W.vret hx hb hr (fun t ht hW => ⟨⟨(), rfl, trivial, C, L, O, c0, fun h => absurd h (by rw [hk0]; decide), fun _ => ⟨rfl, rfl⟩, ok, by rw [hk0, ht]; exact hP⟩, hS.F ht⟩) hS.2.2 dMo_shift_69
            · refine lv_iload_n hx hb dMo_shift_40 rfl (lv_at hl 2 rfl) ?_
              refine lv_sipush (v := (-1000)) hx hb dMo_shift_41 (by decide) ?_
              refine lv_icmp_lt (tgt := 54) hx hb dMo_shift_44 (by decide) (fun c14 => ?_) (fun c14 => ?_)
              · refine lv_iconst (v := 2) hx hb dMo_shift_54 (by decide) ?_
                refine lv_goto (tgt := 59) hx hb dMo_shift_55 (by decide) ?_
                refine mo_putk (k1 := 2) S hT hK hP hS dMo_shift_59 (fun H locs hP hS => ?_)
                have hk0 : kShift x1 x2 x3 (nI a) (nI u) = 2 := by unfold kShift; rw [if_neg (fun h => h.elim bc2 bc5), if_pos (Or.inr (Or.inr (Or.inl c14)))]
                refine lv_aload_n hx hb dMo_shift_62 rfl (lv_at hl 0 rfl) ?_
                refine mo_getk S hK hP dMo_shift_63 ?_
                refine lv_if_le (tgt := 70) hx hb dMo_shift_66 (by decide) (fun c15 => absurd c15 (by decide)) (fun _ => ?_)
                exact W.vret hx hb hr (fun t ht hW => ⟨⟨(), rfl, trivial, C, L, O, c0, fun h => absurd h (by rw [hk0]; decide), fun _ => ⟨rfl, rfl⟩, ok, by rw [hk0, ht]; exact hP⟩, hS.F ht⟩) hS.2.2 dMo_shift_69
              · refine lv_iload_n hx hb dMo_shift_47 rfl (lv_at hl 2 rfl) ?_
                refine lv_sipush (v := 1000) hx hb dMo_shift_48 (by decide) ?_
                refine lv_icmp_le (tgt := 58) hx hb dMo_shift_51 (by decide) (fun c16 => ?_) (fun c16 => ?_)
                · refine lv_iconst (v := 0) hx hb dMo_shift_58 (by decide) ?_
                  refine mo_putk (k1 := 0) S hT hK hP hS dMo_shift_59 (fun H locs hP hS => ?_)
                  have hk0 : kShift x1 x2 x3 (nI a) (nI u) = 0 := by unfold kShift; rw [if_neg (fun h => h.elim bc2 bc5), if_neg (fun h => h.elim (fun h => h.elim c10 c12) (fun h => h.elim (fun h => h.elim c6 c8) (fun h => h.elim c14 (fun q => Int32.not_lt.mpr c16 q))))]
                  have hbd := sh_bd c14 (Int32.not_lt.mpr c16)
                  obtain ⟨o, ho, rfl⟩ := in_not' (N := 4) (x := x1) rfl (by decide) (fun h => h.elim c6 c8)
                  have eo : ix (nI o) = o := ix_nI (by omega)
                  obtain ⟨v, hv, rfl⟩ := valB_not (fun h => h.elim c10 c12)
                  have ev : ix (nI v) = v := ix_nI (by omega)
                  have hng := ineg_toInt hbd.1
                  refine lv_aload_n hx hb dMo_shift_62 rfl (lv_at hl 0 rfl) ?_
                  refine mo_getk S hK hP dMo_shift_63 ?_
                  refine lv_if_le (tgt := 70) hx hb dMo_shift_66 (by decide) (fun _ => ?_) (fun c17 => absurd (by decide) c17)
                  refine lv_aload_n hx hb dMo_shift_70 rfl (lv_at hl 0 rfl) ?_
                  refine lv_aload_n hx hb dMo_shift_71 rfl (lv_at hl 0 rfl) ?_
                  refine mo_getL S hK hP dMo_shift_72 ?_
                  refine lv_iload hx hb dMo_shift_75 (lv_at hl 4 rfl) ?_
                  refine mo_ldL (j := a) S hK hP ha dMo_shift_77 ?_
                  refine mo_putc (c1 := L a) S hT hK hP hS dMo_shift_78 (fun H locs hP hS => ?_)
                  refine lv_iload_n hx hb dMo_shift_81 rfl (lv_at hl 1 rfl) ?_
                  refine lv_if_eq (tgt := 90) hx hb dMo_shift_82 (by decide) (fun c18 => ?_) (fun c18 => ?_)
                  · have mc18 : o = 0 := (nI_eq (a := o) (b := 0) (by omega) (by omega)).mp c18
                    refine lv_iconst (v := 1) hx hb dMo_shift_90 (by decide) ?_
                    refine lv_goto (tgt := 95) hx hb dMo_shift_91 (by decide) ?_
                    refine lv_istore (lv' := [(6, .int 1), (0, .ref (T 0)), (1, .int (nI o)), (2, .int x2), (3, .int (nI v)), (4, .int (nI a)), (5, .int (nI u))]) hx hb dMo_shift_95 hl (by decide) rfl (fun ls hl => ?_)
                    refine lv_iload hx hb dMo_shift_97 (lv_at hl 0 rfl) ?_
                    refine lv_if_eq (tgt := 106) hx hb dMo_shift_99 (by decide) (fun c19 => absurd c19 (by decide)) (fun _ => ?_)
                    refine lv_iload_n hx hb dMo_shift_102 rfl (lv_at hl 3 rfl) ?_
                    refine lv_goto (tgt := 108) hx hb dMo_shift_103 (by decide) ?_
                    refine lv_istore (lv' := [(7, .int x2), (6, .int 1), (0, .ref (T 0)), (1, .int (nI o)), (2, .int x2), (3, .int (nI v)), (4, .int (nI a)), (5, .int (nI u))]) hx hb dMo_shift_108 hl (by decide) rfl (fun ls hl => ?_)
                    refine lv_iconst (v := 0) hx hb dMo_shift_110 (by decide) ?_
                    refine lv_istore (lv' := [(8, .int 0), (7, .int x2), (6, .int 1), (0, .ref (T 0)), (1, .int (nI o)), (2, .int x2), (3, .int (nI v)), (4, .int (nI a)), (5, .int (nI u))]) hx hb dMo_shift_111 hl (by decide) rfl (fun ls hl => ?_)
                    rw [← pov_0 (fShift o x2.toInt v (mR C a) (L a)) (O) 0] at hP
                    refine lpM_shift l D cA T hT 0 C L O (L a) ok o (by omega) v a ha u x2 x2.toInt hbd (by rw [if_pos (by omega)]) hLa S hK (fun H locs ls hP hS hl => ?_) (L a + 1) 0 (by omega) (by omega) _ _ hP hS ls (lv_sub hl [3, 4, 6, 7, 8, 1, 0] rfl)
                    refine lv_aload_n hx hb dMo_shift_256 rfl (lv_at hl 0 rfl) ?_
                    refine lv_iload hx hb dMo_shift_257 (lv_at hl 4 rfl) ?_
                    refine mo_call (As := [.int (nI u)]) (rest := []) S (c_Mo_keep l D cA T hT 0 C L (pov (fShift o x2.toInt v (mR C a) (L a)) O 0 (L a)) (L a) u hu hLa) kMo_36 ⟨rfl, rfl, Nat.le_of_ble_eq_true rfl, Nat.le_of_ble_eq_true rfl⟩ ⟨Nat.zero_le _, Nat.zero_le _⟩ (mo_ob hK hP) hP hK hS rfl hl.1 rfl (Nat.le_of_ble_eq_true rfl) dMo_shift_259 (fun H locs hP hS => ?_)
                    refine W.vret hx hb hr (fun t ht hW => ⟨⟨(), rfl, trivial, moK C (pov (fShift o x2.toInt v (mR C a) (L a)) O 0 (L a)) u (L a), va_up L u (L a), (pov (fShift o x2.toInt v (mR C a) (L a)) O 0 (L a)), (L a), fun _ => ?_, fun h => absurd hk0 h, moOk_keep (moOk_O ok (pov_lt (fun k _ _ => fShift_lt (fun k => ok.1 _) hv k) ok.2.2)) hLa, by rw [hk0, ht]; exact hP⟩, hS.F ht⟩) hS.2.2 dMo_shift_262
                    rw [eu]
                    exact moU_eq (moU_keep hLa) (by rw [ea]) (by rw [eo, ea, ev]; exact fun k hk => pov_in (Nat.zero_le _) (by omega))
                  · have mc18 : ¬ o = 0 := fun h => c18 ((nI_eq (a := o) (b := 0) (by omega) (by omega)).mpr h)
                    refine lv_iload_n hx hb dMo_shift_85 rfl (lv_at hl 1 rfl) ?_
                    refine lv_iconst (v := 3) hx hb dMo_shift_86 (by decide) ?_
                    refine lv_icmp_ne (tgt := 94) hx hb dMo_shift_87 (by decide) (fun c20 => ?_) (fun c20 => ?_)
                    · have mc20 : ¬ o = 3 := fun h => c20 ((nI_eq (a := o) (b := 3) (by omega) (by omega)).mpr h)
                      refine lv_iconst (v := 0) hx hb dMo_shift_94 (by decide) ?_
                      refine lv_istore (lv' := [(6, .int 0), (0, .ref (T 0)), (1, .int (nI o)), (2, .int x2), (3, .int (nI v)), (4, .int (nI a)), (5, .int (nI u))]) hx hb dMo_shift_95 hl (by decide) rfl (fun ls hl => ?_)
                      refine lv_iload hx hb dMo_shift_97 (lv_at hl 0 rfl) ?_
                      refine lv_if_eq (tgt := 106) hx hb dMo_shift_99 (by decide) (fun _ => ?_) (fun c21 => absurd (by decide) c21)
                      refine lv_iload_n hx hb dMo_shift_106 rfl (lv_at hl 3 rfl) ?_
                      refine lv_ineg hx hb dMo_shift_107 ?_
                      refine lv_istore (lv' := [(7, .int (-x2)), (6, .int 0), (0, .ref (T 0)), (1, .int (nI o)), (2, .int x2), (3, .int (nI v)), (4, .int (nI a)), (5, .int (nI u))]) hx hb dMo_shift_108 hl (by decide) rfl (fun ls hl => ?_)
                      refine lv_iconst (v := 0) hx hb dMo_shift_110 (by decide) ?_
                      refine lv_istore (lv' := [(8, .int 0), (7, .int (-x2)), (6, .int 0), (0, .ref (T 0)), (1, .int (nI o)), (2, .int x2), (3, .int (nI v)), (4, .int (nI a)), (5, .int (nI u))]) hx hb dMo_shift_111 hl (by decide) rfl (fun ls hl => ?_)
                      rw [← pov_0 (fShift o x2.toInt v (mR C a) (L a)) (O) 0] at hP
                      refine lpM_shift l D cA T hT 0 C L O (L a) ok o (by omega) v a ha u (-x2) x2.toInt hbd (by rw [if_neg (by omega)]; exact hng) hLa S hK (fun H locs ls hP hS hl => ?_) (L a + 1) 0 (by omega) (by omega) _ _ hP hS ls (lv_sub hl [3, 4, 6, 7, 8, 1, 0] rfl)
                      refine lv_aload_n hx hb dMo_shift_256 rfl (lv_at hl 0 rfl) ?_
                      refine lv_iload hx hb dMo_shift_257 (lv_at hl 4 rfl) ?_
                      refine mo_call (As := [.int (nI u)]) (rest := []) S (c_Mo_keep l D cA T hT 0 C L (pov (fShift o x2.toInt v (mR C a) (L a)) O 0 (L a)) (L a) u hu hLa) kMo_36 ⟨rfl, rfl, Nat.le_of_ble_eq_true rfl, Nat.le_of_ble_eq_true rfl⟩ ⟨Nat.zero_le _, Nat.zero_le _⟩ (mo_ob hK hP) hP hK hS rfl hl.1 rfl (Nat.le_of_ble_eq_true rfl) dMo_shift_259 (fun H locs hP hS => ?_)
                      refine W.vret hx hb hr (fun t ht hW => ⟨⟨(), rfl, trivial, moK C (pov (fShift o x2.toInt v (mR C a) (L a)) O 0 (L a)) u (L a), va_up L u (L a), (pov (fShift o x2.toInt v (mR C a) (L a)) O 0 (L a)), (L a), fun _ => ?_, fun h => absurd hk0 h, moOk_keep (moOk_O ok (pov_lt (fun k _ _ => fShift_lt (fun k => ok.1 _) hv k) ok.2.2)) hLa, by rw [hk0, ht]; exact hP⟩, hS.F ht⟩) hS.2.2 dMo_shift_262
                      rw [eu]
                      exact moU_eq (moU_keep hLa) (by rw [ea]) (by rw [eo, ea, ev]; exact fun k hk => pov_in (Nat.zero_le _) (by omega))
                    · have mc20 : o = 3 := (nI_eq (a := o) (b := 3) (by omega) (by omega)).mp c20
                      refine lv_iconst (v := 1) hx hb dMo_shift_90 (by decide) ?_
                      refine lv_goto (tgt := 95) hx hb dMo_shift_91 (by decide) ?_
                      refine lv_istore (lv' := [(6, .int 1), (0, .ref (T 0)), (1, .int (nI o)), (2, .int x2), (3, .int (nI v)), (4, .int (nI a)), (5, .int (nI u))]) hx hb dMo_shift_95 hl (by decide) rfl (fun ls hl => ?_)
                      refine lv_iload hx hb dMo_shift_97 (lv_at hl 0 rfl) ?_
                      refine lv_if_eq (tgt := 106) hx hb dMo_shift_99 (by decide) (fun c22 => absurd c22 (by decide)) (fun _ => ?_)
                      refine lv_iload_n hx hb dMo_shift_102 rfl (lv_at hl 3 rfl) ?_
                      refine lv_goto (tgt := 108) hx hb dMo_shift_103 (by decide) ?_
                      refine lv_istore (lv' := [(7, .int x2), (6, .int 1), (0, .ref (T 0)), (1, .int (nI o)), (2, .int x2), (3, .int (nI v)), (4, .int (nI a)), (5, .int (nI u))]) hx hb dMo_shift_108 hl (by decide) rfl (fun ls hl => ?_)
                      refine lv_iconst (v := 0) hx hb dMo_shift_110 (by decide) ?_
                      refine lv_istore (lv' := [(8, .int 0), (7, .int x2), (6, .int 1), (0, .ref (T 0)), (1, .int (nI o)), (2, .int x2), (3, .int (nI v)), (4, .int (nI a)), (5, .int (nI u))]) hx hb dMo_shift_111 hl (by decide) rfl (fun ls hl => ?_)
                      rw [← pov_0 (fShift o x2.toInt v (mR C a) (L a)) (O) 0] at hP
                      refine lpM_shift l D cA T hT 0 C L O (L a) ok o (by omega) v a ha u x2 x2.toInt hbd (by rw [if_pos (by omega)]) hLa S hK (fun H locs ls hP hS hl => ?_) (L a + 1) 0 (by omega) (by omega) _ _ hP hS ls (lv_sub hl [3, 4, 6, 7, 8, 1, 0] rfl)
                      refine lv_aload_n hx hb dMo_shift_256 rfl (lv_at hl 0 rfl) ?_
                      refine lv_iload hx hb dMo_shift_257 (lv_at hl 4 rfl) ?_
                      refine mo_call (As := [.int (nI u)]) (rest := []) S (c_Mo_keep l D cA T hT 0 C L (pov (fShift o x2.toInt v (mR C a) (L a)) O 0 (L a)) (L a) u hu hLa) kMo_36 ⟨rfl, rfl, Nat.le_of_ble_eq_true rfl, Nat.le_of_ble_eq_true rfl⟩ ⟨Nat.zero_le _, Nat.zero_le _⟩ (mo_ob hK hP) hP hK hS rfl hl.1 rfl (Nat.le_of_ble_eq_true rfl) dMo_shift_259 (fun H locs hP hS => ?_)
                      refine W.vret hx hb hr (fun t ht hW => ⟨⟨(), rfl, trivial, moK C (pov (fShift o x2.toInt v (mR C a) (L a)) O 0 (L a)) u (L a), va_up L u (L a), (pov (fShift o x2.toInt v (mR C a) (L a)) O 0 (L a)), (L a), fun _ => ?_, fun h => absurd hk0 h, moOk_keep (moOk_O ok (pov_lt (fun k _ _ => fShift_lt (fun k => ok.1 _) hv k) ok.2.2)) hLa, by rw [hk0, ht]; exact hP⟩, hS.F ht⟩) hS.2.2 dMo_shift_262
                      rw [eu]
                      exact moU_eq (moU_keep hLa) (by rw [ea]) (by rw [eo, ea, ev]; exact fun k hk => pov_in (Nat.zero_le _) (by omega))
                · refine lv_iconst (v := 2) hx hb dMo_shift_54 (by decide) ?_
                  refine lv_goto (tgt := 59) hx hb dMo_shift_55 (by decide) ?_
                  refine mo_putk (k1 := 2) S hT hK hP hS dMo_shift_59 (fun H locs hP hS => ?_)
                  have hk0 : kShift x1 x2 x3 (nI a) (nI u) = 2 := by unfold kShift; rw [if_neg (fun h => h.elim bc2 bc5), if_pos (Or.inr (Or.inr (Or.inr (Int32.not_le.mp c16))))]
                  refine lv_aload_n hx hb dMo_shift_62 rfl (lv_at hl 0 rfl) ?_
                  refine mo_getk S hK hP dMo_shift_63 ?_
                  refine lv_if_le (tgt := 70) hx hb dMo_shift_66 (by decide) (fun c23 => absurd c23 (by decide)) (fun _ => ?_)
                  exact W.vret hx hb hr (fun t ht hW => ⟨⟨(), rfl, trivial, C, L, O, c0, fun h => absurd h (by rw [hk0]; decide), fun _ => ⟨rfl, rfl⟩, ok, by rw [hk0, ht]; exact hP⟩, hS.F ht⟩) hS.2.2 dMo_shift_69
    · have bc5 := ifn_y c5
      refine lv_iconst (v := 1) hx hb dMo_shift_17 (by decide) ?_
      refine lv_goto (tgt := 59) hx hb dMo_shift_18 (by decide) ?_
      refine mo_putk (k1 := 1) S hT hK hP hS dMo_shift_59 (fun H locs hP hS => ?_)
      have hk0 : kShift x1 x2 x3 (nI a) x5 = 1 := by unfold kShift; rw [if_pos (Or.inr bc5)]
      refine lv_aload_n hx hb dMo_shift_62 rfl (lv_at hl 0 rfl) ?_
      refine mo_getk S hK hP dMo_shift_63 ?_
      refine lv_if_le (tgt := 70) hx hb dMo_shift_66 (by decide) (fun c24 => absurd c24 (by decide)) (fun _ => ?_)
      exact W.vret hx hb hr (fun t ht hW => ⟨⟨(), rfl, trivial, C, L, O, c0, fun h => absurd h (by rw [hk0]; decide), fun _ => ⟨rfl, rfl⟩, ok, by rw [hk0, ht]; exact hP⟩, hS.F ht⟩) hS.2.2 dMo_shift_69
