set_option maxHeartbeats 4000000 in
set_option maxRecDepth 100000 in
theorem lpM_divide {p : Program} {e : Env} {s : State} {m : MethodId} {args : Array Value} {below : List Frame} {meth : Method} {c : Code} {Q : State → Prop} (l : Launch) (T : Nat → Nat) (p1 y1 w1 : Nat) (hp1 : p1 < 2 ^ 64) (hy0 : 0 < y1) (hy1 : y1 < 2 ^ 64) (H : Heap) (locs : List Loc) (S : CallFix p m c bMo_divide 13 s args nzG RM) (kk : ∀ (ls : Array Slot), lv_has ls 13 [(5, .int (nI w1)), (6, .long (lN (p1 / y1))), (8, .long (lN (p1 % y1)))] → W p l e ({ frames := 0, cells := 0, slots := 0, locals := 0 }) s m args below meth c H locs 0 0 Q (F0 m 112 ls [])) : ∀ (j : Nat), j ≤ 64 → ∀ (ls : Array Slot), lv_has ls 13 [(0, .ref (T 0)), (1, .long (lN p1)), (3, .long (lN y1)), (5, .int (nI w1)), (6, .long (lN (p1 / 2 ^ j / y1))), (8, .long (lN (p1 / 2 ^ j % y1))), (10, .int (nI j + (-1)))] → W p l e ({ frames := 0, cells := 0, slots := 0, locals := 0 }) s m args below meth c H locs 0 0 Q (F0 m 10 ls []) := by
  have hx := S.1
  have hb := S.2.1
  intro j
  induction j with
  | zero =>
    intro hj ls hl
    refine lv_iload hx hb dMo_divide_10 (lv_at hl 6 rfl) ?_
    refine lv_if_lt (tgt := 112) hx hb dMo_divide_12 (by decide) (fun _ => ?_) (fun q => absurd (by decide) q)
    rw [Nat.pow_zero, Nat.div_one] at hl
    exact kk ls (lv_sub hl [3, 4, 5] rfl)
  | succ i ih =>
    intro hj ls hl
    rw [pk_m1] at hl
    have hR := Nat.mod_lt (p1 / 2 ^ (i + 1)) hy0
    have hbt : p1 / 2 ^ i % 2 < 2 := Nat.mod_lt _ (by decide)
    have hst := dv_step (P := p1 / 2 ^ (i + 1)) (b := p1 / 2 ^ i % 2) hy0 hbt
    rw [← dv_pow] at hst
    refine lv_iload hx hb dMo_divide_10 (lv_at hl 6 rfl) ?_
    refine lv_if_lt (tgt := 112) hx hb dMo_divide_12 (by decide) (fun c1 => absurd c1 (nI_pos (by omega))) (fun c1 => ?_)
    refine lv_lload hx hb dMo_divide_15 (lv_at hl 5 rfl) ?_
    refine lv_lconst (v := 0) hx hb dMo_divide_17 (by decide) ?_
    refine W.lcmp hx hb dMo_divide_18 ?_
    refine lv_if_ge (tgt := 26) hx hb dMo_divide_19 (by decide) (fun c2 => ?_) (fun c2 => ?_)
    · refine lv_iconst (v := 0) hx hb dMo_divide_26 (by decide) ?_
      refine lv_istore (lv' := [(11, .int 0), (0, .ref (T 0)), (1, .long (lN p1)), (3, .long (lN y1)), (5, .int (nI w1)), (6, .long (lN (p1 / 2 ^ (i + 1) / y1))), (8, .long (lN (p1 / 2 ^ (i + 1) % y1))), (10, .int (nI i))]) hx hb dMo_divide_27 hl (by decide) rfl (fun ls hl => ?_)
      refine lv_ldc2 (v := 2) hx hb S.2.2.2.1 (S.2.2.2.2 _ kMo_c51) dMo_divide_29 ?_
      refine lv_lload hx hb dMo_divide_32 (lv_at hl 6 rfl) ?_
      refine lv_lmul hx hb dMo_divide_34 ?_
      refine lv_lload_n hx hb dMo_divide_35 rfl (lv_at hl 2 rfl) ?_
      refine lv_iload hx hb dMo_divide_36 (lv_at hl 7 rfl) ?_
      refine lv_lshr (v := lN p1 >>> ((nI i).toInt64 &&& 63)) hx hb dMo_divide_38 rfl ?_
      refine lv_lconst (v := 1) hx hb dMo_divide_39 (by decide) ?_
      refine lv_land hx hb dMo_divide_40 ?_
      refine nz_eql (sbit hp1 (by omega)) ?_
      refine lv_ladd hx hb dMo_divide_41 ?_
      refine nz_eql (lN_tw (p1 / 2 ^ (i + 1) % y1) (p1 / 2 ^ i % 2)) ?_
      refine lv_lstore (lv' := [(8, .long (lN (2 * (p1 / 2 ^ (i + 1) % y1) + p1 / 2 ^ i % 2))), (11, .int 0), (0, .ref (T 0)), (1, .long (lN p1)), (3, .long (lN y1)), (5, .int (nI w1)), (6, .long (lN (p1 / 2 ^ (i + 1) / y1))), (10, .int (nI i))]) hx hb dMo_divide_42 hl (by decide) rfl (fun ls hl => ?_)
      refine lv_iload hx hb dMo_divide_44 (lv_at hl 1 rfl) ?_
      refine lv_if_ne (tgt := 64) hx hb dMo_divide_46 (by decide) (fun c3 => absurd (by decide) c3) (fun _ => ?_)
      refine lv_lload hx hb dMo_divide_49 (lv_at hl 0 rfl) ?_
      refine lv_ldc2 (v := (-9223372036854775808)) hx hb S.2.2.2.1 (S.2.2.2.2 _ kMo_c78) dMo_divide_51 ?_
      refine lv_ladd hx hb dMo_divide_54 ?_
      refine lv_lload_n hx hb dMo_divide_55 rfl (lv_at hl 4 rfl) ?_
      refine lv_ldc2 (v := (-9223372036854775808)) hx hb S.2.2.2.1 (S.2.2.2.2 _ kMo_c78) dMo_divide_56 ?_
      refine lv_ladd hx hb dMo_divide_59 ?_
      refine W.lcmp hx hb dMo_divide_60 ?_
      refine lv_if_lt (tgt := 68) hx hb dMo_divide_61 (by decide) (fun c4 => ?_) (fun c4 => ?_)
      · refine lv_iconst (v := 0) hx hb dMo_divide_68 (by decide) ?_
        have hlo := (lcmp_neg (r := p1 / 2 ^ (i + 1) % y1) (Nat.lt_of_lt_of_le hR (by omega))).mp c2
        have hfit : ¬ y1 ≤ 2 * (p1 / 2 ^ (i + 1) % y1) + p1 / 2 ^ i % 2 := Nat.not_le.mpr ((ult_add (by omega) hy1).mp c4)
        refine lv_istore (lv' := [(12, .int 0), (8, .long (lN (2 * (p1 / 2 ^ (i + 1) % y1) + p1 / 2 ^ i % 2))), (11, .int 0), (0, .ref (T 0)), (1, .long (lN p1)), (3, .long (lN y1)), (5, .int (nI w1)), (6, .long (lN (p1 / 2 ^ (i + 1) / y1))), (10, .int (nI i))]) hx hb dMo_divide_69 hl (by decide) rfl (fun ls hl => ?_)
        refine lv_iload hx hb dMo_divide_71 (lv_at hl 0 rfl) ?_
        refine lv_if_eq (tgt := 83) hx hb dMo_divide_73 (by decide) (fun _ => ?_) (fun c5 => absurd (by decide) c5)
        rw [show 2 * (p1 / 2 ^ (i + 1) % y1) + p1 / 2 ^ i % 2 = p1 / 2 ^ i % y1 by rw [hst.2, if_neg hfit, Nat.sub_zero]] at hl
        refine lv_lload hx hb dMo_divide_83 (lv_at hl 1 rfl) ?_
        refine lv_lstore (lv' := [(8, .long (lN (p1 / 2 ^ i % y1))), (12, .int 0), (11, .int 0), (0, .ref (T 0)), (1, .long (lN p1)), (3, .long (lN y1)), (5, .int (nI w1)), (6, .long (lN (p1 / 2 ^ (i + 1) / y1))), (10, .int (nI i))]) hx hb dMo_divide_85 hl (by decide) rfl (fun ls hl => ?_)
        refine lv_ldc2 (v := 2) hx hb S.2.2.2.1 (S.2.2.2.2 _ kMo_c51) dMo_divide_87 ?_
        refine lv_lload hx hb dMo_divide_90 (lv_at hl 7 rfl) ?_
        refine lv_lmul hx hb dMo_divide_92 ?_
        refine lv_iload hx hb dMo_divide_93 (lv_at hl 1 rfl) ?_
        refine lv_if_eq (tgt := 102) hx hb dMo_divide_95 (by decide) (fun _ => ?_) (fun c6 => absurd (by decide) c6)
        refine lv_lconst (v := 0) hx hb dMo_divide_102 (by decide) ?_
        refine lv_ladd hx hb dMo_divide_103 ?_
        refine nz_eql (y := lN (p1 / 2 ^ i / y1)) (by rw [hst.1, if_neg hfit]; exact lN_tw (p1 / 2 ^ (i + 1) / y1) 0) ?_
        refine lv_lstore (lv' := [(6, .long (lN (p1 / 2 ^ i / y1))), (8, .long (lN (p1 / 2 ^ i % y1))), (12, .int 0), (11, .int 0), (0, .ref (T 0)), (1, .long (lN p1)), (3, .long (lN y1)), (5, .int (nI w1)), (10, .int (nI i))]) hx hb dMo_divide_104 hl (by decide) rfl (fun ls hl => ?_)
        refine lv_iinc (v := nI i + (-1)) (lv' := [(10, .int (nI i + (-1))), (6, .long (lN (p1 / 2 ^ i / y1))), (8, .long (lN (p1 / 2 ^ i % y1))), (12, .int 0), (11, .int 0), (0, .ref (T 0)), (1, .long (lN p1)), (3, .long (lN y1)), (5, .int (nI w1))]) hx hb dMo_divide_106 hl (k := 8) rfl rfl (by decide) rfl (fun ls hl => ?_)
        refine lv_goto (tgt := 10) hx hb dMo_divide_109 (by decide) ?_
        exact ih (by omega) ls (lv_sub hl [5, 6, 7, 8, 1, 2, 0] rfl)
      · refine lv_iconst (v := 1) hx hb dMo_divide_64 (by decide) ?_
        refine lv_goto (tgt := 69) hx hb dMo_divide_65 (by decide) ?_
        have hlo := (lcmp_neg (r := p1 / 2 ^ (i + 1) % y1) (Nat.lt_of_lt_of_le hR (by omega))).mp c2
        have hfit : y1 ≤ 2 * (p1 / 2 ^ (i + 1) % y1) + p1 / 2 ^ i % 2 := Nat.le_of_not_lt (fun q => c4 ((ult_add (by omega) hy1).mpr q))
        refine lv_istore (lv' := [(12, .int 1), (8, .long (lN (2 * (p1 / 2 ^ (i + 1) % y1) + p1 / 2 ^ i % 2))), (11, .int 0), (0, .ref (T 0)), (1, .long (lN p1)), (3, .long (lN y1)), (5, .int (nI w1)), (6, .long (lN (p1 / 2 ^ (i + 1) / y1))), (10, .int (nI i))]) hx hb dMo_divide_69 hl (by decide) rfl (fun ls hl => ?_)
        refine lv_iload hx hb dMo_divide_71 (lv_at hl 0 rfl) ?_
        refine lv_if_eq (tgt := 83) hx hb dMo_divide_73 (by decide) (fun c7 => absurd c7 (by decide)) (fun _ => ?_)
        refine lv_lload hx hb dMo_divide_76 (lv_at hl 1 rfl) ?_
        refine lv_lload_n hx hb dMo_divide_78 rfl (lv_at hl 5 rfl) ?_
        refine lv_lsub hx hb dMo_divide_79 ?_
        refine nz_eql (y := lN (p1 / 2 ^ i % y1)) (by rw [lN_sub hfit, hst.2, if_pos hfit]) ?_
        refine lv_goto (tgt := 85) hx hb dMo_divide_80 (by decide) ?_
        refine lv_lstore (lv' := [(8, .long (lN (p1 / 2 ^ i % y1))), (12, .int 1), (11, .int 0), (0, .ref (T 0)), (1, .long (lN p1)), (3, .long (lN y1)), (5, .int (nI w1)), (6, .long (lN (p1 / 2 ^ (i + 1) / y1))), (10, .int (nI i))]) hx hb dMo_divide_85 hl (by decide) rfl (fun ls hl => ?_)
        refine lv_ldc2 (v := 2) hx hb S.2.2.2.1 (S.2.2.2.2 _ kMo_c51) dMo_divide_87 ?_
        refine lv_lload hx hb dMo_divide_90 (lv_at hl 7 rfl) ?_
        refine lv_lmul hx hb dMo_divide_92 ?_
        refine lv_iload hx hb dMo_divide_93 (lv_at hl 1 rfl) ?_
        refine lv_if_eq (tgt := 102) hx hb dMo_divide_95 (by decide) (fun c8 => absurd c8 (by decide)) (fun _ => ?_)
        refine lv_lconst (v := 1) hx hb dMo_divide_98 (by decide) ?_
        refine lv_goto (tgt := 103) hx hb dMo_divide_99 (by decide) ?_
        refine lv_ladd hx hb dMo_divide_103 ?_
        refine nz_eql (y := lN (p1 / 2 ^ i / y1)) (by rw [hst.1, if_pos hfit]; exact lN_tw (p1 / 2 ^ (i + 1) / y1) 1) ?_
        refine lv_lstore (lv' := [(6, .long (lN (p1 / 2 ^ i / y1))), (8, .long (lN (p1 / 2 ^ i % y1))), (12, .int 1), (11, .int 0), (0, .ref (T 0)), (1, .long (lN p1)), (3, .long (lN y1)), (5, .int (nI w1)), (10, .int (nI i))]) hx hb dMo_divide_104 hl (by decide) rfl (fun ls hl => ?_)
        refine lv_iinc (v := nI i + (-1)) (lv' := [(10, .int (nI i + (-1))), (6, .long (lN (p1 / 2 ^ i / y1))), (8, .long (lN (p1 / 2 ^ i % y1))), (12, .int 1), (11, .int 0), (0, .ref (T 0)), (1, .long (lN p1)), (3, .long (lN y1)), (5, .int (nI w1))]) hx hb dMo_divide_106 hl (k := 8) rfl rfl (by decide) rfl (fun ls hl => ?_)
        refine lv_goto (tgt := 10) hx hb dMo_divide_109 (by decide) ?_
        exact ih (by omega) ls (lv_sub hl [5, 6, 7, 8, 1, 2, 0] rfl)
    · refine lv_iconst (v := 1) hx hb dMo_divide_22 (by decide) ?_
      refine lv_goto (tgt := 27) hx hb dMo_divide_23 (by decide) ?_
      refine lv_istore (lv' := [(11, .int 1), (0, .ref (T 0)), (1, .long (lN p1)), (3, .long (lN y1)), (5, .int (nI w1)), (6, .long (lN (p1 / 2 ^ (i + 1) / y1))), (8, .long (lN (p1 / 2 ^ (i + 1) % y1))), (10, .int (nI i))]) hx hb dMo_divide_27 hl (by decide) rfl (fun ls hl => ?_)
      refine lv_ldc2 (v := 2) hx hb S.2.2.2.1 (S.2.2.2.2 _ kMo_c51) dMo_divide_29 ?_
      refine lv_lload hx hb dMo_divide_32 (lv_at hl 6 rfl) ?_
      refine lv_lmul hx hb dMo_divide_34 ?_
      refine lv_lload_n hx hb dMo_divide_35 rfl (lv_at hl 2 rfl) ?_
      refine lv_iload hx hb dMo_divide_36 (lv_at hl 7 rfl) ?_
      refine lv_lshr (v := lN p1 >>> ((nI i).toInt64 &&& 63)) hx hb dMo_divide_38 rfl ?_
      refine lv_lconst (v := 1) hx hb dMo_divide_39 (by decide) ?_
      refine lv_land hx hb dMo_divide_40 ?_
      refine nz_eql (sbit hp1 (by omega)) ?_
      refine lv_ladd hx hb dMo_divide_41 ?_
      refine nz_eql (lN_tw (p1 / 2 ^ (i + 1) % y1) (p1 / 2 ^ i % 2)) ?_
      refine lv_lstore (lv' := [(8, .long (lN (2 * (p1 / 2 ^ (i + 1) % y1) + p1 / 2 ^ i % 2))), (11, .int 1), (0, .ref (T 0)), (1, .long (lN p1)), (3, .long (lN y1)), (5, .int (nI w1)), (6, .long (lN (p1 / 2 ^ (i + 1) / y1))), (10, .int (nI i))]) hx hb dMo_divide_42 hl (by decide) rfl (fun ls hl => ?_)
      refine lv_iload hx hb dMo_divide_44 (lv_at hl 1 rfl) ?_
      refine lv_if_ne (tgt := 64) hx hb dMo_divide_46 (by decide) (fun _ => ?_) (fun c9 => absurd c9 (by decide))
      refine lv_iconst (v := 1) hx hb dMo_divide_64 (by decide) ?_
      refine lv_goto (tgt := 69) hx hb dMo_divide_65 (by decide) ?_
      have hfit : y1 ≤ 2 * (p1 / 2 ^ (i + 1) % y1) + p1 / 2 ^ i % 2 := by have h9 := Nat.le_of_not_lt (fun q => c2 ((lcmp_neg (Nat.lt_of_lt_of_le hR (by omega))).mpr q)); omega
      refine lv_istore (lv' := [(12, .int 1), (8, .long (lN (2 * (p1 / 2 ^ (i + 1) % y1) + p1 / 2 ^ i % 2))), (11, .int 1), (0, .ref (T 0)), (1, .long (lN p1)), (3, .long (lN y1)), (5, .int (nI w1)), (6, .long (lN (p1 / 2 ^ (i + 1) / y1))), (10, .int (nI i))]) hx hb dMo_divide_69 hl (by decide) rfl (fun ls hl => ?_)
      refine lv_iload hx hb dMo_divide_71 (lv_at hl 0 rfl) ?_
      refine lv_if_eq (tgt := 83) hx hb dMo_divide_73 (by decide) (fun c10 => absurd c10 (by decide)) (fun _ => ?_)
      refine lv_lload hx hb dMo_divide_76 (lv_at hl 1 rfl) ?_
      refine lv_lload_n hx hb dMo_divide_78 rfl (lv_at hl 5 rfl) ?_
      refine lv_lsub hx hb dMo_divide_79 ?_
      refine nz_eql (y := lN (p1 / 2 ^ i % y1)) (by rw [lN_sub hfit, hst.2, if_pos hfit]) ?_
      refine lv_goto (tgt := 85) hx hb dMo_divide_80 (by decide) ?_
      refine lv_lstore (lv' := [(8, .long (lN (p1 / 2 ^ i % y1))), (12, .int 1), (11, .int 1), (0, .ref (T 0)), (1, .long (lN p1)), (3, .long (lN y1)), (5, .int (nI w1)), (6, .long (lN (p1 / 2 ^ (i + 1) / y1))), (10, .int (nI i))]) hx hb dMo_divide_85 hl (by decide) rfl (fun ls hl => ?_)
      refine lv_ldc2 (v := 2) hx hb S.2.2.2.1 (S.2.2.2.2 _ kMo_c51) dMo_divide_87 ?_
      refine lv_lload hx hb dMo_divide_90 (lv_at hl 7 rfl) ?_
      refine lv_lmul hx hb dMo_divide_92 ?_
      refine lv_iload hx hb dMo_divide_93 (lv_at hl 1 rfl) ?_
      refine lv_if_eq (tgt := 102) hx hb dMo_divide_95 (by decide) (fun c11 => absurd c11 (by decide)) (fun _ => ?_)
      refine lv_lconst (v := 1) hx hb dMo_divide_98 (by decide) ?_
      refine lv_goto (tgt := 103) hx hb dMo_divide_99 (by decide) ?_
      refine lv_ladd hx hb dMo_divide_103 ?_
      refine nz_eql (y := lN (p1 / 2 ^ i / y1)) (by rw [hst.1, if_pos hfit]; exact lN_tw (p1 / 2 ^ (i + 1) / y1) 1) ?_
      refine lv_lstore (lv' := [(6, .long (lN (p1 / 2 ^ i / y1))), (8, .long (lN (p1 / 2 ^ i % y1))), (12, .int 1), (11, .int 1), (0, .ref (T 0)), (1, .long (lN p1)), (3, .long (lN y1)), (5, .int (nI w1)), (10, .int (nI i))]) hx hb dMo_divide_104 hl (by decide) rfl (fun ls hl => ?_)
      refine lv_iinc (v := nI i + (-1)) (lv' := [(10, .int (nI i + (-1))), (6, .long (lN (p1 / 2 ^ i / y1))), (8, .long (lN (p1 / 2 ^ i % y1))), (12, .int 1), (11, .int 1), (0, .ref (T 0)), (1, .long (lN p1)), (3, .long (lN y1)), (5, .int (nI w1))]) hx hb dMo_divide_106 hl (k := 8) rfl rfl (by decide) rfl (fun ls hl => ?_)
      refine lv_goto (tgt := 10) hx hb dMo_divide_109 (by decide) ?_
      exact ih (by omega) ls (lv_sub hl [5, 6, 7, 8, 1, 2, 0] rfl)
set_option maxHeartbeats 4000000 in
set_option maxRecDepth 100000 in
theorem c_Mo_divide (l : Launch) (T : Nat → Nat) (p1 y1 w1 : Nat) (hw1 : w1 < 2) (hp1 : p1 < 2 ^ 64) (hy0 : 0 < y1) (hy1 : y1 < 2 ^ 64) : Met l yMo_divide (Cond.code yMo_divide bMo_divide 13 (some .long) :: nzG) ({ frames := 0, cells := 0, slots := 0, locals := 0 }) (va_Pc [.ref (T 0), .long (lN p1), .long (lN y1), .int (nI w1)] (fun _ => True)) (vp_Sl (fun r => r = lN (if w1 = 1 then p1 / y1 else p1 % y1))) 0 0 (fun _ => False) := by
  refine nz_of (own := RM) (by decide) rfl ?_
  intro p e s m args below meth c S hr hlocks _ hv9
  obtain ⟨rfl, -⟩ := hv9
  have hx := S.1
  have hb := S.2.1
  refine nz_entry (vs := [.ref (T 0), .long (lN p1), .long (lN y1), .int (nI w1)]) (n := 13) (lv := [(0, .ref (T 0)), (1, .long (lN p1)), (3, .long (lN y1)), (5, .int (nI w1))]) (Nat.le_of_ble_eq_true rfl) rfl (fun ls hl => ?_)
  refine lv_lconst (v := 0) hx hb dMo_divide_0 (by decide) ?_
  refine lv_lstore (lv' := [(6, .long 0), (0, .ref (T 0)), (1, .long (lN p1)), (3, .long (lN y1)), (5, .int (nI w1))]) hx hb dMo_divide_1 hl (by decide) rfl (fun ls hl => ?_)
  refine lv_lconst (v := 0) hx hb dMo_divide_3 (by decide) ?_
  refine lv_lstore (lv' := [(8, .long 0), (6, .long 0), (0, .ref (T 0)), (1, .long (lN p1)), (3, .long (lN y1)), (5, .int (nI w1))]) hx hb dMo_divide_4 hl (by decide) rfl (fun ls hl => ?_)
  refine lv_bipush (v := 63) hx hb dMo_divide_6 (by decide) ?_
  refine lv_istore (lv' := [(10, .int 63), (8, .long 0), (6, .long 0), (0, .ref (T 0)), (1, .long (lN p1)), (3, .long (lN y1)), (5, .int (nI w1))]) hx hb dMo_divide_8 hl (by decide) rfl (fun ls hl => ?_)
  have hz : p1 / 2 ^ 64 = 0 := Nat.div_eq_of_lt hp1
  rw [show (63 : Int32) = nI 64 + (-1) from by decide] at hl
  have hl0 : lv_has ls 13 [(0, .ref (T 0)), (1, .long (lN p1)), (3, .long (lN y1)), (5, .int (nI w1)), (6, .long (lN (p1 / 2 ^ 64 / y1))), (8, .long (lN (p1 / 2 ^ 64 % y1))), (10, .int (nI 64 + (-1)))] := by
    rw [hz, Nat.zero_div, Nat.zero_mod]
    exact lv_sub hl [3, 4, 5, 6, 2, 1, 0] rfl
  refine lpM_divide l T p1 y1 w1 hp1 hy0 hy1 _ _ S (fun ls hl => ?_) 64 (by omega) ls hl0
  refine lv_iload hx hb dMo_divide_112 (lv_at hl 0 rfl) ?_
  refine lv_if_eq (tgt := 122) hx hb dMo_divide_114 (by decide) (fun c1 => ?_) (fun c1 => ?_)
  · have mc1 : w1 = 0 := (nI_eq (a := w1) (b := 0) (by omega) (by omega)).mp c1
    refine lv_lload hx hb dMo_divide_122 (lv_at hl 2 rfl) ?_
    exact W.lret (v := lN (p1 % y1)) hx hb hr (fun t ht hW => ⟨_, rfl, by rw [if_neg (by omega)], ht⟩) (fun q h => nomatch h) dMo_divide_124
  · have mc1 : ¬ w1 = 0 := fun h => c1 ((nI_eq (a := w1) (b := 0) (by omega) (by omega)).mpr h)
    refine lv_lload hx hb dMo_divide_117 (lv_at hl 1 rfl) ?_
    refine lv_goto (tgt := 124) hx hb dMo_divide_119 (by decide) ?_
    exact W.lret (v := lN (p1 / y1)) hx hb hr (fun t ht hW => ⟨_, rfl, by rw [if_pos (by omega)], ht⟩) (fun q h => nomatch h) dMo_divide_124
