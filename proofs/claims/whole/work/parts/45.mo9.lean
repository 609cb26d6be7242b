set_option maxHeartbeats 4000000 in
set_option maxRecDepth 100000 in
theorem lpM_numX {p : Program} {e : Env} {s : State} {m : MethodId} {args : Array Value} {below : List Frame} {meth : Method} {c : Code} {Q : State → Prop} (l : Launch) (D : va_G) (cA : ClassId) (T : Nat → Nat) (hT : moT T) (k0 : Int32) (C L O : Nat → Nat) (c0 : Nat)  (hN : c0 ≤ 64) (S : CallFix p m c bMo_numbers 20 s args nzG RM) (hK : va_K D vwCl (moTy cA) s) (kk : ∀ (H : Heap) (locs : List Loc) (ls : Array Slot), va_P D vwCl (moW cA T k0 C L (pov (fun _ => 1) O 0 c0) c0) H → va_S (moA T) s.heap H locs → lv_has ls 20 [(0, .ref (T 0)), (6, .int (nI c0))] → W p l e ({ frames := 3, cells := 0, slots := 0, locals := 63 }) s m args below meth c H locs 0 0 Q (F0 m 72 ls [])) : ∀ (fuel j : Nat), j ≤ c0 → c0 < j + fuel → ∀ (H : Heap) (locs : List Loc), va_P D vwCl (moW cA T k0 C L (pov (fun _ => 1) O 0 j) c0) H → va_S (moA T) s.heap H locs → ∀ (ls : Array Slot), lv_has ls 20 [(0, .ref (T 0)), (6, .int (nI j))] → W p l e ({ frames := 3, cells := 0, slots := 0, locals := 63 }) s m args below meth c H locs 0 0 Q (F0 m 49 ls []) := by
  have hx := S.1
  have hb := S.2.1
  intro fuel
  induction fuel with
  | zero =>
    intro j hj hfu
    exact absurd hfu (by omega)
  | succ fuel ih =>
    intro j hj hfu H locs hP hS ls hl
    refine lv_iload hx hb dMo_numbers_49 (lv_at hl 1 rfl) ?_
    refine lv_aload_n hx hb dMo_numbers_51 rfl (lv_at hl 0 rfl) ?_
    refine mo_getc S hK hP dMo_numbers_52 ?_
    refine lv_icmp_ge (tgt := 72) hx hb dMo_numbers_55 (by decide) (fun c1 => ?_) (fun c1 => ?_)
    · have mc1 : c0 ≤ j := (nI_leI (a := c0) (b := j) (by omega) (by omega)).mp c1
      obtain rfl : j = c0 := by omega
      exact kk H locs ls hP hS (lv_sub hl [0, 1] rfl)
    · have mc1 : j < c0 := Nat.lt_of_not_le (fun h => c1 ((nI_leI (a := c0) (b := j) (by omega) (by omega)).mpr h))
      refine lv_aload_n hx hb dMo_numbers_58 rfl (lv_at hl 0 rfl) ?_
      refine mo_getO S hK hP dMo_numbers_59 ?_
      refine lv_iload hx hb dMo_numbers_62 (lv_at hl 1 rfl) ?_
      refine lv_iconst (v := 1) hx hb dMo_numbers_64 (by decide) ?_
      refine mo_stO (j := j) (v := (fun _ => 1) j) S hT hK hP hS (by omega) dMo_numbers_65 (fun H locs hP hS => ?_)
      rw [pov_s0] at hP
      refine lv_iinc (v := nI (j + 1)) (lv' := [(6, .int (nI (j + 1))), (0, .ref (T 0))]) hx hb dMo_numbers_66 hl (k := 1) rfl (nI_1 j) (by decide) rfl (fun ls hl => ?_)
      refine lv_goto (tgt := 49) hx hb dMo_numbers_69 (by decide) ?_
      exact ih (j + 1) (by omega) (by omega) _ _ hP hS ls (lv_sub hl [1, 0] rfl)
set_option maxHeartbeats 4000000 in
set_option maxRecDepth 100000 in
theorem c_Mo_numbers (l : Launch) (D : va_G) (cA : ClassId) (T : Nat → Nat) (hT : moT T) (C L O : Nat → Nat) (c0 : Nat) (ok : moOk C L O) (o : Nat) (ho : 7 ≤ o ∧ o ≤ 12) (b1 : Nat) (hb1 : b1 < 2) (a : Nat) (ha : a < 16) (d : Nat) (hd : d < 16) (hz : zLen o (L a) (L d) ≤ 64) : Met l yMo_numbers (Cond.code yMo_numbers bMo_numbers 20 none :: nzG) ({ frames := 3, cells := 0, slots := 0, locals := 63 }) (va_Pc [.ref (T 0), .int (nI o), .int (nI b1), .int (nI a), .int (nI d), .int (nI (zLen o (L a) (L d)))] (moP D cA (moW cA T 0 C L O c0))) (va_Qv (fun _ : Unit => True) (fun _ t => (fun H9 : Heap => ∃ (O9 : Nat → Nat) (c9 : Nat), (kCalc o b1 (mR C a) (L a) (mR C d) (L d) = 0 → c9 = nCalc o (mR C a) (L a) (mR C d) (L d) ∧ ∀ k, k < nCalc o (mR C a) (L a) (mR C d) (L d) → O9 k = fCalc o b1 (mR C a) (L a) (mR C d) (L d) k) ∧ (∀ j, O9 j < 9) ∧ va_P D vwCl (moW cA T (nI (kCalc o b1 (mR C a) (L a) (mR C d) (L d))) C L O9 c9) H9) t.heap) (moA T)) 0 0 (moA T) := by
  refine nz_of (own := RM) (by decide) rfl ?_
  intro p e s m args below meth c S hr hlocks _ hv9
  obtain ⟨rfl, hP, hK⟩ := hv9
  have hS : va_S (moA T) s.heap s.heap [] := va_S.rf
  have hx := S.1
  have hb := S.2.1
  refine nz_entry (vs := [.ref (T 0), .int (nI o), .int (nI b1), .int (nI a), .int (nI d), .int (nI (zLen o (L a) (L d)))]) (n := 20) (lv := [(0, .ref (T 0)), (1, .int (nI o)), (2, .int (nI b1)), (3, .int (nI a)), (4, .int (nI d)), (5, .int (nI (zLen o (L a) (L d))))]) (Nat.le_of_ble_eq_true rfl) rfl (fun ls hl => ?_)
  have hLa := ok.2.1 a
  have hLd := ok.2.1 d
  have hp64 := zLong_lt b1 (mR C a) hLa
  have hq64 := zLong_lt b1 (mR C d) hLd
  refine lv_aload_n hx hb dMo_numbers_0 rfl (lv_at hl 0 rfl) ?_
  refine lv_iload_n hx hb dMo_numbers_1 rfl (lv_at hl 3 rfl) ?_
  refine nz_vi (As := [.int (nI a)]) (rest := []) S (c_Mo_clear l D cA T hT 0 C L O c0 ok a ha) kMo_53 ⟨rfl, rfl, Nat.le_of_ble_eq_true rfl, Nat.le_of_ble_eq_true rfl⟩ ⟨Nat.zero_le _, Nat.zero_le _⟩ moP.bl (mo_ob hK hP) (moP.to hP hK) rfl hl.1 rfl (Nat.le_of_ble_eq_true rfl) dMo_numbers_2 (fun r1 er1 => ?_)
  subst er1
  refine lv_if_eq (tgt := 17) hx hb dMo_numbers_5 (by decide) (fun c2 => ?_) (fun c2 => ?_)
  · refine lv_aload_n hx hb dMo_numbers_17 rfl (lv_at hl 0 rfl) ?_
    refine lv_aload_n hx hb dMo_numbers_18 rfl (lv_at hl 0 rfl) ?_
    refine mo_getL S hK hP dMo_numbers_19 ?_
    refine lv_iload_n hx hb dMo_numbers_22 rfl (lv_at hl 3 rfl) ?_
    refine mo_ldL (j := a) S hK hP ha dMo_numbers_23 ?_
    refine lv_if_eq (tgt := 37) hx hb dMo_numbers_24 (by decide) (fun c3 => ?_) (fun c3 => ?_)
    · have mc3 : (L a) = 0 := (nI_eq (a := (L a)) (b := 0) (by omega) (by omega)).mp c3
      refine lv_iconst (v := 0) hx hb dMo_numbers_37 (by decide) ?_
      refine lv_goto (tgt := 43) hx hb dMo_numbers_38 (by decide) ?_
      refine mo_putc (c1 := 0) S hT hK hP hS dMo_numbers_43 (fun H locs hP hS => ?_)
      refine lv_iconst (v := 0) hx hb dMo_numbers_46 (by decide) ?_
      refine lv_istore (lv' := [(6, .int 0), (0, .ref (T 0)), (1, .int (nI o)), (2, .int (nI b1)), (3, .int (nI a)), (4, .int (nI d)), (5, .int (nI (zLen o (L a) (L d))))]) hx hb dMo_numbers_47 hl (by decide) rfl (fun ls hl => ?_)
      have hk0 : kCalc o b1 (mR C a) (L a) (mR C d) (L d) = 0 := by unfold kCalc; rw [if_neg (by omega), if_neg (fun q => zCnt_n c2 q.1)]
      have hn0 : nCalc o (mR C a) (L a) (mR C d) (L d) = 0 := by unfold nCalc; rw [if_neg (fun q => zCnt_n c2 q.1), if_pos (by omega)]
      rw [← pov_0 (fun _ => 1) (O) 0] at hP
      refine lpM_numX l D cA T hT 0 C L O 0 (by omega) S hK (fun H locs ls hP hS hl => ?_) (0 + 1) 0 (by omega) (by omega) _ _ hP hS ls (lv_sub hl [1, 0] rfl)
      exact W.vret hx hb hr (fun t ht hW => ⟨⟨(), rfl, trivial, pov (fun _ => 1) O 0 0, 0, fun _ => ⟨hn0.symm, by rw [hn0]; exact fun k hk => by rw [pov_in (Nat.zero_le _) (by omega)]; unfold fCalc; rw [if_neg (fun q => zCnt_n c2 q.1)]⟩, pov_lt (fun _ _ _ => (by decide : (1 : Nat) < 9)) ok.2.2, by rw [hk0, ht]; exact hP⟩, hS.F ht⟩) hS.2.2 dMo_numbers_72
    · have mc3 : ¬ (L a) = 0 := fun h => c3 ((nI_eq (a := (L a)) (b := 0) (by omega) (by omega)).mpr h)
      refine lv_aload_n hx hb dMo_numbers_27 rfl (lv_at hl 0 rfl) ?_
      refine mo_getL S hK hP dMo_numbers_28 ?_
      refine lv_iload hx hb dMo_numbers_31 (lv_at hl 4 rfl) ?_
      refine mo_ldL (j := d) S hK hP hd dMo_numbers_33 ?_
      refine lv_if_ne (tgt := 41) hx hb dMo_numbers_34 (by decide) (fun c4 => ?_) (fun c4 => ?_)
      · have mc4 : ¬ (L d) = 0 := fun h => c4 ((nI_eq (a := (L d)) (b := 0) (by omega) (by omega)).mpr h)
        refine lv_iload hx hb dMo_numbers_41 (lv_at hl 5 rfl) ?_
        refine mo_putc (c1 := zLen o (L a) (L d)) S hT hK hP hS dMo_numbers_43 (fun H locs hP hS => ?_)
        refine lv_iconst (v := 0) hx hb dMo_numbers_46 (by decide) ?_
        refine lv_istore (lv' := [(6, .int 0), (0, .ref (T 0)), (1, .int (nI o)), (2, .int (nI b1)), (3, .int (nI a)), (4, .int (nI d)), (5, .int (nI (zLen o (L a) (L d))))]) hx hb dMo_numbers_47 hl (by decide) rfl (fun ls hl => ?_)
        have hk0 : kCalc o b1 (mR C a) (L a) (mR C d) (L d) = 0 := by unfold kCalc; rw [if_neg (by omega), if_neg (fun q => zCnt_n c2 q.1)]
        have hn0 : nCalc o (mR C a) (L a) (mR C d) (L d) = zLen o (L a) (L d) := by unfold nCalc; rw [if_neg (fun q => zCnt_n c2 q.1), if_neg (by omega)]
        rw [← pov_0 (fun _ => 1) (O) 0] at hP
        refine lpM_numX l D cA T hT 0 C L O (zLen o (L a) (L d)) (by omega) S hK (fun H locs ls hP hS hl => ?_) (zLen o (L a) (L d) + 1) 0 (by omega) (by omega) _ _ hP hS ls (lv_sub hl [1, 0] rfl)
        exact W.vret hx hb hr (fun t ht hW => ⟨⟨(), rfl, trivial, pov (fun _ => 1) O 0 (zLen o (L a) (L d)), (zLen o (L a) (L d)), fun _ => ⟨hn0.symm, by rw [hn0]; exact fun k hk => by rw [pov_in (Nat.zero_le _) (by omega)]; unfold fCalc; rw [if_neg (fun q => zCnt_n c2 q.1)]⟩, pov_lt (fun _ _ _ => (by decide : (1 : Nat) < 9)) ok.2.2, by rw [hk0, ht]; exact hP⟩, hS.F ht⟩) hS.2.2 dMo_numbers_72
      · have mc4 : (L d) = 0 := (nI_eq (a := (L d)) (b := 0) (by omega) (by omega)).mp c4
        refine lv_iconst (v := 0) hx hb dMo_numbers_37 (by decide) ?_
        refine lv_goto (tgt := 43) hx hb dMo_numbers_38 (by decide) ?_
        refine mo_putc (c1 := 0) S hT hK hP hS dMo_numbers_43 (fun H locs hP hS => ?_)
        refine lv_iconst (v := 0) hx hb dMo_numbers_46 (by decide) ?_
        refine lv_istore (lv' := [(6, .int 0), (0, .ref (T 0)), (1, .int (nI o)), (2, .int (nI b1)), (3, .int (nI a)), (4, .int (nI d)), (5, .int (nI (zLen o (L a) (L d))))]) hx hb dMo_numbers_47 hl (by decide) rfl (fun ls hl => ?_)
        have hk0 : kCalc o b1 (mR C a) (L a) (mR C d) (L d) = 0 := by unfold kCalc; rw [if_neg (by omega), if_neg (fun q => zCnt_n c2 q.1)]
        have hn0 : nCalc o (mR C a) (L a) (mR C d) (L d) = 0 := by unfold nCalc; rw [if_neg (fun q => zCnt_n c2 q.1), if_pos (by omega)]
        rw [← pov_0 (fun _ => 1) (O) 0] at hP
        refine lpM_numX l D cA T hT 0 C L O 0 (by omega) S hK (fun H locs ls hP hS hl => ?_) (0 + 1) 0 (by omega) (by omega) _ _ hP hS ls (lv_sub hl [1, 0] rfl)
        exact W.vret hx hb hr (fun t ht hW => ⟨⟨(), rfl, trivial, pov (fun _ => 1) O 0 0, 0, fun _ => ⟨hn0.symm, by rw [hn0]; exact fun k hk => by rw [pov_in (Nat.zero_le _) (by omega)]; unfold fCalc; rw [if_neg (fun q => zCnt_n c2 q.1)]⟩, pov_lt (fun _ _ _ => (by decide : (1 : Nat) < 9)) ok.2.2, by rw [hk0, ht]; exact hP⟩, hS.F ht⟩) hS.2.2 dMo_numbers_72
  · refine lv_aload_n hx hb dMo_numbers_8 rfl (lv_at hl 0 rfl) ?_
    refine lv_iload hx hb dMo_numbers_9 (lv_at hl 4 rfl) ?_
    refine nz_vi (As := [.int (nI d)]) (rest := []) S (c_Mo_clear l D cA T hT 0 C L O c0 ok d hd) kMo_53 ⟨rfl, rfl, Nat.le_of_ble_eq_true rfl, Nat.le_of_ble_eq_true rfl⟩ ⟨Nat.zero_le _, Nat.zero_le _⟩ moP.bl (mo_ob hK hP) (moP.to hP hK) rfl hl.1 rfl (Nat.le_of_ble_eq_true rfl) dMo_numbers_11 (fun r5 er5 => ?_)
    subst er5
    refine lv_if_ne (tgt := 73) hx hb dMo_numbers_14 (by decide) (fun c6 => ?_) (fun c6 => ?_)
    · refine lv_aload_n hx hb dMo_numbers_73 rfl (lv_at hl 0 rfl) ?_
      refine lv_iload_n hx hb dMo_numbers_74 rfl (lv_at hl 3 rfl) ?_
      refine lv_iload_n hx hb dMo_numbers_75 rfl (lv_at hl 2 rfl) ?_
      refine nz_vl (As := [.int (nI a), .int (nI b1)]) (rest := []) S (c_Mo_value l D cA T hT 0 C L O c0 ok a ha b1 hb1) kMo_56 ⟨rfl, rfl, Nat.le_of_ble_eq_true rfl, Nat.le_of_ble_eq_true rfl⟩ ⟨Nat.zero_le _, Nat.zero_le _⟩ moP.bl (mo_ob hK hP) (moP.to hP hK) rfl hl.1 rfl (Nat.le_of_ble_eq_true rfl) dMo_numbers_76 (fun r7 er7 => ?_)
      subst er7
      refine lv_lstore (lv' := [(6, .long (lN (zLong b1 (mR C a) (L a)))), (0, .ref (T 0)), (1, .int (nI o)), (2, .int (nI b1)), (3, .int (nI a)), (4, .int (nI d)), (5, .int (nI (zLen o (L a) (L d))))]) hx hb dMo_numbers_79 hl (by decide) rfl (fun ls hl => ?_)
      refine lv_aload_n hx hb dMo_numbers_81 rfl (lv_at hl 1 rfl) ?_
      refine lv_iload hx hb dMo_numbers_82 (lv_at hl 5 rfl) ?_
      refine lv_iload_n hx hb dMo_numbers_84 rfl (lv_at hl 3 rfl) ?_
      refine nz_vl (As := [.int (nI d), .int (nI b1)]) (rest := []) S (c_Mo_value l D cA T hT 0 C L O c0 ok d hd b1 hb1) kMo_56 ⟨rfl, rfl, Nat.le_of_ble_eq_true rfl, Nat.le_of_ble_eq_true rfl⟩ ⟨Nat.zero_le _, Nat.zero_le _⟩ moP.bl (mo_ob hK hP) (moP.to hP hK) rfl hl.1 rfl (Nat.le_of_ble_eq_true rfl) dMo_numbers_85 (fun r8 er8 => ?_)
      subst er8
      refine lv_lstore (lv' := [(8, .long (lN (zLong b1 (mR C d) (L d)))), (6, .long (lN (zLong b1 (mR C a) (L a)))), (0, .ref (T 0)), (1, .int (nI o)), (2, .int (nI b1)), (3, .int (nI a)), (4, .int (nI d)), (5, .int (nI (zLen o (L a) (L d))))]) hx hb dMo_numbers_88 hl (by decide) rfl (fun ls hl => ?_)
      refine lv_aload_n hx hb dMo_numbers_90 rfl (lv_at hl 2 rfl) ?_
      refine lv_iload_n hx hb dMo_numbers_91 rfl (lv_at hl 3 rfl) ?_
      refine lv_bipush (v := 9) hx hb dMo_numbers_92 (by decide) ?_
      refine lv_icmp_le (tgt := 108) hx hb dMo_numbers_94 (by decide) (fun c9 => ?_) (fun c9 => ?_)
      · have mc9 : o ≤ 9 := (nI_leI (a := o) (b := 9) (by omega) (by omega)).mp c9
        refine lv_iconst (v := 0) hx hb dMo_numbers_108 (by decide) ?_
        refine mo_putk (k1 := 0) S hT hK hP hS dMo_numbers_109 (fun H locs hP hS => ?_)
        have hk0 : kCalc o b1 (mR C a) (L a) (mR C d) (L d) = 0 := by unfold kCalc; rw [if_neg (by omega), if_neg (fun q => absurd q.2.2.1 (by omega))]
        refine lv_aload_n hx hb dMo_numbers_112 rfl (lv_at hl 2 rfl) ?_
        refine mo_getk S hK hP dMo_numbers_113 ?_
        refine lv_if_le (tgt := 120) hx hb dMo_numbers_116 (by decide) (fun _ => ?_) (fun c10 => absurd (by decide) c10)
        refine lv_iload_n hx hb dMo_numbers_120 rfl (lv_at hl 3 rfl) ?_
        refine lv_bipush (v := 10) hx hb dMo_numbers_121 (by decide) ?_
        refine lv_icmp_ge (tgt := 166) hx hb dMo_numbers_123 (by decide) (fun c11 => ?_) (fun c11 => ?_)
        · have mc11 : 10 ≤ o := (nI_leI (a := 10) (b := o) (by omega) (by omega)).mp c11
          omega
        · have mc11 : o < 10 := Nat.lt_of_not_le (fun h => c11 ((nI_leI (a := 10) (b := o) (by omega) (by omega)).mpr h))
          refine lv_aload_n hx hb dMo_numbers_126 rfl (lv_at hl 2 rfl) ?_
          refine lv_iload hx hb dMo_numbers_127 (lv_at hl 7 rfl) ?_
          refine lv_iload_n hx hb dMo_numbers_129 rfl (lv_at hl 3 rfl) ?_
          refine lv_bipush (v := 7) hx hb dMo_numbers_130 (by decide) ?_
          refine lv_icmp_ne (tgt := 143) hx hb dMo_numbers_132 (by decide) (fun c12 => ?_) (fun c12 => ?_)
          · have mc12 : ¬ o = 7 := fun h => c12 ((nI_eq (a := o) (b := 7) (by omega) (by omega)).mpr h)
            refine lv_iload_n hx hb dMo_numbers_143 rfl (lv_at hl 3 rfl) ?_
            refine lv_bipush (v := 8) hx hb dMo_numbers_144 (by decide) ?_
            refine lv_icmp_ne (tgt := 157) hx hb dMo_numbers_146 (by decide) (fun c13 => ?_) (fun c13 => ?_)
            · have mc13 : ¬ o = 8 := fun h => c13 ((nI_eq (a := o) (b := 8) (by omega) (by omega)).mpr h)
              refine lv_lload hx hb dMo_numbers_157 (lv_at hl 1 rfl) ?_
              refine lv_lload hx hb dMo_numbers_159 (lv_at hl 0 rfl) ?_
              refine lv_lmul hx hb dMo_numbers_161 ?_
              refine nz_eql (zSum_9 _ _) ?_
              refine mo_call (As := [.int (nI (zLen o (L a) (L d))), .long (lN (zSum 9 (zLong b1 (mR C a) (L a)) (zLong b1 (mR C d) (L d))))]) (rest := []) S (c_Mo_bits l D cA T hT 0 C L O c0 (zLen o (L a) (L d)) hz (zSum 9 (zLong b1 (mR C a) (L a)) (zLong b1 (mR C d) (L d))) (zSum_lt _ _ _)) kMo_44 ⟨rfl, rfl, Nat.le_of_ble_eq_true rfl, Nat.le_of_ble_eq_true rfl⟩ ⟨Nat.zero_le _, Nat.zero_le _⟩ (mo_ob hK hP) hP hK hS rfl hl.1 rfl (Nat.le_of_ble_eq_true rfl) dMo_numbers_162 (fun H locs hP hS => ?_)
              have hn0 : nCalc o (mR C a) (L a) (mR C d) (L d) = zLen o (L a) (L d) := by unfold nCalc; rw [if_pos ⟨zCnt_y c2, zCnt_y c6⟩]
              exact W.vret hx hb hr (fun t ht hW => ⟨⟨(), rfl, trivial, pov (zPut (zSum 9 (zLong b1 (mR C a) (L a)) (zLong b1 (mR C d) (L d)))) O 0 (zLen o (L a) (L d)), (zLen o (L a) (L d)), fun _ => ⟨hn0.symm, by rw [hn0]; exact fun k hk => by rw [pov_in (Nat.zero_le _) (by omega)]; unfold fCalc zArith; rw [if_pos ⟨zCnt_y c2, zCnt_y c6⟩, if_pos (by omega), show o = 9 by omega]⟩, pov_lt (fun _ _ _ => zPut_lt _ _) ok.2.2, by rw [hk0, ht]; exact hP⟩, hS.F ht⟩) hS.2.2 dMo_numbers_165
            · have mc13 : o = 8 := (nI_eq (a := o) (b := 8) (by omega) (by omega)).mp c13
              refine lv_lload hx hb dMo_numbers_149 (lv_at hl 1 rfl) ?_
              refine lv_lload hx hb dMo_numbers_151 (lv_at hl 0 rfl) ?_
              refine lv_lsub hx hb dMo_numbers_153 ?_
              refine nz_eql (zSum_8 hq64) ?_
              refine lv_goto (tgt := 162) hx hb dMo_numbers_154 (by decide) ?_
              refine mo_call (As := [.int (nI (zLen o (L a) (L d))), .long (lN (zSum 8 (zLong b1 (mR C a) (L a)) (zLong b1 (mR C d) (L d))))]) (rest := []) S (c_Mo_bits l D cA T hT 0 C L O c0 (zLen o (L a) (L d)) hz (zSum 8 (zLong b1 (mR C a) (L a)) (zLong b1 (mR C d) (L d))) (zSum_lt _ _ _)) kMo_44 ⟨rfl, rfl, Nat.le_of_ble_eq_true rfl, Nat.le_of_ble_eq_true rfl⟩ ⟨Nat.zero_le _, Nat.zero_le _⟩ (mo_ob hK hP) hP hK hS rfl hl.1 rfl (Nat.le_of_ble_eq_true rfl) dMo_numbers_162 (fun H locs hP hS => ?_)
              have hn0 : nCalc o (mR C a) (L a) (mR C d) (L d) = zLen o (L a) (L d) := by unfold nCalc; rw [if_pos ⟨zCnt_y c2, zCnt_y c6⟩]
              exact W.vret hx hb hr (fun t ht hW => ⟨⟨(), rfl, trivial, pov (zPut (zSum 8 (zLong b1 (mR C a) (L a)) (zLong b1 (mR C d) (L d)))) O 0 (zLen o (L a) (L d)), (zLen o (L a) (L d)), fun _ => ⟨hn0.symm, by rw [hn0]; exact fun k hk => by rw [pov_in (Nat.zero_le _) (by omega)]; unfold fCalc zArith; rw [if_pos ⟨zCnt_y c2, zCnt_y c6⟩, if_pos (by omega), show o = 8 by omega]⟩, pov_lt (fun _ _ _ => zPut_lt _ _) ok.2.2, by rw [hk0, ht]; exact hP⟩, hS.F ht⟩) hS.2.2 dMo_numbers_165
          · have mc12 : o = 7 := (nI_eq (a := o) (b := 7) (by omega) (by omega)).mp c12
            refine lv_lload hx hb dMo_numbers_135 (lv_at hl 1 rfl) ?_
            refine lv_lload hx hb dMo_numbers_137 (lv_at hl 0 rfl) ?_
            refine lv_ladd hx hb dMo_numbers_139 ?_
            refine nz_eql (zSum_7 _ _) ?_
            refine lv_goto (tgt := 162) hx hb dMo_numbers_140 (by decide) ?_
            refine mo_call (As := [.int (nI (zLen o (L a) (L d))), .long (lN (zSum 7 (zLong b1 (mR C a) (L a)) (zLong b1 (mR C d) (L d))))]) (rest := []) S (c_Mo_bits l D cA T hT 0 C L O c0 (zLen o (L a) (L d)) hz (zSum 7 (zLong b1 (mR C a) (L a)) (zLong b1 (mR C d) (L d))) (zSum_lt _ _ _)) kMo_44 ⟨rfl, rfl, Nat.le_of_ble_eq_true rfl, Nat.le_of_ble_eq_true rfl⟩ ⟨Nat.zero_le _, Nat.zero_le _⟩ (mo_ob hK hP) hP hK hS rfl hl.1 rfl (Nat.le_of_ble_eq_true rfl) dMo_numbers_162 (fun H locs hP hS => ?_)
            have hn0 : nCalc o (mR C a) (L a) (mR C d) (L d) = zLen o (L a) (L d) := by unfold nCalc; rw [if_pos ⟨zCnt_y c2, zCnt_y c6⟩]
            exact W.vret hx hb hr (fun t ht hW => ⟨⟨(), rfl, trivial, pov (zPut (zSum 7 (zLong b1 (mR C a) (L a)) (zLong b1 (mR C d) (L d)))) O 0 (zLen o (L a) (L d)), (zLen o (L a) (L d)), fun _ => ⟨hn0.symm, by rw [hn0]; exact fun k hk => by rw [pov_in (Nat.zero_le _) (by omega)]; unfold fCalc zArith; rw [if_pos ⟨zCnt_y c2, zCnt_y c6⟩, if_pos (by omega), show o = 7 by omega]⟩, pov_lt (fun _ _ _ => zPut_lt _ _) ok.2.2, by rw [hk0, ht]; exact hP⟩, hS.F ht⟩) hS.2.2 dMo_numbers_165
      · have mc9 : 9 < o := Nat.lt_of_not_le (fun h => c9 ((nI_leI (a := o) (b := 9) (by omega) (by omega)).mpr h))
        refine lv_lload hx hb dMo_numbers_97 (lv_at hl 0 rfl) ?_
        refine lv_lconst (v := 0) hx hb dMo_numbers_99 (by decide) ?_
        refine W.lcmp hx hb dMo_numbers_100 ?_
        refine lv_if_ne (tgt := 108) hx hb dMo_numbers_101 (by decide) (fun c14 => ?_) (fun c14 => ?_)
        · refine lv_iconst (v := 0) hx hb dMo_numbers_108 (by decide) ?_
          refine mo_putk (k1 := 0) S hT hK hP hS dMo_numbers_109 (fun H locs hP hS => ?_)
          have hq0 : 0 < zLong b1 (mR C d) (L d) := Nat.pos_of_ne_zero (fun q => c14 ((lcmp_z hq64).mpr q))
          have hk0 : kCalc o b1 (mR C a) (L a) (mR C d) (L d) = 0 := by unfold kCalc; rw [if_neg (by omega), if_neg (fun q => absurd q.2.2.2 (by omega))]
          refine lv_aload_n hx hb dMo_numbers_112 rfl (lv_at hl 2 rfl) ?_
          refine mo_getk S hK hP dMo_numbers_113 ?_
          refine lv_if_le (tgt := 120) hx hb dMo_numbers_116 (by decide) (fun _ => ?_) (fun c15 => absurd (by decide) c15)
          refine lv_iload_n hx hb dMo_numbers_120 rfl (lv_at hl 3 rfl) ?_
          refine lv_bipush (v := 10) hx hb dMo_numbers_121 (by decide) ?_
          refine lv_icmp_ge (tgt := 166) hx hb dMo_numbers_123 (by decide) (fun c16 => ?_) (fun c16 => ?_)
          · have mc16 : 10 ≤ o := (nI_leI (a := 10) (b := o) (by omega) (by omega)).mp c16
            have hcy := zCnt_y c2
            have hcz := zCnt_y c6
            have ho3 : o = 10 ∨ o = 11 ∨ o = 12 := by omega
            rcases (show b1 = 0 ∨ b1 = 1 by omega) with rfl | rfl
            · rcases ho3 with rfl | rfl | rfl
              · refine lv_iload_n hx hb dMo_numbers_166 rfl (lv_at hl 4 rfl) ?_
                refine lv_if_eq (tgt := 181) hx hb dMo_numbers_167 (by decide) (fun _ => ?_) (fun c17 => absurd (by decide) c17)
                refine lv_iconst (v := 0) hx hb dMo_numbers_181 (by decide) ?_
                refine lv_istore (lv' := [(10, .int 0), (8, .long (lN (zLong 0 (mR C d) (L d)))), (6, .long (lN (zLong 0 (mR C a) (L a)))), (0, .ref (T 0)), (1, .int 10), (2, .int 0), (3, .int (nI a)), (4, .int (nI d)), (5, .int (nI (zLen 10 (L a) (L d))))]) hx hb dMo_numbers_182 hl (by decide) rfl (fun ls hl => ?_)
                refine lv_iload_n hx hb dMo_numbers_184 rfl (lv_at hl 5 rfl) ?_
                refine lv_if_eq (tgt := 199) hx hb dMo_numbers_185 (by decide) (fun _ => ?_) (fun c18 => absurd (by decide) c18)
                refine lv_iconst (v := 0) hx hb dMo_numbers_199 (by decide) ?_
                refine lv_istore (lv' := [(11, .int 0), (10, .int 0), (8, .long (lN (zLong 0 (mR C d) (L d)))), (6, .long (lN (zLong 0 (mR C a) (L a)))), (0, .ref (T 0)), (1, .int 10), (2, .int 0), (3, .int (nI a)), (4, .int (nI d)), (5, .int (nI (zLen 10 (L a) (L d))))]) hx hb dMo_numbers_200 hl (by decide) rfl (fun ls hl => ?_)
                refine lv_iload hx hb dMo_numbers_202 (lv_at hl 1 rfl) ?_
                refine lv_if_eq (tgt := 213) hx hb dMo_numbers_204 (by decide) (fun _ => ?_) (fun c19 => absurd (by decide) c19)
                refine lv_lload hx hb dMo_numbers_213 (lv_at hl 3 rfl) ?_
                refine lv_lstore (lv' := [(12, .long (lN (zLong 0 (mR C a) (L a)))), (11, .int 0), (10, .int 0), (8, .long (lN (zLong 0 (mR C d) (L d)))), (6, .long (lN (zLong 0 (mR C a) (L a)))), (0, .ref (T 0)), (1, .int 10), (2, .int 0), (3, .int (nI a)), (4, .int (nI d)), (5, .int (nI (zLen 10 (L a) (L d))))]) hx hb dMo_numbers_215 hl (by decide) rfl (fun ls hl => ?_)
                refine lv_iload hx hb dMo_numbers_217 (lv_at hl 1 rfl) ?_
                refine lv_if_eq (tgt := 228) hx hb dMo_numbers_219 (by decide) (fun _ => ?_) (fun c20 => absurd (by decide) c20)
                refine lv_lload hx hb dMo_numbers_228 (lv_at hl 3 rfl) ?_
                refine lv_lstore (lv' := [(14, .long (lN (zLong 0 (mR C d) (L d)))), (12, .long (lN (zLong 0 (mR C a) (L a)))), (11, .int 0), (10, .int 0), (8, .long (lN (zLong 0 (mR C d) (L d)))), (6, .long (lN (zLong 0 (mR C a) (L a)))), (0, .ref (T 0)), (1, .int 10), (2, .int 0), (3, .int (nI a)), (4, .int (nI d)), (5, .int (nI (zLen 10 (L a) (L d))))]) hx hb dMo_numbers_230 hl (by decide) rfl (fun ls hl => ?_)
                refine lv_aload_n hx hb dMo_numbers_232 rfl (lv_at hl 6 rfl) ?_
                refine lv_lload hx hb dMo_numbers_233 (lv_at hl 1 rfl) ?_
                refine lv_lload hx hb dMo_numbers_235 (lv_at hl 0 rfl) ?_
                refine lv_iconst (v := 1) hx hb dMo_numbers_237 (by decide) ?_
                refine nz_vl (As := [.long (lN (zLong 0 (mR C a) (L a))), .long (lN (zLong 0 (mR C d) (L d))), .int (nI 1)]) (rest := []) S (c_Mo_divide l T (zLong 0 (mR C a) (L a)) (zLong 0 (mR C d) (L d)) 1 (by decide) hp64 hq0 hq64) kMo_80 ⟨rfl, rfl, Nat.le_of_ble_eq_true rfl, Nat.le_of_ble_eq_true rfl⟩ ⟨Nat.zero_le _, Nat.zero_le _⟩ (fun _ _ _ _ h => h) (mo_ob hK hP) (fun _ _ _ => trivial) rfl hl.1 rfl (Nat.le_of_ble_eq_true rfl) dMo_numbers_238 (fun r21 er21 => ?_)
                subst er21
                refine nz_eql (y := lN ((zLong 0 (mR C a) (L a)) / (zLong 0 (mR C d) (L d)))) (congrArg lN (if_pos rfl)) ?_
                refine lv_lstore (lv' := [(16, .long (lN ((zLong 0 (mR C a) (L a)) / (zLong 0 (mR C d) (L d))))), (14, .long (lN (zLong 0 (mR C d) (L d)))), (12, .long (lN (zLong 0 (mR C a) (L a)))), (11, .int 0), (10, .int 0), (8, .long (lN (zLong 0 (mR C d) (L d)))), (6, .long (lN (zLong 0 (mR C a) (L a)))), (0, .ref (T 0)), (1, .int 10), (2, .int 0), (3, .int (nI a)), (4, .int (nI d)), (5, .int (nI (zLen 10 (L a) (L d))))]) hx hb dMo_numbers_241 hl (by decide) rfl (fun ls hl => ?_)
                refine lv_aload_n hx hb dMo_numbers_243 rfl (lv_at hl 7 rfl) ?_
                refine lv_lload hx hb dMo_numbers_244 (lv_at hl 2 rfl) ?_
                refine lv_lload hx hb dMo_numbers_246 (lv_at hl 1 rfl) ?_
                refine lv_iconst (v := 0) hx hb dMo_numbers_248 (by decide) ?_
                refine nz_vl (As := [.long (lN (zLong 0 (mR C a) (L a))), .long (lN (zLong 0 (mR C d) (L d))), .int (nI 0)]) (rest := []) S (c_Mo_divide l T (zLong 0 (mR C a) (L a)) (zLong 0 (mR C d) (L d)) 0 (by decide) hp64 hq0 hq64) kMo_80 ⟨rfl, rfl, Nat.le_of_ble_eq_true rfl, Nat.le_of_ble_eq_true rfl⟩ ⟨Nat.zero_le _, Nat.zero_le _⟩ (fun _ _ _ _ h => h) (mo_ob hK hP) (fun _ _ _ => trivial) rfl hl.1 rfl (Nat.le_of_ble_eq_true rfl) dMo_numbers_249 (fun r22 er22 => ?_)
                subst er22
                refine nz_eql (y := lN ((zLong 0 (mR C a) (L a)) % (zLong 0 (mR C d) (L d)))) (congrArg lN (if_neg (by decide))) ?_
                refine lv_lstore (lv' := [(18, .long (lN ((zLong 0 (mR C a) (L a)) % (zLong 0 (mR C d) (L d))))), (16, .long (lN ((zLong 0 (mR C a) (L a)) / (zLong 0 (mR C d) (L d))))), (14, .long (lN (zLong 0 (mR C d) (L d)))), (12, .long (lN (zLong 0 (mR C a) (L a)))), (11, .int 0), (10, .int 0), (8, .long (lN (zLong 0 (mR C d) (L d)))), (6, .long (lN (zLong 0 (mR C a) (L a)))), (0, .ref (T 0)), (1, .int 10), (2, .int 0), (3, .int (nI a)), (4, .int (nI d)), (5, .int (nI (zLen 10 (L a) (L d))))]) hx hb dMo_numbers_252 hl (by decide) rfl (fun ls hl => ?_)
                refine lv_iload hx hb dMo_numbers_254 (lv_at hl 5 rfl) ?_
                refine lv_iload hx hb dMo_numbers_256 (lv_at hl 4 rfl) ?_
                refine lv_icmp_eq (tgt := 267) hx hb dMo_numbers_258 (by decide) (fun _ => ?_) (fun c23 => absurd (by decide) c23)
                refine lv_lload hx hb dMo_numbers_267 (lv_at hl 1 rfl) ?_
                refine lv_lstore (lv' := [(16, .long (lN ((zLong 0 (mR C a) (L a)) / (zLong 0 (mR C d) (L d))))), (18, .long (lN ((zLong 0 (mR C a) (L a)) % (zLong 0 (mR C d) (L d))))), (14, .long (lN (zLong 0 (mR C d) (L d)))), (12, .long (lN (zLong 0 (mR C a) (L a)))), (11, .int 0), (10, .int 0), (8, .long (lN (zLong 0 (mR C d) (L d)))), (6, .long (lN (zLong 0 (mR C a) (L a)))), (0, .ref (T 0)), (1, .int 10), (2, .int 0), (3, .int (nI a)), (4, .int (nI d)), (5, .int (nI (zLen 10 (L a) (L d))))]) hx hb dMo_numbers_269 hl (by decide) rfl (fun ls hl => ?_)
                refine lv_iload hx hb dMo_numbers_271 (lv_at hl 5 rfl) ?_
                refine lv_if_eq (tgt := 282) hx hb dMo_numbers_273 (by decide) (fun _ => ?_) (fun c24 => absurd (by decide) c24)
                refine lv_lload hx hb dMo_numbers_282 (lv_at hl 1 rfl) ?_
                refine lv_lstore (lv' := [(18, .long (lN ((zLong 0 (mR C a) (L a)) % (zLong 0 (mR C d) (L d))))), (16, .long (lN ((zLong 0 (mR C a) (L a)) / (zLong 0 (mR C d) (L d))))), (14, .long (lN (zLong 0 (mR C d) (L d)))), (12, .long (lN (zLong 0 (mR C a) (L a)))), (11, .int 0), (10, .int 0), (8, .long (lN (zLong 0 (mR C d) (L d)))), (6, .long (lN (zLong 0 (mR C a) (L a)))), (0, .ref (T 0)), (1, .int 10), (2, .int 0), (3, .int (nI a)), (4, .int (nI d)), (5, .int (nI (zLen 10 (L a) (L d))))]) hx hb dMo_numbers_284 hl (by decide) rfl (fun ls hl => ?_)
                refine lv_iload_n hx hb dMo_numbers_286 rfl (lv_at hl 9 rfl) ?_
                refine lv_bipush (v := 12) hx hb dMo_numbers_287 (by decide) ?_
                refine lv_icmp_ne (tgt := 313) hx hb dMo_numbers_289 (by decide) (fun _ => ?_) (fun c25 => absurd c25 (by decide))
                refine lv_aload_n hx hb dMo_numbers_313 rfl (lv_at hl 8 rfl) ?_
                refine lv_iload hx hb dMo_numbers_314 (lv_at hl 13 rfl) ?_
                refine lv_iload_n hx hb dMo_numbers_316 rfl (lv_at hl 9 rfl) ?_
                refine lv_bipush (v := 10) hx hb dMo_numbers_317 (by decide) ?_
                refine lv_icmp_ne (tgt := 327) hx hb dMo_numbers_319 (by decide) (fun c26 => absurd (by decide) c26) (fun _ => ?_)
                refine lv_lload hx hb dMo_numbers_322 (lv_at hl 1 rfl) ?_
                refine lv_goto (tgt := 329) hx hb dMo_numbers_324 (by decide) ?_
                refine nz_eql (y := lN (zArith 10 0 (zLong 0 (mR C a) (L a)) (zLong 0 (mR C d) (L d)))) (by rw [zArith, if_neg (by decide), zDiv, if_neg (by decide), if_pos rfl]) ?_
                refine mo_call (As := [.int (nI (zLen 10 (L a) (L d))), .long (lN (zArith 10 0 (zLong 0 (mR C a) (L a)) (zLong 0 (mR C d) (L d))))]) (rest := []) S (c_Mo_bits l D cA T hT 0 C L O c0 (zLen 10 (L a) (L d)) hz (zArith 10 0 (zLong 0 (mR C a) (L a)) (zLong 0 (mR C d) (L d))) (zArith_lt (by decide) hp64 hq0 hq64)) kMo_44 ⟨rfl, rfl, Nat.le_of_ble_eq_true rfl, Nat.le_of_ble_eq_true rfl⟩ ⟨Nat.zero_le _, Nat.zero_le _⟩ (mo_ob hK hP) hP hK hS rfl hl.1 rfl (Nat.le_of_ble_eq_true rfl) dMo_numbers_329 (fun H locs hP hS => ?_)
                have hn0 : nCalc 10 (mR C a) (L a) (mR C d) (L d) = zLen 10 (L a) (L d) := by unfold nCalc; rw [if_pos ⟨hcy, hcz⟩]
                exact W.vret hx hb hr (fun t ht hW => ⟨⟨(), rfl, trivial, pov (zPut (zArith 10 0 (zLong 0 (mR C a) (L a)) (zLong 0 (mR C d) (L d)))) O 0 (zLen 10 (L a) (L d)), (zLen 10 (L a) (L d)), fun _ => ⟨hn0.symm, by rw [hn0]; exact fun k hk => by rw [pov_in (Nat.zero_le _) (by omega)]; unfold fCalc; rw [if_pos ⟨hcy, hcz⟩]⟩, pov_lt (fun _ _ _ => zPut_lt _ _) ok.2.2, by rw [hk0, ht]; exact hP⟩, hS.F ht⟩) hS.2.2 dMo_numbers_332
              · refine lv_iload_n hx hb dMo_numbers_166 rfl (lv_at hl 4 rfl) ?_
                refine lv_if_eq (tgt := 181) hx hb dMo_numbers_167 (by decide) (fun _ => ?_) (fun c27 => absurd (by decide) c27)
                refine lv_iconst (v := 0) hx hb dMo_numbers_181 (by decide) ?_
                refine lv_istore (lv' := [(10, .int 0), (8, .long (lN (zLong 0 (mR C d) (L d)))), (6, .long (lN (zLong 0 (mR C a) (L a)))), (0, .ref (T 0)), (1, .int 11), (2, .int 0), (3, .int (nI a)), (4, .int (nI d)), (5, .int (nI (zLen 11 (L a) (L d))))]) hx hb dMo_numbers_182 hl (by decide) rfl (fun ls hl => ?_)
                refine lv_iload_n hx hb dMo_numbers_184 rfl (lv_at hl 5 rfl) ?_
                refine lv_if_eq (tgt := 199) hx hb dMo_numbers_185 (by decide) (fun _ => ?_) (fun c28 => absurd (by decide) c28)
                refine lv_iconst (v := 0) hx hb dMo_numbers_199 (by decide) ?_
                refine lv_istore (lv' := [(11, .int 0), (10, .int 0), (8, .long (lN (zLong 0 (mR C d) (L d)))), (6, .long (lN (zLong 0 (mR C a) (L a)))), (0, .ref (T 0)), (1, .int 11), (2, .int 0), (3, .int (nI a)), (4, .int (nI d)), (5, .int (nI (zLen 11 (L a) (L d))))]) hx hb dMo_numbers_200 hl (by decide) rfl (fun ls hl => ?_)
                refine lv_iload hx hb dMo_numbers_202 (lv_at hl 1 rfl) ?_
                refine lv_if_eq (tgt := 213) hx hb dMo_numbers_204 (by decide) (fun _ => ?_) (fun c29 => absurd (by decide) c29)
                refine lv_lload hx hb dMo_numbers_213 (lv_at hl 3 rfl) ?_
                refine lv_lstore (lv' := [(12, .long (lN (zLong 0 (mR C a) (L a)))), (11, .int 0), (10, .int 0), (8, .long (lN (zLong 0 (mR C d) (L d)))), (6, .long (lN (zLong 0 (mR C a) (L a)))), (0, .ref (T 0)), (1, .int 11), (2, .int 0), (3, .int (nI a)), (4, .int (nI d)), (5, .int (nI (zLen 11 (L a) (L d))))]) hx hb dMo_numbers_215 hl (by decide) rfl (fun ls hl => ?_)
                refine lv_iload hx hb dMo_numbers_217 (lv_at hl 1 rfl) ?_
                refine lv_if_eq (tgt := 228) hx hb dMo_numbers_219 (by decide) (fun _ => ?_) (fun c30 => absurd (by decide) c30)
                refine lv_lload hx hb dMo_numbers_228 (lv_at hl 3 rfl) ?_
                refine lv_lstore (lv' := [(14, .long (lN (zLong 0 (mR C d) (L d)))), (12, .long (lN (zLong 0 (mR C a) (L a)))), (11, .int 0), (10, .int 0), (8, .long (lN (zLong 0 (mR C d) (L d)))), (6, .long (lN (zLong 0 (mR C a) (L a)))), (0, .ref (T 0)), (1, .int 11), (2, .int 0), (3, .int (nI a)), (4, .int (nI d)), (5, .int (nI (zLen 11 (L a) (L d))))]) hx hb dMo_numbers_230 hl (by decide) rfl (fun ls hl => ?_)
                refine lv_aload_n hx hb dMo_numbers_232 rfl (lv_at hl 6 rfl) ?_
                refine lv_lload hx hb dMo_numbers_233 (lv_at hl 1 rfl) ?_
                refine lv_lload hx hb dMo_numbers_235 (lv_at hl 0 rfl) ?_
                refine lv_iconst (v := 1) hx hb dMo_numbers_237 (by decide) ?_
                refine nz_vl (As := [.long (lN (zLong 0 (mR C a) (L a))), .long (lN (zLong 0 (mR C d) (L d))), .int (nI 1)]) (rest := []) S (c_Mo_divide l T (zLong 0 (mR C a) (L a)) (zLong 0 (mR C d) (L d)) 1 (by decide) hp64 hq0 hq64) kMo_80 ⟨rfl, rfl, Nat.le_of_ble_eq_true rfl, Nat.le_of_ble_eq_true rfl⟩ ⟨Nat.zero_le _, Nat.zero_le _⟩ (fun _ _ _ _ h => h) (mo_ob hK hP) (fun _ _ _ => trivial) rfl hl.1 rfl (Nat.le_of_ble_eq_true rfl) dMo_numbers_238 (fun r31 er31 => ?_)
                subst er31
                refine nz_eql (y := lN ((zLong 0 (mR C a) (L a)) / (zLong 0 (mR C d) (L d)))) (congrArg lN (if_pos rfl)) ?_
                refine lv_lstore (lv' := [(16, .long (lN ((zLong 0 (mR C a) (L a)) / (zLong 0 (mR C d) (L d))))), (14, .long (lN (zLong 0 (mR C d) (L d)))), (12, .long (lN (zLong 0 (mR C a) (L a)))), (11, .int 0), (10, .int 0), (8, .long (lN (zLong 0 (mR C d) (L d)))), (6, .long (lN (zLong 0 (mR C a) (L a)))), (0, .ref (T 0)), (1, .int 11), (2, .int 0), (3, .int (nI a)), (4, .int (nI d)), (5, .int (nI (zLen 11 (L a) (L d))))]) hx hb dMo_numbers_241 hl (by decide) rfl (fun ls hl => ?_)
                refine lv_aload_n hx hb dMo_numbers_243 rfl (lv_at hl 7 rfl) ?_
                refine lv_lload hx hb dMo_numbers_244 (lv_at hl 2 rfl) ?_
                refine lv_lload hx hb dMo_numbers_246 (lv_at hl 1 rfl) ?_
                refine lv_iconst (v := 0) hx hb dMo_numbers_248 (by decide) ?_
                refine nz_vl (As := [.long (lN (zLong 0 (mR C a) (L a))), .long (lN (zLong 0 (mR C d) (L d))), .int (nI 0)]) (rest := []) S (c_Mo_divide l T (zLong 0 (mR C a) (L a)) (zLong 0 (mR C d) (L d)) 0 (by decide) hp64 hq0 hq64) kMo_80 ⟨rfl, rfl, Nat.le_of_ble_eq_true rfl, Nat.le_of_ble_eq_true rfl⟩ ⟨Nat.zero_le _, Nat.zero_le _⟩ (fun _ _ _ _ h => h) (mo_ob hK hP) (fun _ _ _ => trivial) rfl hl.1 rfl (Nat.le_of_ble_eq_true rfl) dMo_numbers_249 (fun r32 er32 => ?_)
                subst er32
                refine nz_eql (y := lN ((zLong 0 (mR C a) (L a)) % (zLong 0 (mR C d) (L d)))) (congrArg lN (if_neg (by decide))) ?_
                refine lv_lstore (lv' := [(18, .long (lN ((zLong 0 (mR C a) (L a)) % (zLong 0 (mR C d) (L d))))), (16, .long (lN ((zLong 0 (mR C a) (L a)) / (zLong 0 (mR C d) (L d))))), (14, .long (lN (zLong 0 (mR C d) (L d)))), (12, .long (lN (zLong 0 (mR C a) (L a)))), (11, .int 0), (10, .int 0), (8, .long (lN (zLong 0 (mR C d) (L d)))), (6, .long (lN (zLong 0 (mR C a) (L a)))), (0, .ref (T 0)), (1, .int 11), (2, .int 0), (3, .int (nI a)), (4, .int (nI d)), (5, .int (nI (zLen 11 (L a) (L d))))]) hx hb dMo_numbers_252 hl (by decide) rfl (fun ls hl => ?_)
                refine lv_iload hx hb dMo_numbers_254 (lv_at hl 5 rfl) ?_
                refine lv_iload hx hb dMo_numbers_256 (lv_at hl 4 rfl) ?_
                refine lv_icmp_eq (tgt := 267) hx hb dMo_numbers_258 (by decide) (fun _ => ?_) (fun c33 => absurd (by decide) c33)
                refine lv_lload hx hb dMo_numbers_267 (lv_at hl 1 rfl) ?_
                refine lv_lstore (lv' := [(16, .long (lN ((zLong 0 (mR C a) (L a)) / (zLong 0 (mR C d) (L d))))), (18, .long (lN ((zLong 0 (mR C a) (L a)) % (zLong 0 (mR C d) (L d))))), (14, .long (lN (zLong 0 (mR C d) (L d)))), (12, .long (lN (zLong 0 (mR C a) (L a)))), (11, .int 0), (10, .int 0), (8, .long (lN (zLong 0 (mR C d) (L d)))), (6, .long (lN (zLong 0 (mR C a) (L a)))), (0, .ref (T 0)), (1, .int 11), (2, .int 0), (3, .int (nI a)), (4, .int (nI d)), (5, .int (nI (zLen 11 (L a) (L d))))]) hx hb dMo_numbers_269 hl (by decide) rfl (fun ls hl => ?_)
                refine lv_iload hx hb dMo_numbers_271 (lv_at hl 5 rfl) ?_
                refine lv_if_eq (tgt := 282) hx hb dMo_numbers_273 (by decide) (fun _ => ?_) (fun c34 => absurd (by decide) c34)
                refine lv_lload hx hb dMo_numbers_282 (lv_at hl 1 rfl) ?_
                refine lv_lstore (lv' := [(18, .long (lN ((zLong 0 (mR C a) (L a)) % (zLong 0 (mR C d) (L d))))), (16, .long (lN ((zLong 0 (mR C a) (L a)) / (zLong 0 (mR C d) (L d))))), (14, .long (lN (zLong 0 (mR C d) (L d)))), (12, .long (lN (zLong 0 (mR C a) (L a)))), (11, .int 0), (10, .int 0), (8, .long (lN (zLong 0 (mR C d) (L d)))), (6, .long (lN (zLong 0 (mR C a) (L a)))), (0, .ref (T 0)), (1, .int 11), (2, .int 0), (3, .int (nI a)), (4, .int (nI d)), (5, .int (nI (zLen 11 (L a) (L d))))]) hx hb dMo_numbers_284 hl (by decide) rfl (fun ls hl => ?_)
                refine lv_iload_n hx hb dMo_numbers_286 rfl (lv_at hl 9 rfl) ?_
                refine lv_bipush (v := 12) hx hb dMo_numbers_287 (by decide) ?_
                refine lv_icmp_ne (tgt := 313) hx hb dMo_numbers_289 (by decide) (fun _ => ?_) (fun c35 => absurd c35 (by decide))
                refine lv_aload_n hx hb dMo_numbers_313 rfl (lv_at hl 8 rfl) ?_
                refine lv_iload hx hb dMo_numbers_314 (lv_at hl 13 rfl) ?_
                refine lv_iload_n hx hb dMo_numbers_316 rfl (lv_at hl 9 rfl) ?_
                refine lv_bipush (v := 10) hx hb dMo_numbers_317 (by decide) ?_
                refine lv_icmp_ne (tgt := 327) hx hb dMo_numbers_319 (by decide) (fun _ => ?_) (fun c36 => absurd c36 (by decide))
                refine lv_lload hx hb dMo_numbers_327 (lv_at hl 0 rfl) ?_
                refine nz_eql (y := lN (zArith 11 0 (zLong 0 (mR C a) (L a)) (zLong 0 (mR C d) (L d)))) (by rw [zArith, if_neg (by decide), zDiv, if_neg (by decide), if_neg (by decide)]) ?_
                refine mo_call (As := [.int (nI (zLen 11 (L a) (L d))), .long (lN (zArith 11 0 (zLong 0 (mR C a) (L a)) (zLong 0 (mR C d) (L d))))]) (rest := []) S (c_Mo_bits l D cA T hT 0 C L O c0 (zLen 11 (L a) (L d)) hz (zArith 11 0 (zLong 0 (mR C a) (L a)) (zLong 0 (mR C d) (L d))) (zArith_lt (by decide) hp64 hq0 hq64)) kMo_44 ⟨rfl, rfl, Nat.le_of_ble_eq_true rfl, Nat.le_of_ble_eq_true rfl⟩ ⟨Nat.zero_le _, Nat.zero_le _⟩ (mo_ob hK hP) hP hK hS rfl hl.1 rfl (Nat.le_of_ble_eq_true rfl) dMo_numbers_329 (fun H locs hP hS => ?_)
                have hn0 : nCalc 11 (mR C a) (L a) (mR C d) (L d) = zLen 11 (L a) (L d) := by unfold nCalc; rw [if_pos ⟨hcy, hcz⟩]
                exact W.vret hx hb hr (fun t ht hW => ⟨⟨(), rfl, trivial, pov (zPut (zArith 11 0 (zLong 0 (mR C a) (L a)) (zLong 0 (mR C d) (L d)))) O 0 (zLen 11 (L a) (L d)), (zLen 11 (L a) (L d)), fun _ => ⟨hn0.symm, by rw [hn0]; exact fun k hk => by rw [pov_in (Nat.zero_le _) (by omega)]; unfold fCalc; rw [if_pos ⟨hcy, hcz⟩]⟩, pov_lt (fun _ _ _ => zPut_lt _ _) ok.2.2, by rw [hk0, ht]; exact hP⟩, hS.F ht⟩) hS.2.2 dMo_numbers_332
              · refine lv_iload_n hx hb dMo_numbers_166 rfl (lv_at hl 4 rfl) ?_
                refine lv_if_eq (tgt := 181) hx hb dMo_numbers_167 (by decide) (fun _ => ?_) (fun c37 => absurd (by decide) c37)
                refine lv_iconst (v := 0) hx hb dMo_numbers_181 (by decide) ?_
                refine lv_istore (lv' := [(10, .int 0), (8, .long (lN (zLong 0 (mR C d) (L d)))), (6, .long (lN (zLong 0 (mR C a) (L a)))), (0, .ref (T 0)), (1, .int 12), (2, .int 0), (3, .int (nI a)), (4, .int (nI d)), (5, .int (nI (zLen 12 (L a) (L d))))]) hx hb dMo_numbers_182 hl (by decide) rfl (fun ls hl => ?_)
                refine lv_iload_n hx hb dMo_numbers_184 rfl (lv_at hl 5 rfl) ?_
                refine lv_if_eq (tgt := 199) hx hb dMo_numbers_185 (by decide) (fun _ => ?_) (fun c38 => absurd (by decide) c38)
                refine lv_iconst (v := 0) hx hb dMo_numbers_199 (by decide) ?_
                refine lv_istore (lv' := [(11, .int 0), (10, .int 0), (8, .long (lN (zLong 0 (mR C d) (L d)))), (6, .long (lN (zLong 0 (mR C a) (L a)))), (0, .ref (T 0)), (1, .int 12), (2, .int 0), (3, .int (nI a)), (4, .int (nI d)), (5, .int (nI (zLen 12 (L a) (L d))))]) hx hb dMo_numbers_200 hl (by decide) rfl (fun ls hl => ?_)
                refine lv_iload hx hb dMo_numbers_202 (lv_at hl 1 rfl) ?_
                refine lv_if_eq (tgt := 213) hx hb dMo_numbers_204 (by decide) (fun _ => ?_) (fun c39 => absurd (by decide) c39)
                refine lv_lload hx hb dMo_numbers_213 (lv_at hl 3 rfl) ?_
                refine lv_lstore (lv' := [(12, .long (lN (zLong 0 (mR C a) (L a)))), (11, .int 0), (10, .int 0), (8, .long (lN (zLong 0 (mR C d) (L d)))), (6, .long (lN (zLong 0 (mR C a) (L a)))), (0, .ref (T 0)), (1, .int 12), (2, .int 0), (3, .int (nI a)), (4, .int (nI d)), (5, .int (nI (zLen 12 (L a) (L d))))]) hx hb dMo_numbers_215 hl (by decide) rfl (fun ls hl => ?_)
                refine lv_iload hx hb dMo_numbers_217 (lv_at hl 1 rfl) ?_
                refine lv_if_eq (tgt := 228) hx hb dMo_numbers_219 (by decide) (fun _ => ?_) (fun c40 => absurd (by decide) c40)
                refine lv_lload hx hb dMo_numbers_228 (lv_at hl 3 rfl) ?_
                refine lv_lstore (lv' := [(14, .long (lN (zLong 0 (mR C d) (L d)))), (12, .long (lN (zLong 0 (mR C a) (L a)))), (11, .int 0), (10, .int 0), (8, .long (lN (zLong 0 (mR C d) (L d)))), (6, .long (lN (zLong 0 (mR C a) (L a)))), (0, .ref (T 0)), (1, .int 12), (2, .int 0), (3, .int (nI a)), (4, .int (nI d)), (5, .int (nI (zLen 12 (L a) (L d))))]) hx hb dMo_numbers_230 hl (by decide) rfl (fun ls hl => ?_)
                refine lv_aload_n hx hb dMo_numbers_232 rfl (lv_at hl 6 rfl) ?_
                refine lv_lload hx hb dMo_numbers_233 (lv_at hl 1 rfl) ?_
                refine lv_lload hx hb dMo_numbers_235 (lv_at hl 0 rfl) ?_
                refine lv_iconst (v := 1) hx hb dMo_numbers_237 (by decide) ?_
                refine nz_vl (As := [.long (lN (zLong 0 (mR C a) (L a))), .long (lN (zLong 0 (mR C d) (L d))), .int (nI 1)]) (rest := []) S (c_Mo_divide l T (zLong 0 (mR C a) (L a)) (zLong 0 (mR C d) (L d)) 1 (by decide) hp64 hq0 hq64) kMo_80 ⟨rfl, rfl, Nat.le_of_ble_eq_true rfl, Nat.le_of_ble_eq_true rfl⟩ ⟨Nat.zero_le _, Nat.zero_le _⟩ (fun _ _ _ _ h => h) (mo_ob hK hP) (fun _ _ _ => trivial) rfl hl.1 rfl (Nat.le_of_ble_eq_true rfl) dMo_numbers_238 (fun r41 er41 => ?_)
                subst er41
                refine nz_eql (y := lN ((zLong 0 (mR C a) (L a)) / (zLong 0 (mR C d) (L d)))) (congrArg lN (if_pos rfl)) ?_
                refine lv_lstore (lv' := [(16, .long (lN ((zLong 0 (mR C a) (L a)) / (zLong 0 (mR C d) (L d))))), (14, .long (lN (zLong 0 (mR C d) (L d)))), (12, .long (lN (zLong 0 (mR C a) (L a)))), (11, .int 0), (10, .int 0), (8, .long (lN (zLong 0 (mR C d) (L d)))), (6, .long (lN (zLong 0 (mR C a) (L a)))), (0, .ref (T 0)), (1, .int 12), (2, .int 0), (3, .int (nI a)), (4, .int (nI d)), (5, .int (nI (zLen 12 (L a) (L d))))]) hx hb dMo_numbers_241 hl (by decide) rfl (fun ls hl => ?_)
                refine lv_aload_n hx hb dMo_numbers_243 rfl (lv_at hl 7 rfl) ?_
                refine lv_lload hx hb dMo_numbers_244 (lv_at hl 2 rfl) ?_
                refine lv_lload hx hb dMo_numbers_246 (lv_at hl 1 rfl) ?_
                refine lv_iconst (v := 0) hx hb dMo_numbers_248 (by decide) ?_
                refine nz_vl (As := [.long (lN (zLong 0 (mR C a) (L a))), .long (lN (zLong 0 (mR C d) (L d))), .int (nI 0)]) (rest := []) S (c_Mo_divide l T (zLong 0 (mR C a) (L a)) (zLong 0 (mR C d) (L d)) 0 (by decide) hp64 hq0 hq64) kMo_80 ⟨rfl, rfl, Nat.le_of_ble_eq_true rfl, Nat.le_of_ble_eq_true rfl⟩ ⟨Nat.zero_le _, Nat.zero_le _⟩ (fun _ _ _ _ h => h) (mo_ob hK hP) (fun _ _ _ => trivial) rfl hl.1 rfl (Nat.le_of_ble_eq_true rfl) dMo_numbers_249 (fun r42 er42 => ?_)
                subst er42
                refine nz_eql (y := lN ((zLong 0 (mR C a) (L a)) % (zLong 0 (mR C d) (L d)))) (congrArg lN (if_neg (by decide))) ?_
                refine lv_lstore (lv' := [(18, .long (lN ((zLong 0 (mR C a) (L a)) % (zLong 0 (mR C d) (L d))))), (16, .long (lN ((zLong 0 (mR C a) (L a)) / (zLong 0 (mR C d) (L d))))), (14, .long (lN (zLong 0 (mR C d) (L d)))), (12, .long (lN (zLong 0 (mR C a) (L a)))), (11, .int 0), (10, .int 0), (8, .long (lN (zLong 0 (mR C d) (L d)))), (6, .long (lN (zLong 0 (mR C a) (L a)))), (0, .ref (T 0)), (1, .int 12), (2, .int 0), (3, .int (nI a)), (4, .int (nI d)), (5, .int (nI (zLen 12 (L a) (L d))))]) hx hb dMo_numbers_252 hl (by decide) rfl (fun ls hl => ?_)
                refine lv_iload hx hb dMo_numbers_254 (lv_at hl 5 rfl) ?_
                refine lv_iload hx hb dMo_numbers_256 (lv_at hl 4 rfl) ?_
                refine lv_icmp_eq (tgt := 267) hx hb dMo_numbers_258 (by decide) (fun _ => ?_) (fun c43 => absurd (by decide) c43)
                refine lv_lload hx hb dMo_numbers_267 (lv_at hl 1 rfl) ?_
                refine lv_lstore (lv' := [(16, .long (lN ((zLong 0 (mR C a) (L a)) / (zLong 0 (mR C d) (L d))))), (18, .long (lN ((zLong 0 (mR C a) (L a)) % (zLong 0 (mR C d) (L d))))), (14, .long (lN (zLong 0 (mR C d) (L d)))), (12, .long (lN (zLong 0 (mR C a) (L a)))), (11, .int 0), (10, .int 0), (8, .long (lN (zLong 0 (mR C d) (L d)))), (6, .long (lN (zLong 0 (mR C a) (L a)))), (0, .ref (T 0)), (1, .int 12), (2, .int 0), (3, .int (nI a)), (4, .int (nI d)), (5, .int (nI (zLen 12 (L a) (L d))))]) hx hb dMo_numbers_269 hl (by decide) rfl (fun ls hl => ?_)
                refine lv_iload hx hb dMo_numbers_271 (lv_at hl 5 rfl) ?_
                refine lv_if_eq (tgt := 282) hx hb dMo_numbers_273 (by decide) (fun _ => ?_) (fun c44 => absurd (by decide) c44)
                refine lv_lload hx hb dMo_numbers_282 (lv_at hl 1 rfl) ?_
                refine lv_lstore (lv' := [(18, .long (lN ((zLong 0 (mR C a) (L a)) % (zLong 0 (mR C d) (L d))))), (16, .long (lN ((zLong 0 (mR C a) (L a)) / (zLong 0 (mR C d) (L d))))), (14, .long (lN (zLong 0 (mR C d) (L d)))), (12, .long (lN (zLong 0 (mR C a) (L a)))), (11, .int 0), (10, .int 0), (8, .long (lN (zLong 0 (mR C d) (L d)))), (6, .long (lN (zLong 0 (mR C a) (L a)))), (0, .ref (T 0)), (1, .int 12), (2, .int 0), (3, .int (nI a)), (4, .int (nI d)), (5, .int (nI (zLen 12 (L a) (L d))))]) hx hb dMo_numbers_284 hl (by decide) rfl (fun ls hl => ?_)
                refine lv_iload_n hx hb dMo_numbers_286 rfl (lv_at hl 9 rfl) ?_
                refine lv_bipush (v := 12) hx hb dMo_numbers_287 (by decide) ?_
                refine lv_icmp_ne (tgt := 313) hx hb dMo_numbers_289 (by decide) (fun c45 => absurd (by decide) c45) (fun _ => ?_)
                refine lv_lload hx hb dMo_numbers_292 (lv_at hl 0 rfl) ?_
                refine lv_lconst (v := 0) hx hb dMo_numbers_294 (by decide) ?_
                refine W.lcmp hx hb dMo_numbers_295 ?_
                refine lv_if_eq (tgt := 313) hx hb dMo_numbers_296 (by decide) (fun c46 => ?_) (fun c46 => ?_)
                · refine lv_aload_n hx hb dMo_numbers_313 rfl (lv_at hl 8 rfl) ?_
                  refine lv_iload hx hb dMo_numbers_314 (lv_at hl 13 rfl) ?_
                  refine lv_iload_n hx hb dMo_numbers_316 rfl (lv_at hl 9 rfl) ?_
                  refine lv_bipush (v := 10) hx hb dMo_numbers_317 (by decide) ?_
                  refine lv_icmp_ne (tgt := 327) hx hb dMo_numbers_319 (by decide) (fun _ => ?_) (fun c47 => absurd c47 (by decide))
                  refine lv_lload hx hb dMo_numbers_327 (lv_at hl 0 rfl) ?_
                  refine nz_eql (y := lN (zArith 12 0 (zLong 0 (mR C a) (L a)) (zLong 0 (mR C d) (L d)))) (by rw [zArith, if_neg (by decide), zDiv, if_neg (by decide), if_neg (by decide)]) ?_
                  refine mo_call (As := [.int (nI (zLen 12 (L a) (L d))), .long (lN (zArith 12 0 (zLong 0 (mR C a) (L a)) (zLong 0 (mR C d) (L d))))]) (rest := []) S (c_Mo_bits l D cA T hT 0 C L O c0 (zLen 12 (L a) (L d)) hz (zArith 12 0 (zLong 0 (mR C a) (L a)) (zLong 0 (mR C d) (L d))) (zArith_lt (by decide) hp64 hq0 hq64)) kMo_44 ⟨rfl, rfl, Nat.le_of_ble_eq_true rfl, Nat.le_of_ble_eq_true rfl⟩ ⟨Nat.zero_le _, Nat.zero_le _⟩ (mo_ob hK hP) hP hK hS rfl hl.1 rfl (Nat.le_of_ble_eq_true rfl) dMo_numbers_329 (fun H locs hP hS => ?_)
                  have hn0 : nCalc 12 (mR C a) (L a) (mR C d) (L d) = zLen 12 (L a) (L d) := by unfold nCalc; rw [if_pos ⟨hcy, hcz⟩]
                  exact W.vret hx hb hr (fun t ht hW => ⟨⟨(), rfl, trivial, pov (zPut (zArith 12 0 (zLong 0 (mR C a) (L a)) (zLong 0 (mR C d) (L d)))) O 0 (zLen 12 (L a) (L d)), (zLen 12 (L a) (L d)), fun _ => ⟨hn0.symm, by rw [hn0]; exact fun k hk => by rw [pov_in (Nat.zero_le _) (by omega)]; unfold fCalc; rw [if_pos ⟨hcy, hcz⟩]⟩, pov_lt (fun _ _ _ => zPut_lt _ _) ok.2.2, by rw [hk0, ht]; exact hP⟩, hS.F ht⟩) hS.2.2 dMo_numbers_332
                · refine lv_iload hx hb dMo_numbers_299 (lv_at hl 5 rfl) ?_
                  refine lv_iload hx hb dMo_numbers_301 (lv_at hl 4 rfl) ?_
                  refine lv_icmp_eq (tgt := 313) hx hb dMo_numbers_303 (by decide) (fun _ => ?_) (fun c48 => absurd (by decide) c48)
                  refine lv_aload_n hx hb dMo_numbers_313 rfl (lv_at hl 8 rfl) ?_
                  refine lv_iload hx hb dMo_numbers_314 (lv_at hl 13 rfl) ?_
                  refine lv_iload_n hx hb dMo_numbers_316 rfl (lv_at hl 9 rfl) ?_
                  refine lv_bipush (v := 10) hx hb dMo_numbers_317 (by decide) ?_
                  refine lv_icmp_ne (tgt := 327) hx hb dMo_numbers_319 (by decide) (fun _ => ?_) (fun c49 => absurd c49 (by decide))
                  refine lv_lload hx hb dMo_numbers_327 (lv_at hl 0 rfl) ?_
                  refine nz_eql (y := lN (zArith 12 0 (zLong 0 (mR C a) (L a)) (zLong 0 (mR C d) (L d)))) (by rw [zArith, if_neg (by decide), zDiv, if_neg (by decide), if_neg (by decide)]) ?_
                  refine mo_call (As := [.int (nI (zLen 12 (L a) (L d))), .long (lN (zArith 12 0 (zLong 0 (mR C a) (L a)) (zLong 0 (mR C d) (L d))))]) (rest := []) S (c_Mo_bits l D cA T hT 0 C L O c0 (zLen 12 (L a) (L d)) hz (zArith 12 0 (zLong 0 (mR C a) (L a)) (zLong 0 (mR C d) (L d))) (zArith_lt (by decide) hp64 hq0 hq64)) kMo_44 ⟨rfl, rfl, Nat.le_of_ble_eq_true rfl, Nat.le_of_ble_eq_true rfl⟩ ⟨Nat.zero_le _, Nat.zero_le _⟩ (mo_ob hK hP) hP hK hS rfl hl.1 rfl (Nat.le_of_ble_eq_true rfl) dMo_numbers_329 (fun H locs hP hS => ?_)
                  have hn0 : nCalc 12 (mR C a) (L a) (mR C d) (L d) = zLen 12 (L a) (L d) := by unfold nCalc; rw [if_pos ⟨hcy, hcz⟩]
                  exact W.vret hx hb hr (fun t ht hW => ⟨⟨(), rfl, trivial, pov (zPut (zArith 12 0 (zLong 0 (mR C a) (L a)) (zLong 0 (mR C d) (L d)))) O 0 (zLen 12 (L a) (L d)), (zLen 12 (L a) (L d)), fun _ => ⟨hn0.symm, by rw [hn0]; exact fun k hk => by rw [pov_in (Nat.zero_le _) (by omega)]; unfold fCalc; rw [if_pos ⟨hcy, hcz⟩]⟩, pov_lt (fun _ _ _ => zPut_lt _ _) ok.2.2, by rw [hk0, ht]; exact hP⟩, hS.F ht⟩) hS.2.2 dMo_numbers_332
            · rcases ho3 with rfl | rfl | rfl
              · refine lv_iload_n hx hb dMo_numbers_166 rfl (lv_at hl 4 rfl) ?_
                refine lv_if_eq (tgt := 181) hx hb dMo_numbers_167 (by decide) (fun c50 => absurd c50 (by decide)) (fun _ => ?_)
                refine lv_lload hx hb dMo_numbers_170 (lv_at hl 1 rfl) ?_
                refine lv_lconst (v := 0) hx hb dMo_numbers_172 (by decide) ?_
                refine W.lcmp hx hb dMo_numbers_173 ?_
                refine lv_if_ge (tgt := 181) hx hb dMo_numbers_174 (by decide) (fun c51 => ?_) (fun c51 => ?_)
                · refine lv_iconst (v := 0) hx hb dMo_numbers_181 (by decide) ?_
                  have hPs : zLong 1 (mR C a) (L a) < 9223372036854775808 := (lN_lt0 hp64).mp c51
                  refine lv_istore (lv' := [(10, .int 0), (8, .long (lN (zLong 1 (mR C d) (L d)))), (6, .long (lN (zLong 1 (mR C a) (L a)))), (0, .ref (T 0)), (1, .int 10), (2, .int 1), (3, .int (nI a)), (4, .int (nI d)), (5, .int (nI (zLen 10 (L a) (L d))))]) hx hb dMo_numbers_182 hl (by decide) rfl (fun ls hl => ?_)
                  refine lv_iload_n hx hb dMo_numbers_184 rfl (lv_at hl 5 rfl) ?_
                  refine lv_if_eq (tgt := 199) hx hb dMo_numbers_185 (by decide) (fun c52 => absurd c52 (by decide)) (fun _ => ?_)
                  refine lv_lload hx hb dMo_numbers_188 (lv_at hl 1 rfl) ?_
                  refine lv_lconst (v := 0) hx hb dMo_numbers_190 (by decide) ?_
                  refine W.lcmp hx hb dMo_numbers_191 ?_
                  refine lv_if_ge (tgt := 199) hx hb dMo_numbers_192 (by decide) (fun c53 => ?_) (fun c53 => ?_)
                  · refine lv_iconst (v := 0) hx hb dMo_numbers_199 (by decide) ?_
                    have hQs : zLong 1 (mR C d) (L d) < 9223372036854775808 := (lN_lt0 hq64).mp c53
                    refine lv_istore (lv' := [(11, .int 0), (10, .int 0), (8, .long (lN (zLong 1 (mR C d) (L d)))), (6, .long (lN (zLong 1 (mR C a) (L a)))), (0, .ref (T 0)), (1, .int 10), (2, .int 1), (3, .int (nI a)), (4, .int (nI d)), (5, .int (nI (zLen 10 (L a) (L d))))]) hx hb dMo_numbers_200 hl (by decide) rfl (fun ls hl => ?_)
                    refine lv_iload hx hb dMo_numbers_202 (lv_at hl 1 rfl) ?_
                    refine lv_if_eq (tgt := 213) hx hb dMo_numbers_204 (by decide) (fun _ => ?_) (fun c54 => absurd (by decide) c54)
                    refine lv_lload hx hb dMo_numbers_213 (lv_at hl 3 rfl) ?_
                    refine lv_lstore (lv' := [(12, .long (lN (zLong 1 (mR C a) (L a)))), (11, .int 0), (10, .int 0), (8, .long (lN (zLong 1 (mR C d) (L d)))), (6, .long (lN (zLong 1 (mR C a) (L a)))), (0, .ref (T 0)), (1, .int 10), (2, .int 1), (3, .int (nI a)), (4, .int (nI d)), (5, .int (nI (zLen 10 (L a) (L d))))]) hx hb dMo_numbers_215 hl (by decide) rfl (fun ls hl => ?_)
                    refine lv_iload hx hb dMo_numbers_217 (lv_at hl 1 rfl) ?_
                    refine lv_if_eq (tgt := 228) hx hb dMo_numbers_219 (by decide) (fun _ => ?_) (fun c55 => absurd (by decide) c55)
                    refine lv_lload hx hb dMo_numbers_228 (lv_at hl 3 rfl) ?_
                    refine lv_lstore (lv' := [(14, .long (lN (zLong 1 (mR C d) (L d)))), (12, .long (lN (zLong 1 (mR C a) (L a)))), (11, .int 0), (10, .int 0), (8, .long (lN (zLong 1 (mR C d) (L d)))), (6, .long (lN (zLong 1 (mR C a) (L a)))), (0, .ref (T 0)), (1, .int 10), (2, .int 1), (3, .int (nI a)), (4, .int (nI d)), (5, .int (nI (zLen 10 (L a) (L d))))]) hx hb dMo_numbers_230 hl (by decide) rfl (fun ls hl => ?_)
                    refine lv_aload_n hx hb dMo_numbers_232 rfl (lv_at hl 6 rfl) ?_
                    refine lv_lload hx hb dMo_numbers_233 (lv_at hl 1 rfl) ?_
                    refine lv_lload hx hb dMo_numbers_235 (lv_at hl 0 rfl) ?_
                    refine lv_iconst (v := 1) hx hb dMo_numbers_237 (by decide) ?_
                    refine nz_vl (As := [.long (lN (zLong 1 (mR C a) (L a))), .long (lN (zLong 1 (mR C d) (L d))), .int (nI 1)]) (rest := []) S (c_Mo_divide l T (zLong 1 (mR C a) (L a)) (zLong 1 (mR C d) (L d)) 1 (by decide) hp64 hq0 hq64) kMo_80 ⟨rfl, rfl, Nat.le_of_ble_eq_true rfl, Nat.le_of_ble_eq_true rfl⟩ ⟨Nat.zero_le _, Nat.zero_le _⟩ (fun _ _ _ _ h => h) (mo_ob hK hP) (fun _ _ _ => trivial) rfl hl.1 rfl (Nat.le_of_ble_eq_true rfl) dMo_numbers_238 (fun r56 er56 => ?_)
                    subst er56
                    refine nz_eql (y := lN ((zLong 1 (mR C a) (L a)) / (zLong 1 (mR C d) (L d)))) (congrArg lN (if_pos rfl)) ?_
                    refine lv_lstore (lv' := [(16, .long (lN ((zLong 1 (mR C a) (L a)) / (zLong 1 (mR C d) (L d))))), (14, .long (lN (zLong 1 (mR C d) (L d)))), (12, .long (lN (zLong 1 (mR C a) (L a)))), (11, .int 0), (10, .int 0), (8, .long (lN (zLong 1 (mR C d) (L d)))), (6, .long (lN (zLong 1 (mR C a) (L a)))), (0, .ref (T 0)), (1, .int 10), (2, .int 1), (3, .int (nI a)), (4, .int (nI d)), (5, .int (nI (zLen 10 (L a) (L d))))]) hx hb dMo_numbers_241 hl (by decide) rfl (fun ls hl => ?_)
                    refine lv_aload_n hx hb dMo_numbers_243 rfl (lv_at hl 7 rfl) ?_
                    refine lv_lload hx hb dMo_numbers_244 (lv_at hl 2 rfl) ?_
                    refine lv_lload hx hb dMo_numbers_246 (lv_at hl 1 rfl) ?_
                    refine lv_iconst (v := 0) hx hb dMo_numbers_248 (by decide) ?_
                    refine nz_vl (As := [.long (lN (zLong 1 (mR C a) (L a))), .long (lN (zLong 1 (mR C d) (L d))), .int (nI 0)]) (rest := []) S (c_Mo_divide l T (zLong 1 (mR C a) (L a)) (zLong 1 (mR C d) (L d)) 0 (by decide) hp64 hq0 hq64) kMo_80 ⟨rfl, rfl, Nat.le_of_ble_eq_true rfl, Nat.le_of_ble_eq_true rfl⟩ ⟨Nat.zero_le _, Nat.zero_le _⟩ (fun _ _ _ _ h => h) (mo_ob hK hP) (fun _ _ _ => trivial) rfl hl.1 rfl (Nat.le_of_ble_eq_true rfl) dMo_numbers_249 (fun r57 er57 => ?_)
                    subst er57
                    refine nz_eql (y := lN ((zLong 1 (mR C a) (L a)) % (zLong 1 (mR C d) (L d)))) (congrArg lN (if_neg (by decide))) ?_
                    refine lv_lstore (lv' := [(18, .long (lN ((zLong 1 (mR C a) (L a)) % (zLong 1 (mR C d) (L d))))), (16, .long (lN ((zLong 1 (mR C a) (L a)) / (zLong 1 (mR C d) (L d))))), (14, .long (lN (zLong 1 (mR C d) (L d)))), (12, .long (lN (zLong 1 (mR C a) (L a)))), (11, .int 0), (10, .int 0), (8, .long (lN (zLong 1 (mR C d) (L d)))), (6, .long (lN (zLong 1 (mR C a) (L a)))), (0, .ref (T 0)), (1, .int 10), (2, .int 1), (3, .int (nI a)), (4, .int (nI d)), (5, .int (nI (zLen 10 (L a) (L d))))]) hx hb dMo_numbers_252 hl (by decide) rfl (fun ls hl => ?_)
                    refine lv_iload hx hb dMo_numbers_254 (lv_at hl 5 rfl) ?_
                    refine lv_iload hx hb dMo_numbers_256 (lv_at hl 4 rfl) ?_
                    refine lv_icmp_eq (tgt := 267) hx hb dMo_numbers_258 (by decide) (fun _ => ?_) (fun c58 => absurd (by decide) c58)
                    refine lv_lload hx hb dMo_numbers_267 (lv_at hl 1 rfl) ?_
                    refine lv_lstore (lv' := [(16, .long (lN ((zLong 1 (mR C a) (L a)) / (zLong 1 (mR C d) (L d))))), (18, .long (lN ((zLong 1 (mR C a) (L a)) % (zLong 1 (mR C d) (L d))))), (14, .long (lN (zLong 1 (mR C d) (L d)))), (12, .long (lN (zLong 1 (mR C a) (L a)))), (11, .int 0), (10, .int 0), (8, .long (lN (zLong 1 (mR C d) (L d)))), (6, .long (lN (zLong 1 (mR C a) (L a)))), (0, .ref (T 0)), (1, .int 10), (2, .int 1), (3, .int (nI a)), (4, .int (nI d)), (5, .int (nI (zLen 10 (L a) (L d))))]) hx hb dMo_numbers_269 hl (by decide) rfl (fun ls hl => ?_)
                    refine lv_iload hx hb dMo_numbers_271 (lv_at hl 5 rfl) ?_
                    refine lv_if_eq (tgt := 282) hx hb dMo_numbers_273 (by decide) (fun _ => ?_) (fun c59 => absurd (by decide) c59)
                    refine lv_lload hx hb dMo_numbers_282 (lv_at hl 1 rfl) ?_
                    refine lv_lstore (lv' := [(18, .long (lN ((zLong 1 (mR C a) (L a)) % (zLong 1 (mR C d) (L d))))), (16, .long (lN ((zLong 1 (mR C a) (L a)) / (zLong 1 (mR C d) (L d))))), (14, .long (lN (zLong 1 (mR C d) (L d)))), (12, .long (lN (zLong 1 (mR C a) (L a)))), (11, .int 0), (10, .int 0), (8, .long (lN (zLong 1 (mR C d) (L d)))), (6, .long (lN (zLong 1 (mR C a) (L a)))), (0, .ref (T 0)), (1, .int 10), (2, .int 1), (3, .int (nI a)), (4, .int (nI d)), (5, .int (nI (zLen 10 (L a) (L d))))]) hx hb dMo_numbers_284 hl (by decide) rfl (fun ls hl => ?_)
                    refine lv_iload_n hx hb dMo_numbers_286 rfl (lv_at hl 9 rfl) ?_
                    refine lv_bipush (v := 12) hx hb dMo_numbers_287 (by decide) ?_
                    refine lv_icmp_ne (tgt := 313) hx hb dMo_numbers_289 (by decide) (fun _ => ?_) (fun c60 => absurd c60 (by decide))
                    refine lv_aload_n hx hb dMo_numbers_313 rfl (lv_at hl 8 rfl) ?_
                    refine lv_iload hx hb dMo_numbers_314 (lv_at hl 13 rfl) ?_
                    refine lv_iload_n hx hb dMo_numbers_316 rfl (lv_at hl 9 rfl) ?_
                    refine lv_bipush (v := 10) hx hb dMo_numbers_317 (by decide) ?_
                    refine lv_icmp_ne (tgt := 327) hx hb dMo_numbers_319 (by decide) (fun c61 => absurd (by decide) c61) (fun _ => ?_)
                    refine lv_lload hx hb dMo_numbers_322 (lv_at hl 1 rfl) ?_
                    refine lv_goto (tgt := 329) hx hb dMo_numbers_324 (by decide) ?_
                    refine nz_eql (y := lN (zArith 10 1 (zLong 1 (mR C a) (L a)) (zLong 1 (mR C d) (L d)))) (by rw [zArith, if_neg (by decide), zDiv, if_pos rfl, lN_zU, sDiv, if_pos rfl]; exact ((sq_pp hPs hq0 hQs).symm)) ?_
                    refine mo_call (As := [.int (nI (zLen 10 (L a) (L d))), .long (lN (zArith 10 1 (zLong 1 (mR C a) (L a)) (zLong 1 (mR C d) (L d))))]) (rest := []) S (c_Mo_bits l D cA T hT 0 C L O c0 (zLen 10 (L a) (L d)) hz (zArith 10 1 (zLong 1 (mR C a) (L a)) (zLong 1 (mR C d) (L d))) (zArith_lt (by decide) hp64 hq0 hq64)) kMo_44 ⟨rfl, rfl, Nat.le_of_ble_eq_true rfl, Nat.le_of_ble_eq_true rfl⟩ ⟨Nat.zero_le _, Nat.zero_le _⟩ (mo_ob hK hP) hP hK hS rfl hl.1 rfl (Nat.le_of_ble_eq_true rfl) dMo_numbers_329 (fun H locs hP hS => ?_)
                    have hn0 : nCalc 10 (mR C a) (L a) (mR C d) (L d) = zLen 10 (L a) (L d) := by unfold nCalc; rw [if_pos ⟨hcy, hcz⟩]
                    exact W.vret hx hb hr (fun t ht hW => ⟨⟨(), rfl, trivial, pov (zPut (zArith 10 1 (zLong 1 (mR C a) (L a)) (zLong 1 (mR C d) (L d)))) O 0 (zLen 10 (L a) (L d)), (zLen 10 (L a) (L d)), fun _ => ⟨hn0.symm, by rw [hn0]; exact fun k hk => by rw [pov_in (Nat.zero_le _) (by omega)]; unfold fCalc; rw [if_pos ⟨hcy, hcz⟩]⟩, pov_lt (fun _ _ _ => zPut_lt _ _) ok.2.2, by rw [hk0, ht]; exact hP⟩, hS.F ht⟩) hS.2.2 dMo_numbers_332
                  · refine lv_iconst (v := 1) hx hb dMo_numbers_195 (by decide) ?_
                    refine lv_goto (tgt := 200) hx hb dMo_numbers_196 (by decide) ?_
                    have hQs : 9223372036854775808 ≤ zLong 1 (mR C d) (L d) := Nat.le_of_not_lt (fun q => c53 ((lN_lt0 hq64).mpr q))
                    refine lv_istore (lv' := [(11, .int 1), (10, .int 0), (8, .long (lN (zLong 1 (mR C d) (L d)))), (6, .long (lN (zLong 1 (mR C a) (L a)))), (0, .ref (T 0)), (1, .int 10), (2, .int 1), (3, .int (nI a)), (4, .int (nI d)), (5, .int (nI (zLen 10 (L a) (L d))))]) hx hb dMo_numbers_200 hl (by decide) rfl (fun ls hl => ?_)
                    refine lv_iload hx hb dMo_numbers_202 (lv_at hl 1 rfl) ?_
                    refine lv_if_eq (tgt := 213) hx hb dMo_numbers_204 (by decide) (fun _ => ?_) (fun c62 => absurd (by decide) c62)
                    refine lv_lload hx hb dMo_numbers_213 (lv_at hl 3 rfl) ?_
                    refine lv_lstore (lv' := [(12, .long (lN (zLong 1 (mR C a) (L a)))), (11, .int 1), (10, .int 0), (8, .long (lN (zLong 1 (mR C d) (L d)))), (6, .long (lN (zLong 1 (mR C a) (L a)))), (0, .ref (T 0)), (1, .int 10), (2, .int 1), (3, .int (nI a)), (4, .int (nI d)), (5, .int (nI (zLen 10 (L a) (L d))))]) hx hb dMo_numbers_215 hl (by decide) rfl (fun ls hl => ?_)
                    refine lv_iload hx hb dMo_numbers_217 (lv_at hl 1 rfl) ?_
                    refine lv_if_eq (tgt := 228) hx hb dMo_numbers_219 (by decide) (fun c63 => absurd c63 (by decide)) (fun _ => ?_)
                    refine lv_lload hx hb dMo_numbers_222 (lv_at hl 3 rfl) ?_
                    refine lv_lneg hx hb dMo_numbers_224 ?_
                    refine nz_eql (lN_neg hq64) ?_
                    refine lv_goto (tgt := 230) hx hb dMo_numbers_225 (by decide) ?_
                    refine lv_lstore (lv' := [(14, .long (lN (zNeg (zLong 1 (mR C d) (L d))))), (12, .long (lN (zLong 1 (mR C a) (L a)))), (11, .int 1), (10, .int 0), (8, .long (lN (zLong 1 (mR C d) (L d)))), (6, .long (lN (zLong 1 (mR C a) (L a)))), (0, .ref (T 0)), (1, .int 10), (2, .int 1), (3, .int (nI a)), (4, .int (nI d)), (5, .int (nI (zLen 10 (L a) (L d))))]) hx hb dMo_numbers_230 hl (by decide) rfl (fun ls hl => ?_)
                    refine lv_aload_n hx hb dMo_numbers_232 rfl (lv_at hl 6 rfl) ?_
                    refine lv_lload hx hb dMo_numbers_233 (lv_at hl 1 rfl) ?_
                    refine lv_lload hx hb dMo_numbers_235 (lv_at hl 0 rfl) ?_
                    refine lv_iconst (v := 1) hx hb dMo_numbers_237 (by decide) ?_
                    refine nz_vl (As := [.long (lN (zLong 1 (mR C a) (L a))), .long (lN (zNeg (zLong 1 (mR C d) (L d)))), .int (nI 1)]) (rest := []) S (c_Mo_divide l T (zLong 1 (mR C a) (L a)) (zNeg (zLong 1 (mR C d) (L d))) 1 (by decide) hp64 (zNeg_le hQs hq64).2 (zNeg_lt _)) kMo_80 ⟨rfl, rfl, Nat.le_of_ble_eq_true rfl, Nat.le_of_ble_eq_true rfl⟩ ⟨Nat.zero_le _, Nat.zero_le _⟩ (fun _ _ _ _ h => h) (mo_ob hK hP) (fun _ _ _ => trivial) rfl hl.1 rfl (Nat.le_of_ble_eq_true rfl) dMo_numbers_238 (fun r64 er64 => ?_)
                    subst er64
                    refine nz_eql (y := lN ((zLong 1 (mR C a) (L a)) / (zNeg (zLong 1 (mR C d) (L d))))) (congrArg lN (if_pos rfl)) ?_
                    refine lv_lstore (lv' := [(16, .long (lN ((zLong 1 (mR C a) (L a)) / (zNeg (zLong 1 (mR C d) (L d)))))), (14, .long (lN (zNeg (zLong 1 (mR C d) (L d))))), (12, .long (lN (zLong 1 (mR C a) (L a)))), (11, .int 1), (10, .int 0), (8, .long (lN (zLong 1 (mR C d) (L d)))), (6, .long (lN (zLong 1 (mR C a) (L a)))), (0, .ref (T 0)), (1, .int 10), (2, .int 1), (3, .int (nI a)), (4, .int (nI d)), (5, .int (nI (zLen 10 (L a) (L d))))]) hx hb dMo_numbers_241 hl (by decide) rfl (fun ls hl => ?_)
                    refine lv_aload_n hx hb dMo_numbers_243 rfl (lv_at hl 7 rfl) ?_
                    refine lv_lload hx hb dMo_numbers_244 (lv_at hl 2 rfl) ?_
                    refine lv_lload hx hb dMo_numbers_246 (lv_at hl 1 rfl) ?_
                    refine lv_iconst (v := 0) hx hb dMo_numbers_248 (by decide) ?_
                    refine nz_vl (As := [.long (lN (zLong 1 (mR C a) (L a))), .long (lN (zNeg (zLong 1 (mR C d) (L d)))), .int (nI 0)]) (rest := []) S (c_Mo_divide l T (zLong 1 (mR C a) (L a)) (zNeg (zLong 1 (mR C d) (L d))) 0 (by decide) hp64 (zNeg_le hQs hq64).2 (zNeg_lt _)) kMo_80 ⟨rfl, rfl, Nat.le_of_ble_eq_true rfl, Nat.le_of_ble_eq_true rfl⟩ ⟨Nat.zero_le _, Nat.zero_le _⟩ (fun _ _ _ _ h => h) (mo_ob hK hP) (fun _ _ _ => trivial) rfl hl.1 rfl (Nat.le_of_ble_eq_true rfl) dMo_numbers_249 (fun r65 er65 => ?_)
                    subst er65
                    refine nz_eql (y := lN ((zLong 1 (mR C a) (L a)) % (zNeg (zLong 1 (mR C d) (L d))))) (congrArg lN (if_neg (by decide))) ?_
                    refine lv_lstore (lv' := [(18, .long (lN ((zLong 1 (mR C a) (L a)) % (zNeg (zLong 1 (mR C d) (L d)))))), (16, .long (lN ((zLong 1 (mR C a) (L a)) / (zNeg (zLong 1 (mR C d) (L d)))))), (14, .long (lN (zNeg (zLong 1 (mR C d) (L d))))), (12, .long (lN (zLong 1 (mR C a) (L a)))), (11, .int 1), (10, .int 0), (8, .long (lN (zLong 1 (mR C d) (L d)))), (6, .long (lN (zLong 1 (mR C a) (L a)))), (0, .ref (T 0)), (1, .int 10), (2, .int 1), (3, .int (nI a)), (4, .int (nI d)), (5, .int (nI (zLen 10 (L a) (L d))))]) hx hb dMo_numbers_252 hl (by decide) rfl (fun ls hl => ?_)
                    refine lv_iload hx hb dMo_numbers_254 (lv_at hl 5 rfl) ?_
                    refine lv_iload hx hb dMo_numbers_256 (lv_at hl 4 rfl) ?_
                    refine lv_icmp_eq (tgt := 267) hx hb dMo_numbers_258 (by decide) (fun c66 => absurd c66 (by decide)) (fun _ => ?_)
                    refine lv_lload hx hb dMo_numbers_261 (lv_at hl 1 rfl) ?_
                    refine lv_lneg hx hb dMo_numbers_263 ?_
                    refine lv_goto (tgt := 269) hx hb dMo_numbers_264 (by decide) ?_
                    refine lv_lstore (lv' := [(16, .long (-(lN ((zLong 1 (mR C a) (L a)) / (zNeg (zLong 1 (mR C d) (L d))))))), (18, .long (lN ((zLong 1 (mR C a) (L a)) % (zNeg (zLong 1 (mR C d) (L d)))))), (14, .long (lN (zNeg (zLong 1 (mR C d) (L d))))), (12, .long (lN (zLong 1 (mR C a) (L a)))), (11, .int 1), (10, .int 0), (8, .long (lN (zLong 1 (mR C d) (L d)))), (6, .long (lN (zLong 1 (mR C a) (L a)))), (0, .ref (T 0)), (1, .int 10), (2, .int 1), (3, .int (nI a)), (4, .int (nI d)), (5, .int (nI (zLen 10 (L a) (L d))))]) hx hb dMo_numbers_269 hl (by decide) rfl (fun ls hl => ?_)
                    refine lv_iload hx hb dMo_numbers_271 (lv_at hl 5 rfl) ?_
                    refine lv_if_eq (tgt := 282) hx hb dMo_numbers_273 (by decide) (fun _ => ?_) (fun c67 => absurd (by decide) c67)
                    refine lv_lload hx hb dMo_numbers_282 (lv_at hl 1 rfl) ?_
                    refine lv_lstore (lv' := [(18, .long (lN ((zLong 1 (mR C a) (L a)) % (zNeg (zLong 1 (mR C d) (L d)))))), (16, .long (-(lN ((zLong 1 (mR C a) (L a)) / (zNeg (zLong 1 (mR C d) (L d))))))), (14, .long (lN (zNeg (zLong 1 (mR C d) (L d))))), (12, .long (lN (zLong 1 (mR C a) (L a)))), (11, .int 1), (10, .int 0), (8, .long (lN (zLong 1 (mR C d) (L d)))), (6, .long (lN (zLong 1 (mR C a) (L a)))), (0, .ref (T 0)), (1, .int 10), (2, .int 1), (3, .int (nI a)), (4, .int (nI d)), (5, .int (nI (zLen 10 (L a) (L d))))]) hx hb dMo_numbers_284 hl (by decide) rfl (fun ls hl => ?_)
                    refine lv_iload_n hx hb dMo_numbers_286 rfl (lv_at hl 9 rfl) ?_
                    refine lv_bipush (v := 12) hx hb dMo_numbers_287 (by decide) ?_
                    refine lv_icmp_ne (tgt := 313) hx hb dMo_numbers_289 (by decide) (fun _ => ?_) (fun c68 => absurd c68 (by decide))
                    refine lv_aload_n hx hb dMo_numbers_313 rfl (lv_at hl 8 rfl) ?_
                    refine lv_iload hx hb dMo_numbers_314 (lv_at hl 13 rfl) ?_
                    refine lv_iload_n hx hb dMo_numbers_316 rfl (lv_at hl 9 rfl) ?_
                    refine lv_bipush (v := 10) hx hb dMo_numbers_317 (by decide) ?_
                    refine lv_icmp_ne (tgt := 327) hx hb dMo_numbers_319 (by decide) (fun c69 => absurd (by decide) c69) (fun _ => ?_)
                    refine lv_lload hx hb dMo_numbers_322 (lv_at hl 1 rfl) ?_
                    refine lv_goto (tgt := 329) hx hb dMo_numbers_324 (by decide) ?_
                    refine nz_eql (y := lN (zArith 10 1 (zLong 1 (mR C a) (L a)) (zLong 1 (mR C d) (L d)))) (by rw [zArith, if_neg (by decide), zDiv, if_pos rfl, lN_zU, sDiv, if_pos rfl]; exact ((sq_pn hPs hQs hq64).symm)) ?_
                    refine mo_call (As := [.int (nI (zLen 10 (L a) (L d))), .long (lN (zArith 10 1 (zLong 1 (mR C a) (L a)) (zLong 1 (mR C d) (L d))))]) (rest := []) S (c_Mo_bits l D cA T hT 0 C L O c0 (zLen 10 (L a) (L d)) hz (zArith 10 1 (zLong 1 (mR C a) (L a)) (zLong 1 (mR C d) (L d))) (zArith_lt (by decide) hp64 hq0 hq64)) kMo_44 ⟨rfl, rfl, Nat.le_of_ble_eq_true rfl, Nat.le_of_ble_eq_true rfl⟩ ⟨Nat.zero_le _, Nat.zero_le _⟩ (mo_ob hK hP) hP hK hS rfl hl.1 rfl (Nat.le_of_ble_eq_true rfl) dMo_numbers_329 (fun H locs hP hS => ?_)
                    have hn0 : nCalc 10 (mR C a) (L a) (mR C d) (L d) = zLen 10 (L a) (L d) := by unfold nCalc; rw [if_pos ⟨hcy, hcz⟩]
                    exact W.vret hx hb hr (fun t ht hW => ⟨⟨(), rfl, trivial, pov (zPut (zArith 10 1 (zLong 1 (mR C a) (L a)) (zLong 1 (mR C d) (L d)))) O 0 (zLen 10 (L a) (L d)), (zLen 10 (L a) (L d)), fun _ => ⟨hn0.symm, by rw [hn0]; exact fun k hk => by rw [pov_in (Nat.zero_le _) (by omega)]; unfold fCalc; rw [if_pos ⟨hcy, hcz⟩]⟩, pov_lt (fun _ _ _ => zPut_lt _ _) ok.2.2, by rw [hk0, ht]; exact hP⟩, hS.F ht⟩) hS.2.2 dMo_numbers_332
                · refine lv_iconst (v := 1) hx hb dMo_numbers_177 (by decide) ?_
                  refine lv_goto (tgt := 182) hx hb dMo_numbers_178 (by decide) ?_
                  have hPs : 9223372036854775808 ≤ zLong 1 (mR C a) (L a) := Nat.le_of_not_lt (fun q => c51 ((lN_lt0 hp64).mpr q))
                  refine lv_istore (lv' := [(10, .int 1), (8, .long (lN (zLong 1 (mR C d) (L d)))), (6, .long (lN (zLong 1 (mR C a) (L a)))), (0, .ref (T 0)), (1, .int 10), (2, .int 1), (3, .int (nI a)), (4, .int (nI d)), (5, .int (nI (zLen 10 (L a) (L d))))]) hx hb dMo_numbers_182 hl (by decide) rfl (fun ls hl => ?_)
                  refine lv_iload_n hx hb dMo_numbers_184 rfl (lv_at hl 5 rfl) ?_
                  refine lv_if_eq (tgt := 199) hx hb dMo_numbers_185 (by decide) (fun c70 => absurd c70 (by decide)) (fun _ => ?_)
                  refine lv_lload hx hb dMo_numbers_188 (lv_at hl 1 rfl) ?_
                  refine lv_lconst (v := 0) hx hb dMo_numbers_190 (by decide) ?_
                  refine W.lcmp hx hb dMo_numbers_191 ?_
                  refine lv_if_ge (tgt := 199) hx hb dMo_numbers_192 (by decide) (fun c71 => ?_) (fun c71 => ?_)
                  · refine lv_iconst (v := 0) hx hb dMo_numbers_199 (by decide) ?_
                    have hQs : zLong 1 (mR C d) (L d) < 9223372036854775808 := (lN_lt0 hq64).mp c71
                    refine lv_istore (lv' := [(11, .int 0), (10, .int 1), (8, .long (lN (zLong 1 (mR C d) (L d)))), (6, .long (lN (zLong 1 (mR C a) (L a)))), (0, .ref (T 0)), (1, .int 10), (2, .int 1), (3, .int (nI a)), (4, .int (nI d)), (5, .int (nI (zLen 10 (L a) (L d))))]) hx hb dMo_numbers_200 hl (by decide) rfl (fun ls hl => ?_)
                    refine lv_iload hx hb dMo_numbers_202 (lv_at hl 1 rfl) ?_
                    refine lv_if_eq (tgt := 213) hx hb dMo_numbers_204 (by decide) (fun c72 => absurd c72 (by decide)) (fun _ => ?_)
                    refine lv_lload hx hb dMo_numbers_207 (lv_at hl 3 rfl) ?_
                    refine lv_lneg hx hb dMo_numbers_209 ?_
                    refine nz_eql (lN_neg hp64) ?_
                    refine lv_goto (tgt := 215) hx hb dMo_numbers_210 (by decide) ?_
                    refine lv_lstore (lv' := [(12, .long (lN (zNeg (zLong 1 (mR C a) (L a))))), (11, .int 0), (10, .int 1), (8, .long (lN (zLong 1 (mR C d) (L d)))), (6, .long (lN (zLong 1 (mR C a) (L a)))), (0, .ref (T 0)), (1, .int 10), (2, .int 1), (3, .int (nI a)), (4, .int (nI d)), (5, .int (nI (zLen 10 (L a) (L d))))]) hx hb dMo_numbers_215 hl (by decide) rfl (fun ls hl => ?_)
                    refine lv_iload hx hb dMo_numbers_217 (lv_at hl 1 rfl) ?_
                    refine lv_if_eq (tgt := 228) hx hb dMo_numbers_219 (by decide) (fun _ => ?_) (fun c73 => absurd (by decide) c73)
                    refine lv_lload hx hb dMo_numbers_228 (lv_at hl 3 rfl) ?_
                    refine lv_lstore (lv' := [(14, .long (lN (zLong 1 (mR C d) (L d)))), (12, .long (lN (zNeg (zLong 1 (mR C a) (L a))))), (11, .int 0), (10, .int 1), (8, .long (lN (zLong 1 (mR C d) (L d)))), (6, .long (lN (zLong 1 (mR C a) (L a)))), (0, .ref (T 0)), (1, .int 10), (2, .int 1), (3, .int (nI a)), (4, .int (nI d)), (5, .int (nI (zLen 10 (L a) (L d))))]) hx hb dMo_numbers_230 hl (by decide) rfl (fun ls hl => ?_)
                    refine lv_aload_n hx hb dMo_numbers_232 rfl (lv_at hl 6 rfl) ?_
                    refine lv_lload hx hb dMo_numbers_233 (lv_at hl 1 rfl) ?_
                    refine lv_lload hx hb dMo_numbers_235 (lv_at hl 0 rfl) ?_
                    refine lv_iconst (v := 1) hx hb dMo_numbers_237 (by decide) ?_
                    refine nz_vl (As := [.long (lN (zNeg (zLong 1 (mR C a) (L a)))), .long (lN (zLong 1 (mR C d) (L d))), .int (nI 1)]) (rest := []) S (c_Mo_divide l T (zNeg (zLong 1 (mR C a) (L a))) (zLong 1 (mR C d) (L d)) 1 (by decide) (zNeg_lt _) hq0 hq64) kMo_80 ⟨rfl, rfl, Nat.le_of_ble_eq_true rfl, Nat.le_of_ble_eq_true rfl⟩ ⟨Nat.zero_le _, Nat.zero_le _⟩ (fun _ _ _ _ h => h) (mo_ob hK hP) (fun _ _ _ => trivial) rfl hl.1 rfl (Nat.le_of_ble_eq_true rfl) dMo_numbers_238 (fun r74 er74 => ?_)
                    subst er74
                    refine nz_eql (y := lN ((zNeg (zLong 1 (mR C a) (L a))) / (zLong 1 (mR C d) (L d)))) (congrArg lN (if_pos rfl)) ?_
                    refine lv_lstore (lv' := [(16, .long (lN ((zNeg (zLong 1 (mR C a) (L a))) / (zLong 1 (mR C d) (L d))))), (14, .long (lN (zLong 1 (mR C d) (L d)))), (12, .long (lN (zNeg (zLong 1 (mR C a) (L a))))), (11, .int 0), (10, .int 1), (8, .long (lN (zLong 1 (mR C d) (L d)))), (6, .long (lN (zLong 1 (mR C a) (L a)))), (0, .ref (T 0)), (1, .int 10), (2, .int 1), (3, .int (nI a)), (4, .int (nI d)), (5, .int (nI (zLen 10 (L a) (L d))))]) hx hb dMo_numbers_241 hl (by decide) rfl (fun ls hl => ?_)
                    refine lv_aload_n hx hb dMo_numbers_243 rfl (lv_at hl 7 rfl) ?_
                    refine lv_lload hx hb dMo_numbers_244 (lv_at hl 2 rfl) ?_
                    refine lv_lload hx hb dMo_numbers_246 (lv_at hl 1 rfl) ?_
                    refine lv_iconst (v := 0) hx hb dMo_numbers_248 (by decide) ?_
                    refine nz_vl (As := [.long (lN (zNeg (zLong 1 (mR C a) (L a)))), .long (lN (zLong 1 (mR C d) (L d))), .int (nI 0)]) (rest := []) S (c_Mo_divide l T (zNeg (zLong 1 (mR C a) (L a))) (zLong 1 (mR C d) (L d)) 0 (by decide) (zNeg_lt _) hq0 hq64) kMo_80 ⟨rfl, rfl, Nat.le_of_ble_eq_true rfl, Nat.le_of_ble_eq_true rfl⟩ ⟨Nat.zero_le _, Nat.zero_le _⟩ (fun _ _ _ _ h => h) (mo_ob hK hP) (fun _ _ _ => trivial) rfl hl.1 rfl (Nat.le_of_ble_eq_true rfl) dMo_numbers_249 (fun r75 er75 => ?_)
                    subst er75
                    refine nz_eql (y := lN ((zNeg (zLong 1 (mR C a) (L a))) % (zLong 1 (mR C d) (L d)))) (congrArg lN (if_neg (by decide))) ?_
                    refine lv_lstore (lv' := [(18, .long (lN ((zNeg (zLong 1 (mR C a) (L a))) % (zLong 1 (mR C d) (L d))))), (16, .long (lN ((zNeg (zLong 1 (mR C a) (L a))) / (zLong 1 (mR C d) (L d))))), (14, .long (lN (zLong 1 (mR C d) (L d)))), (12, .long (lN (zNeg (zLong 1 (mR C a) (L a))))), (11, .int 0), (10, .int 1), (8, .long (lN (zLong 1 (mR C d) (L d)))), (6, .long (lN (zLong 1 (mR C a) (L a)))), (0, .ref (T 0)), (1, .int 10), (2, .int 1), (3, .int (nI a)), (4, .int (nI d)), (5, .int (nI (zLen 10 (L a) (L d))))]) hx hb dMo_numbers_252 hl (by decide) rfl (fun ls hl => ?_)
                    refine lv_iload hx hb dMo_numbers_254 (lv_at hl 5 rfl) ?_
                    refine lv_iload hx hb dMo_numbers_256 (lv_at hl 4 rfl) ?_
                    refine lv_icmp_eq (tgt := 267) hx hb dMo_numbers_258 (by decide) (fun c76 => absurd c76 (by decide)) (fun _ => ?_)
                    refine lv_lload hx hb dMo_numbers_261 (lv_at hl 1 rfl) ?_
                    refine lv_lneg hx hb dMo_numbers_263 ?_
                    refine lv_goto (tgt := 269) hx hb dMo_numbers_264 (by decide) ?_
                    refine lv_lstore (lv' := [(16, .long (-(lN ((zNeg (zLong 1 (mR C a) (L a))) / (zLong 1 (mR C d) (L d)))))), (18, .long (lN ((zNeg (zLong 1 (mR C a) (L a))) % (zLong 1 (mR C d) (L d))))), (14, .long (lN (zLong 1 (mR C d) (L d)))), (12, .long (lN (zNeg (zLong 1 (mR C a) (L a))))), (11, .int 0), (10, .int 1), (8, .long (lN (zLong 1 (mR C d) (L d)))), (6, .long (lN (zLong 1 (mR C a) (L a)))), (0, .ref (T 0)), (1, .int 10), (2, .int 1), (3, .int (nI a)), (4, .int (nI d)), (5, .int (nI (zLen 10 (L a) (L d))))]) hx hb dMo_numbers_269 hl (by decide) rfl (fun ls hl => ?_)
                    refine lv_iload hx hb dMo_numbers_271 (lv_at hl 5 rfl) ?_
                    refine lv_if_eq (tgt := 282) hx hb dMo_numbers_273 (by decide) (fun c77 => absurd c77 (by decide)) (fun _ => ?_)
                    refine lv_lload hx hb dMo_numbers_276 (lv_at hl 1 rfl) ?_
                    refine lv_lneg hx hb dMo_numbers_278 ?_
                    refine lv_goto (tgt := 284) hx hb dMo_numbers_279 (by decide) ?_
                    refine lv_lstore (lv' := [(18, .long (-(lN ((zNeg (zLong 1 (mR C a) (L a))) % (zLong 1 (mR C d) (L d)))))), (16, .long (-(lN ((zNeg (zLong 1 (mR C a) (L a))) / (zLong 1 (mR C d) (L d)))))), (14, .long (lN (zLong 1 (mR C d) (L d)))), (12, .long (lN (zNeg (zLong 1 (mR C a) (L a))))), (11, .int 0), (10, .int 1), (8, .long (lN (zLong 1 (mR C d) (L d)))), (6, .long (lN (zLong 1 (mR C a) (L a)))), (0, .ref (T 0)), (1, .int 10), (2, .int 1), (3, .int (nI a)), (4, .int (nI d)), (5, .int (nI (zLen 10 (L a) (L d))))]) hx hb dMo_numbers_284 hl (by decide) rfl (fun ls hl => ?_)
                    refine lv_iload_n hx hb dMo_numbers_286 rfl (lv_at hl 9 rfl) ?_
                    refine lv_bipush (v := 12) hx hb dMo_numbers_287 (by decide) ?_
                    refine lv_icmp_ne (tgt := 313) hx hb dMo_numbers_289 (by decide) (fun _ => ?_) (fun c78 => absurd c78 (by decide))
                    refine lv_aload_n hx hb dMo_numbers_313 rfl (lv_at hl 8 rfl) ?_
                    refine lv_iload hx hb dMo_numbers_314 (lv_at hl 13 rfl) ?_
                    refine lv_iload_n hx hb dMo_numbers_316 rfl (lv_at hl 9 rfl) ?_
                    refine lv_bipush (v := 10) hx hb dMo_numbers_317 (by decide) ?_
                    refine lv_icmp_ne (tgt := 327) hx hb dMo_numbers_319 (by decide) (fun c79 => absurd (by decide) c79) (fun _ => ?_)
                    refine lv_lload hx hb dMo_numbers_322 (lv_at hl 1 rfl) ?_
                    refine lv_goto (tgt := 329) hx hb dMo_numbers_324 (by decide) ?_
                    refine nz_eql (y := lN (zArith 10 1 (zLong 1 (mR C a) (L a)) (zLong 1 (mR C d) (L d)))) (by rw [zArith, if_neg (by decide), zDiv, if_pos rfl, lN_zU, sDiv, if_pos rfl]; exact ((sq_np hPs hp64 hQs).symm)) ?_
                    refine mo_call (As := [.int (nI (zLen 10 (L a) (L d))), .long (lN (zArith 10 1 (zLong 1 (mR C a) (L a)) (zLong 1 (mR C d) (L d))))]) (rest := []) S (c_Mo_bits l D cA T hT 0 C L O c0 (zLen 10 (L a) (L d)) hz (zArith 10 1 (zLong 1 (mR C a) (L a)) (zLong 1 (mR C d) (L d))) (zArith_lt (by decide) hp64 hq0 hq64)) kMo_44 ⟨rfl, rfl, Nat.le_of_ble_eq_true rfl, Nat.le_of_ble_eq_true rfl⟩ ⟨Nat.zero_le _, Nat.zero_le _⟩ (mo_ob hK hP) hP hK hS rfl hl.1 rfl (Nat.le_of_ble_eq_true rfl) dMo_numbers_329 (fun H locs hP hS => ?_)
                    have hn0 : nCalc 10 (mR C a) (L a) (mR C d) (L d) = zLen 10 (L a) (L d) := by unfold nCalc; rw [if_pos ⟨hcy, hcz⟩]
                    exact W.vret hx hb hr (fun t ht hW => ⟨⟨(), rfl, trivial, pov (zPut (zArith 10 1 (zLong 1 (mR C a) (L a)) (zLong 1 (mR C d) (L d)))) O 0 (zLen 10 (L a) (L d)), (zLen 10 (L a) (L d)), fun _ => ⟨hn0.symm, by rw [hn0]; exact fun k hk => by rw [pov_in (Nat.zero_le _) (by omega)]; unfold fCalc; rw [if_pos ⟨hcy, hcz⟩]⟩, pov_lt (fun _ _ _ => zPut_lt _ _) ok.2.2, by rw [hk0, ht]; exact hP⟩, hS.F ht⟩) hS.2.2 dMo_numbers_332
                  · refine lv_iconst (v := 1) hx hb dMo_numbers_195 (by decide) ?_
                    refine lv_goto (tgt := 200) hx hb dMo_numbers_196 (by decide) ?_
                    have hQs : 9223372036854775808 ≤ zLong 1 (mR C d) (L d) := Nat.le_of_not_lt (fun q => c71 ((lN_lt0 hq64).mpr q))
                    refine lv_istore (lv' := [(11, .int 1), (10, .int 1), (8, .long (lN (zLong 1 (mR C d) (L d)))), (6, .long (lN (zLong 1 (mR C a) (L a)))), (0, .ref (T 0)), (1, .int 10), (2, .int 1), (3, .int (nI a)), (4, .int (nI d)), (5, .int (nI (zLen 10 (L a) (L d))))]) hx hb dMo_numbers_200 hl (by decide) rfl (fun ls hl => ?_)
                    refine lv_iload hx hb dMo_numbers_202 (lv_at hl 1 rfl) ?_
                    refine lv_if_eq (tgt := 213) hx hb dMo_numbers_204 (by decide) (fun c80 => absurd c80 (by decide)) (fun _ => ?_)
                    refine lv_lload hx hb dMo_numbers_207 (lv_at hl 3 rfl) ?_
                    refine lv_lneg hx hb dMo_numbers_209 ?_
                    refine nz_eql (lN_neg hp64) ?_
                    refine lv_goto (tgt := 215) hx hb dMo_numbers_210 (by decide) ?_
                    refine lv_lstore (lv' := [(12, .long (lN (zNeg (zLong 1 (mR C a) (L a))))), (11, .int 1), (10, .int 1), (8, .long (lN (zLong 1 (mR C d) (L d)))), (6, .long (lN (zLong 1 (mR C a) (L a)))), (0, .ref (T 0)), (1, .int 10), (2, .int 1), (3, .int (nI a)), (4, .int (nI d)), (5, .int (nI (zLen 10 (L a) (L d))))]) hx hb dMo_numbers_215 hl (by decide) rfl (fun ls hl => ?_)
                    refine lv_iload hx hb dMo_numbers_217 (lv_at hl 1 rfl) ?_
                    refine lv_if_eq (tgt := 228) hx hb dMo_numbers_219 (by decide) (fun c81 => absurd c81 (by decide)) (fun _ => ?_)
                    refine lv_lload hx hb dMo_numbers_222 (lv_at hl 3 rfl) ?_
                    refine lv_lneg hx hb dMo_numbers_224 ?_
                    refine nz_eql (lN_neg hq64) ?_
                    refine lv_goto (tgt := 230) hx hb dMo_numbers_225 (by decide) ?_
                    refine lv_lstore (lv' := [(14, .long (lN (zNeg (zLong 1 (mR C d) (L d))))), (12, .long (lN (zNeg (zLong 1 (mR C a) (L a))))), (11, .int 1), (10, .int 1), (8, .long (lN (zLong 1 (mR C d) (L d)))), (6, .long (lN (zLong 1 (mR C a) (L a)))), (0, .ref (T 0)), (1, .int 10), (2, .int 1), (3, .int (nI a)), (4, .int (nI d)), (5, .int (nI (zLen 10 (L a) (L d))))]) hx hb dMo_numbers_230 hl (by decide) rfl (fun ls hl => ?_)
                    refine lv_aload_n hx hb dMo_numbers_232 rfl (lv_at hl 6 rfl) ?_
                    refine lv_lload hx hb dMo_numbers_233 (lv_at hl 1 rfl) ?_
                    refine lv_lload hx hb dMo_numbers_235 (lv_at hl 0 rfl) ?_
                    refine lv_iconst (v := 1) hx hb dMo_numbers_237 (by decide) ?_
                    refine nz_vl (As := [.long (lN (zNeg (zLong 1 (mR C a) (L a)))), .long (lN (zNeg (zLong 1 (mR C d) (L d)))), .int (nI 1)]) (rest := []) S (c_Mo_divide l T (zNeg (zLong 1 (mR C a) (L a))) (zNeg (zLong 1 (mR C d) (L d))) 1 (by decide) (zNeg_lt _) (zNeg_le hQs hq64).2 (zNeg_lt _)) kMo_80 ⟨rfl, rfl, Nat.le_of_ble_eq_true rfl, Nat.le_of_ble_eq_true rfl⟩ ⟨Nat.zero_le _, Nat.zero_le _⟩ (fun _ _ _ _ h => h) (mo_ob hK hP) (fun _ _ _ => trivial) rfl hl.1 rfl (Nat.le_of_ble_eq_true rfl) dMo_numbers_238 (fun r82 er82 => ?_)
                    subst er82
                    refine nz_eql (y := lN ((zNeg (zLong 1 (mR C a) (L a))) / (zNeg (zLong 1 (mR C d) (L d))))) (congrArg lN (if_pos rfl)) ?_
                    refine lv_lstore (lv' := [(16, .long (lN ((zNeg (zLong 1 (mR C a) (L a))) / (zNeg (zLong 1 (mR C d) (L d)))))), (14, .long (lN (zNeg (zLong 1 (mR C d) (L d))))), (12, .long (lN (zNeg (zLong 1 (mR C a) (L a))))), (11, .int 1), (10, .int 1), (8, .long (lN (zLong 1 (mR C d) (L d)))), (6, .long (lN (zLong 1 (mR C a) (L a)))), (0, .ref (T 0)), (1, .int 10), (2, .int 1), (3, .int (nI a)), (4, .int (nI d)), (5, .int (nI (zLen 10 (L a) (L d))))]) hx hb dMo_numbers_241 hl (by decide) rfl (fun ls hl => ?_)
                    refine lv_aload_n hx hb dMo_numbers_243 rfl (lv_at hl 7 rfl) ?_
                    refine lv_lload hx hb dMo_numbers_244 (lv_at hl 2 rfl) ?_
                    refine lv_lload hx hb dMo_numbers_246 (lv_at hl 1 rfl) ?_
                    refine lv_iconst (v := 0) hx hb dMo_numbers_248 (by decide) ?_
                    refine nz_vl (As := [.long (lN (zNeg (zLong 1 (mR C a) (L a)))), .long (lN (zNeg (zLong 1 (mR C d) (L d)))), .int (nI 0)]) (rest := []) S (c_Mo_divide l T (zNeg (zLong 1 (mR C a) (L a))) (zNeg (zLong 1 (mR C d) (L d))) 0 (by decide) (zNeg_lt _) (zNeg_le hQs hq64).2 (zNeg_lt _)) kMo_80 ⟨rfl, rfl, Nat.le_of_ble_eq_true rfl, Nat.le_of_ble_eq_true rfl⟩ ⟨Nat.zero_le _, Nat.zero_le _⟩ (fun _ _ _ _ h => h) (mo_ob hK hP) (fun _ _ _ => trivial) rfl hl.1 rfl (Nat.le_of_ble_eq_true rfl) dMo_numbers_249 (fun r83 er83 => ?_)
                    subst er83
                    refine nz_eql (y := lN ((zNeg (zLong 1 (mR C a) (L a))) % (zNeg (zLong 1 (mR C d) (L d))))) (congrArg lN (if_neg (by decide))) ?_
                    refine lv_lstore (lv' := [(18, .long (lN ((zNeg (zLong 1 (mR C a) (L a))) % (zNeg (zLong 1 (mR C d) (L d)))))), (16, .long (lN ((zNeg (zLong 1 (mR C a) (L a))) / (zNeg (zLong 1 (mR C d) (L d)))))), (14, .long (lN (zNeg (zLong 1 (mR C d) (L d))))), (12, .long (lN (zNeg (zLong 1 (mR C a) (L a))))), (11, .int 1), (10, .int 1), (8, .long (lN (zLong 1 (mR C d) (L d)))), (6, .long (lN (zLong 1 (mR C a) (L a)))), (0, .ref (T 0)), (1, .int 10), (2, .int 1), (3, .int (nI a)), (4, .int (nI d)), (5, .int (nI (zLen 10 (L a) (L d))))]) hx hb dMo_numbers_252 hl (by decide) rfl (fun ls hl => ?_)
                    refine lv_iload hx hb dMo_numbers_254 (lv_at hl 5 rfl) ?_
                    refine lv_iload hx hb dMo_numbers_256 (lv_at hl 4 rfl) ?_
                    refine lv_icmp_eq (tgt := 267) hx hb dMo_numbers_258 (by decide) (fun _ => ?_) (fun c84 => absurd (by decide) c84)
                    refine lv_lload hx hb dMo_numbers_267 (lv_at hl 1 rfl) ?_
                    refine lv_lstore (lv' := [(16, .long (lN ((zNeg (zLong 1 (mR C a) (L a))) / (zNeg (zLong 1 (mR C d) (L d)))))), (18, .long (lN ((zNeg (zLong 1 (mR C a) (L a))) % (zNeg (zLong 1 (mR C d) (L d)))))), (14, .long (lN (zNeg (zLong 1 (mR C d) (L d))))), (12, .long (lN (zNeg (zLong 1 (mR C a) (L a))))), (11, .int 1), (10, .int 1), (8, .long (lN (zLong 1 (mR C d) (L d)))), (6, .long (lN (zLong 1 (mR C a) (L a)))), (0, .ref (T 0)), (1, .int 10), (2, .int 1), (3, .int (nI a)), (4, .int (nI d)), (5, .int (nI (zLen 10 (L a) (L d))))]) hx hb dMo_numbers_269 hl (by decide) rfl (fun ls hl => ?_)
                    refine lv_iload hx hb dMo_numbers_271 (lv_at hl 5 rfl) ?_
                    refine lv_if_eq (tgt := 282) hx hb dMo_numbers_273 (by decide) (fun c85 => absurd c85 (by decide)) (fun _ => ?_)
                    refine lv_lload hx hb dMo_numbers_276 (lv_at hl 1 rfl) ?_
                    refine lv_lneg hx hb dMo_numbers_278 ?_
                    refine lv_goto (tgt := 284) hx hb dMo_numbers_279 (by decide) ?_
                    refine lv_lstore (lv' := [(18, .long (-(lN ((zNeg (zLong 1 (mR C a) (L a))) % (zNeg (zLong 1 (mR C d) (L d))))))), (16, .long (lN ((zNeg (zLong 1 (mR C a) (L a))) / (zNeg (zLong 1 (mR C d) (L d)))))), (14, .long (lN (zNeg (zLong 1 (mR C d) (L d))))), (12, .long (lN (zNeg (zLong 1 (mR C a) (L a))))), (11, .int 1), (10, .int 1), (8, .long (lN (zLong 1 (mR C d) (L d)))), (6, .long (lN (zLong 1 (mR C a) (L a)))), (0, .ref (T 0)), (1, .int 10), (2, .int 1), (3, .int (nI a)), (4, .int (nI d)), (5, .int (nI (zLen 10 (L a) (L d))))]) hx hb dMo_numbers_284 hl (by decide) rfl (fun ls hl => ?_)
                    refine lv_iload_n hx hb dMo_numbers_286 rfl (lv_at hl 9 rfl) ?_
                    refine lv_bipush (v := 12) hx hb dMo_numbers_287 (by decide) ?_
                    refine lv_icmp_ne (tgt := 313) hx hb dMo_numbers_289 (by decide) (fun _ => ?_) (fun c86 => absurd c86 (by decide))
                    refine lv_aload_n hx hb dMo_numbers_313 rfl (lv_at hl 8 rfl) ?_
                    refine lv_iload hx hb dMo_numbers_314 (lv_at hl 13 rfl) ?_
                    refine lv_iload_n hx hb dMo_numbers_316 rfl (lv_at hl 9 rfl) ?_
                    refine lv_bipush (v := 10) hx hb dMo_numbers_317 (by decide) ?_
                    refine lv_icmp_ne (tgt := 327) hx hb dMo_numbers_319 (by decide) (fun c87 => absurd (by decide) c87) (fun _ => ?_)
                    refine lv_lload hx hb dMo_numbers_322 (lv_at hl 1 rfl) ?_
                    refine lv_goto (tgt := 329) hx hb dMo_numbers_324 (by decide) ?_
                    refine nz_eql (y := lN (zArith 10 1 (zLong 1 (mR C a) (L a)) (zLong 1 (mR C d) (L d)))) (by rw [zArith, if_neg (by decide), zDiv, if_pos rfl, lN_zU, sDiv, if_pos rfl]; exact ((sq_nn hPs hp64 hQs hq64).symm)) ?_
                    refine mo_call (As := [.int (nI (zLen 10 (L a) (L d))), .long (lN (zArith 10 1 (zLong 1 (mR C a) (L a)) (zLong 1 (mR C d) (L d))))]) (rest := []) S (c_Mo_bits l D cA T hT 0 C L O c0 (zLen 10 (L a) (L d)) hz (zArith 10 1 (zLong 1 (mR C a) (L a)) (zLong 1 (mR C d) (L d))) (zArith_lt (by decide) hp64 hq0 hq64)) kMo_44 ⟨rfl, rfl, Nat.le_of_ble_eq_true rfl, Nat.le_of_ble_eq_true rfl⟩ ⟨Nat.zero_le _, Nat.zero_le _⟩ (mo_ob hK hP) hP hK hS rfl hl.1 rfl (Nat.le_of_ble_eq_true rfl) dMo_numbers_329 (fun H locs hP hS => ?_)
                    have hn0 : nCalc 10 (mR C a) (L a) (mR C d) (L d) = zLen 10 (L a) (L d) := by unfold nCalc; rw [if_pos ⟨hcy, hcz⟩]
                    exact W.vret hx hb hr (fun t ht hW => ⟨⟨(), rfl, trivial, pov (zPut (zArith 10 1 (zLong 1 (mR C a) (L a)) (zLong 1 (mR C d) (L d)))) O 0 (zLen 10 (L a) (L d)), (zLen 10 (L a) (L d)), fun _ => ⟨hn0.symm, by rw [hn0]; exact fun k hk => by rw [pov_in (Nat.zero_le _) (by omega)]; unfold fCalc; rw [if_pos ⟨hcy, hcz⟩]⟩, pov_lt (fun _ _ _ => zPut_lt _ _) ok.2.2, by rw [hk0, ht]; exact hP⟩, hS.F ht⟩) hS.2.2 dMo_numbers_332
              · refine lv_iload_n hx hb dMo_numbers_166 rfl (lv_at hl 4 rfl) ?_
                refine lv_if_eq (tgt := 181) hx hb dMo_numbers_167 (by decide) (fun c88 => absurd c88 (by decide)) (fun _ => ?_)
                refine lv_lload hx hb dMo_numbers_170 (lv_at hl 1 rfl) ?_
                refine lv_lconst (v := 0) hx hb dMo_numbers_172 (by decide) ?_
                refine W.lcmp hx hb dMo_numbers_173 ?_
                refine lv_if_ge (tgt := 181) hx hb dMo_numbers_174 (by decide) (fun c89 => ?_) (fun c89 => ?_)
                · refine lv_iconst (v := 0) hx hb dMo_numbers_181 (by decide) ?_
                  have hPs : zLong 1 (mR C a) (L a) < 9223372036854775808 := (lN_lt0 hp64).mp c89
                  refine lv_istore (lv' := [(10, .int 0), (8, .long (lN (zLong 1 (mR C d) (L d)))), (6, .long (lN (zLong 1 (mR C a) (L a)))), (0, .ref (T 0)), (1, .int 11), (2, .int 1), (3, .int (nI a)), (4, .int (nI d)), (5, .int (nI (zLen 11 (L a) (L d))))]) hx hb dMo_numbers_182 hl (by decide) rfl (fun ls hl => ?_)
                  refine lv_iload_n hx hb dMo_numbers_184 rfl (lv_at hl 5 rfl) ?_
                  refine lv_if_eq (tgt := 199) hx hb dMo_numbers_185 (by decide) (fun c90 => absurd c90 (by decide)) (fun _ => ?_)
                  refine lv_lload hx hb dMo_numbers_188 (lv_at hl 1 rfl) ?_
                  refine lv_lconst (v := 0) hx hb dMo_numbers_190 (by decide) ?_
                  refine W.lcmp hx hb dMo_numbers_191 ?_
                  refine lv_if_ge (tgt := 199) hx hb dMo_numbers_192 (by decide) (fun c91 => ?_) (fun c91 => ?_)
                  · refine lv_iconst (v := 0) hx hb dMo_numbers_199 (by decide) ?_
                    have hQs : zLong 1 (mR C d) (L d) < 9223372036854775808 := (lN_lt0 hq64).mp c91
                    refine lv_istore (lv' := [(11, .int 0), (10, .int 0), (8, .long (lN (zLong 1 (mR C d) (L d)))), (6, .long (lN (zLong 1 (mR C a) (L a)))), (0, .ref (T 0)), (1, .int 11), (2, .int 1), (3, .int (nI a)), (4, .int (nI d)), (5, .int (nI (zLen 11 (L a) (L d))))]) hx hb dMo_numbers_200 hl (by decide) rfl (fun ls hl => ?_)
                    refine lv_iload hx hb dMo_numbers_202 (lv_at hl 1 rfl) ?_
                    refine lv_if_eq (tgt := 213) hx hb dMo_numbers_204 (by decide) (fun _ => ?_) (fun c92 => absurd (by decide) c92)
                    refine lv_lload hx hb dMo_numbers_213 (lv_at hl 3 rfl) ?_
                    refine lv_lstore (lv' := [(12, .long (lN (zLong 1 (mR C a) (L a)))), (11, .int 0), (10, .int 0), (8, .long (lN (zLong 1 (mR C d) (L d)))), (6, .long (lN (zLong 1 (mR C a) (L a)))), (0, .ref (T 0)), (1, .int 11), (2, .int 1), (3, .int (nI a)), (4, .int (nI d)), (5, .int (nI (zLen 11 (L a) (L d))))]) hx hb dMo_numbers_215 hl (by decide) rfl (fun ls hl => ?_)
                    refine lv_iload hx hb dMo_numbers_217 (lv_at hl 1 rfl) ?_
                    refine lv_if_eq (tgt := 228) hx hb dMo_numbers_219 (by decide) (fun _ => ?_) (fun c93 => absurd (by decide) c93)
                    refine lv_lload hx hb dMo_numbers_228 (lv_at hl 3 rfl) ?_
                    refine lv_lstore (lv' := [(14, .long (lN (zLong 1 (mR C d) (L d)))), (12, .long (lN (zLong 1 (mR C a) (L a)))), (11, .int 0), (10, .int 0), (8, .long (lN (zLong 1 (mR C d) (L d)))), (6, .long (lN (zLong 1 (mR C a) (L a)))), (0, .ref (T 0)), (1, .int 11), (2, .int 1), (3, .int (nI a)), (4, .int (nI d)), (5, .int (nI (zLen 11 (L a) (L d))))]) hx hb dMo_numbers_230 hl (by decide) rfl (fun ls hl => ?_)
                    refine lv_aload_n hx hb dMo_numbers_232 rfl (lv_at hl 6 rfl) ?_
                    refine lv_lload hx hb dMo_numbers_233 (lv_at hl 1 rfl) ?_
                    refine lv_lload hx hb dMo_numbers_235 (lv_at hl 0 rfl) ?_
                    refine lv_iconst (v := 1) hx hb dMo_numbers_237 (by decide) ?_
                    refine nz_vl (As := [.long (lN (zLong 1 (mR C a) (L a))), .long (lN (zLong 1 (mR C d) (L d))), .int (nI 1)]) (rest := []) S (c_Mo_divide l T (zLong 1 (mR C a) (L a)) (zLong 1 (mR C d) (L d)) 1 (by decide) hp64 hq0 hq64) kMo_80 ⟨rfl, rfl, Nat.le_of_ble_eq_true rfl, Nat.le_of_ble_eq_true rfl⟩ ⟨Nat.zero_le _, Nat.zero_le _⟩ (fun _ _ _ _ h => h) (mo_ob hK hP) (fun _ _ _ => trivial) rfl hl.1 rfl (Nat.le_of_ble_eq_true rfl) dMo_numbers_238 (fun r94 er94 => ?_)
                    subst er94
                    refine nz_eql (y := lN ((zLong 1 (mR C a) (L a)) / (zLong 1 (mR C d) (L d)))) (congrArg lN (if_pos rfl)) ?_
                    refine lv_lstore (lv' := [(16, .long (lN ((zLong 1 (mR C a) (L a)) / (zLong 1 (mR C d) (L d))))), (14, .long (lN (zLong 1 (mR C d) (L d)))), (12, .long (lN (zLong 1 (mR C a) (L a)))), (11, .int 0), (10, .int 0), (8, .long (lN (zLong 1 (mR C d) (L d)))), (6, .long (lN (zLong 1 (mR C a) (L a)))), (0, .ref (T 0)), (1, .int 11), (2, .int 1), (3, .int (nI a)), (4, .int (nI d)), (5, .int (nI (zLen 11 (L a) (L d))))]) hx hb dMo_numbers_241 hl (by decide) rfl (fun ls hl => ?_)
                    refine lv_aload_n hx hb dMo_numbers_243 rfl (lv_at hl 7 rfl) ?_
                    refine lv_lload hx hb dMo_numbers_244 (lv_at hl 2 rfl) ?_
                    refine lv_lload hx hb dMo_numbers_246 (lv_at hl 1 rfl) ?_
                    refine lv_iconst (v := 0) hx hb dMo_numbers_248 (by decide) ?_
                    refine nz_vl (As := [.long (lN (zLong 1 (mR C a) (L a))), .long (lN (zLong 1 (mR C d) (L d))), .int (nI 0)]) (rest := []) S (c_Mo_divide l T (zLong 1 (mR C a) (L a)) (zLong 1 (mR C d) (L d)) 0 (by decide) hp64 hq0 hq64) kMo_80 ⟨rfl, rfl, Nat.le_of_ble_eq_true rfl, Nat.le_of_ble_eq_true rfl⟩ ⟨Nat.zero_le _, Nat.zero_le _⟩ (fun _ _ _ _ h => h) (mo_ob hK hP) (fun _ _ _ => trivial) rfl hl.1 rfl (Nat.le_of_ble_eq_true rfl) dMo_numbers_249 (fun r95 er95 => ?_)
                    subst er95
                    refine nz_eql (y := lN ((zLong 1 (mR C a) (L a)) % (zLong 1 (mR C d) (L d)))) (congrArg lN (if_neg (by decide))) ?_
                    refine lv_lstore (lv' := [(18, .long (lN ((zLong 1 (mR C a) (L a)) % (zLong 1 (mR C d) (L d))))), (16, .long (lN ((zLong 1 (mR C a) (L a)) / (zLong 1 (mR C d) (L d))))), (14, .long (lN (zLong 1 (mR C d) (L d)))), (12, .long (lN (zLong 1 (mR C a) (L a)))), (11, .int 0), (10, .int 0), (8, .long (lN (zLong 1 (mR C d) (L d)))), (6, .long (lN (zLong 1 (mR C a) (L a)))), (0, .ref (T 0)), (1, .int 11), (2, .int 1), (3, .int (nI a)), (4, .int (nI d)), (5, .int (nI (zLen 11 (L a) (L d))))]) hx hb dMo_numbers_252 hl (by decide) rfl (fun ls hl => ?_)
                    refine lv_iload hx hb dMo_numbers_254 (lv_at hl 5 rfl) ?_
                    refine lv_iload hx hb dMo_numbers_256 (lv_at hl 4 rfl) ?_
                    refine lv_icmp_eq (tgt := 267) hx hb dMo_numbers_258 (by decide) (fun _ => ?_) (fun c96 => absurd (by decide) c96)
                    refine lv_lload hx hb dMo_numbers_267 (lv_at hl 1 rfl) ?_
                    refine lv_lstore (lv' := [(16, .long (lN ((zLong 1 (mR C a) (L a)) / (zLong 1 (mR C d) (L d))))), (18, .long (lN ((zLong 1 (mR C a) (L a)) % (zLong 1 (mR C d) (L d))))), (14, .long (lN (zLong 1 (mR C d) (L d)))), (12, .long (lN (zLong 1 (mR C a) (L a)))), (11, .int 0), (10, .int 0), (8, .long (lN (zLong 1 (mR C d) (L d)))), (6, .long (lN (zLong 1 (mR C a) (L a)))), (0, .ref (T 0)), (1, .int 11), (2, .int 1), (3, .int (nI a)), (4, .int (nI d)), (5, .int (nI (zLen 11 (L a) (L d))))]) hx hb dMo_numbers_269 hl (by decide) rfl (fun ls hl => ?_)
                    refine lv_iload hx hb dMo_numbers_271 (lv_at hl 5 rfl) ?_
                    refine lv_if_eq (tgt := 282) hx hb dMo_numbers_273 (by decide) (fun _ => ?_) (fun c97 => absurd (by decide) c97)
                    refine lv_lload hx hb dMo_numbers_282 (lv_at hl 1 rfl) ?_
                    refine lv_lstore (lv' := [(18, .long (lN ((zLong 1 (mR C a) (L a)) % (zLong 1 (mR C d) (L d))))), (16, .long (lN ((zLong 1 (mR C a) (L a)) / (zLong 1 (mR C d) (L d))))), (14, .long (lN (zLong 1 (mR C d) (L d)))), (12, .long (lN (zLong 1 (mR C a) (L a)))), (11, .int 0), (10, .int 0), (8, .long (lN (zLong 1 (mR C d) (L d)))), (6, .long (lN (zLong 1 (mR C a) (L a)))), (0, .ref (T 0)), (1, .int 11), (2, .int 1), (3, .int (nI a)), (4, .int (nI d)), (5, .int (nI (zLen 11 (L a) (L d))))]) hx hb dMo_numbers_284 hl (by decide) rfl (fun ls hl => ?_)
                    refine lv_iload_n hx hb dMo_numbers_286 rfl (lv_at hl 9 rfl) ?_
                    refine lv_bipush (v := 12) hx hb dMo_numbers_287 (by decide) ?_
                    refine lv_icmp_ne (tgt := 313) hx hb dMo_numbers_289 (by decide) (fun _ => ?_) (fun c98 => absurd c98 (by decide))
                    refine lv_aload_n hx hb dMo_numbers_313 rfl (lv_at hl 8 rfl) ?_
                    refine lv_iload hx hb dMo_numbers_314 (lv_at hl 13 rfl) ?_
                    refine lv_iload_n hx hb dMo_numbers_316 rfl (lv_at hl 9 rfl) ?_
                    refine lv_bipush (v := 10) hx hb dMo_numbers_317 (by decide) ?_
                    refine lv_icmp_ne (tgt := 327) hx hb dMo_numbers_319 (by decide) (fun _ => ?_) (fun c99 => absurd c99 (by decide))
                    refine lv_lload hx hb dMo_numbers_327 (lv_at hl 0 rfl) ?_
                    refine nz_eql (y := lN (zArith 11 1 (zLong 1 (mR C a) (L a)) (zLong 1 (mR C d) (L d)))) (by rw [zArith, if_neg (by decide), zDiv, if_pos rfl, lN_zU, sDiv, if_neg (by decide), if_pos rfl]; exact ((sr_pp hPs hq0 hQs).symm)) ?_
                    refine mo_call (As := [.int (nI (zLen 11 (L a) (L d))), .long (lN (zArith 11 1 (zLong 1 (mR C a) (L a)) (zLong 1 (mR C d) (L d))))]) (rest := []) S (c_Mo_bits l D cA T hT 0 C L O c0 (zLen 11 (L a) (L d)) hz (zArith 11 1 (zLong 1 (mR C a) (L a)) (zLong 1 (mR C d) (L d))) (zArith_lt (by decide) hp64 hq0 hq64)) kMo_44 ⟨rfl, rfl, Nat.le_of_ble_eq_true rfl, Nat.le_of_ble_eq_true rfl⟩ ⟨Nat.zero_le _, Nat.zero_le _⟩ (mo_ob hK hP) hP hK hS rfl hl.1 rfl (Nat.le_of_ble_eq_true rfl) dMo_numbers_329 (fun H locs hP hS => ?_)
                    have hn0 : nCalc 11 (mR C a) (L a) (mR C d) (L d) = zLen 11 (L a) (L d) := by unfold nCalc; rw [if_pos ⟨hcy, hcz⟩]
                    exact W.vret hx hb hr (fun t ht hW => ⟨⟨(), rfl, trivial, pov (zPut (zArith 11 1 (zLong 1 (mR C a) (L a)) (zLong 1 (mR C d) (L d)))) O 0 (zLen 11 (L a) (L d)), (zLen 11 (L a) (L d)), fun _ => ⟨hn0.symm, by rw [hn0]; exact fun k hk => by rw [pov_in (Nat.zero_le _) (by omega)]; unfold fCalc; rw [if_pos ⟨hcy, hcz⟩]⟩, pov_lt (fun _ _ _ => zPut_lt _ _) ok.2.2, by rw [hk0, ht]; exact hP⟩, hS.F ht⟩) hS.2.2 dMo_numbers_332
                  · refine lv_iconst (v := 1) hx hb dMo_numbers_195 (by decide) ?_
                    refine lv_goto (tgt := 200) hx hb dMo_numbers_196 (by decide) ?_
                    have hQs : 9223372036854775808 ≤ zLong 1 (mR C d) (L d) := Nat.le_of_not_lt (fun q => c91 ((lN_lt0 hq64).mpr q))
                    refine lv_istore (lv' := [(11, .int 1), (10, .int 0), (8, .long (lN (zLong 1 (mR C d) (L d)))), (6, .long (lN (zLong 1 (mR C a) (L a)))), (0, .ref (T 0)), (1, .int 11), (2, .int 1), (3, .int (nI a)), (4, .int (nI d)), (5, .int (nI (zLen 11 (L a) (L d))))]) hx hb dMo_numbers_200 hl (by decide) rfl (fun ls hl => ?_)
                    refine lv_iload hx hb dMo_numbers_202 (lv_at hl 1 rfl) ?_
                    refine lv_if_eq (tgt := 213) hx hb dMo_numbers_204 (by decide) (fun _ => ?_) (fun c100 => absurd (by decide) c100)
                    refine lv_lload hx hb dMo_numbers_213 (lv_at hl 3 rfl) ?_
                    refine lv_lstore (lv' := [(12, .long (lN (zLong 1 (mR C a) (L a)))), (11, .int 1), (10, .int 0), (8, .long (lN (zLong 1 (mR C d) (L d)))), (6, .long (lN (zLong 1 (mR C a) (L a)))), (0, .ref (T 0)), (1, .int 11), (2, .int 1), (3, .int (nI a)), (4, .int (nI d)), (5, .int (nI (zLen 11 (L a) (L d))))]) hx hb dMo_numbers_215 hl (by decide) rfl (fun ls hl => ?_)
                    refine lv_iload hx hb dMo_numbers_217 (lv_at hl 1 rfl) ?_
                    refine lv_if_eq (tgt := 228) hx hb dMo_numbers_219 (by decide) (fun c101 => absurd c101 (by decide)) (fun _ => ?_)
                    refine lv_lload hx hb dMo_numbers_222 (lv_at hl 3 rfl) ?_
                    refine lv_lneg hx hb dMo_numbers_224 ?_
                    refine nz_eql (lN_neg hq64) ?_
                    refine lv_goto (tgt := 230) hx hb dMo_numbers_225 (by decide) ?_
                    refine lv_lstore (lv' := [(14, .long (lN (zNeg (zLong 1 (mR C d) (L d))))), (12, .long (lN (zLong 1 (mR C a) (L a)))), (11, .int 1), (10, .int 0), (8, .long (lN (zLong 1 (mR C d) (L d)))), (6, .long (lN (zLong 1 (mR C a) (L a)))), (0, .ref (T 0)), (1, .int 11), (2, .int 1), (3, .int (nI a)), (4, .int (nI d)), (5, .int (nI (zLen 11 (L a) (L d))))]) hx hb dMo_numbers_230 hl (by decide) rfl (fun ls hl => ?_)
                    refine lv_aload_n hx hb dMo_numbers_232 rfl (lv_at hl 6 rfl) ?_
                    refine lv_lload hx hb dMo_numbers_233 (lv_at hl 1 rfl) ?_
                    refine lv_lload hx hb dMo_numbers_235 (lv_at hl 0 rfl) ?_
                    refine lv_iconst (v := 1) hx hb dMo_numbers_237 (by decide) ?_
                    refine nz_vl (As := [.long (lN (zLong 1 (mR C a) (L a))), .long (lN (zNeg (zLong 1 (mR C d) (L d)))), .int (nI 1)]) (rest := []) S (c_Mo_divide l T (zLong 1 (mR C a) (L a)) (zNeg (zLong 1 (mR C d) (L d))) 1 (by decide) hp64 (zNeg_le hQs hq64).2 (zNeg_lt _)) kMo_80 ⟨rfl, rfl, Nat.le_of_ble_eq_true rfl, Nat.le_of_ble_eq_true rfl⟩ ⟨Nat.zero_le _, Nat.zero_le _⟩ (fun _ _ _ _ h => h) (mo_ob hK hP) (fun _ _ _ => trivial) rfl hl.1 rfl (Nat.le_of_ble_eq_true rfl) dMo_numbers_238 (fun r102 er102 => ?_)
                    subst er102
                    refine nz_eql (y := lN ((zLong 1 (mR C a) (L a)) / (zNeg (zLong 1 (mR C d) (L d))))) (congrArg lN (if_pos rfl)) ?_
                    refine lv_lstore (lv' := [(16, .long (lN ((zLong 1 (mR C a) (L a)) / (zNeg (zLong 1 (mR C d) (L d)))))), (14, .long (lN (zNeg (zLong 1 (mR C d) (L d))))), (12, .long (lN (zLong 1 (mR C a) (L a)))), (11, .int 1), (10, .int 0), (8, .long (lN (zLong 1 (mR C d) (L d)))), (6, .long (lN (zLong 1 (mR C a) (L a)))), (0, .ref (T 0)), (1, .int 11), (2, .int 1), (3, .int (nI a)), (4, .int (nI d)), (5, .int (nI (zLen 11 (L a) (L d))))]) hx hb dMo_numbers_241 hl (by decide) rfl (fun ls hl => ?_)
                    refine lv_aload_n hx hb dMo_numbers_243 rfl (lv_at hl 7 rfl) ?_
                    refine lv_lload hx hb dMo_numbers_244 (lv_at hl 2 rfl) ?_
                    refine lv_lload hx hb dMo_numbers_246 (lv_at hl 1 rfl) ?_
                    refine lv_iconst (v := 0) hx hb dMo_numbers_248 (by decide) ?_
                    refine nz_vl (As := [.long (lN (zLong 1 (mR C a) (L a))), .long (lN (zNeg (zLong 1 (mR C d) (L d)))), .int (nI 0)]) (rest := []) S (c_Mo_divide l T (zLong 1 (mR C a) (L a)) (zNeg (zLong 1 (mR C d) (L d))) 0 (by decide) hp64 (zNeg_le hQs hq64).2 (zNeg_lt _)) kMo_80 ⟨rfl, rfl, Nat.le_of_ble_eq_true rfl, Nat.le_of_ble_eq_true rfl⟩ ⟨Nat.zero_le _, Nat.zero_le _⟩ (fun _ _ _ _ h => h) (mo_ob hK hP) (fun _ _ _ => trivial) rfl hl.1 rfl (Nat.le_of_ble_eq_true rfl) dMo_numbers_249 (fun r103 er103 => ?_)
                    subst er103
                    refine nz_eql (y := lN ((zLong 1 (mR C a) (L a)) % (zNeg (zLong 1 (mR C d) (L d))))) (congrArg lN (if_neg (by decide))) ?_
                    refine lv_lstore (lv' := [(18, .long (lN ((zLong 1 (mR C a) (L a)) % (zNeg (zLong 1 (mR C d) (L d)))))), (16, .long (lN ((zLong 1 (mR C a) (L a)) / (zNeg (zLong 1 (mR C d) (L d)))))), (14, .long (lN (zNeg (zLong 1 (mR C d) (L d))))), (12, .long (lN (zLong 1 (mR C a) (L a)))), (11, .int 1), (10, .int 0), (8, .long (lN (zLong 1 (mR C d) (L d)))), (6, .long (lN (zLong 1 (mR C a) (L a)))), (0, .ref (T 0)), (1, .int 11), (2, .int 1), (3, .int (nI a)), (4, .int (nI d)), (5, .int (nI (zLen 11 (L a) (L d))))]) hx hb dMo_numbers_252 hl (by decide) rfl (fun ls hl => ?_)
                    refine lv_iload hx hb dMo_numbers_254 (lv_at hl 5 rfl) ?_
                    refine lv_iload hx hb dMo_numbers_256 (lv_at hl 4 rfl) ?_
                    refine lv_icmp_eq (tgt := 267) hx hb dMo_numbers_258 (by decide) (fun c104 => absurd c104 (by decide)) (fun _ => ?_)
                    refine lv_lload hx hb dMo_numbers_261 (lv_at hl 1 rfl) ?_
                    refine lv_lneg hx hb dMo_numbers_263 ?_
                    refine lv_goto (tgt := 269) hx hb dMo_numbers_264 (by decide) ?_
                    refine lv_lstore (lv' := [(16, .long (-(lN ((zLong 1 (mR C a) (L a)) / (zNeg (zLong 1 (mR C d) (L d))))))), (18, .long (lN ((zLong 1 (mR C a) (L a)) % (zNeg (zLong 1 (mR C d) (L d)))))), (14, .long (lN (zNeg (zLong 1 (mR C d) (L d))))), (12, .long (lN (zLong 1 (mR C a) (L a)))), (11, .int 1), (10, .int 0), (8, .long (lN (zLong 1 (mR C d) (L d)))), (6, .long (lN (zLong 1 (mR C a) (L a)))), (0, .ref (T 0)), (1, .int 11), (2, .int 1), (3, .int (nI a)), (4, .int (nI d)), (5, .int (nI (zLen 11 (L a) (L d))))]) hx hb dMo_numbers_269 hl (by decide) rfl (fun ls hl => ?_)
                    refine lv_iload hx hb dMo_numbers_271 (lv_at hl 5 rfl) ?_
                    refine lv_if_eq (tgt := 282) hx hb dMo_numbers_273 (by decide) (fun _ => ?_) (fun c105 => absurd (by decide) c105)
                    refine lv_lload hx hb dMo_numbers_282 (lv_at hl 1 rfl) ?_
                    refine lv_lstore (lv' := [(18, .long (lN ((zLong 1 (mR C a) (L a)) % (zNeg (zLong 1 (mR C d) (L d)))))), (16, .long (-(lN ((zLong 1 (mR C a) (L a)) / (zNeg (zLong 1 (mR C d) (L d))))))), (14, .long (lN (zNeg (zLong 1 (mR C d) (L d))))), (12, .long (lN (zLong 1 (mR C a) (L a)))), (11, .int 1), (10, .int 0), (8, .long (lN (zLong 1 (mR C d) (L d)))), (6, .long (lN (zLong 1 (mR C a) (L a)))), (0, .ref (T 0)), (1, .int 11), (2, .int 1), (3, .int (nI a)), (4, .int (nI d)), (5, .int (nI (zLen 11 (L a) (L d))))]) hx hb dMo_numbers_284 hl (by decide) rfl (fun ls hl => ?_)
                    refine lv_iload_n hx hb dMo_numbers_286 rfl (lv_at hl 9 rfl) ?_
                    refine lv_bipush (v := 12) hx hb dMo_numbers_287 (by decide) ?_
                    refine lv_icmp_ne (tgt := 313) hx hb dMo_numbers_289 (by decide) (fun _ => ?_) (fun c106 => absurd c106 (by decide))
                    refine lv_aload_n hx hb dMo_numbers_313 rfl (lv_at hl 8 rfl) ?_
                    refine lv_iload hx hb dMo_numbers_314 (lv_at hl 13 rfl) ?_
                    refine lv_iload_n hx hb dMo_numbers_316 rfl (lv_at hl 9 rfl) ?_
                    refine lv_bipush (v := 10) hx hb dMo_numbers_317 (by decide) ?_
                    refine lv_icmp_ne (tgt := 327) hx hb dMo_numbers_319 (by decide) (fun _ => ?_) (fun c107 => absurd c107 (by decide))
                    refine lv_lload hx hb dMo_numbers_327 (lv_at hl 0 rfl) ?_
                    refine nz_eql (y := lN (zArith 11 1 (zLong 1 (mR C a) (L a)) (zLong 1 (mR C d) (L d)))) (by rw [zArith, if_neg (by decide), zDiv, if_pos rfl, lN_zU, sDiv, if_neg (by decide), if_pos rfl]; exact ((sr_pn hPs hQs hq64).symm)) ?_
                    refine mo_call (As := [.int (nI (zLen 11 (L a) (L d))), .long (lN (zArith 11 1 (zLong 1 (mR C a) (L a)) (zLong 1 (mR C d) (L d))))]) (rest := []) S (c_Mo_bits l D cA T hT 0 C L O c0 (zLen 11 (L a) (L d)) hz (zArith 11 1 (zLong 1 (mR C a) (L a)) (zLong 1 (mR C d) (L d))) (zArith_lt (by decide) hp64 hq0 hq64)) kMo_44 ⟨rfl, rfl, Nat.le_of_ble_eq_true rfl, Nat.le_of_ble_eq_true rfl⟩ ⟨Nat.zero_le _, Nat.zero_le _⟩ (mo_ob hK hP) hP hK hS rfl hl.1 rfl (Nat.le_of_ble_eq_true rfl) dMo_numbers_329 (fun H locs hP hS => ?_)
                    have hn0 : nCalc 11 (mR C a) (L a) (mR C d) (L d) = zLen 11 (L a) (L d) := by unfold nCalc; rw [if_pos ⟨hcy, hcz⟩]
                    exact W.vret hx hb hr (fun t ht hW => ⟨⟨(), rfl, trivial, pov (zPut (zArith 11 1 (zLong 1 (mR C a) (L a)) (zLong 1 (mR C d) (L d)))) O 0 (zLen 11 (L a) (L d)), (zLen 11 (L a) (L d)), fun _ => ⟨hn0.symm, by rw [hn0]; exact fun k hk => by rw [pov_in (Nat.zero_le _) (by omega)]; unfold fCalc; rw [if_pos ⟨hcy, hcz⟩]⟩, pov_lt (fun _ _ _ => zPut_lt _ _) ok.2.2, by rw [hk0, ht]; exact hP⟩, hS.F ht⟩) hS.2.2 dMo_numbers_332
                · refine lv_iconst (v := 1) hx hb dMo_numbers_177 (by decide) ?_
                  refine lv_goto (tgt := 182) hx hb dMo_numbers_178 (by decide) ?_
                  have hPs : 9223372036854775808 ≤ zLong 1 (mR C a) (L a) := Nat.le_of_not_lt (fun q => c89 ((lN_lt0 hp64).mpr q))
                  refine lv_istore (lv' := [(10, .int 1), (8, .long (lN (zLong 1 (mR C d) (L d)))), (6, .long (lN (zLong 1 (mR C a) (L a)))), (0, .ref (T 0)), (1, .int 11), (2, .int 1), (3, .int (nI a)), (4, .int (nI d)), (5, .int (nI (zLen 11 (L a) (L d))))]) hx hb dMo_numbers_182 hl (by decide) rfl (fun ls hl => ?_)
                  refine lv_iload_n hx hb dMo_numbers_184 rfl (lv_at hl 5 rfl) ?_
                  refine lv_if_eq (tgt := 199) hx hb dMo_numbers_185 (by decide) (fun c108 => absurd c108 (by decide)) (fun _ => ?_)
                  refine lv_lload hx hb dMo_numbers_188 (lv_at hl 1 rfl) ?_
                  refine lv_lconst (v := 0) hx hb dMo_numbers_190 (by decide) ?_
                  refine W.lcmp hx hb dMo_numbers_191 ?_
                  refine lv_if_ge (tgt := 199) hx hb dMo_numbers_192 (by decide) (fun c109 => ?_) (fun c109 => ?_)
                  · refine lv_iconst (v := 0) hx hb dMo_numbers_199 (by decide) ?_
                    have hQs : zLong 1 (mR C d) (L d) < 9223372036854775808 := (lN_lt0 hq64).mp c109
                    refine lv_istore (lv' := [(11, .int 0), (10, .int 1), (8, .long (lN (zLong 1 (mR C d) (L d)))), (6, .long (lN (zLong 1 (mR C a) (L a)))), (0, .ref (T 0)), (1, .int 11), (2, .int 1), (3, .int (nI a)), (4, .int (nI d)), (5, .int (nI (zLen 11 (L a) (L d))))]) hx hb dMo_numbers_200 hl (by decide) rfl (fun ls hl => ?_)
                    refine lv_iload hx hb dMo_numbers_202 (lv_at hl 1 rfl) ?_
                    refine lv_if_eq (tgt := 213) hx hb dMo_numbers_204 (by decide) (fun c110 => absurd c110 (by decide)) (fun _ => ?_)
                    refine lv_lload hx hb dMo_numbers_207 (lv_at hl 3 rfl) ?_
                    refine lv_lneg hx hb dMo_numbers_209 ?_
                    refine nz_eql (lN_neg hp64) ?_
                    refine lv_goto (tgt := 215) hx hb dMo_numbers_210 (by decide) ?_
                    refine lv_lstore (lv' := [(12, .long (lN (zNeg (zLong 1 (mR C a) (L a))))), (11, .int 0), (10, .int 1), (8, .long (lN (zLong 1 (mR C d) (L d)))), (6, .long (lN (zLong 1 (mR C a) (L a)))), (0, .ref (T 0)), (1, .int 11), (2, .int 1), (3, .int (nI a)), (4, .int (nI d)), (5, .int (nI (zLen 11 (L a) (L d))))]) hx hb dMo_numbers_215 hl (by decide) rfl (fun ls hl => ?_)
                    refine lv_iload hx hb dMo_numbers_217 (lv_at hl 1 rfl) ?_
                    refine lv_if_eq (tgt := 228) hx hb dMo_numbers_219 (by decide) (fun _ => ?_) (fun c111 => absurd (by decide) c111)
                    refine lv_lload hx hb dMo_numbers_228 (lv_at hl 3 rfl) ?_
                    refine lv_lstore (lv' := [(14, .long (lN (zLong 1 (mR C d) (L d)))), (12, .long (lN (zNeg (zLong 1 (mR C a) (L a))))), (11, .int 0), (10, .int 1), (8, .long (lN (zLong 1 (mR C d) (L d)))), (6, .long (lN (zLong 1 (mR C a) (L a)))), (0, .ref (T 0)), (1, .int 11), (2, .int 1), (3, .int (nI a)), (4, .int (nI d)), (5, .int (nI (zLen 11 (L a) (L d))))]) hx hb dMo_numbers_230 hl (by decide) rfl (fun ls hl => ?_)
                    refine lv_aload_n hx hb dMo_numbers_232 rfl (lv_at hl 6 rfl) ?_
                    refine lv_lload hx hb dMo_numbers_233 (lv_at hl 1 rfl) ?_
                    refine lv_lload hx hb dMo_numbers_235 (lv_at hl 0 rfl) ?_
                    refine lv_iconst (v := 1) hx hb dMo_numbers_237 (by decide) ?_
                    refine nz_vl (As := [.long (lN (zNeg (zLong 1 (mR C a) (L a)))), .long (lN (zLong 1 (mR C d) (L d))), .int (nI 1)]) (rest := []) S (c_Mo_divide l T (zNeg (zLong 1 (mR C a) (L a))) (zLong 1 (mR C d) (L d)) 1 (by decide) (zNeg_lt _) hq0 hq64) kMo_80 ⟨rfl, rfl, Nat.le_of_ble_eq_true rfl, Nat.le_of_ble_eq_true rfl⟩ ⟨Nat.zero_le _, Nat.zero_le _⟩ (fun _ _ _ _ h => h) (mo_ob hK hP) (fun _ _ _ => trivial) rfl hl.1 rfl (Nat.le_of_ble_eq_true rfl) dMo_numbers_238 (fun r112 er112 => ?_)
                    subst er112
                    refine nz_eql (y := lN ((zNeg (zLong 1 (mR C a) (L a))) / (zLong 1 (mR C d) (L d)))) (congrArg lN (if_pos rfl)) ?_
                    refine lv_lstore (lv' := [(16, .long (lN ((zNeg (zLong 1 (mR C a) (L a))) / (zLong 1 (mR C d) (L d))))), (14, .long (lN (zLong 1 (mR C d) (L d)))), (12, .long (lN (zNeg (zLong 1 (mR C a) (L a))))), (11, .int 0), (10, .int 1), (8, .long (lN (zLong 1 (mR C d) (L d)))), (6, .long (lN (zLong 1 (mR C a) (L a)))), (0, .ref (T 0)), (1, .int 11), (2, .int 1), (3, .int (nI a)), (4, .int (nI d)), (5, .int (nI (zLen 11 (L a) (L d))))]) hx hb dMo_numbers_241 hl (by decide) rfl (fun ls hl => ?_)
                    refine lv_aload_n hx hb dMo_numbers_243 rfl (lv_at hl 7 rfl) ?_
                    refine lv_lload hx hb dMo_numbers_244 (lv_at hl 2 rfl) ?_
                    refine lv_lload hx hb dMo_numbers_246 (lv_at hl 1 rfl) ?_
                    refine lv_iconst (v := 0) hx hb dMo_numbers_248 (by decide) ?_
                    refine nz_vl (As := [.long (lN (zNeg (zLong 1 (mR C a) (L a)))), .long (lN (zLong 1 (mR C d) (L d))), .int (nI 0)]) (rest := []) S (c_Mo_divide l T (zNeg (zLong 1 (mR C a) (L a))) (zLong 1 (mR C d) (L d)) 0 (by decide) (zNeg_lt _) hq0 hq64) kMo_80 ⟨rfl, rfl, Nat.le_of_ble_eq_true rfl, Nat.le_of_ble_eq_true rfl⟩ ⟨Nat.zero_le _, Nat.zero_le _⟩ (fun _ _ _ _ h => h) (mo_ob hK hP) (fun _ _ _ => trivial) rfl hl.1 rfl (Nat.le_of_ble_eq_true rfl) dMo_numbers_249 (fun r113 er113 => ?_)
                    subst er113
                    refine nz_eql (y := lN ((zNeg (zLong 1 (mR C a) (L a))) % (zLong 1 (mR C d) (L d)))) (congrArg lN (if_neg (by decide))) ?_
                    refine lv_lstore (lv' := [(18, .long (lN ((zNeg (zLong 1 (mR C a) (L a))) % (zLong 1 (mR C d) (L d))))), (16, .long (lN ((zNeg (zLong 1 (mR C a) (L a))) / (zLong 1 (mR C d) (L d))))), (14, .long (lN (zLong 1 (mR C d) (L d)))), (12, .long (lN (zNeg (zLong 1 (mR C a) (L a))))), (11, .int 0), (10, .int 1), (8, .long (lN (zLong 1 (mR C d) (L d)))), (6, .long (lN (zLong 1 (mR C a) (L a)))), (0, .ref (T 0)), (1, .int 11), (2, .int 1), (3, .int (nI a)), (4, .int (nI d)), (5, .int (nI (zLen 11 (L a) (L d))))]) hx hb dMo_numbers_252 hl (by decide) rfl (fun ls hl => ?_)
                    refine lv_iload hx hb dMo_numbers_254 (lv_at hl 5 rfl) ?_
                    refine lv_iload hx hb dMo_numbers_256 (lv_at hl 4 rfl) ?_
                    refine lv_icmp_eq (tgt := 267) hx hb dMo_numbers_258 (by decide) (fun c114 => absurd c114 (by decide)) (fun _ => ?_)
                    refine lv_lload hx hb dMo_numbers_261 (lv_at hl 1 rfl) ?_
                    refine lv_lneg hx hb dMo_numbers_263 ?_
                    refine lv_goto (tgt := 269) hx hb dMo_numbers_264 (by decide) ?_
                    refine lv_lstore (lv' := [(16, .long (-(lN ((zNeg (zLong 1 (mR C a) (L a))) / (zLong 1 (mR C d) (L d)))))), (18, .long (lN ((zNeg (zLong 1 (mR C a) (L a))) % (zLong 1 (mR C d) (L d))))), (14, .long (lN (zLong 1 (mR C d) (L d)))), (12, .long (lN (zNeg (zLong 1 (mR C a) (L a))))), (11, .int 0), (10, .int 1), (8, .long (lN (zLong 1 (mR C d) (L d)))), (6, .long (lN (zLong 1 (mR C a) (L a)))), (0, .ref (T 0)), (1, .int 11), (2, .int 1), (3, .int (nI a)), (4, .int (nI d)), (5, .int (nI (zLen 11 (L a) (L d))))]) hx hb dMo_numbers_269 hl (by decide) rfl (fun ls hl => ?_)
                    refine lv_iload hx hb dMo_numbers_271 (lv_at hl 5 rfl) ?_
                    refine lv_if_eq (tgt := 282) hx hb dMo_numbers_273 (by decide) (fun c115 => absurd c115 (by decide)) (fun _ => ?_)
                    refine lv_lload hx hb dMo_numbers_276 (lv_at hl 1 rfl) ?_
                    refine lv_lneg hx hb dMo_numbers_278 ?_
                    refine lv_goto (tgt := 284) hx hb dMo_numbers_279 (by decide) ?_
                    refine lv_lstore (lv' := [(18, .long (-(lN ((zNeg (zLong 1 (mR C a) (L a))) % (zLong 1 (mR C d) (L d)))))), (16, .long (-(lN ((zNeg (zLong 1 (mR C a) (L a))) / (zLong 1 (mR C d) (L d)))))), (14, .long (lN (zLong 1 (mR C d) (L d)))), (12, .long (lN (zNeg (zLong 1 (mR C a) (L a))))), (11, .int 0), (10, .int 1), (8, .long (lN (zLong 1 (mR C d) (L d)))), (6, .long (lN (zLong 1 (mR C a) (L a)))), (0, .ref (T 0)), (1, .int 11), (2, .int 1), (3, .int (nI a)), (4, .int (nI d)), (5, .int (nI (zLen 11 (L a) (L d))))]) hx hb dMo_numbers_284 hl (by decide) rfl (fun ls hl => ?_)
                    refine lv_iload_n hx hb dMo_numbers_286 rfl (lv_at hl 9 rfl) ?_
                    refine lv_bipush (v := 12) hx hb dMo_numbers_287 (by decide) ?_
                    refine lv_icmp_ne (tgt := 313) hx hb dMo_numbers_289 (by decide) (fun _ => ?_) (fun c116 => absurd c116 (by decide))
                    refine lv_aload_n hx hb dMo_numbers_313 rfl (lv_at hl 8 rfl) ?_
                    refine lv_iload hx hb dMo_numbers_314 (lv_at hl 13 rfl) ?_
                    refine lv_iload_n hx hb dMo_numbers_316 rfl (lv_at hl 9 rfl) ?_
                    refine lv_bipush (v := 10) hx hb dMo_numbers_317 (by decide) ?_
                    refine lv_icmp_ne (tgt := 327) hx hb dMo_numbers_319 (by decide) (fun _ => ?_) (fun c117 => absurd c117 (by decide))
                    refine lv_lload hx hb dMo_numbers_327 (lv_at hl 0 rfl) ?_
                    refine nz_eql (y := lN (zArith 11 1 (zLong 1 (mR C a) (L a)) (zLong 1 (mR C d) (L d)))) (by rw [zArith, if_neg (by decide), zDiv, if_pos rfl, lN_zU, sDiv, if_neg (by decide), if_pos rfl]; exact ((sr_np hPs hp64 hQs).symm)) ?_
                    refine mo_call (As := [.int (nI (zLen 11 (L a) (L d))), .long (lN (zArith 11 1 (zLong 1 (mR C a) (L a)) (zLong 1 (mR C d) (L d))))]) (rest := []) S (c_Mo_bits l D cA T hT 0 C L O c0 (zLen 11 (L a) (L d)) hz (zArith 11 1 (zLong 1 (mR C a) (L a)) (zLong 1 (mR C d) (L d))) (zArith_lt (by decide) hp64 hq0 hq64)) kMo_44 ⟨rfl, rfl, Nat.le_of_ble_eq_true rfl, Nat.le_of_ble_eq_true rfl⟩ ⟨Nat.zero_le _, Nat.zero_le _⟩ (mo_ob hK hP) hP hK hS rfl hl.1 rfl (Nat.le_of_ble_eq_true rfl) dMo_numbers_329 (fun H locs hP hS => ?_)
                    have hn0 : nCalc 11 (mR C a) (L a) (mR C d) (L d) = zLen 11 (L a) (L d) := by unfold nCalc; rw [if_pos ⟨hcy, hcz⟩]
                    exact W.vret hx hb hr (fun t ht hW => ⟨⟨(), rfl, trivial, pov (zPut (zArith 11 1 (zLong 1 (mR C a) (L a)) (zLong 1 (mR C d) (L d)))) O 0 (zLen 11 (L a) (L d)), (zLen 11 (L a) (L d)), fun _ => ⟨hn0.symm, by rw [hn0]; exact fun k hk => by rw [pov_in (Nat.zero_le _) (by omega)]; unfold fCalc; rw [if_pos ⟨hcy, hcz⟩]⟩, pov_lt (fun _ _ _ => zPut_lt _ _) ok.2.2, by rw [hk0, ht]; exact hP⟩, hS.F ht⟩) hS.2.2 dMo_numbers_332
                  · refine lv_iconst (v := 1) hx hb dMo_numbers_195 (by decide) ?_
                    refine lv_goto (tgt := 200) hx hb dMo_numbers_196 (by decide) ?_
                    have hQs : 9223372036854775808 ≤ zLong 1 (mR C d) (L d) := Nat.le_of_not_lt (fun q => c109 ((lN_lt0 hq64).mpr q))
                    refine lv_istore (lv' := [(11, .int 1), (10, .int 1), (8, .long (lN (zLong 1 (mR C d) (L d)))), (6, .long (lN (zLong 1 (mR C a) (L a)))), (0, .ref (T 0)), (1, .int 11), (2, .int 1), (3, .int (nI a)), (4, .int (nI d)), (5, .int (nI (zLen 11 (L a) (L d))))]) hx hb dMo_numbers_200 hl (by decide) rfl (fun ls hl => ?_)
                    refine lv_iload hx hb dMo_numbers_202 (lv_at hl 1 rfl) ?_
                    refine lv_if_eq (tgt := 213) hx hb dMo_numbers_204 (by decide) (fun c118 => absurd c118 (by decide)) (fun _ => ?_)
                    refine lv_lload hx hb dMo_numbers_207 (lv_at hl 3 rfl) ?_
                    refine lv_lneg hx hb dMo_numbers_209 ?_
                    refine nz_eql (lN_neg hp64) ?_
                    refine lv_goto (tgt := 215) hx hb dMo_numbers_210 (by decide) ?_
                    refine lv_lstore (lv' := [(12, .long (lN (zNeg (zLong 1 (mR C a) (L a))))), (11, .int 1), (10, .int 1), (8, .long (lN (zLong 1 (mR C d) (L d)))), (6, .long (lN (zLong 1 (mR C a) (L a)))), (0, .ref (T 0)), (1, .int 11), (2, .int 1), (3, .int (nI a)), (4, .int (nI d)), (5, .int (nI (zLen 11 (L a) (L d))))]) hx hb dMo_numbers_215 hl (by decide) rfl (fun ls hl => ?_)
                    refine lv_iload hx hb dMo_numbers_217 (lv_at hl 1 rfl) ?_
                    refine lv_if_eq (tgt := 228) hx hb dMo_numbers_219 (by decide) (fun c119 => absurd c119 (by decide)) (fun _ => ?_)
                    refine lv_lload hx hb dMo_numbers_222 (lv_at hl 3 rfl) ?_
                    refine lv_lneg hx hb dMo_numbers_224 ?_
                    refine nz_eql (lN_neg hq64) ?_
                    refine lv_goto (tgt := 230) hx hb dMo_numbers_225 (by decide) ?_
                    refine lv_lstore (lv' := [(14, .long (lN (zNeg (zLong 1 (mR C d) (L d))))), (12, .long (lN (zNeg (zLong 1 (mR C a) (L a))))), (11, .int 1), (10, .int 1), (8, .long (lN (zLong 1 (mR C d) (L d)))), (6, .long (lN (zLong 1 (mR C a) (L a)))), (0, .ref (T 0)), (1, .int 11), (2, .int 1), (3, .int (nI a)), (4, .int (nI d)), (5, .int (nI (zLen 11 (L a) (L d))))]) hx hb dMo_numbers_230 hl (by decide) rfl (fun ls hl => ?_)
                    refine lv_aload_n hx hb dMo_numbers_232 rfl (lv_at hl 6 rfl) ?_
                    refine lv_lload hx hb dMo_numbers_233 (lv_at hl 1 rfl) ?_
                    refine lv_lload hx hb dMo_numbers_235 (lv_at hl 0 rfl) ?_
                    refine lv_iconst (v := 1) hx hb dMo_numbers_237 (by decide) ?_
                    refine nz_vl (As := [.long (lN (zNeg (zLong 1 (mR C a) (L a)))), .long (lN (zNeg (zLong 1 (mR C d) (L d)))), .int (nI 1)]) (rest := []) S (c_Mo_divide l T (zNeg (zLong 1 (mR C a) (L a))) (zNeg (zLong 1 (mR C d) (L d))) 1 (by decide) (zNeg_lt _) (zNeg_le hQs hq64).2 (zNeg_lt _)) kMo_80 ⟨rfl, rfl, Nat.le_of_ble_eq_true rfl, Nat.le_of_ble_eq_true rfl⟩ ⟨Nat.zero_le _, Nat.zero_le _⟩ (fun _ _ _ _ h => h) (mo_ob hK hP) (fun _ _ _ => trivial) rfl hl.1 rfl (Nat.le_of_ble_eq_true rfl) dMo_numbers_238 (fun r120 er120 => ?_)
                    subst er120
                    refine nz_eql (y := lN ((zNeg (zLong 1 (mR C a) (L a))) / (zNeg (zLong 1 (mR C d) (L d))))) (congrArg lN (if_pos rfl)) ?_
                    refine lv_lstore (lv' := [(16, .long (lN ((zNeg (zLong 1 (mR C a) (L a))) / (zNeg (zLong 1 (mR C d) (L d)))))), (14, .long (lN (zNeg (zLong 1 (mR C d) (L d))))), (12, .long (lN (zNeg (zLong 1 (mR C a) (L a))))), (11, .int 1), (10, .int 1), (8, .long (lN (zLong 1 (mR C d) (L d)))), (6, .long (lN (zLong 1 (mR C a) (L a)))), (0, .ref (T 0)), (1, .int 11), (2, .int 1), (3, .int (nI a)), (4, .int (nI d)), (5, .int (nI (zLen 11 (L a) (L d))))]) hx hb dMo_numbers_241 hl (by decide) rfl (fun ls hl => ?_)
                    refine lv_aload_n hx hb dMo_numbers_243 rfl (lv_at hl 7 rfl) ?_
                    refine lv_lload hx hb dMo_numbers_244 (lv_at hl 2 rfl) ?_
                    refine lv_lload hx hb dMo_numbers_246 (lv_at hl 1 rfl) ?_
                    refine lv_iconst (v := 0) hx hb dMo_numbers_248 (by decide) ?_
                    refine nz_vl (As := [.long (lN (zNeg (zLong 1 (mR C a) (L a)))), .long (lN (zNeg (zLong 1 (mR C d) (L d)))), .int (nI 0)]) (rest := []) S (c_Mo_divide l T (zNeg (zLong 1 (mR C a) (L a))) (zNeg (zLong 1 (mR C d) (L d))) 0 (by decide) (zNeg_lt _) (zNeg_le hQs hq64).2 (zNeg_lt _)) kMo_80 ⟨rfl, rfl, Nat.le_of_ble_eq_true rfl, Nat.le_of_ble_eq_true rfl⟩ ⟨Nat.zero_le _, Nat.zero_le _⟩ (fun _ _ _ _ h => h) (mo_ob hK hP) (fun _ _ _ => trivial) rfl hl.1 rfl (Nat.le_of_ble_eq_true rfl) dMo_numbers_249 (fun r121 er121 => ?_)
                    subst er121
                    refine nz_eql (y := lN ((zNeg (zLong 1 (mR C a) (L a))) % (zNeg (zLong 1 (mR C d) (L d))))) (congrArg lN (if_neg (by decide))) ?_
                    refine lv_lstore (lv' := [(18, .long (lN ((zNeg (zLong 1 (mR C a) (L a))) % (zNeg (zLong 1 (mR C d) (L d)))))), (16, .long (lN ((zNeg (zLong 1 (mR C a) (L a))) / (zNeg (zLong 1 (mR C d) (L d)))))), (14, .long (lN (zNeg (zLong 1 (mR C d) (L d))))), (12, .long (lN (zNeg (zLong 1 (mR C a) (L a))))), (11, .int 1), (10, .int 1), (8, .long (lN (zLong 1 (mR C d) (L d)))), (6, .long (lN (zLong 1 (mR C a) (L a)))), (0, .ref (T 0)), (1, .int 11), (2, .int 1), (3, .int (nI a)), (4, .int (nI d)), (5, .int (nI (zLen 11 (L a) (L d))))]) hx hb dMo_numbers_252 hl (by decide) rfl (fun ls hl => ?_)
                    refine lv_iload hx hb dMo_numbers_254 (lv_at hl 5 rfl) ?_
                    refine lv_iload hx hb dMo_numbers_256 (lv_at hl 4 rfl) ?_
                    refine lv_icmp_eq (tgt := 267) hx hb dMo_numbers_258 (by decide) (fun _ => ?_) (fun c122 => absurd (by decide) c122)
                    refine lv_lload hx hb dMo_numbers_267 (lv_at hl 1 rfl) ?_
                    refine lv_lstore (lv' := [(16, .long (lN ((zNeg (zLong 1 (mR C a) (L a))) / (zNeg (zLong 1 (mR C d) (L d)))))), (18, .long (lN ((zNeg (zLong 1 (mR C a) (L a))) % (zNeg (zLong 1 (mR C d) (L d)))))), (14, .long (lN (zNeg (zLong 1 (mR C d) (L d))))), (12, .long (lN (zNeg (zLong 1 (mR C a) (L a))))), (11, .int 1), (10, .int 1), (8, .long (lN (zLong 1 (mR C d) (L d)))), (6, .long (lN (zLong 1 (mR C a) (L a)))), (0, .ref (T 0)), (1, .int 11), (2, .int 1), (3, .int (nI a)), (4, .int (nI d)), (5, .int (nI (zLen 11 (L a) (L d))))]) hx hb dMo_numbers_269 hl (by decide) rfl (fun ls hl => ?_)
                    refine lv_iload hx hb dMo_numbers_271 (lv_at hl 5 rfl) ?_
                    refine lv_if_eq (tgt := 282) hx hb dMo_numbers_273 (by decide) (fun c123 => absurd c123 (by decide)) (fun _ => ?_)
                    refine lv_lload hx hb dMo_numbers_276 (lv_at hl 1 rfl) ?_
                    refine lv_lneg hx hb dMo_numbers_278 ?_
                    refine lv_goto (tgt := 284) hx hb dMo_numbers_279 (by decide) ?_
                    refine lv_lstore (lv' := [(18, .long (-(lN ((zNeg (zLong 1 (mR C a) (L a))) % (zNeg (zLong 1 (mR C d) (L d))))))), (16, .long (lN ((zNeg (zLong 1 (mR C a) (L a))) / (zNeg (zLong 1 (mR C d) (L d)))))), (14, .long (lN (zNeg (zLong 1 (mR C d) (L d))))), (12, .long (lN (zNeg (zLong 1 (mR C a) (L a))))), (11, .int 1), (10, .int 1), (8, .long (lN (zLong 1 (mR C d) (L d)))), (6, .long (lN (zLong 1 (mR C a) (L a)))), (0, .ref (T 0)), (1, .int 11), (2, .int 1), (3, .int (nI a)), (4, .int (nI d)), (5, .int (nI (zLen 11 (L a) (L d))))]) hx hb dMo_numbers_284 hl (by decide) rfl (fun ls hl => ?_)
                    refine lv_iload_n hx hb dMo_numbers_286 rfl (lv_at hl 9 rfl) ?_
                    refine lv_bipush (v := 12) hx hb dMo_numbers_287 (by decide) ?_
                    refine lv_icmp_ne (tgt := 313) hx hb dMo_numbers_289 (by decide) (fun _ => ?_) (fun c124 => absurd c124 (by decide))
                    refine lv_aload_n hx hb dMo_numbers_313 rfl (lv_at hl 8 rfl) ?_
                    refine lv_iload hx hb dMo_numbers_314 (lv_at hl 13 rfl) ?_
                    refine lv_iload_n hx hb dMo_numbers_316 rfl (lv_at hl 9 rfl) ?_
                    refine lv_bipush (v := 10) hx hb dMo_numbers_317 (by decide) ?_
                    refine lv_icmp_ne (tgt := 327) hx hb dMo_numbers_319 (by decide) (fun _ => ?_) (fun c125 => absurd c125 (by decide))
                    refine lv_lload hx hb dMo_numbers_327 (lv_at hl 0 rfl) ?_
                    refine nz_eql (y := lN (zArith 11 1 (zLong 1 (mR C a) (L a)) (zLong 1 (mR C d) (L d)))) (by rw [zArith, if_neg (by decide), zDiv, if_pos rfl, lN_zU, sDiv, if_neg (by decide), if_pos rfl]; exact ((sr_nn hPs hp64 hQs hq64).symm)) ?_
                    refine mo_call (As := [.int (nI (zLen 11 (L a) (L d))), .long (lN (zArith 11 1 (zLong 1 (mR C a) (L a)) (zLong 1 (mR C d) (L d))))]) (rest := []) S (c_Mo_bits l D cA T hT 0 C L O c0 (zLen 11 (L a) (L d)) hz (zArith 11 1 (zLong 1 (mR C a) (L a)) (zLong 1 (mR C d) (L d))) (zArith_lt (by decide) hp64 hq0 hq64)) kMo_44 ⟨rfl, rfl, Nat.le_of_ble_eq_true rfl, Nat.le_of_ble_eq_true rfl⟩ ⟨Nat.zero_le _, Nat.zero_le _⟩ (mo_ob hK hP) hP hK hS rfl hl.1 rfl (Nat.le_of_ble_eq_true rfl) dMo_numbers_329 (fun H locs hP hS => ?_)
                    have hn0 : nCalc 11 (mR C a) (L a) (mR C d) (L d) = zLen 11 (L a) (L d) := by unfold nCalc; rw [if_pos ⟨hcy, hcz⟩]
                    exact W.vret hx hb hr (fun t ht hW => ⟨⟨(), rfl, trivial, pov (zPut (zArith 11 1 (zLong 1 (mR C a) (L a)) (zLong 1 (mR C d) (L d)))) O 0 (zLen 11 (L a) (L d)), (zLen 11 (L a) (L d)), fun _ => ⟨hn0.symm, by rw [hn0]; exact fun k hk => by rw [pov_in (Nat.zero_le _) (by omega)]; unfold fCalc; rw [if_pos ⟨hcy, hcz⟩]⟩, pov_lt (fun _ _ _ => zPut_lt _ _) ok.2.2, by rw [hk0, ht]; exact hP⟩, hS.F ht⟩) hS.2.2 dMo_numbers_332
              · refine lv_iload_n hx hb dMo_numbers_166 rfl (lv_at hl 4 rfl) ?_
                refine lv_if_eq (tgt := 181) hx hb dMo_numbers_167 (by decide) (fun c126 => absurd c126 (by decide)) (fun _ => ?_)
                refine lv_lload hx hb dMo_numbers_170 (lv_at hl 1 rfl) ?_
                refine lv_lconst (v := 0) hx hb dMo_numbers_172 (by decide) ?_
                refine W.lcmp hx hb dMo_numbers_173 ?_
                refine lv_if_ge (tgt := 181) hx hb dMo_numbers_174 (by decide) (fun c127 => ?_) (fun c127 => ?_)
                · refine lv_iconst (v := 0) hx hb dMo_numbers_181 (by decide) ?_
                  have hPs : zLong 1 (mR C a) (L a) < 9223372036854775808 := (lN_lt0 hp64).mp c127
                  refine lv_istore (lv' := [(10, .int 0), (8, .long (lN (zLong 1 (mR C d) (L d)))), (6, .long (lN (zLong 1 (mR C a) (L a)))), (0, .ref (T 0)), (1, .int 12), (2, .int 1), (3, .int (nI a)), (4, .int (nI d)), (5, .int (nI (zLen 12 (L a) (L d))))]) hx hb dMo_numbers_182 hl (by decide) rfl (fun ls hl => ?_)
                  refine lv_iload_n hx hb dMo_numbers_184 rfl (lv_at hl 5 rfl) ?_
                  refine lv_if_eq (tgt := 199) hx hb dMo_numbers_185 (by decide) (fun c128 => absurd c128 (by decide)) (fun _ => ?_)
                  refine lv_lload hx hb dMo_numbers_188 (lv_at hl 1 rfl) ?_
                  refine lv_lconst (v := 0) hx hb dMo_numbers_190 (by decide) ?_
                  refine W.lcmp hx hb dMo_numbers_191 ?_
                  refine lv_if_ge (tgt := 199) hx hb dMo_numbers_192 (by decide) (fun c129 => ?_) (fun c129 => ?_)
                  · refine lv_iconst (v := 0) hx hb dMo_numbers_199 (by decide) ?_
                    have hQs : zLong 1 (mR C d) (L d) < 9223372036854775808 := (lN_lt0 hq64).mp c129
                    refine lv_istore (lv' := [(11, .int 0), (10, .int 0), (8, .long (lN (zLong 1 (mR C d) (L d)))), (6, .long (lN (zLong 1 (mR C a) (L a)))), (0, .ref (T 0)), (1, .int 12), (2, .int 1), (3, .int (nI a)), (4, .int (nI d)), (5, .int (nI (zLen 12 (L a) (L d))))]) hx hb dMo_numbers_200 hl (by decide) rfl (fun ls hl => ?_)
                    refine lv_iload hx hb dMo_numbers_202 (lv_at hl 1 rfl) ?_
                    refine lv_if_eq (tgt := 213) hx hb dMo_numbers_204 (by decide) (fun _ => ?_) (fun c130 => absurd (by decide) c130)
                    refine lv_lload hx hb dMo_numbers_213 (lv_at hl 3 rfl) ?_
                    refine lv_lstore (lv' := [(12, .long (lN (zLong 1 (mR C a) (L a)))), (11, .int 0), (10, .int 0), (8, .long (lN (zLong 1 (mR C d) (L d)))), (6, .long (lN (zLong 1 (mR C a) (L a)))), (0, .ref (T 0)), (1, .int 12), (2, .int 1), (3, .int (nI a)), (4, .int (nI d)), (5, .int (nI (zLen 12 (L a) (L d))))]) hx hb dMo_numbers_215 hl (by decide) rfl (fun ls hl => ?_)
                    refine lv_iload hx hb dMo_numbers_217 (lv_at hl 1 rfl) ?_
                    refine lv_if_eq (tgt := 228) hx hb dMo_numbers_219 (by decide) (fun _ => ?_) (fun c131 => absurd (by decide) c131)
                    refine lv_lload hx hb dMo_numbers_228 (lv_at hl 3 rfl) ?_
                    refine lv_lstore (lv' := [(14, .long (lN (zLong 1 (mR C d) (L d)))), (12, .long (lN (zLong 1 (mR C a) (L a)))), (11, .int 0), (10, .int 0), (8, .long (lN (zLong 1 (mR C d) (L d)))), (6, .long (lN (zLong 1 (mR C a) (L a)))), (0, .ref (T 0)), (1, .int 12), (2, .int 1), (3, .int (nI a)), (4, .int (nI d)), (5, .int (nI (zLen 12 (L a) (L d))))]) hx hb dMo_numbers_230 hl (by decide) rfl (fun ls hl => ?_)
                    refine lv_aload_n hx hb dMo_numbers_232 rfl (lv_at hl 6 rfl) ?_
                    refine lv_lload hx hb dMo_numbers_233 (lv_at hl 1 rfl) ?_
                    refine lv_lload hx hb dMo_numbers_235 (lv_at hl 0 rfl) ?_
                    refine lv_iconst (v := 1) hx hb dMo_numbers_237 (by decide) ?_
                    refine nz_vl (As := [.long (lN (zLong 1 (mR C a) (L a))), .long (lN (zLong 1 (mR C d) (L d))), .int (nI 1)]) (rest := []) S (c_Mo_divide l T (zLong 1 (mR C a) (L a)) (zLong 1 (mR C d) (L d)) 1 (by decide) hp64 hq0 hq64) kMo_80 ⟨rfl, rfl, Nat.le_of_ble_eq_true rfl, Nat.le_of_ble_eq_true rfl⟩ ⟨Nat.zero_le _, Nat.zero_le _⟩ (fun _ _ _ _ h => h) (mo_ob hK hP) (fun _ _ _ => trivial) rfl hl.1 rfl (Nat.le_of_ble_eq_true rfl) dMo_numbers_238 (fun r132 er132 => ?_)
                    subst er132
                    refine nz_eql (y := lN ((zLong 1 (mR C a) (L a)) / (zLong 1 (mR C d) (L d)))) (congrArg lN (if_pos rfl)) ?_
                    refine lv_lstore (lv' := [(16, .long (lN ((zLong 1 (mR C a) (L a)) / (zLong 1 (mR C d) (L d))))), (14, .long (lN (zLong 1 (mR C d) (L d)))), (12, .long (lN (zLong 1 (mR C a) (L a)))), (11, .int 0), (10, .int 0), (8, .long (lN (zLong 1 (mR C d) (L d)))), (6, .long (lN (zLong 1 (mR C a) (L a)))), (0, .ref (T 0)), (1, .int 12), (2, .int 1), (3, .int (nI a)), (4, .int (nI d)), (5, .int (nI (zLen 12 (L a) (L d))))]) hx hb dMo_numbers_241 hl (by decide) rfl (fun ls hl => ?_)
                    refine lv_aload_n hx hb dMo_numbers_243 rfl (lv_at hl 7 rfl) ?_
                    refine lv_lload hx hb dMo_numbers_244 (lv_at hl 2 rfl) ?_
                    refine lv_lload hx hb dMo_numbers_246 (lv_at hl 1 rfl) ?_
                    refine lv_iconst (v := 0) hx hb dMo_numbers_248 (by decide) ?_
                    refine nz_vl (As := [.long (lN (zLong 1 (mR C a) (L a))), .long (lN (zLong 1 (mR C d) (L d))), .int (nI 0)]) (rest := []) S (c_Mo_divide l T (zLong 1 (mR C a) (L a)) (zLong 1 (mR C d) (L d)) 0 (by decide) hp64 hq0 hq64) kMo_80 ⟨rfl, rfl, Nat.le_of_ble_eq_true rfl, Nat.le_of_ble_eq_true rfl⟩ ⟨Nat.zero_le _, Nat.zero_le _⟩ (fun _ _ _ _ h => h) (mo_ob hK hP) (fun _ _ _ => trivial) rfl hl.1 rfl (Nat.le_of_ble_eq_true rfl) dMo_numbers_249 (fun r133 er133 => ?_)
                    subst er133
                    refine nz_eql (y := lN ((zLong 1 (mR C a) (L a)) % (zLong 1 (mR C d) (L d)))) (congrArg lN (if_neg (by decide))) ?_
                    refine lv_lstore (lv' := [(18, .long (lN ((zLong 1 (mR C a) (L a)) % (zLong 1 (mR C d) (L d))))), (16, .long (lN ((zLong 1 (mR C a) (L a)) / (zLong 1 (mR C d) (L d))))), (14, .long (lN (zLong 1 (mR C d) (L d)))), (12, .long (lN (zLong 1 (mR C a) (L a)))), (11, .int 0), (10, .int 0), (8, .long (lN (zLong 1 (mR C d) (L d)))), (6, .long (lN (zLong 1 (mR C a) (L a)))), (0, .ref (T 0)), (1, .int 12), (2, .int 1), (3, .int (nI a)), (4, .int (nI d)), (5, .int (nI (zLen 12 (L a) (L d))))]) hx hb dMo_numbers_252 hl (by decide) rfl (fun ls hl => ?_)
                    refine lv_iload hx hb dMo_numbers_254 (lv_at hl 5 rfl) ?_
                    refine lv_iload hx hb dMo_numbers_256 (lv_at hl 4 rfl) ?_
                    refine lv_icmp_eq (tgt := 267) hx hb dMo_numbers_258 (by decide) (fun _ => ?_) (fun c134 => absurd (by decide) c134)
                    refine lv_lload hx hb dMo_numbers_267 (lv_at hl 1 rfl) ?_
                    refine lv_lstore (lv' := [(16, .long (lN ((zLong 1 (mR C a) (L a)) / (zLong 1 (mR C d) (L d))))), (18, .long (lN ((zLong 1 (mR C a) (L a)) % (zLong 1 (mR C d) (L d))))), (14, .long (lN (zLong 1 (mR C d) (L d)))), (12, .long (lN (zLong 1 (mR C a) (L a)))), (11, .int 0), (10, .int 0), (8, .long (lN (zLong 1 (mR C d) (L d)))), (6, .long (lN (zLong 1 (mR C a) (L a)))), (0, .ref (T 0)), (1, .int 12), (2, .int 1), (3, .int (nI a)), (4, .int (nI d)), (5, .int (nI (zLen 12 (L a) (L d))))]) hx hb dMo_numbers_269 hl (by decide) rfl (fun ls hl => ?_)
                    refine lv_iload hx hb dMo_numbers_271 (lv_at hl 5 rfl) ?_
                    refine lv_if_eq (tgt := 282) hx hb dMo_numbers_273 (by decide) (fun _ => ?_) (fun c135 => absurd (by decide) c135)
                    refine lv_lload hx hb dMo_numbers_282 (lv_at hl 1 rfl) ?_
                    refine lv_lstore (lv' := [(18, .long (lN ((zLong 1 (mR C a) (L a)) % (zLong 1 (mR C d) (L d))))), (16, .long (lN ((zLong 1 (mR C a) (L a)) / (zLong 1 (mR C d) (L d))))), (14, .long (lN (zLong 1 (mR C d) (L d)))), (12, .long (lN (zLong 1 (mR C a) (L a)))), (11, .int 0), (10, .int 0), (8, .long (lN (zLong 1 (mR C d) (L d)))), (6, .long (lN (zLong 1 (mR C a) (L a)))), (0, .ref (T 0)), (1, .int 12), (2, .int 1), (3, .int (nI a)), (4, .int (nI d)), (5, .int (nI (zLen 12 (L a) (L d))))]) hx hb dMo_numbers_284 hl (by decide) rfl (fun ls hl => ?_)
                    refine lv_iload_n hx hb dMo_numbers_286 rfl (lv_at hl 9 rfl) ?_
                    refine lv_bipush (v := 12) hx hb dMo_numbers_287 (by decide) ?_
                    refine lv_icmp_ne (tgt := 313) hx hb dMo_numbers_289 (by decide) (fun c136 => absurd (by decide) c136) (fun _ => ?_)
                    refine lv_lload hx hb dMo_numbers_292 (lv_at hl 0 rfl) ?_
                    refine lv_lconst (v := 0) hx hb dMo_numbers_294 (by decide) ?_
                    refine W.lcmp hx hb dMo_numbers_295 ?_
                    refine lv_if_eq (tgt := 313) hx hb dMo_numbers_296 (by decide) (fun c137 => ?_) (fun c137 => ?_)
                    · refine lv_aload_n hx hb dMo_numbers_313 rfl (lv_at hl 8 rfl) ?_
                      refine lv_iload hx hb dMo_numbers_314 (lv_at hl 13 rfl) ?_
                      refine lv_iload_n hx hb dMo_numbers_316 rfl (lv_at hl 9 rfl) ?_
                      refine lv_bipush (v := 10) hx hb dMo_numbers_317 (by decide) ?_
                      refine lv_icmp_ne (tgt := 327) hx hb dMo_numbers_319 (by decide) (fun _ => ?_) (fun c138 => absurd c138 (by decide))
                      refine lv_lload hx hb dMo_numbers_327 (lv_at hl 0 rfl) ?_
                      refine nz_eql (y := lN (zArith 12 1 (zLong 1 (mR C a) (L a)) (zLong 1 (mR C d) (L d)))) (by rw [zArith, if_neg (by decide), zDiv, if_pos rfl, lN_zU, sDiv, if_neg (by decide), if_neg (by decide)]; exact (by rw [sFm_same hp64 hq64 (by omega), sr_pp hPs hq0 hQs])) ?_
                      refine mo_call (As := [.int (nI (zLen 12 (L a) (L d))), .long (lN (zArith 12 1 (zLong 1 (mR C a) (L a)) (zLong 1 (mR C d) (L d))))]) (rest := []) S (c_Mo_bits l D cA T hT 0 C L O c0 (zLen 12 (L a) (L d)) hz (zArith 12 1 (zLong 1 (mR C a) (L a)) (zLong 1 (mR C d) (L d))) (zArith_lt (by decide) hp64 hq0 hq64)) kMo_44 ⟨rfl, rfl, Nat.le_of_ble_eq_true rfl, Nat.le_of_ble_eq_true rfl⟩ ⟨Nat.zero_le _, Nat.zero_le _⟩ (mo_ob hK hP) hP hK hS rfl hl.1 rfl (Nat.le_of_ble_eq_true rfl) dMo_numbers_329 (fun H locs hP hS => ?_)
                      have hn0 : nCalc 12 (mR C a) (L a) (mR C d) (L d) = zLen 12 (L a) (L d) := by unfold nCalc; rw [if_pos ⟨hcy, hcz⟩]
                      exact W.vret hx hb hr (fun t ht hW => ⟨⟨(), rfl, trivial, pov (zPut (zArith 12 1 (zLong 1 (mR C a) (L a)) (zLong 1 (mR C d) (L d)))) O 0 (zLen 12 (L a) (L d)), (zLen 12 (L a) (L d)), fun _ => ⟨hn0.symm, by rw [hn0]; exact fun k hk => by rw [pov_in (Nat.zero_le _) (by omega)]; unfold fCalc; rw [if_pos ⟨hcy, hcz⟩]⟩, pov_lt (fun _ _ _ => zPut_lt _ _) ok.2.2, by rw [hk0, ht]; exact hP⟩, hS.F ht⟩) hS.2.2 dMo_numbers_332
                    · refine lv_iload hx hb dMo_numbers_299 (lv_at hl 5 rfl) ?_
                      refine lv_iload hx hb dMo_numbers_301 (lv_at hl 4 rfl) ?_
                      refine lv_icmp_eq (tgt := 313) hx hb dMo_numbers_303 (by decide) (fun _ => ?_) (fun c139 => absurd (by decide) c139)
                      refine lv_aload_n hx hb dMo_numbers_313 rfl (lv_at hl 8 rfl) ?_
                      refine lv_iload hx hb dMo_numbers_314 (lv_at hl 13 rfl) ?_
                      refine lv_iload_n hx hb dMo_numbers_316 rfl (lv_at hl 9 rfl) ?_
                      refine lv_bipush (v := 10) hx hb dMo_numbers_317 (by decide) ?_
                      refine lv_icmp_ne (tgt := 327) hx hb dMo_numbers_319 (by decide) (fun _ => ?_) (fun c140 => absurd c140 (by decide))
                      refine lv_lload hx hb dMo_numbers_327 (lv_at hl 0 rfl) ?_
                      refine nz_eql (y := lN (zArith 12 1 (zLong 1 (mR C a) (L a)) (zLong 1 (mR C d) (L d)))) (by rw [zArith, if_neg (by decide), zDiv, if_pos rfl, lN_zU, sDiv, if_neg (by decide), if_neg (by decide)]; exact (by rw [sFm_same hp64 hq64 (by omega), sr_pp hPs hq0 hQs])) ?_
                      refine mo_call (As := [.int (nI (zLen 12 (L a) (L d))), .long (lN (zArith 12 1 (zLong 1 (mR C a) (L a)) (zLong 1 (mR C d) (L d))))]) (rest := []) S (c_Mo_bits l D cA T hT 0 C L O c0 (zLen 12 (L a) (L d)) hz (zArith 12 1 (zLong 1 (mR C a) (L a)) (zLong 1 (mR C d) (L d))) (zArith_lt (by decide) hp64 hq0 hq64)) kMo_44 ⟨rfl, rfl, Nat.le_of_ble_eq_true rfl, Nat.le_of_ble_eq_true rfl⟩ ⟨Nat.zero_le _, Nat.zero_le _⟩ (mo_ob hK hP) hP hK hS rfl hl.1 rfl (Nat.le_of_ble_eq_true rfl) dMo_numbers_329 (fun H locs hP hS => ?_)
                      have hn0 : nCalc 12 (mR C a) (L a) (mR C d) (L d) = zLen 12 (L a) (L d) := by unfold nCalc; rw [if_pos ⟨hcy, hcz⟩]
                      exact W.vret hx hb hr (fun t ht hW => ⟨⟨(), rfl, trivial, pov (zPut (zArith 12 1 (zLong 1 (mR C a) (L a)) (zLong 1 (mR C d) (L d)))) O 0 (zLen 12 (L a) (L d)), (zLen 12 (L a) (L d)), fun _ => ⟨hn0.symm, by rw [hn0]; exact fun k hk => by rw [pov_in (Nat.zero_le _) (by omega)]; unfold fCalc; rw [if_pos ⟨hcy, hcz⟩]⟩, pov_lt (fun _ _ _ => zPut_lt _ _) ok.2.2, by rw [hk0, ht]; exact hP⟩, hS.F ht⟩) hS.2.2 dMo_numbers_332
                  · refine lv_iconst (v := 1) hx hb dMo_numbers_195 (by decide) ?_
                    refine lv_goto (tgt := 200) hx hb dMo_numbers_196 (by decide) ?_
                    have hQs : 9223372036854775808 ≤ zLong 1 (mR C d) (L d) := Nat.le_of_not_lt (fun q => c129 ((lN_lt0 hq64).mpr q))
                    refine lv_istore (lv' := [(11, .int 1), (10, .int 0), (8, .long (lN (zLong 1 (mR C d) (L d)))), (6, .long (lN (zLong 1 (mR C a) (L a)))), (0, .ref (T 0)), (1, .int 12), (2, .int 1), (3, .int (nI a)), (4, .int (nI d)), (5, .int (nI (zLen 12 (L a) (L d))))]) hx hb dMo_numbers_200 hl (by decide) rfl (fun ls hl => ?_)
                    refine lv_iload hx hb dMo_numbers_202 (lv_at hl 1 rfl) ?_
                    refine lv_if_eq (tgt := 213) hx hb dMo_numbers_204 (by decide) (fun _ => ?_) (fun c141 => absurd (by decide) c141)
                    refine lv_lload hx hb dMo_numbers_213 (lv_at hl 3 rfl) ?_
                    refine lv_lstore (lv' := [(12, .long (lN (zLong 1 (mR C a) (L a)))), (11, .int 1), (10, .int 0), (8, .long (lN (zLong 1 (mR C d) (L d)))), (6, .long (lN (zLong 1 (mR C a) (L a)))), (0, .ref (T 0)), (1, .int 12), (2, .int 1), (3, .int (nI a)), (4, .int (nI d)), (5, .int (nI (zLen 12 (L a) (L d))))]) hx hb dMo_numbers_215 hl (by decide) rfl (fun ls hl => ?_)
                    refine lv_iload hx hb dMo_numbers_217 (lv_at hl 1 rfl) ?_
                    refine lv_if_eq (tgt := 228) hx hb dMo_numbers_219 (by decide) (fun c142 => absurd c142 (by decide)) (fun _ => ?_)
                    refine lv_lload hx hb dMo_numbers_222 (lv_at hl 3 rfl) ?_
                    refine lv_lneg hx hb dMo_numbers_224 ?_
                    refine nz_eql (lN_neg hq64) ?_
                    refine lv_goto (tgt := 230) hx hb dMo_numbers_225 (by decide) ?_
                    refine lv_lstore (lv' := [(14, .long (lN (zNeg (zLong 1 (mR C d) (L d))))), (12, .long (lN (zLong 1 (mR C a) (L a)))), (11, .int 1), (10, .int 0), (8, .long (lN (zLong 1 (mR C d) (L d)))), (6, .long (lN (zLong 1 (mR C a) (L a)))), (0, .ref (T 0)), (1, .int 12), (2, .int 1), (3, .int (nI a)), (4, .int (nI d)), (5, .int (nI (zLen 12 (L a) (L d))))]) hx hb dMo_numbers_230 hl (by decide) rfl (fun ls hl => ?_)
                    refine lv_aload_n hx hb dMo_numbers_232 rfl (lv_at hl 6 rfl) ?_
                    refine lv_lload hx hb dMo_numbers_233 (lv_at hl 1 rfl) ?_
                    refine lv_lload hx hb dMo_numbers_235 (lv_at hl 0 rfl) ?_
                    refine lv_iconst (v := 1) hx hb dMo_numbers_237 (by decide) ?_
                    refine nz_vl (As := [.long (lN (zLong 1 (mR C a) (L a))), .long (lN (zNeg (zLong 1 (mR C d) (L d)))), .int (nI 1)]) (rest := []) S (c_Mo_divide l T (zLong 1 (mR C a) (L a)) (zNeg (zLong 1 (mR C d) (L d))) 1 (by decide) hp64 (zNeg_le hQs hq64).2 (zNeg_lt _)) kMo_80 ⟨rfl, rfl, Nat.le_of_ble_eq_true rfl, Nat.le_of_ble_eq_true rfl⟩ ⟨Nat.zero_le _, Nat.zero_le _⟩ (fun _ _ _ _ h => h) (mo_ob hK hP) (fun _ _ _ => trivial) rfl hl.1 rfl (Nat.le_of_ble_eq_true rfl) dMo_numbers_238 (fun r143 er143 => ?_)
                    subst er143
                    refine nz_eql (y := lN ((zLong 1 (mR C a) (L a)) / (zNeg (zLong 1 (mR C d) (L d))))) (congrArg lN (if_pos rfl)) ?_
                    refine lv_lstore (lv' := [(16, .long (lN ((zLong 1 (mR C a) (L a)) / (zNeg (zLong 1 (mR C d) (L d)))))), (14, .long (lN (zNeg (zLong 1 (mR C d) (L d))))), (12, .long (lN (zLong 1 (mR C a) (L a)))), (11, .int 1), (10, .int 0), (8, .long (lN (zLong 1 (mR C d) (L d)))), (6, .long (lN (zLong 1 (mR C a) (L a)))), (0, .ref (T 0)), (1, .int 12), (2, .int 1), (3, .int (nI a)), (4, .int (nI d)), (5, .int (nI (zLen 12 (L a) (L d))))]) hx hb dMo_numbers_241 hl (by decide) rfl (fun ls hl => ?_)
                    refine lv_aload_n hx hb dMo_numbers_243 rfl (lv_at hl 7 rfl) ?_
                    refine lv_lload hx hb dMo_numbers_244 (lv_at hl 2 rfl) ?_
                    refine lv_lload hx hb dMo_numbers_246 (lv_at hl 1 rfl) ?_
                    refine lv_iconst (v := 0) hx hb dMo_numbers_248 (by decide) ?_
                    refine nz_vl (As := [.long (lN (zLong 1 (mR C a) (L a))), .long (lN (zNeg (zLong 1 (mR C d) (L d)))), .int (nI 0)]) (rest := []) S (c_Mo_divide l T (zLong 1 (mR C a) (L a)) (zNeg (zLong 1 (mR C d) (L d))) 0 (by decide) hp64 (zNeg_le hQs hq64).2 (zNeg_lt _)) kMo_80 ⟨rfl, rfl, Nat.le_of_ble_eq_true rfl, Nat.le_of_ble_eq_true rfl⟩ ⟨Nat.zero_le _, Nat.zero_le _⟩ (fun _ _ _ _ h => h) (mo_ob hK hP) (fun _ _ _ => trivial) rfl hl.1 rfl (Nat.le_of_ble_eq_true rfl) dMo_numbers_249 (fun r144 er144 => ?_)
                    subst er144
                    refine nz_eql (y := lN ((zLong 1 (mR C a) (L a)) % (zNeg (zLong 1 (mR C d) (L d))))) (congrArg lN (if_neg (by decide))) ?_
                    refine lv_lstore (lv' := [(18, .long (lN ((zLong 1 (mR C a) (L a)) % (zNeg (zLong 1 (mR C d) (L d)))))), (16, .long (lN ((zLong 1 (mR C a) (L a)) / (zNeg (zLong 1 (mR C d) (L d)))))), (14, .long (lN (zNeg (zLong 1 (mR C d) (L d))))), (12, .long (lN (zLong 1 (mR C a) (L a)))), (11, .int 1), (10, .int 0), (8, .long (lN (zLong 1 (mR C d) (L d)))), (6, .long (lN (zLong 1 (mR C a) (L a)))), (0, .ref (T 0)), (1, .int 12), (2, .int 1), (3, .int (nI a)), (4, .int (nI d)), (5, .int (nI (zLen 12 (L a) (L d))))]) hx hb dMo_numbers_252 hl (by decide) rfl (fun ls hl => ?_)
                    refine lv_iload hx hb dMo_numbers_254 (lv_at hl 5 rfl) ?_
                    refine lv_iload hx hb dMo_numbers_256 (lv_at hl 4 rfl) ?_
                    refine lv_icmp_eq (tgt := 267) hx hb dMo_numbers_258 (by decide) (fun c145 => absurd c145 (by decide)) (fun _ => ?_)
                    refine lv_lload hx hb dMo_numbers_261 (lv_at hl 1 rfl) ?_
                    refine lv_lneg hx hb dMo_numbers_263 ?_
                    refine lv_goto (tgt := 269) hx hb dMo_numbers_264 (by decide) ?_
                    refine lv_lstore (lv' := [(16, .long (-(lN ((zLong 1 (mR C a) (L a)) / (zNeg (zLong 1 (mR C d) (L d))))))), (18, .long (lN ((zLong 1 (mR C a) (L a)) % (zNeg (zLong 1 (mR C d) (L d)))))), (14, .long (lN (zNeg (zLong 1 (mR C d) (L d))))), (12, .long (lN (zLong 1 (mR C a) (L a)))), (11, .int 1), (10, .int 0), (8, .long (lN (zLong 1 (mR C d) (L d)))), (6, .long (lN (zLong 1 (mR C a) (L a)))), (0, .ref (T 0)), (1, .int 12), (2, .int 1), (3, .int (nI a)), (4, .int (nI d)), (5, .int (nI (zLen 12 (L a) (L d))))]) hx hb dMo_numbers_269 hl (by decide) rfl (fun ls hl => ?_)
                    refine lv_iload hx hb dMo_numbers_271 (lv_at hl 5 rfl) ?_
                    refine lv_if_eq (tgt := 282) hx hb dMo_numbers_273 (by decide) (fun _ => ?_) (fun c146 => absurd (by decide) c146)
                    refine lv_lload hx hb dMo_numbers_282 (lv_at hl 1 rfl) ?_
                    refine lv_lstore (lv' := [(18, .long (lN ((zLong 1 (mR C a) (L a)) % (zNeg (zLong 1 (mR C d) (L d)))))), (16, .long (-(lN ((zLong 1 (mR C a) (L a)) / (zNeg (zLong 1 (mR C d) (L d))))))), (14, .long (lN (zNeg (zLong 1 (mR C d) (L d))))), (12, .long (lN (zLong 1 (mR C a) (L a)))), (11, .int 1), (10, .int 0), (8, .long (lN (zLong 1 (mR C d) (L d)))), (6, .long (lN (zLong 1 (mR C a) (L a)))), (0, .ref (T 0)), (1, .int 12), (2, .int 1), (3, .int (nI a)), (4, .int (nI d)), (5, .int (nI (zLen 12 (L a) (L d))))]) hx hb dMo_numbers_284 hl (by decide) rfl (fun ls hl => ?_)
                    refine lv_iload_n hx hb dMo_numbers_286 rfl (lv_at hl 9 rfl) ?_
                    refine lv_bipush (v := 12) hx hb dMo_numbers_287 (by decide) ?_
                    refine lv_icmp_ne (tgt := 313) hx hb dMo_numbers_289 (by decide) (fun c147 => absurd (by decide) c147) (fun _ => ?_)
                    refine lv_lload hx hb dMo_numbers_292 (lv_at hl 0 rfl) ?_
                    refine lv_lconst (v := 0) hx hb dMo_numbers_294 (by decide) ?_
                    refine W.lcmp hx hb dMo_numbers_295 ?_
                    refine lv_if_eq (tgt := 313) hx hb dMo_numbers_296 (by decide) (fun c148 => ?_) (fun c148 => ?_)
                    · refine lv_aload_n hx hb dMo_numbers_313 rfl (lv_at hl 8 rfl) ?_
                      refine lv_iload hx hb dMo_numbers_314 (lv_at hl 13 rfl) ?_
                      refine lv_iload_n hx hb dMo_numbers_316 rfl (lv_at hl 9 rfl) ?_
                      refine lv_bipush (v := 10) hx hb dMo_numbers_317 (by decide) ?_
                      refine lv_icmp_ne (tgt := 327) hx hb dMo_numbers_319 (by decide) (fun _ => ?_) (fun c149 => absurd c149 (by decide))
                      refine lv_lload hx hb dMo_numbers_327 (lv_at hl 0 rfl) ?_
                      refine nz_eql (y := lN (zArith 12 1 (zLong 1 (mR C a) (L a)) (zLong 1 (mR C d) (L d)))) (by rw [zArith, if_neg (by decide), zDiv, if_pos rfl, lN_zU, sDiv, if_neg (by decide), if_neg (by decide)]; exact (by rw [sFm_zero (by rw [sr_pn hPs hQs hq64]; exact (lz64 _).mp c148), sr_pn hPs hQs hq64])) ?_
                      refine mo_call (As := [.int (nI (zLen 12 (L a) (L d))), .long (lN (zArith 12 1 (zLong 1 (mR C a) (L a)) (zLong 1 (mR C d) (L d))))]) (rest := []) S (c_Mo_bits l D cA T hT 0 C L O c0 (zLen 12 (L a) (L d)) hz (zArith 12 1 (zLong 1 (mR C a) (L a)) (zLong 1 (mR C d) (L d))) (zArith_lt (by decide) hp64 hq0 hq64)) kMo_44 ⟨rfl, rfl, Nat.le_of_ble_eq_true rfl, Nat.le_of_ble_eq_true rfl⟩ ⟨Nat.zero_le _, Nat.zero_le _⟩ (mo_ob hK hP) hP hK hS rfl hl.1 rfl (Nat.le_of_ble_eq_true rfl) dMo_numbers_329 (fun H locs hP hS => ?_)
                      have hn0 : nCalc 12 (mR C a) (L a) (mR C d) (L d) = zLen 12 (L a) (L d) := by unfold nCalc; rw [if_pos ⟨hcy, hcz⟩]
                      exact W.vret hx hb hr (fun t ht hW => ⟨⟨(), rfl, trivial, pov (zPut (zArith 12 1 (zLong 1 (mR C a) (L a)) (zLong 1 (mR C d) (L d)))) O 0 (zLen 12 (L a) (L d)), (zLen 12 (L a) (L d)), fun _ => ⟨hn0.symm, by rw [hn0]; exact fun k hk => by rw [pov_in (Nat.zero_le _) (by omega)]; unfold fCalc; rw [if_pos ⟨hcy, hcz⟩]⟩, pov_lt (fun _ _ _ => zPut_lt _ _) ok.2.2, by rw [hk0, ht]; exact hP⟩, hS.F ht⟩) hS.2.2 dMo_numbers_332
                    · refine lv_iload hx hb dMo_numbers_299 (lv_at hl 5 rfl) ?_
                      refine lv_iload hx hb dMo_numbers_301 (lv_at hl 4 rfl) ?_
                      refine lv_icmp_eq (tgt := 313) hx hb dMo_numbers_303 (by decide) (fun c150 => absurd c150 (by decide)) (fun _ => ?_)
                      refine lv_lload hx hb dMo_numbers_306 (lv_at hl 0 rfl) ?_
                      refine lv_lload hx hb dMo_numbers_308 (lv_at hl 6 rfl) ?_
                      refine lv_ladd hx hb dMo_numbers_310 ?_
                      refine lv_lstore (lv' := [(18, .long ((lN ((zLong 1 (mR C a) (L a)) % (zNeg (zLong 1 (mR C d) (L d))))) + (lN (zLong 1 (mR C d) (L d))))), (16, .long (-(lN ((zLong 1 (mR C a) (L a)) / (zNeg (zLong 1 (mR C d) (L d))))))), (14, .long (lN (zNeg (zLong 1 (mR C d) (L d))))), (12, .long (lN (zLong 1 (mR C a) (L a)))), (11, .int 1), (10, .int 0), (8, .long (lN (zLong 1 (mR C d) (L d)))), (6, .long (lN (zLong 1 (mR C a) (L a)))), (0, .ref (T 0)), (1, .int 12), (2, .int 1), (3, .int (nI a)), (4, .int (nI d)), (5, .int (nI (zLen 12 (L a) (L d))))]) hx hb dMo_numbers_311 hl (by decide) rfl (fun ls hl => ?_)
                      refine lv_aload_n hx hb dMo_numbers_313 rfl (lv_at hl 8 rfl) ?_
                      refine lv_iload hx hb dMo_numbers_314 (lv_at hl 13 rfl) ?_
                      refine lv_iload_n hx hb dMo_numbers_316 rfl (lv_at hl 9 rfl) ?_
                      refine lv_bipush (v := 10) hx hb dMo_numbers_317 (by decide) ?_
                      refine lv_icmp_ne (tgt := 327) hx hb dMo_numbers_319 (by decide) (fun _ => ?_) (fun c151 => absurd c151 (by decide))
                      refine lv_lload hx hb dMo_numbers_327 (lv_at hl 0 rfl) ?_
                      refine nz_eql (y := lN (zArith 12 1 (zLong 1 (mR C a) (L a)) (zLong 1 (mR C d) (L d)))) (by rw [zArith, if_neg (by decide), zDiv, if_pos rfl, lN_zU, sDiv, if_neg (by decide), if_neg (by decide)]; exact (by rw [sFm_diff hp64 hq64 (by omega) (fun z => c148 ((lz64 _).mpr (by rw [← sr_pn hPs hQs hq64]; exact z))), sr_pn hPs hQs hq64])) ?_
                      refine mo_call (As := [.int (nI (zLen 12 (L a) (L d))), .long (lN (zArith 12 1 (zLong 1 (mR C a) (L a)) (zLong 1 (mR C d) (L d))))]) (rest := []) S (c_Mo_bits l D cA T hT 0 C L O c0 (zLen 12 (L a) (L d)) hz (zArith 12 1 (zLong 1 (mR C a) (L a)) (zLong 1 (mR C d) (L d))) (zArith_lt (by decide) hp64 hq0 hq64)) kMo_44 ⟨rfl, rfl, Nat.le_of_ble_eq_true rfl, Nat.le_of_ble_eq_true rfl⟩ ⟨Nat.zero_le _, Nat.zero_le _⟩ (mo_ob hK hP) hP hK hS rfl hl.1 rfl (Nat.le_of_ble_eq_true rfl) dMo_numbers_329 (fun H locs hP hS => ?_)
                      have hn0 : nCalc 12 (mR C a) (L a) (mR C d) (L d) = zLen 12 (L a) (L d) := by unfold nCalc; rw [if_pos ⟨hcy, hcz⟩]
                      exact W.vret hx hb hr (fun t ht hW => ⟨⟨(), rfl, trivial, pov (zPut (zArith 12 1 (zLong 1 (mR C a) (L a)) (zLong 1 (mR C d) (L d)))) O 0 (zLen 12 (L a) (L d)), (zLen 12 (L a) (L d)), fun _ => ⟨hn0.symm, by rw [hn0]; exact fun k hk => by rw [pov_in (Nat.zero_le _) (by omega)]; unfold fCalc; rw [if_pos ⟨hcy, hcz⟩]⟩, pov_lt (fun _ _ _ => zPut_lt _ _) ok.2.2, by rw [hk0, ht]; exact hP⟩, hS.F ht⟩) hS.2.2 dMo_numbers_332
                · refine lv_iconst (v := 1) hx hb dMo_numbers_177 (by decide) ?_
                  refine lv_goto (tgt := 182) hx hb dMo_numbers_178 (by decide) ?_
                  have hPs : 9223372036854775808 ≤ zLong 1 (mR C a) (L a) := Nat.le_of_not_lt (fun q => c127 ((lN_lt0 hp64).mpr q))
                  refine lv_istore (lv' := [(10, .int 1), (8, .long (lN (zLong 1 (mR C d) (L d)))), (6, .long (lN (zLong 1 (mR C a) (L a)))), (0, .ref (T 0)), (1, .int 12), (2, .int 1), (3, .int (nI a)), (4, .int (nI d)), (5, .int (nI (zLen 12 (L a) (L d))))]) hx hb dMo_numbers_182 hl (by decide) rfl (fun ls hl => ?_)
                  refine lv_iload_n hx hb dMo_numbers_184 rfl (lv_at hl 5 rfl) ?_
                  refine lv_if_eq (tgt := 199) hx hb dMo_numbers_185 (by decide) (fun c152 => absurd c152 (by decide)) (fun _ => ?_)
                  refine lv_lload hx hb dMo_numbers_188 (lv_at hl 1 rfl) ?_
                  refine lv_lconst (v := 0) hx hb dMo_numbers_190 (by decide) ?_
                  refine W.lcmp hx hb dMo_numbers_191 ?_
                  refine lv_if_ge (tgt := 199) hx hb dMo_numbers_192 (by decide) (fun c153 => ?_) (fun c153 => ?_)
                  · refine lv_iconst (v := 0) hx hb dMo_numbers_199 (by decide) ?_
                    have hQs : zLong 1 (mR C d) (L d) < 9223372036854775808 := (lN_lt0 hq64).mp c153
                    refine lv_istore (lv' := [(11, .int 0), (10, .int 1), (8, .long (lN (zLong 1 (mR C d) (L d)))), (6, .long (lN (zLong 1 (mR C a) (L a)))), (0, .ref (T 0)), (1, .int 12), (2, .int 1), (3, .int (nI a)), (4, .int (nI d)), (5, .int (nI (zLen 12 (L a) (L d))))]) hx hb dMo_numbers_200 hl (by decide) rfl (fun ls hl => ?_)
                    refine lv_iload hx hb dMo_numbers_202 (lv_at hl 1 rfl) ?_
                    refine lv_if_eq (tgt := 213) hx hb dMo_numbers_204 (by decide) (fun c154 => absurd c154 (by decide)) (fun _ => ?_)
                    refine lv_lload hx hb dMo_numbers_207 (lv_at hl 3 rfl) ?_
                    refine lv_lneg hx hb dMo_numbers_209 ?_
                    refine nz_eql (lN_neg hp64) ?_
                    refine lv_goto (tgt := 215) hx hb dMo_numbers_210 (by decide) ?_
                    refine lv_lstore (lv' := [(12, .long (lN (zNeg (zLong 1 (mR C a) (L a))))), (11, .int 0), (10, .int 1), (8, .long (lN (zLong 1 (mR C d) (L d)))), (6, .long (lN (zLong 1 (mR C a) (L a)))), (0, .ref (T 0)), (1, .int 12), (2, .int 1), (3, .int (nI a)), (4, .int (nI d)), (5, .int (nI (zLen 12 (L a) (L d))))]) hx hb dMo_numbers_215 hl (by decide) rfl (fun ls hl => ?_)
                    refine lv_iload hx hb dMo_numbers_217 (lv_at hl 1 rfl) ?_
                    refine lv_if_eq (tgt := 228) hx hb dMo_numbers_219 (by decide) (fun _ => ?_) (fun c155 => absurd (by decide) c155)
                    refine lv_lload hx hb dMo_numbers_228 (lv_at hl 3 rfl) ?_
                    refine lv_lstore (lv' := [(14, .long (lN (zLong 1 (mR C d) (L d)))), (12, .long (lN (zNeg (zLong 1 (mR C a) (L a))))), (11, .int 0), (10, .int 1), (8, .long (lN (zLong 1 (mR C d) (L d)))), (6, .long (lN (zLong 1 (mR C a) (L a)))), (0, .ref (T 0)), (1, .int 12), (2, .int 1), (3, .int (nI a)), (4, .int (nI d)), (5, .int (nI (zLen 12 (L a) (L d))))]) hx hb dMo_numbers_230 hl (by decide) rfl (fun ls hl => ?_)
                    refine lv_aload_n hx hb dMo_numbers_232 rfl (lv_at hl 6 rfl) ?_
                    refine lv_lload hx hb dMo_numbers_233 (lv_at hl 1 rfl) ?_
                    refine lv_lload hx hb dMo_numbers_235 (lv_at hl 0 rfl) ?_
                    refine lv_iconst (v := 1) hx hb dMo_numbers_237 (by decide) ?_
                    refine nz_vl (As := [.long (lN (zNeg (zLong 1 (mR C a) (L a)))), .long (lN (zLong 1 (mR C d) (L d))), .int (nI 1)]) (rest := []) S (c_Mo_divide l T (zNeg (zLong 1 (mR C a) (L a))) (zLong 1 (mR C d) (L d)) 1 (by decide) (zNeg_lt _) hq0 hq64) kMo_80 ⟨rfl, rfl, Nat.le_of_ble_eq_true rfl, Nat.le_of_ble_eq_true rfl⟩ ⟨Nat.zero_le _, Nat.zero_le _⟩ (fun _ _ _ _ h => h) (mo_ob hK hP) (fun _ _ _ => trivial) rfl hl.1 rfl (Nat.le_of_ble_eq_true rfl) dMo_numbers_238 (fun r156 er156 => ?_)
                    subst er156
                    refine nz_eql (y := lN ((zNeg (zLong 1 (mR C a) (L a))) / (zLong 1 (mR C d) (L d)))) (congrArg lN (if_pos rfl)) ?_
                    refine lv_lstore (lv' := [(16, .long (lN ((zNeg (zLong 1 (mR C a) (L a))) / (zLong 1 (mR C d) (L d))))), (14, .long (lN (zLong 1 (mR C d) (L d)))), (12, .long (lN (zNeg (zLong 1 (mR C a) (L a))))), (11, .int 0), (10, .int 1), (8, .long (lN (zLong 1 (mR C d) (L d)))), (6, .long (lN (zLong 1 (mR C a) (L a)))), (0, .ref (T 0)), (1, .int 12), (2, .int 1), (3, .int (nI a)), (4, .int (nI d)), (5, .int (nI (zLen 12 (L a) (L d))))]) hx hb dMo_numbers_241 hl (by decide) rfl (fun ls hl => ?_)
                    refine lv_aload_n hx hb dMo_numbers_243 rfl (lv_at hl 7 rfl) ?_
                    refine lv_lload hx hb dMo_numbers_244 (lv_at hl 2 rfl) ?_
                    refine lv_lload hx hb dMo_numbers_246 (lv_at hl 1 rfl) ?_
                    refine lv_iconst (v := 0) hx hb dMo_numbers_248 (by decide) ?_
                    refine nz_vl (As := [.long (lN (zNeg (zLong 1 (mR C a) (L a)))), .long (lN (zLong 1 (mR C d) (L d))), .int (nI 0)]) (rest := []) S (c_Mo_divide l T (zNeg (zLong 1 (mR C a) (L a))) (zLong 1 (mR C d) (L d)) 0 (by decide) (zNeg_lt _) hq0 hq64) kMo_80 ⟨rfl, rfl, Nat.le_of_ble_eq_true rfl, Nat.le_of_ble_eq_true rfl⟩ ⟨Nat.zero_le _, Nat.zero_le _⟩ (fun _ _ _ _ h => h) (mo_ob hK hP) (fun _ _ _ => trivial) rfl hl.1 rfl (Nat.le_of_ble_eq_true rfl) dMo_numbers_249 (fun r157 er157 => ?_)
                    subst er157
                    refine nz_eql (y := lN ((zNeg (zLong 1 (mR C a) (L a))) % (zLong 1 (mR C d) (L d)))) (congrArg lN (if_neg (by decide))) ?_
                    refine lv_lstore (lv' := [(18, .long (lN ((zNeg (zLong 1 (mR C a) (L a))) % (zLong 1 (mR C d) (L d))))), (16, .long (lN ((zNeg (zLong 1 (mR C a) (L a))) / (zLong 1 (mR C d) (L d))))), (14, .long (lN (zLong 1 (mR C d) (L d)))), (12, .long (lN (zNeg (zLong 1 (mR C a) (L a))))), (11, .int 0), (10, .int 1), (8, .long (lN (zLong 1 (mR C d) (L d)))), (6, .long (lN (zLong 1 (mR C a) (L a)))), (0, .ref (T 0)), (1, .int 12), (2, .int 1), (3, .int (nI a)), (4, .int (nI d)), (5, .int (nI (zLen 12 (L a) (L d))))]) hx hb dMo_numbers_252 hl (by decide) rfl (fun ls hl => ?_)
                    refine lv_iload hx hb dMo_numbers_254 (lv_at hl 5 rfl) ?_
                    refine lv_iload hx hb dMo_numbers_256 (lv_at hl 4 rfl) ?_
                    refine lv_icmp_eq (tgt := 267) hx hb dMo_numbers_258 (by decide) (fun c158 => absurd c158 (by decide)) (fun _ => ?_)
                    refine lv_lload hx hb dMo_numbers_261 (lv_at hl 1 rfl) ?_
                    refine lv_lneg hx hb dMo_numbers_263 ?_
                    refine lv_goto (tgt := 269) hx hb dMo_numbers_264 (by decide) ?_
                    refine lv_lstore (lv' := [(16, .long (-(lN ((zNeg (zLong 1 (mR C a) (L a))) / (zLong 1 (mR C d) (L d)))))), (18, .long (lN ((zNeg (zLong 1 (mR C a) (L a))) % (zLong 1 (mR C d) (L d))))), (14, .long (lN (zLong 1 (mR C d) (L d)))), (12, .long (lN (zNeg (zLong 1 (mR C a) (L a))))), (11, .int 0), (10, .int 1), (8, .long (lN (zLong 1 (mR C d) (L d)))), (6, .long (lN (zLong 1 (mR C a) (L a)))), (0, .ref (T 0)), (1, .int 12), (2, .int 1), (3, .int (nI a)), (4, .int (nI d)), (5, .int (nI (zLen 12 (L a) (L d))))]) hx hb dMo_numbers_269 hl (by decide) rfl (fun ls hl => ?_)
                    refine lv_iload hx hb dMo_numbers_271 (lv_at hl 5 rfl) ?_
                    refine lv_if_eq (tgt := 282) hx hb dMo_numbers_273 (by decide) (fun c159 => absurd c159 (by decide)) (fun _ => ?_)
                    refine lv_lload hx hb dMo_numbers_276 (lv_at hl 1 rfl) ?_
                    refine lv_lneg hx hb dMo_numbers_278 ?_
                    refine lv_goto (tgt := 284) hx hb dMo_numbers_279 (by decide) ?_
                    refine lv_lstore (lv' := [(18, .long (-(lN ((zNeg (zLong 1 (mR C a) (L a))) % (zLong 1 (mR C d) (L d)))))), (16, .long (-(lN ((zNeg (zLong 1 (mR C a) (L a))) / (zLong 1 (mR C d) (L d)))))), (14, .long (lN (zLong 1 (mR C d) (L d)))), (12, .long (lN (zNeg (zLong 1 (mR C a) (L a))))), (11, .int 0), (10, .int 1), (8, .long (lN (zLong 1 (mR C d) (L d)))), (6, .long (lN (zLong 1 (mR C a) (L a)))), (0, .ref (T 0)), (1, .int 12), (2, .int 1), (3, .int (nI a)), (4, .int (nI d)), (5, .int (nI (zLen 12 (L a) (L d))))]) hx hb dMo_numbers_284 hl (by decide) rfl (fun ls hl => ?_)
                    refine lv_iload_n hx hb dMo_numbers_286 rfl (lv_at hl 9 rfl) ?_
                    refine lv_bipush (v := 12) hx hb dMo_numbers_287 (by decide) ?_
                    refine lv_icmp_ne (tgt := 313) hx hb dMo_numbers_289 (by decide) (fun c160 => absurd (by decide) c160) (fun _ => ?_)
                    refine lv_lload hx hb dMo_numbers_292 (lv_at hl 0 rfl) ?_
                    refine lv_lconst (v := 0) hx hb dMo_numbers_294 (by decide) ?_
                    refine W.lcmp hx hb dMo_numbers_295 ?_
                    refine lv_if_eq (tgt := 313) hx hb dMo_numbers_296 (by decide) (fun c161 => ?_) (fun c161 => ?_)
                    · refine lv_aload_n hx hb dMo_numbers_313 rfl (lv_at hl 8 rfl) ?_
                      refine lv_iload hx hb dMo_numbers_314 (lv_at hl 13 rfl) ?_
                      refine lv_iload_n hx hb dMo_numbers_316 rfl (lv_at hl 9 rfl) ?_
                      refine lv_bipush (v := 10) hx hb dMo_numbers_317 (by decide) ?_
                      refine lv_icmp_ne (tgt := 327) hx hb dMo_numbers_319 (by decide) (fun _ => ?_) (fun c162 => absurd c162 (by decide))
                      refine lv_lload hx hb dMo_numbers_327 (lv_at hl 0 rfl) ?_
                      refine nz_eql (y := lN (zArith 12 1 (zLong 1 (mR C a) (L a)) (zLong 1 (mR C d) (L d)))) (by rw [zArith, if_neg (by decide), zDiv, if_pos rfl, lN_zU, sDiv, if_neg (by decide), if_neg (by decide)]; exact (by rw [sFm_zero (by rw [sr_np hPs hp64 hQs]; exact (lz64 _).mp c161), sr_np hPs hp64 hQs])) ?_
                      refine mo_call (As := [.int (nI (zLen 12 (L a) (L d))), .long (lN (zArith 12 1 (zLong 1 (mR C a) (L a)) (zLong 1 (mR C d) (L d))))]) (rest := []) S (c_Mo_bits l D cA T hT 0 C L O c0 (zLen 12 (L a) (L d)) hz (zArith 12 1 (zLong 1 (mR C a) (L a)) (zLong 1 (mR C d) (L d))) (zArith_lt (by decide) hp64 hq0 hq64)) kMo_44 ⟨rfl, rfl, Nat.le_of_ble_eq_true rfl, Nat.le_of_ble_eq_true rfl⟩ ⟨Nat.zero_le _, Nat.zero_le _⟩ (mo_ob hK hP) hP hK hS rfl hl.1 rfl (Nat.le_of_ble_eq_true rfl) dMo_numbers_329 (fun H locs hP hS => ?_)
                      have hn0 : nCalc 12 (mR C a) (L a) (mR C d) (L d) = zLen 12 (L a) (L d) := by unfold nCalc; rw [if_pos ⟨hcy, hcz⟩]
                      exact W.vret hx hb hr (fun t ht hW => ⟨⟨(), rfl, trivial, pov (zPut (zArith 12 1 (zLong 1 (mR C a) (L a)) (zLong 1 (mR C d) (L d)))) O 0 (zLen 12 (L a) (L d)), (zLen 12 (L a) (L d)), fun _ => ⟨hn0.symm, by rw [hn0]; exact fun k hk => by rw [pov_in (Nat.zero_le _) (by omega)]; unfold fCalc; rw [if_pos ⟨hcy, hcz⟩]⟩, pov_lt (fun _ _ _ => zPut_lt _ _) ok.2.2, by rw [hk0, ht]; exact hP⟩, hS.F ht⟩) hS.2.2 dMo_numbers_332
                    · refine lv_iload hx hb dMo_numbers_299 (lv_at hl 5 rfl) ?_
                      refine lv_iload hx hb dMo_numbers_301 (lv_at hl 4 rfl) ?_
                      refine lv_icmp_eq (tgt := 313) hx hb dMo_numbers_303 (by decide) (fun c163 => absurd c163 (by decide)) (fun _ => ?_)
                      refine lv_lload hx hb dMo_numbers_306 (lv_at hl 0 rfl) ?_
                      refine lv_lload hx hb dMo_numbers_308 (lv_at hl 6 rfl) ?_
                      refine lv_ladd hx hb dMo_numbers_310 ?_
                      refine lv_lstore (lv' := [(18, .long ((-(lN ((zNeg (zLong 1 (mR C a) (L a))) % (zLong 1 (mR C d) (L d))))) + (lN (zLong 1 (mR C d) (L d))))), (16, .long (-(lN ((zNeg (zLong 1 (mR C a) (L a))) / (zLong 1 (mR C d) (L d)))))), (14, .long (lN (zLong 1 (mR C d) (L d)))), (12, .long (lN (zNeg (zLong 1 (mR C a) (L a))))), (11, .int 0), (10, .int 1), (8, .long (lN (zLong 1 (mR C d) (L d)))), (6, .long (lN (zLong 1 (mR C a) (L a)))), (0, .ref (T 0)), (1, .int 12), (2, .int 1), (3, .int (nI a)), (4, .int (nI d)), (5, .int (nI (zLen 12 (L a) (L d))))]) hx hb dMo_numbers_311 hl (by decide) rfl (fun ls hl => ?_)
                      refine lv_aload_n hx hb dMo_numbers_313 rfl (lv_at hl 8 rfl) ?_
                      refine lv_iload hx hb dMo_numbers_314 (lv_at hl 13 rfl) ?_
                      refine lv_iload_n hx hb dMo_numbers_316 rfl (lv_at hl 9 rfl) ?_
                      refine lv_bipush (v := 10) hx hb dMo_numbers_317 (by decide) ?_
                      refine lv_icmp_ne (tgt := 327) hx hb dMo_numbers_319 (by decide) (fun _ => ?_) (fun c164 => absurd c164 (by decide))
                      refine lv_lload hx hb dMo_numbers_327 (lv_at hl 0 rfl) ?_
                      refine nz_eql (y := lN (zArith 12 1 (zLong 1 (mR C a) (L a)) (zLong 1 (mR C d) (L d)))) (by rw [zArith, if_neg (by decide), zDiv, if_pos rfl, lN_zU, sDiv, if_neg (by decide), if_neg (by decide)]; exact (by rw [sFm_diff hp64 hq64 (by omega) (fun z => c161 ((lz64 _).mpr (by rw [← sr_np hPs hp64 hQs]; exact z))), sr_np hPs hp64 hQs])) ?_
                      refine mo_call (As := [.int (nI (zLen 12 (L a) (L d))), .long (lN (zArith 12 1 (zLong 1 (mR C a) (L a)) (zLong 1 (mR C d) (L d))))]) (rest := []) S (c_Mo_bits l D cA T hT 0 C L O c0 (zLen 12 (L a) (L d)) hz (zArith 12 1 (zLong 1 (mR C a) (L a)) (zLong 1 (mR C d) (L d))) (zArith_lt (by decide) hp64 hq0 hq64)) kMo_44 ⟨rfl, rfl, Nat.le_of_ble_eq_true rfl, Nat.le_of_ble_eq_true rfl⟩ ⟨Nat.zero_le _, Nat.zero_le _⟩ (mo_ob hK hP) hP hK hS rfl hl.1 rfl (Nat.le_of_ble_eq_true rfl) dMo_numbers_329 (fun H locs hP hS => ?_)
                      have hn0 : nCalc 12 (mR C a) (L a) (mR C d) (L d) = zLen 12 (L a) (L d) := by unfold nCalc; rw [if_pos ⟨hcy, hcz⟩]
                      exact W.vret hx hb hr (fun t ht hW => ⟨⟨(), rfl, trivial, pov (zPut (zArith 12 1 (zLong 1 (mR C a) (L a)) (zLong 1 (mR C d) (L d)))) O 0 (zLen 12 (L a) (L d)), (zLen 12 (L a) (L d)), fun _ => ⟨hn0.symm, by rw [hn0]; exact fun k hk => by rw [pov_in (Nat.zero_le _) (by omega)]; unfold fCalc; rw [if_pos ⟨hcy, hcz⟩]⟩, pov_lt (fun _ _ _ => zPut_lt _ _) ok.2.2, by rw [hk0, ht]; exact hP⟩, hS.F ht⟩) hS.2.2 dMo_numbers_332
                  · refine lv_iconst (v := 1) hx hb dMo_numbers_195 (by decide) ?_
                    refine lv_goto (tgt := 200) hx hb dMo_numbers_196 (by decide) ?_
                    have hQs : 9223372036854775808 ≤ zLong 1 (mR C d) (L d) := Nat.le_of_not_lt (fun q => c153 ((lN_lt0 hq64).mpr q))
                    refine lv_istore (lv' := [(11, .int 1), (10, .int 1), (8, .long (lN (zLong 1 (mR C d) (L d)))), (6, .long (lN (zLong 1 (mR C a) (L a)))), (0, .ref (T 0)), (1, .int 12), (2, .int 1), (3, .int (nI a)), (4, .int (nI d)), (5, .int (nI (zLen 12 (L a) (L d))))]) hx hb dMo_numbers_200 hl (by decide) rfl (fun ls hl => ?_)
                    refine lv_iload hx hb dMo_numbers_202 (lv_at hl 1 rfl) ?_
                    refine lv_if_eq (tgt := 213) hx hb dMo_numbers_204 (by decide) (fun c165 => absurd c165 (by decide)) (fun _ => ?_)
                    refine lv_lload hx hb dMo_numbers_207 (lv_at hl 3 rfl) ?_
                    refine lv_lneg hx hb dMo_numbers_209 ?_
                    refine nz_eql (lN_neg hp64) ?_
                    refine lv_goto (tgt := 215) hx hb dMo_numbers_210 (by decide) ?_
                    refine lv_lstore (lv' := [(12, .long (lN (zNeg (zLong 1 (mR C a) (L a))))), (11, .int 1), (10, .int 1), (8, .long (lN (zLong 1 (mR C d) (L d)))), (6, .long (lN (zLong 1 (mR C a) (L a)))), (0, .ref (T 0)), (1, .int 12), (2, .int 1), (3, .int (nI a)), (4, .int (nI d)), (5, .int (nI (zLen 12 (L a) (L d))))]) hx hb dMo_numbers_215 hl (by decide) rfl (fun ls hl => ?_)
                    refine lv_iload hx hb dMo_numbers_217 (lv_at hl 1 rfl) ?_
                    refine lv_if_eq (tgt := 228) hx hb dMo_numbers_219 (by decide) (fun c166 => absurd c166 (by decide)) (fun _ => ?_)
                    refine lv_lload hx hb dMo_numbers_222 (lv_at hl 3 rfl) ?_
                    refine lv_lneg hx hb dMo_numbers_224 ?_
                    refine nz_eql (lN_neg hq64) ?_
                    refine lv_goto (tgt := 230) hx hb dMo_numbers_225 (by decide) ?_
                    refine lv_lstore (lv' := [(14, .long (lN (zNeg (zLong 1 (mR C d) (L d))))), (12, .long (lN (zNeg (zLong 1 (mR C a) (L a))))), (11, .int 1), (10, .int 1), (8, .long (lN (zLong 1 (mR C d) (L d)))), (6, .long (lN (zLong 1 (mR C a) (L a)))), (0, .ref (T 0)), (1, .int 12), (2, .int 1), (3, .int (nI a)), (4, .int (nI d)), (5, .int (nI (zLen 12 (L a) (L d))))]) hx hb dMo_numbers_230 hl (by decide) rfl (fun ls hl => ?_)
                    refine lv_aload_n hx hb dMo_numbers_232 rfl (lv_at hl 6 rfl) ?_
                    refine lv_lload hx hb dMo_numbers_233 (lv_at hl 1 rfl) ?_
                    refine lv_lload hx hb dMo_numbers_235 (lv_at hl 0 rfl) ?_
                    refine lv_iconst (v := 1) hx hb dMo_numbers_237 (by decide) ?_
                    refine nz_vl (As := [.long (lN (zNeg (zLong 1 (mR C a) (L a)))), .long (lN (zNeg (zLong 1 (mR C d) (L d)))), .int (nI 1)]) (rest := []) S (c_Mo_divide l T (zNeg (zLong 1 (mR C a) (L a))) (zNeg (zLong 1 (mR C d) (L d))) 1 (by decide) (zNeg_lt _) (zNeg_le hQs hq64).2 (zNeg_lt _)) kMo_80 ⟨rfl, rfl, Nat.le_of_ble_eq_true rfl, Nat.le_of_ble_eq_true rfl⟩ ⟨Nat.zero_le _, Nat.zero_le _⟩ (fun _ _ _ _ h => h) (mo_ob hK hP) (fun _ _ _ => trivial) rfl hl.1 rfl (Nat.le_of_ble_eq_true rfl) dMo_numbers_238 (fun r167 er167 => ?_)
                    subst er167
                    refine nz_eql (y := lN ((zNeg (zLong 1 (mR C a) (L a))) / (zNeg (zLong 1 (mR C d) (L d))))) (congrArg lN (if_pos rfl)) ?_
                    refine lv_lstore (lv' := [(16, .long (lN ((zNeg (zLong 1 (mR C a) (L a))) / (zNeg (zLong 1 (mR C d) (L d)))))), (14, .long (lN (zNeg (zLong 1 (mR C d) (L d))))), (12, .long (lN (zNeg (zLong 1 (mR C a) (L a))))), (11, .int 1), (10, .int 1), (8, .long (lN (zLong 1 (mR C d) (L d)))), (6, .long (lN (zLong 1 (mR C a) (L a)))), (0, .ref (T 0)), (1, .int 12), (2, .int 1), (3, .int (nI a)), (4, .int (nI d)), (5, .int (nI (zLen 12 (L a) (L d))))]) hx hb dMo_numbers_241 hl (by decide) rfl (fun ls hl => ?_)
                    refine lv_aload_n hx hb dMo_numbers_243 rfl (lv_at hl 7 rfl) ?_
                    refine lv_lload hx hb dMo_numbers_244 (lv_at hl 2 rfl) ?_
                    refine lv_lload hx hb dMo_numbers_246 (lv_at hl 1 rfl) ?_
                    refine lv_iconst (v := 0) hx hb dMo_numbers_248 (by decide) ?_
                    refine nz_vl (As := [.long (lN (zNeg (zLong 1 (mR C a) (L a)))), .long (lN (zNeg (zLong 1 (mR C d) (L d)))), .int (nI 0)]) (rest := []) S (c_Mo_divide l T (zNeg (zLong 1 (mR C a) (L a))) (zNeg (zLong 1 (mR C d) (L d))) 0 (by decide) (zNeg_lt _) (zNeg_le hQs hq64).2 (zNeg_lt _)) kMo_80 ⟨rfl, rfl, Nat.le_of_ble_eq_true rfl, Nat.le_of_ble_eq_true rfl⟩ ⟨Nat.zero_le _, Nat.zero_le _⟩ (fun _ _ _ _ h => h) (mo_ob hK hP) (fun _ _ _ => trivial) rfl hl.1 rfl (Nat.le_of_ble_eq_true rfl) dMo_numbers_249 (fun r168 er168 => ?_)
                    subst er168
                    refine nz_eql (y := lN ((zNeg (zLong 1 (mR C a) (L a))) % (zNeg (zLong 1 (mR C d) (L d))))) (congrArg lN (if_neg (by decide))) ?_
                    refine lv_lstore (lv' := [(18, .long (lN ((zNeg (zLong 1 (mR C a) (L a))) % (zNeg (zLong 1 (mR C d) (L d)))))), (16, .long (lN ((zNeg (zLong 1 (mR C a) (L a))) / (zNeg (zLong 1 (mR C d) (L d)))))), (14, .long (lN (zNeg (zLong 1 (mR C d) (L d))))), (12, .long (lN (zNeg (zLong 1 (mR C a) (L a))))), (11, .int 1), (10, .int 1), (8, .long (lN (zLong 1 (mR C d) (L d)))), (6, .long (lN (zLong 1 (mR C a) (L a)))), (0, .ref (T 0)), (1, .int 12), (2, .int 1), (3, .int (nI a)), (4, .int (nI d)), (5, .int (nI (zLen 12 (L a) (L d))))]) hx hb dMo_numbers_252 hl (by decide) rfl (fun ls hl => ?_)
                    refine lv_iload hx hb dMo_numbers_254 (lv_at hl 5 rfl) ?_
                    refine lv_iload hx hb dMo_numbers_256 (lv_at hl 4 rfl) ?_
                    refine lv_icmp_eq (tgt := 267) hx hb dMo_numbers_258 (by decide) (fun _ => ?_) (fun c169 => absurd (by decide) c169)
                    refine lv_lload hx hb dMo_numbers_267 (lv_at hl 1 rfl) ?_
                    refine lv_lstore (lv' := [(16, .long (lN ((zNeg (zLong 1 (mR C a) (L a))) / (zNeg (zLong 1 (mR C d) (L d)))))), (18, .long (lN ((zNeg (zLong 1 (mR C a) (L a))) % (zNeg (zLong 1 (mR C d) (L d)))))), (14, .long (lN (zNeg (zLong 1 (mR C d) (L d))))), (12, .long (lN (zNeg (zLong 1 (mR C a) (L a))))), (11, .int 1), (10, .int 1), (8, .long (lN (zLong 1 (mR C d) (L d)))), (6, .long (lN (zLong 1 (mR C a) (L a)))), (0, .ref (T 0)), (1, .int 12), (2, .int 1), (3, .int (nI a)), (4, .int (nI d)), (5, .int (nI (zLen 12 (L a) (L d))))]) hx hb dMo_numbers_269 hl (by decide) rfl (fun ls hl => ?_)
                    refine lv_iload hx hb dMo_numbers_271 (lv_at hl 5 rfl) ?_
                    refine lv_if_eq (tgt := 282) hx hb dMo_numbers_273 (by decide) (fun c170 => absurd c170 (by decide)) (fun _ => ?_)
                    refine lv_lload hx hb dMo_numbers_276 (lv_at hl 1 rfl) ?_
                    refine lv_lneg hx hb dMo_numbers_278 ?_
                    refine lv_goto (tgt := 284) hx hb dMo_numbers_279 (by decide) ?_
                    refine lv_lstore (lv' := [(18, .long (-(lN ((zNeg (zLong 1 (mR C a) (L a))) % (zNeg (zLong 1 (mR C d) (L d))))))), (16, .long (lN ((zNeg (zLong 1 (mR C a) (L a))) / (zNeg (zLong 1 (mR C d) (L d)))))), (14, .long (lN (zNeg (zLong 1 (mR C d) (L d))))), (12, .long (lN (zNeg (zLong 1 (mR C a) (L a))))), (11, .int 1), (10, .int 1), (8, .long (lN (zLong 1 (mR C d) (L d)))), (6, .long (lN (zLong 1 (mR C a) (L a)))), (0, .ref (T 0)), (1, .int 12), (2, .int 1), (3, .int (nI a)), (4, .int (nI d)), (5, .int (nI (zLen 12 (L a) (L d))))]) hx hb dMo_numbers_284 hl (by decide) rfl (fun ls hl => ?_)
                    refine lv_iload_n hx hb dMo_numbers_286 rfl (lv_at hl 9 rfl) ?_
                    refine lv_bipush (v := 12) hx hb dMo_numbers_287 (by decide) ?_
                    refine lv_icmp_ne (tgt := 313) hx hb dMo_numbers_289 (by decide) (fun c171 => absurd (by decide) c171) (fun _ => ?_)
                    refine lv_lload hx hb dMo_numbers_292 (lv_at hl 0 rfl) ?_
                    refine lv_lconst (v := 0) hx hb dMo_numbers_294 (by decide) ?_
                    refine W.lcmp hx hb dMo_numbers_295 ?_
                    refine lv_if_eq (tgt := 313) hx hb dMo_numbers_296 (by decide) (fun c172 => ?_) (fun c172 => ?_)
                    · refine lv_aload_n hx hb dMo_numbers_313 rfl (lv_at hl 8 rfl) ?_
                      refine lv_iload hx hb dMo_numbers_314 (lv_at hl 13 rfl) ?_
                      refine lv_iload_n hx hb dMo_numbers_316 rfl (lv_at hl 9 rfl) ?_
                      refine lv_bipush (v := 10) hx hb dMo_numbers_317 (by decide) ?_
                      refine lv_icmp_ne (tgt := 327) hx hb dMo_numbers_319 (by decide) (fun _ => ?_) (fun c173 => absurd c173 (by decide))
                      refine lv_lload hx hb dMo_numbers_327 (lv_at hl 0 rfl) ?_
                      refine nz_eql (y := lN (zArith 12 1 (zLong 1 (mR C a) (L a)) (zLong 1 (mR C d) (L d)))) (by rw [zArith, if_neg (by decide), zDiv, if_pos rfl, lN_zU, sDiv, if_neg (by decide), if_neg (by decide)]; exact (by rw [sFm_same hp64 hq64 (by omega), sr_nn hPs hp64 hQs hq64])) ?_
                      refine mo_call (As := [.int (nI (zLen 12 (L a) (L d))), .long (lN (zArith 12 1 (zLong 1 (mR C a) (L a)) (zLong 1 (mR C d) (L d))))]) (rest := []) S (c_Mo_bits l D cA T hT 0 C L O c0 (zLen 12 (L a) (L d)) hz (zArith 12 1 (zLong 1 (mR C a) (L a)) (zLong 1 (mR C d) (L d))) (zArith_lt (by decide) hp64 hq0 hq64)) kMo_44 ⟨rfl, rfl, Nat.le_of_ble_eq_true rfl, Nat.le_of_ble_eq_true rfl⟩ ⟨Nat.zero_le _, Nat.zero_le _⟩ (mo_ob hK hP) hP hK hS rfl hl.1 rfl (Nat.le_of_ble_eq_true rfl) dMo_numbers_329 (fun H locs hP hS => ?_)
                      have hn0 : nCalc 12 (mR C a) (L a) (mR C d) (L d) = zLen 12 (L a) (L d) := by unfold nCalc; rw [if_pos ⟨hcy, hcz⟩]
                      exact W.vret hx hb hr (fun t ht hW => ⟨⟨(), rfl, trivial, pov (zPut (zArith 12 1 (zLong 1 (mR C a) (L a)) (zLong 1 (mR C d) (L d)))) O 0 (zLen 12 (L a) (L d)), (zLen 12 (L a) (L d)), fun _ => ⟨hn0.symm, by rw [hn0]; exact fun k hk => by rw [pov_in (Nat.zero_le _) (by omega)]; unfold fCalc; rw [if_pos ⟨hcy, hcz⟩]⟩, pov_lt (fun _ _ _ => zPut_lt _ _) ok.2.2, by rw [hk0, ht]; exact hP⟩, hS.F ht⟩) hS.2.2 dMo_numbers_332
                    · refine lv_iload hx hb dMo_numbers_299 (lv_at hl 5 rfl) ?_
                      refine lv_iload hx hb dMo_numbers_301 (lv_at hl 4 rfl) ?_
                      refine lv_icmp_eq (tgt := 313) hx hb dMo_numbers_303 (by decide) (fun _ => ?_) (fun c174 => absurd (by decide) c174)
                      refine lv_aload_n hx hb dMo_numbers_313 rfl (lv_at hl 8 rfl) ?_
                      refine lv_iload hx hb dMo_numbers_314 (lv_at hl 13 rfl) ?_
                      refine lv_iload_n hx hb dMo_numbers_316 rfl (lv_at hl 9 rfl) ?_
                      refine lv_bipush (v := 10) hx hb dMo_numbers_317 (by decide) ?_
                      refine lv_icmp_ne (tgt := 327) hx hb dMo_numbers_319 (by decide) (fun _ => ?_) (fun c175 => absurd c175 (by decide))
                      refine lv_lload hx hb dMo_numbers_327 (lv_at hl 0 rfl) ?_
                      refine nz_eql (y := lN (zArith 12 1 (zLong 1 (mR C a) (L a)) (zLong 1 (mR C d) (L d)))) (by rw [zArith, if_neg (by decide), zDiv, if_pos rfl, lN_zU, sDiv, if_neg (by decide), if_neg (by decide)]; exact (by rw [sFm_same hp64 hq64 (by omega), sr_nn hPs hp64 hQs hq64])) ?_
                      refine mo_call (As := [.int (nI (zLen 12 (L a) (L d))), .long (lN (zArith 12 1 (zLong 1 (mR C a) (L a)) (zLong 1 (mR C d) (L d))))]) (rest := []) S (c_Mo_bits l D cA T hT 0 C L O c0 (zLen 12 (L a) (L d)) hz (zArith 12 1 (zLong 1 (mR C a) (L a)) (zLong 1 (mR C d) (L d))) (zArith_lt (by decide) hp64 hq0 hq64)) kMo_44 ⟨rfl, rfl, Nat.le_of_ble_eq_true rfl, Nat.le_of_ble_eq_true rfl⟩ ⟨Nat.zero_le _, Nat.zero_le _⟩ (mo_ob hK hP) hP hK hS rfl hl.1 rfl (Nat.le_of_ble_eq_true rfl) dMo_numbers_329 (fun H locs hP hS => ?_)
                      have hn0 : nCalc 12 (mR C a) (L a) (mR C d) (L d) = zLen 12 (L a) (L d) := by unfold nCalc; rw [if_pos ⟨hcy, hcz⟩]
                      exact W.vret hx hb hr (fun t ht hW => ⟨⟨(), rfl, trivial, pov (zPut (zArith 12 1 (zLong 1 (mR C a) (L a)) (zLong 1 (mR C d) (L d)))) O 0 (zLen 12 (L a) (L d)), (zLen 12 (L a) (L d)), fun _ => ⟨hn0.symm, by rw [hn0]; exact fun k hk => by rw [pov_in (Nat.zero_le _) (by omega)]; unfold fCalc; rw [if_pos ⟨hcy, hcz⟩]⟩, pov_lt (fun _ _ _ => zPut_lt _ _) ok.2.2, by rw [hk0, ht]; exact hP⟩, hS.F ht⟩) hS.2.2 dMo_numbers_332
          · have mc16 : o < 10 := Nat.lt_of_not_le (fun h => c16 ((nI_leI (a := 10) (b := o) (by omega) (by omega)).mpr h))
            refine lv_aload_n hx hb dMo_numbers_126 rfl (lv_at hl 2 rfl) ?_
            refine lv_iload hx hb dMo_numbers_127 (lv_at hl 7 rfl) ?_
            refine lv_iload_n hx hb dMo_numbers_129 rfl (lv_at hl 3 rfl) ?_
            refine lv_bipush (v := 7) hx hb dMo_numbers_130 (by decide) ?_
            refine lv_icmp_ne (tgt := 143) hx hb dMo_numbers_132 (by decide) (fun c176 => ?_) (fun c176 => ?_)
            · have mc176 : ¬ o = 7 := fun h => c176 ((nI_eq (a := o) (b := 7) (by omega) (by omega)).mpr h)
              refine lv_iload_n hx hb dMo_numbers_143 rfl (lv_at hl 3 rfl) ?_
              refine lv_bipush (v := 8) hx hb dMo_numbers_144 (by decide) ?_
              refine lv_icmp_ne (tgt := 157) hx hb dMo_numbers_146 (by decide) (fun c177 => ?_) (fun c177 => ?_)
              · have mc177 : ¬ o = 8 := fun h => c177 ((nI_eq (a := o) (b := 8) (by omega) (by omega)).mpr h)
                refine lv_lload hx hb dMo_numbers_157 (lv_at hl 1 rfl) ?_
                refine lv_lload hx hb dMo_numbers_159 (lv_at hl 0 rfl) ?_
                refine lv_lmul hx hb dMo_numbers_161 ?_
                refine nz_eql (zSum_9 _ _) ?_
                refine mo_call (As := [.int (nI (zLen o (L a) (L d))), .long (lN (zSum 9 (zLong b1 (mR C a) (L a)) (zLong b1 (mR C d) (L d))))]) (rest := []) S (c_Mo_bits l D cA T hT 0 C L O c0 (zLen o (L a) (L d)) hz (zSum 9 (zLong b1 (mR C a) (L a)) (zLong b1 (mR C d) (L d))) (zSum_lt _ _ _)) kMo_44 ⟨rfl, rfl, Nat.le_of_ble_eq_true rfl, Nat.le_of_ble_eq_true rfl⟩ ⟨Nat.zero_le _, Nat.zero_le _⟩ (mo_ob hK hP) hP hK hS rfl hl.1 rfl (Nat.le_of_ble_eq_true rfl) dMo_numbers_162 (fun H locs hP hS => ?_)
                have hn0 : nCalc o (mR C a) (L a) (mR C d) (L d) = zLen o (L a) (L d) := by unfold nCalc; rw [if_pos ⟨zCnt_y c2, zCnt_y c6⟩]
                exact W.vret hx hb hr (fun t ht hW => ⟨⟨(), rfl, trivial, pov (zPut (zSum 9 (zLong b1 (mR C a) (L a)) (zLong b1 (mR C d) (L d)))) O 0 (zLen o (L a) (L d)), (zLen o (L a) (L d)), fun _ => ⟨hn0.symm, by rw [hn0]; exact fun k hk => by rw [pov_in (Nat.zero_le _) (by omega)]; unfold fCalc zArith; rw [if_pos ⟨zCnt_y c2, zCnt_y c6⟩, if_pos (by omega), show o = 9 by omega]⟩, pov_lt (fun _ _ _ => zPut_lt _ _) ok.2.2, by rw [hk0, ht]; exact hP⟩, hS.F ht⟩) hS.2.2 dMo_numbers_165
              · have mc177 : o = 8 := (nI_eq (a := o) (b := 8) (by omega) (by omega)).mp c177
                refine lv_lload hx hb dMo_numbers_149 (lv_at hl 1 rfl) ?_
                refine lv_lload hx hb dMo_numbers_151 (lv_at hl 0 rfl) ?_
                refine lv_lsub hx hb dMo_numbers_153 ?_
                refine nz_eql (zSum_8 hq64) ?_
                refine lv_goto (tgt := 162) hx hb dMo_numbers_154 (by decide) ?_
                refine mo_call (As := [.int (nI (zLen o (L a) (L d))), .long (lN (zSum 8 (zLong b1 (mR C a) (L a)) (zLong b1 (mR C d) (L d))))]) (rest := []) S (c_Mo_bits l D cA T hT 0 C L O c0 (zLen o (L a) (L d)) hz (zSum 8 (zLong b1 (mR C a) (L a)) (zLong b1 (mR C d) (L d))) (zSum_lt _ _ _)) kMo_44 ⟨rfl, rfl, Nat.le_of_ble_eq_true rfl, Nat.le_of_ble_eq_true rfl⟩ ⟨Nat.zero_le _, Nat.zero_le _⟩ (mo_ob hK hP) hP hK hS rfl hl.1 rfl (Nat.le_of_ble_eq_true rfl) dMo_numbers_162 (fun H locs hP hS => ?_)
                have hn0 : nCalc o (mR C a) (L a) (mR C d) (L d) = zLen o (L a) (L d) := by unfold nCalc; rw [if_pos ⟨zCnt_y c2, zCnt_y c6⟩]
                exact W.vret hx hb hr (fun t ht hW => ⟨⟨(), rfl, trivial, pov (zPut (zSum 8 (zLong b1 (mR C a) (L a)) (zLong b1 (mR C d) (L d)))) O 0 (zLen o (L a) (L d)), (zLen o (L a) (L d)), fun _ => ⟨hn0.symm, by rw [hn0]; exact fun k hk => by rw [pov_in (Nat.zero_le _) (by omega)]; unfold fCalc zArith; rw [if_pos ⟨zCnt_y c2, zCnt_y c6⟩, if_pos (by omega), show o = 8 by omega]⟩, pov_lt (fun _ _ _ => zPut_lt _ _) ok.2.2, by rw [hk0, ht]; exact hP⟩, hS.F ht⟩) hS.2.2 dMo_numbers_165
            · have mc176 : o = 7 := (nI_eq (a := o) (b := 7) (by omega) (by omega)).mp c176
              refine lv_lload hx hb dMo_numbers_135 (lv_at hl 1 rfl) ?_
              refine lv_lload hx hb dMo_numbers_137 (lv_at hl 0 rfl) ?_
              refine lv_ladd hx hb dMo_numbers_139 ?_
              refine nz_eql (zSum_7 _ _) ?_
              refine lv_goto (tgt := 162) hx hb dMo_numbers_140 (by decide) ?_
              refine mo_call (As := [.int (nI (zLen o (L a) (L d))), .long (lN (zSum 7 (zLong b1 (mR C a) (L a)) (zLong b1 (mR C d) (L d))))]) (rest := []) S (c_Mo_bits l D cA T hT 0 C L O c0 (zLen o (L a) (L d)) hz (zSum 7 (zLong b1 (mR C a) (L a)) (zLong b1 (mR C d) (L d))) (zSum_lt _ _ _)) kMo_44 ⟨rfl, rfl, Nat.le_of_ble_eq_true rfl, Nat.le_of_ble_eq_true rfl⟩ ⟨Nat.zero_le _, Nat.zero_le _⟩ (mo_ob hK hP) hP hK hS rfl hl.1 rfl (Nat.le_of_ble_eq_true rfl) dMo_numbers_162 (fun H locs hP hS => ?_)
              have hn0 : nCalc o (mR C a) (L a) (mR C d) (L d) = zLen o (L a) (L d) := by unfold nCalc; rw [if_pos ⟨zCnt_y c2, zCnt_y c6⟩]
              exact W.vret hx hb hr (fun t ht hW => ⟨⟨(), rfl, trivial, pov (zPut (zSum 7 (zLong b1 (mR C a) (L a)) (zLong b1 (mR C d) (L d)))) O 0 (zLen o (L a) (L d)), (zLen o (L a) (L d)), fun _ => ⟨hn0.symm, by rw [hn0]; exact fun k hk => by rw [pov_in (Nat.zero_le _) (by omega)]; unfold fCalc zArith; rw [if_pos ⟨zCnt_y c2, zCnt_y c6⟩, if_pos (by omega), show o = 7 by omega]⟩, pov_lt (fun _ _ _ => zPut_lt _ _) ok.2.2, by rw [hk0, ht]; exact hP⟩, hS.F ht⟩) hS.2.2 dMo_numbers_165
        · refine lv_iconst (v := 3) hx hb dMo_numbers_104 (by decide) ?_
          refine lv_goto (tgt := 109) hx hb dMo_numbers_105 (by decide) ?_
          refine mo_putk (k1 := 3) S hT hK hP hS dMo_numbers_109 (fun H locs hP hS => ?_)
          have hk0 : kCalc o b1 (mR C a) (L a) (mR C d) (L d) = 3 := by unfold kCalc; rw [if_neg (by omega), if_pos ⟨zCnt_y c2, zCnt_y c6, by omega, (lcmp_z hq64).mp c14⟩]
          refine lv_aload_n hx hb dMo_numbers_112 rfl (lv_at hl 2 rfl) ?_
          refine mo_getk S hK hP dMo_numbers_113 ?_
          refine lv_if_le (tgt := 120) hx hb dMo_numbers_116 (by decide) (fun c178 => absurd c178 (by decide)) (fun _ => ?_)
          exact W.vret hx hb hr (fun t ht hW => ⟨⟨(), rfl, trivial, O, c0, fun h => absurd h (by rw [hk0]; decide), ok.2.2, by rw [hk0, ht]; exact hP⟩, hS.F ht⟩) hS.2.2 dMo_numbers_119
    · refine lv_aload_n hx hb dMo_numbers_17 rfl (lv_at hl 0 rfl) ?_
      refine lv_aload_n hx hb dMo_numbers_18 rfl (lv_at hl 0 rfl) ?_
      refine mo_getL S hK hP dMo_numbers_19 ?_
      refine lv_iload_n hx hb dMo_numbers_22 rfl (lv_at hl 3 rfl) ?_
      refine mo_ldL (j := a) S hK hP ha dMo_numbers_23 ?_
      refine lv_if_eq (tgt := 37) hx hb dMo_numbers_24 (by decide) (fun c179 => ?_) (fun c179 => ?_)
      · have mc179 : (L a) = 0 := (nI_eq (a := (L a)) (b := 0) (by omega) (by omega)).mp c179
        refine lv_iconst (v := 0) hx hb dMo_numbers_37 (by decide) ?_
        refine lv_goto (tgt := 43) hx hb dMo_numbers_38 (by decide) ?_
        refine mo_putc (c1 := 0) S hT hK hP hS dMo_numbers_43 (fun H locs hP hS => ?_)
        refine lv_iconst (v := 0) hx hb dMo_numbers_46 (by decide) ?_
        refine lv_istore (lv' := [(6, .int 0), (0, .ref (T 0)), (1, .int (nI o)), (2, .int (nI b1)), (3, .int (nI a)), (4, .int (nI d)), (5, .int (nI (zLen o (L a) (L d))))]) hx hb dMo_numbers_47 hl (by decide) rfl (fun ls hl => ?_)
        have hk0 : kCalc o b1 (mR C a) (L a) (mR C d) (L d) = 0 := by unfold kCalc; rw [if_neg (by omega), if_neg (fun q => zCnt_n c6 q.2.1)]
        have hn0 : nCalc o (mR C a) (L a) (mR C d) (L d) = 0 := by unfold nCalc; rw [if_neg (fun q => zCnt_n c6 q.2), if_pos (by omega)]
        rw [← pov_0 (fun _ => 1) (O) 0] at hP
        refine lpM_numX l D cA T hT 0 C L O 0 (by omega) S hK (fun H locs ls hP hS hl => ?_) (0 + 1) 0 (by omega) (by omega) _ _ hP hS ls (lv_sub hl [1, 0] rfl)
        exact W.vret hx hb hr (fun t ht hW => ⟨⟨(), rfl, trivial, pov (fun _ => 1) O 0 0, 0, fun _ => ⟨hn0.symm, by rw [hn0]; exact fun k hk => by rw [pov_in (Nat.zero_le _) (by omega)]; unfold fCalc; rw [if_neg (fun q => zCnt_n c6 q.2)]⟩, pov_lt (fun _ _ _ => (by decide : (1 : Nat) < 9)) ok.2.2, by rw [hk0, ht]; exact hP⟩, hS.F ht⟩) hS.2.2 dMo_numbers_72
      · have mc179 : ¬ (L a) = 0 := fun h => c179 ((nI_eq (a := (L a)) (b := 0) (by omega) (by omega)).mpr h)
        refine lv_aload_n hx hb dMo_numbers_27 rfl (lv_at hl 0 rfl) ?_
        refine mo_getL S hK hP dMo_numbers_28 ?_
        refine lv_iload hx hb dMo_numbers_31 (lv_at hl 4 rfl) ?_
        refine mo_ldL (j := d) S hK hP hd dMo_numbers_33 ?_
        refine lv_if_ne (tgt := 41) hx hb dMo_numbers_34 (by decide) (fun c180 => ?_) (fun c180 => ?_)
        · have mc180 : ¬ (L d) = 0 := fun h => c180 ((nI_eq (a := (L d)) (b := 0) (by omega) (by omega)).mpr h)
          refine lv_iload hx hb dMo_numbers_41 (lv_at hl 5 rfl) ?_
          refine mo_putc (c1 := zLen o (L a) (L d)) S hT hK hP hS dMo_numbers_43 (fun H locs hP hS => ?_)
          refine lv_iconst (v := 0) hx hb dMo_numbers_46 (by decide) ?_
          refine lv_istore (lv' := [(6, .int 0), (0, .ref (T 0)), (1, .int (nI o)), (2, .int (nI b1)), (3, .int (nI a)), (4, .int (nI d)), (5, .int (nI (zLen o (L a) (L d))))]) hx hb dMo_numbers_47 hl (by decide) rfl (fun ls hl => ?_)
          have hk0 : kCalc o b1 (mR C a) (L a) (mR C d) (L d) = 0 := by unfold kCalc; rw [if_neg (by omega), if_neg (fun q => zCnt_n c6 q.2.1)]
          have hn0 : nCalc o (mR C a) (L a) (mR C d) (L d) = zLen o (L a) (L d) := by unfold nCalc; rw [if_neg (fun q => zCnt_n c6 q.2), if_neg (by omega)]
          rw [← pov_0 (fun _ => 1) (O) 0] at hP
          refine lpM_numX l D cA T hT 0 C L O (zLen o (L a) (L d)) (by omega) S hK (fun H locs ls hP hS hl => ?_) (zLen o (L a) (L d) + 1) 0 (by omega) (by omega) _ _ hP hS ls (lv_sub hl [1, 0] rfl)
          exact W.vret hx hb hr (fun t ht hW => ⟨⟨(), rfl, trivial, pov (fun _ => 1) O 0 (zLen o (L a) (L d)), (zLen o (L a) (L d)), fun _ => ⟨hn0.symm, by rw [hn0]; exact fun k hk => by rw [pov_in (Nat.zero_le _) (by omega)]; unfold fCalc; rw [if_neg (fun q => zCnt_n c6 q.2)]⟩, pov_lt (fun _ _ _ => (by decide : (1 : Nat) < 9)) ok.2.2, by rw [hk0, ht]; exact hP⟩, hS.F ht⟩) hS.2.2 dMo_numbers_72
        · have mc180 : (L d) = 0 := (nI_eq (a := (L d)) (b := 0) (by omega) (by omega)).mp c180
          refine lv_iconst (v := 0) hx hb dMo_numbers_37 (by decide) ?_
          refine lv_goto (tgt := 43) hx hb dMo_numbers_38 (by decide) ?_
          refine mo_putc (c1 := 0) S hT hK hP hS dMo_numbers_43 (fun H locs hP hS => ?_)
          refine lv_iconst (v := 0) hx hb dMo_numbers_46 (by decide) ?_
          refine lv_istore (lv' := [(6, .int 0), (0, .ref (T 0)), (1, .int (nI o)), (2, .int (nI b1)), (3, .int (nI a)), (4, .int (nI d)), (5, .int (nI (zLen o (L a) (L d))))]) hx hb dMo_numbers_47 hl (by decide) rfl (fun ls hl => ?_)
          have hk0 : kCalc o b1 (mR C a) (L a) (mR C d) (L d) = 0 := by unfold kCalc; rw [if_neg (by omega), if_neg (fun q => zCnt_n c6 q.2.1)]
          have hn0 : nCalc o (mR C a) (L a) (mR C d) (L d) = 0 := by unfold nCalc; rw [if_neg (fun q => zCnt_n c6 q.2), if_pos (by omega)]
          rw [← pov_0 (fun _ => 1) (O) 0] at hP
          refine lpM_numX l D cA T hT 0 C L O 0 (by omega) S hK (fun H locs ls hP hS hl => ?_) (0 + 1) 0 (by omega) (by omega) _ _ hP hS ls (lv_sub hl [1, 0] rfl)
          exact W.vret hx hb hr (fun t ht hW => ⟨⟨(), rfl, trivial, pov (fun _ => 1) O 0 0, 0, fun _ => ⟨hn0.symm, by rw [hn0]; exact fun k hk => by rw [pov_in (Nat.zero_le _) (by omega)]; unfold fCalc; rw [if_neg (fun q => zCnt_n c6 q.2)]⟩, pov_lt (fun _ _ _ => (by decide : (1 : Nat) < 9)) ok.2.2, by rw [hk0, ht]; exact hP⟩, hS.F ht⟩) hS.2.2 dMo_numbers_72
