set_option maxHeartbeats 4000000 in
set_option maxRecDepth 100000 in
theorem c_Mo_bit (l : Launch) (D : va_G) (cA : ClassId) (T : Nat → Nat) (hT : moT T) (k0 : Int32) (C L O : Nat → Nat) (c0 : Nat) (ok : moOk C L O) (a : Nat) (ha : a < 16) (hN0 : 0 < L a) (k : Nat) (hk : k ≤ 64) (b1 : Nat) (hb1 : b1 < 2) : Met l yMo_bit (Cond.code yMo_bit bMo_bit 4 (some .int) :: nzG) ({ frames := 1, cells := 0, slots := 0, locals := 22 }) (va_Pc [.ref (T 0), .int (nI a), .int (nI k), .int (nI b1)] (moP D cA (moW cA T k0 C L O c0))) (vp_Si (fun r => r = nI (zBt b1 (mR C a) (L a) k))) 0 0 (fun _ => False) := by
  refine nz_of (own := RM) (by decide) rfl ?_
  intro p e s m args below meth c S hr hlocks _ hv9
  obtain ⟨rfl, hP, hK⟩ := hv9
  have hS : va_S (moA T) s.heap s.heap [] := va_S.rf
  have hx := S.1
  have hb := S.2.1
  refine nz_entry (vs := [.ref (T 0), .int (nI a), .int (nI k), .int (nI b1)]) (n := 4) (lv := [(0, .ref (T 0)), (1, .int (nI a)), (2, .int (nI k)), (3, .int (nI b1))]) (Nat.le_of_ble_eq_true rfl) rfl (fun ls hl => ?_)
  have hLa := ok.2.1 a
  refine lv_iload_n hx hb dMo_bit_0 rfl (lv_at hl 2 rfl) ?_
  refine lv_aload_n hx hb dMo_bit_1 rfl (lv_at hl 0 rfl) ?_
  refine mo_getL S hK hP dMo_bit_2 ?_
  refine lv_iload_n hx hb dMo_bit_5 rfl (lv_at hl 1 rfl) ?_
  refine mo_ldL (j := a) S hK hP ha dMo_bit_6 ?_
  refine lv_icmp_ge (tgt := 28) hx hb dMo_bit_7 (by decide) (fun c1 => ?_) (fun c1 => ?_)
  · have mc1 : (L a) ≤ k := (nI_leI (a := (L a)) (b := k) (by omega) (by omega)).mp c1
    refine lv_iload_n hx hb dMo_bit_28 rfl (lv_at hl 3 rfl) ?_
    refine lv_if_eq (tgt := 55) hx hb dMo_bit_29 (by decide) (fun c2 => ?_) (fun c2 => ?_)
    · have mc2 : b1 = 0 := (nI_eq (a := b1) (b := 0) (by omega) (by omega)).mp c2
      refine lv_iconst (v := 0) hx hb dMo_bit_55 (by decide) ?_
      exact W.iret (v := 0) hx hb hr (fun t ht hW => ⟨_, rfl, by unfold zBt; rw [if_neg (Nat.not_lt.mpr mc1), if_neg (by omega)]; rfl, ht⟩) (fun q h => nomatch h) dMo_bit_56
    · have mc2 : ¬ b1 = 0 := fun h => c2 ((nI_eq (a := b1) (b := 0) (by omega) (by omega)).mpr h)
      refine lv_aload_n hx hb dMo_bit_32 rfl (lv_at hl 0 rfl) ?_
      refine lv_iload_n hx hb dMo_bit_33 rfl (lv_at hl 1 rfl) ?_
      refine lv_aload_n hx hb dMo_bit_34 rfl (lv_at hl 0 rfl) ?_
      refine mo_getL S hK hP dMo_bit_35 ?_
      refine lv_iload_n hx hb dMo_bit_38 rfl (lv_at hl 1 rfl) ?_
      refine mo_ldL (j := a) S hK hP ha dMo_bit_39 ?_
      refine lv_iconst (v := 1) hx hb dMo_bit_40 (by decide) ?_
      refine lv_isub hx hb dMo_bit_41 ?_
      refine nz_eqi (show nI (L a) - nI 1 = nI (L a - 1) from pk_sub (by omega)) ?_
      refine nz_vi (As := [.int (nI a), .int (nI (L a - 1))]) (rest := []) S (c_Mo_cell l D cA T hT k0 C L O c0 a ha (L a - 1) (by omega)) kMo_40 ⟨rfl, rfl, Nat.le_of_ble_eq_true rfl, Nat.le_of_ble_eq_true rfl⟩ ⟨Nat.zero_le _, Nat.zero_le _⟩ moP.bl (mo_ob hK hP) (moP.to hP hK) rfl hl.1 rfl (Nat.le_of_ble_eq_true rfl) dMo_bit_42 (fun r3 er3 => ?_)
      subst er3
      refine nz_si (As := [.int (nI (mR C a (L a - 1)))]) (rest := []) S (c_Mo_isHigh l (mR C a (L a - 1)) (ok.1 _)) kMo_27 ⟨rfl, rfl, Nat.le_of_ble_eq_true rfl, Nat.le_of_ble_eq_true rfl⟩ ⟨Nat.zero_le _, Nat.zero_le _⟩ (fun _ _ _ _ h => h) (fun _ _ _ => trivial) rfl hl.1 rfl (Nat.le_of_ble_eq_true rfl) dMo_bit_45 (fun r4 er4 => ?_)
      subst er4
      refine lv_if_eq (tgt := 55) hx hb dMo_bit_48 (by decide) (fun c5 => ?_) (fun c5 => ?_)
      · refine lv_iconst (v := 0) hx hb dMo_bit_55 (by decide) ?_
        exact W.iret (v := 0) hx hb hr (fun t ht hW => ⟨_, rfl, by unfold zBt; rw [if_neg (Nat.not_lt.mpr mc1), if_pos (by omega), zH_n (v := mR C a (L a - 1)) (ok.1 _) c5]; rfl, ht⟩) (fun q h => nomatch h) dMo_bit_56
      · refine lv_iconst (v := 1) hx hb dMo_bit_51 (by decide) ?_
        refine lv_goto (tgt := 56) hx hb dMo_bit_52 (by decide) ?_
        exact W.iret (v := 1) hx hb hr (fun t ht hW => ⟨_, rfl, by unfold zBt; rw [if_neg (Nat.not_lt.mpr mc1), if_pos (by omega), zH_y (v := mR C a (L a - 1)) (ok.1 _) c5]; rfl, ht⟩) (fun q h => nomatch h) dMo_bit_56
  · have mc1 : k < (L a) := Nat.lt_of_not_le (fun h => c1 ((nI_leI (a := (L a)) (b := k) (by omega) (by omega)).mpr h))
    refine lv_aload_n hx hb dMo_bit_10 rfl (lv_at hl 0 rfl) ?_
    refine lv_iload_n hx hb dMo_bit_11 rfl (lv_at hl 1 rfl) ?_
    refine lv_iload_n hx hb dMo_bit_12 rfl (lv_at hl 2 rfl) ?_
    refine nz_vi (As := [.int (nI a), .int (nI k)]) (rest := []) S (c_Mo_cell l D cA T hT k0 C L O c0 a ha k (by omega)) kMo_40 ⟨rfl, rfl, Nat.le_of_ble_eq_true rfl, Nat.le_of_ble_eq_true rfl⟩ ⟨Nat.zero_le _, Nat.zero_le _⟩ moP.bl (mo_ob hK hP) (moP.to hP hK) rfl hl.1 rfl (Nat.le_of_ble_eq_true rfl) dMo_bit_13 (fun r6 er6 => ?_)
    subst er6
    refine nz_si (As := [.int (nI (mR C a k))]) (rest := []) S (c_Mo_isHigh l (mR C a k) (ok.1 _)) kMo_27 ⟨rfl, rfl, Nat.le_of_ble_eq_true rfl, Nat.le_of_ble_eq_true rfl⟩ ⟨Nat.zero_le _, Nat.zero_le _⟩ (fun _ _ _ _ h => h) (fun _ _ _ => trivial) rfl hl.1 rfl (Nat.le_of_ble_eq_true rfl) dMo_bit_16 (fun r7 er7 => ?_)
    subst er7
    refine lv_if_eq (tgt := 26) hx hb dMo_bit_19 (by decide) (fun c8 => ?_) (fun c8 => ?_)
    · refine lv_iconst (v := 0) hx hb dMo_bit_26 (by decide) ?_
      exact W.iret (v := 0) hx hb hr (fun t ht hW => ⟨_, rfl, by unfold zBt; rw [if_pos mc1, zH_n (v := mR C a k) (ok.1 _) c8]; rfl, ht⟩) (fun q h => nomatch h) dMo_bit_27
    · refine lv_iconst (v := 1) hx hb dMo_bit_22 (by decide) ?_
      refine lv_goto (tgt := 27) hx hb dMo_bit_23 (by decide) ?_
      exact W.iret (v := 1) hx hb hr (fun t ht hW => ⟨_, rfl, by unfold zBt; rw [if_pos mc1, zH_y (v := mR C a k) (ok.1 _) c8]; rfl, ht⟩) (fun q h => nomatch h) dMo_bit_27
set_option maxHeartbeats 4000000 in
set_option maxRecDepth 100000 in
theorem lpM_compare {p : Program} {e : Env} {s : State} {m : MethodId} {args : Array Value} {below : List Frame} {meth : Method} {c : Code} {Q : State → Prop} (l : Launch) (D : va_G) (cA : ClassId) (T : Nat → Nat) (hT : moT T) (k0 : Int32) (C L O : Nat → Nat) (c0 : Nat) (ok : moOk C L O) (b1 : Nat) (hb1 : b1 < 2) (a : Nat) (ha : a < 16) (h0a : 0 < L a) (d : Nat) (hd : d < 16) (h0d : 0 < L d) (H : Heap) (locs : List Loc) (S : CallFix p m c bMo_compare 9 s args nzG RM) (hK : va_K D vwCl (moTy cA) s) (hP : va_P D vwCl (moW cA T k0 C L O c0) H) (kk : ∀ (ls : Array Slot), lv_has ls 9 [(0, .ref (T 0)), (1, .int (nI b1)), (2, .int (nI a)), (3, .int (nI d)), (4, .int (zCj (zBt b1 (mR C a) (L a)) (zBt b1 (mR C d) (L d)) 65)), (5, .int (nI 65))] → W p l e ({ frames := 3, cells := 0, slots := 0, locals := 63 }) s m args below meth c H locs 0 0 Q (F0 m 139 ls [])) : ∀ (fuel j : Nat), j ≤ 65 → 65 < j + fuel → ∀ (ls : Array Slot), lv_has ls 9 [(0, .ref (T 0)), (1, .int (nI b1)), (2, .int (nI a)), (3, .int (nI d)), (4, .int (zCj (zBt b1 (mR C a) (L a)) (zBt b1 (mR C d) (L d)) j)), (5, .int (nI j))] → W p l e ({ frames := 3, cells := 0, slots := 0, locals := 63 }) s m args below meth c H locs 0 0 Q (F0 m 56 ls []) := by
  have hx := S.1
  have hb := S.2.1
  intro fuel
  induction fuel with
  | zero =>
    intro j hj hfu
    exact absurd hfu (by omega)
  | succ fuel ih =>
    intro j hj hfu ls hl
    have hx1 := zBt_le b1 (mR C a) (L a) j
    have hy1 := zBt_le b1 (mR C d) (L d) j
    refine lv_iload hx hb dMo_compare_56 (lv_at hl 5 rfl) ?_
    refine lv_bipush (v := 65) hx hb dMo_compare_58 (by decide) ?_
    refine lv_icmp_ge (tgt := 139) hx hb dMo_compare_60 (by decide) (fun c1 => ?_) (fun c1 => ?_)
    · have mc1 : 65 ≤ j := (nI_leI (a := 65) (b := j) (by omega) (by omega)).mp c1
      have ej9 : j = 65 := by omega
      rw [ej9] at hl
      exact kk ls (lv_sub hl [0, 1, 2, 3, 4, 5] rfl)
    · have mc1 : j < 65 := Nat.lt_of_not_le (fun h => c1 ((nI_leI (a := 65) (b := j) (by omega) (by omega)).mpr h))
      refine lv_aload_n hx hb dMo_compare_63 rfl (lv_at hl 0 rfl) ?_
      refine lv_iload_n hx hb dMo_compare_64 rfl (lv_at hl 2 rfl) ?_
      refine lv_iload hx hb dMo_compare_65 (lv_at hl 5 rfl) ?_
      refine lv_iload_n hx hb dMo_compare_67 rfl (lv_at hl 1 rfl) ?_
      refine nz_vi (As := [.int (nI a), .int (nI j), .int (nI b1)]) (rest := []) S (c_Mo_bit l D cA T hT k0 C L O c0 ok a ha h0a j (by omega) b1 hb1) kMo_95 ⟨rfl, rfl, Nat.le_of_ble_eq_true rfl, Nat.le_of_ble_eq_true rfl⟩ ⟨Nat.zero_le _, Nat.zero_le _⟩ moP.bl (mo_ob hK hP) (moP.to hP hK) rfl hl.1 rfl (Nat.le_of_ble_eq_true rfl) dMo_compare_68 (fun r2 er2 => ?_)
      subst er2
      refine lv_istore (lv' := [(6, .int (nI (zBt b1 (mR C a) (L a) j))), (0, .ref (T 0)), (1, .int (nI b1)), (2, .int (nI a)), (3, .int (nI d)), (4, .int (zCj (zBt b1 (mR C a) (L a)) (zBt b1 (mR C d) (L d)) j)), (5, .int (nI j))]) hx hb dMo_compare_71 hl (by decide) rfl (fun ls hl => ?_)
      refine lv_aload_n hx hb dMo_compare_73 rfl (lv_at hl 1 rfl) ?_
      refine lv_iload_n hx hb dMo_compare_74 rfl (lv_at hl 4 rfl) ?_
      refine lv_iload hx hb dMo_compare_75 (lv_at hl 6 rfl) ?_
      refine lv_iload_n hx hb dMo_compare_77 rfl (lv_at hl 2 rfl) ?_
      refine nz_vi (As := [.int (nI d), .int (nI j), .int (nI b1)]) (rest := []) S (c_Mo_bit l D cA T hT k0 C L O c0 ok d hd h0d j (by omega) b1 hb1) kMo_95 ⟨rfl, rfl, Nat.le_of_ble_eq_true rfl, Nat.le_of_ble_eq_true rfl⟩ ⟨Nat.zero_le _, Nat.zero_le _⟩ moP.bl (mo_ob hK hP) (moP.to hP hK) rfl hl.1 rfl (Nat.le_of_ble_eq_true rfl) dMo_compare_78 (fun r3 er3 => ?_)
      subst er3
      refine lv_istore (lv' := [(7, .int (nI (zBt b1 (mR C d) (L d) j))), (6, .int (nI (zBt b1 (mR C a) (L a) j))), (0, .ref (T 0)), (1, .int (nI b1)), (2, .int (nI a)), (3, .int (nI d)), (4, .int (zCj (zBt b1 (mR C a) (L a)) (zBt b1 (mR C d) (L d)) j)), (5, .int (nI j))]) hx hb dMo_compare_81 hl (by decide) rfl (fun ls hl => ?_)
      refine lv_iload hx hb dMo_compare_83 (lv_at hl 7 rfl) ?_
      refine lv_bipush (v := 64) hx hb dMo_compare_85 (by decide) ?_
      refine lv_icmp_ne (tgt := 94) hx hb dMo_compare_87 (by decide) (fun c4 => ?_) (fun c4 => ?_)
      · have mc4 : ¬ j = 64 := fun h => c4 ((nI_eq (a := j) (b := 64) (by omega) (by omega)).mpr h)
        refine lv_iconst (v := 0) hx hb dMo_compare_94 (by decide) ?_
        refine lv_istore (lv' := [(8, .int 0), (7, .int (nI (zBt b1 (mR C d) (L d) j))), (6, .int (nI (zBt b1 (mR C a) (L a) j))), (0, .ref (T 0)), (1, .int (nI b1)), (2, .int (nI a)), (3, .int (nI d)), (4, .int (zCj (zBt b1 (mR C a) (L a)) (zBt b1 (mR C d) (L d)) j)), (5, .int (nI j))]) hx hb dMo_compare_95 hl (by decide) rfl (fun ls hl => ?_)
        refine lv_iload hx hb dMo_compare_97 (lv_at hl 2 rfl) ?_
        refine lv_iload hx hb dMo_compare_99 (lv_at hl 1 rfl) ?_
        refine lv_icmp_ne (tgt := 109) hx hb dMo_compare_101 (by decide) (fun c5 => ?_) (fun c5 => ?_)
        · have mc5 : ¬ (zBt b1 (mR C a) (L a) j) = (zBt b1 (mR C d) (L d) j) := fun h => c5 ((nI_eq (a := (zBt b1 (mR C a) (L a) j)) (b := (zBt b1 (mR C d) (L d) j)) (by omega) (by omega)).mpr h)
          refine lv_iload hx hb dMo_compare_109 (lv_at hl 2 rfl) ?_
          refine lv_iload hx hb dMo_compare_111 (lv_at hl 1 rfl) ?_
          refine lv_icmp_le (tgt := 120) hx hb dMo_compare_113 (by decide) (fun c6 => ?_) (fun c6 => ?_)
          · have mc6 : (zBt b1 (mR C a) (L a) j) ≤ (zBt b1 (mR C d) (L d) j) := (nI_leI (a := (zBt b1 (mR C a) (L a) j)) (b := (zBt b1 (mR C d) (L d) j)) (by omega) (by omega)).mp c6
            refine lv_iconst (v := 0) hx hb dMo_compare_120 (by decide) ?_
            refine lv_iload hx hb dMo_compare_121 (lv_at hl 0 rfl) ?_
            refine lv_icmp_ne (tgt := 130) hx hb dMo_compare_123 (by decide) (fun c7 => absurd (by decide) c7) (fun _ => ?_)
            refine lv_iconst (v := (-1)) hx hb dMo_compare_126 (by decide) ?_
            refine lv_goto (tgt := 131) hx hb dMo_compare_127 (by decide) ?_
            refine nz_eqi (y := zCj (zBt b1 (mR C a) (L a)) (zBt b1 (mR C d) (L d)) (j + 1)) (by show _ = (if _ then _ else _); rw [if_neg mc5, if_pos (by omega : (zBt b1 (mR C d) (L d) j < zBt b1 (mR C a) (L a) j ↔ j = 64))]) ?_
            refine lv_istore (lv' := [(4, .int (zCj (zBt b1 (mR C a) (L a)) (zBt b1 (mR C d) (L d)) (j + 1))), (8, .int 0), (7, .int (nI (zBt b1 (mR C d) (L d) j))), (6, .int (nI (zBt b1 (mR C a) (L a) j))), (0, .ref (T 0)), (1, .int (nI b1)), (2, .int (nI a)), (3, .int (nI d)), (5, .int (nI j))]) hx hb dMo_compare_131 hl (by decide) rfl (fun ls hl => ?_)
            refine lv_iinc (v := nI (j + 1)) (lv' := [(5, .int (nI (j + 1))), (4, .int (zCj (zBt b1 (mR C a) (L a)) (zBt b1 (mR C d) (L d)) (j + 1))), (8, .int 0), (7, .int (nI (zBt b1 (mR C d) (L d) j))), (6, .int (nI (zBt b1 (mR C a) (L a) j))), (0, .ref (T 0)), (1, .int (nI b1)), (2, .int (nI a)), (3, .int (nI d))]) hx hb dMo_compare_133 hl (k := 8) rfl (nI_1 j) (by decide) rfl (fun ls hl => ?_)
            refine lv_goto (tgt := 56) hx hb dMo_compare_136 (by decide) ?_
            exact ih (j + 1) (by omega) (by omega) ls (lv_sub hl [5, 6, 7, 8, 1, 0] rfl)
          · have mc6 : (zBt b1 (mR C d) (L d) j) < (zBt b1 (mR C a) (L a) j) := Nat.lt_of_not_le (fun h => c6 ((nI_leI (a := (zBt b1 (mR C a) (L a) j)) (b := (zBt b1 (mR C d) (L d) j)) (by omega) (by omega)).mpr h))
            refine lv_iconst (v := 1) hx hb dMo_compare_116 (by decide) ?_
            refine lv_goto (tgt := 121) hx hb dMo_compare_117 (by decide) ?_
            refine lv_iload hx hb dMo_compare_121 (lv_at hl 0 rfl) ?_
            refine lv_icmp_ne (tgt := 130) hx hb dMo_compare_123 (by decide) (fun _ => ?_) (fun c8 => absurd c8 (by decide))
            refine lv_iconst (v := 1) hx hb dMo_compare_130 (by decide) ?_
            refine nz_eqi (y := zCj (zBt b1 (mR C a) (L a)) (zBt b1 (mR C d) (L d)) (j + 1)) (by show _ = (if _ then _ else _); rw [if_neg mc5, if_neg (by omega : ¬ (zBt b1 (mR C d) (L d) j < zBt b1 (mR C a) (L a) j ↔ j = 64))]) ?_
            refine lv_istore (lv' := [(4, .int (zCj (zBt b1 (mR C a) (L a)) (zBt b1 (mR C d) (L d)) (j + 1))), (8, .int 0), (7, .int (nI (zBt b1 (mR C d) (L d) j))), (6, .int (nI (zBt b1 (mR C a) (L a) j))), (0, .ref (T 0)), (1, .int (nI b1)), (2, .int (nI a)), (3, .int (nI d)), (5, .int (nI j))]) hx hb dMo_compare_131 hl (by decide) rfl (fun ls hl => ?_)
            refine lv_iinc (v := nI (j + 1)) (lv' := [(5, .int (nI (j + 1))), (4, .int (zCj (zBt b1 (mR C a) (L a)) (zBt b1 (mR C d) (L d)) (j + 1))), (8, .int 0), (7, .int (nI (zBt b1 (mR C d) (L d) j))), (6, .int (nI (zBt b1 (mR C a) (L a) j))), (0, .ref (T 0)), (1, .int (nI b1)), (2, .int (nI a)), (3, .int (nI d))]) hx hb dMo_compare_133 hl (k := 8) rfl (nI_1 j) (by decide) rfl (fun ls hl => ?_)
            refine lv_goto (tgt := 56) hx hb dMo_compare_136 (by decide) ?_
            exact ih (j + 1) (by omega) (by omega) ls (lv_sub hl [5, 6, 7, 8, 1, 0] rfl)
        · have mc5 : (zBt b1 (mR C a) (L a) j) = (zBt b1 (mR C d) (L d) j) := (nI_eq (a := (zBt b1 (mR C a) (L a) j)) (b := (zBt b1 (mR C d) (L d) j)) (by omega) (by omega)).mp c5
          refine lv_iload hx hb dMo_compare_104 (lv_at hl 7 rfl) ?_
          refine lv_goto (tgt := 131) hx hb dMo_compare_106 (by decide) ?_
          refine nz_eqi (y := zCj (zBt b1 (mR C a) (L a)) (zBt b1 (mR C d) (L d)) (j + 1)) (by show _ = (if _ then _ else _); rw [if_pos mc5]) ?_
          refine lv_istore (lv' := [(4, .int (zCj (zBt b1 (mR C a) (L a)) (zBt b1 (mR C d) (L d)) (j + 1))), (8, .int 0), (7, .int (nI (zBt b1 (mR C d) (L d) j))), (6, .int (nI (zBt b1 (mR C a) (L a) j))), (0, .ref (T 0)), (1, .int (nI b1)), (2, .int (nI a)), (3, .int (nI d)), (5, .int (nI j))]) hx hb dMo_compare_131 hl (by decide) rfl (fun ls hl => ?_)
          refine lv_iinc (v := nI (j + 1)) (lv' := [(5, .int (nI (j + 1))), (4, .int (zCj (zBt b1 (mR C a) (L a)) (zBt b1 (mR C d) (L d)) (j + 1))), (8, .int 0), (7, .int (nI (zBt b1 (mR C d) (L d) j))), (6, .int (nI (zBt b1 (mR C a) (L a) j))), (0, .ref (T 0)), (1, .int (nI b1)), (2, .int (nI a)), (3, .int (nI d))]) hx hb dMo_compare_133 hl (k := 8) rfl (nI_1 j) (by decide) rfl (fun ls hl => ?_)
          refine lv_goto (tgt := 56) hx hb dMo_compare_136 (by decide) ?_
          exact ih (j + 1) (by omega) (by omega) ls (lv_sub hl [5, 6, 7, 8, 1, 0] rfl)
      · have mc4 : j = 64 := (nI_eq (a := j) (b := 64) (by omega) (by omega)).mp c4
        refine lv_iconst (v := 1) hx hb dMo_compare_90 (by decide) ?_
        refine lv_goto (tgt := 95) hx hb dMo_compare_91 (by decide) ?_
        refine lv_istore (lv' := [(8, .int 1), (7, .int (nI (zBt b1 (mR C d) (L d) j))), (6, .int (nI (zBt b1 (mR C a) (L a) j))), (0, .ref (T 0)), (1, .int (nI b1)), (2, .int (nI a)), (3, .int (nI d)), (4, .int (zCj (zBt b1 (mR C a) (L a)) (zBt b1 (mR C d) (L d)) j)), (5, .int (nI j))]) hx hb dMo_compare_95 hl (by decide) rfl (fun ls hl => ?_)
        refine lv_iload hx hb dMo_compare_97 (lv_at hl 2 rfl) ?_
        refine lv_iload hx hb dMo_compare_99 (lv_at hl 1 rfl) ?_
        refine lv_icmp_ne (tgt := 109) hx hb dMo_compare_101 (by decide) (fun c9 => ?_) (fun c9 => ?_)
        · have mc9 : ¬ (zBt b1 (mR C a) (L a) j) = (zBt b1 (mR C d) (L d) j) := fun h => c9 ((nI_eq (a := (zBt b1 (mR C a) (L a) j)) (b := (zBt b1 (mR C d) (L d) j)) (by omega) (by omega)).mpr h)
          refine lv_iload hx hb dMo_compare_109 (lv_at hl 2 rfl) ?_
          refine lv_iload hx hb dMo_compare_111 (lv_at hl 1 rfl) ?_
          refine lv_icmp_le (tgt := 120) hx hb dMo_compare_113 (by decide) (fun c10 => ?_) (fun c10 => ?_)
          · have mc10 : (zBt b1 (mR C a) (L a) j) ≤ (zBt b1 (mR C d) (L d) j) := (nI_leI (a := (zBt b1 (mR C a) (L a) j)) (b := (zBt b1 (mR C d) (L d) j)) (by omega) (by omega)).mp c10
            refine lv_iconst (v := 0) hx hb dMo_compare_120 (by decide) ?_
            refine lv_iload hx hb dMo_compare_121 (lv_at hl 0 rfl) ?_
            refine lv_icmp_ne (tgt := 130) hx hb dMo_compare_123 (by decide) (fun _ => ?_) (fun c11 => absurd c11 (by decide))
            refine lv_iconst (v := 1) hx hb dMo_compare_130 (by decide) ?_
            refine nz_eqi (y := zCj (zBt b1 (mR C a) (L a)) (zBt b1 (mR C d) (L d)) (j + 1)) (by show _ = (if _ then _ else _); rw [if_neg mc9, if_neg (by omega : ¬ (zBt b1 (mR C d) (L d) j < zBt b1 (mR C a) (L a) j ↔ j = 64))]) ?_
            refine lv_istore (lv' := [(4, .int (zCj (zBt b1 (mR C a) (L a)) (zBt b1 (mR C d) (L d)) (j + 1))), (8, .int 1), (7, .int (nI (zBt b1 (mR C d) (L d) j))), (6, .int (nI (zBt b1 (mR C a) (L a) j))), (0, .ref (T 0)), (1, .int (nI b1)), (2, .int (nI a)), (3, .int (nI d)), (5, .int (nI j))]) hx hb dMo_compare_131 hl (by decide) rfl (fun ls hl => ?_)
            refine lv_iinc (v := nI (j + 1)) (lv' := [(5, .int (nI (j + 1))), (4, .int (zCj (zBt b1 (mR C a) (L a)) (zBt b1 (mR C d) (L d)) (j + 1))), (8, .int 1), (7, .int (nI (zBt b1 (mR C d) (L d) j))), (6, .int (nI (zBt b1 (mR C a) (L a) j))), (0, .ref (T 0)), (1, .int (nI b1)), (2, .int (nI a)), (3, .int (nI d))]) hx hb dMo_compare_133 hl (k := 8) rfl (nI_1 j) (by decide) rfl (fun ls hl => ?_)
            refine lv_goto (tgt := 56) hx hb dMo_compare_136 (by decide) ?_
            exact ih (j + 1) (by omega) (by omega) ls (lv_sub hl [5, 6, 7, 8, 1, 0] rfl)
          · have mc10 : (zBt b1 (mR C d) (L d) j) < (zBt b1 (mR C a) (L a) j) := Nat.lt_of_not_le (fun h => c10 ((nI_leI (a := (zBt b1 (mR C a) (L a) j)) (b := (zBt b1 (mR C d) (L d) j)) (by omega) (by omega)).mpr h))
            refine lv_iconst (v := 1) hx hb dMo_compare_116 (by decide) ?_
            refine lv_goto (tgt := 121) hx hb dMo_compare_117 (by decide) ?_
            refine lv_iload hx hb dMo_compare_121 (lv_at hl 0 rfl) ?_
            refine lv_icmp_ne (tgt := 130) hx hb dMo_compare_123 (by decide) (fun c12 => absurd (by decide) c12) (fun _ => ?_)
            refine lv_iconst (v := (-1)) hx hb dMo_compare_126 (by decide) ?_
            refine lv_goto (tgt := 131) hx hb dMo_compare_127 (by decide) ?_
            refine nz_eqi (y := zCj (zBt b1 (mR C a) (L a)) (zBt b1 (mR C d) (L d)) (j + 1)) (by show _ = (if _ then _ else _); rw [if_neg mc9, if_pos (by omega : (zBt b1 (mR C d) (L d) j < zBt b1 (mR C a) (L a) j ↔ j = 64))]) ?_
            refine lv_istore (lv' := [(4, .int (zCj (zBt b1 (mR C a) (L a)) (zBt b1 (mR C d) (L d)) (j + 1))), (8, .int 1), (7, .int (nI (zBt b1 (mR C d) (L d) j))), (6, .int (nI (zBt b1 (mR C a) (L a) j))), (0, .ref (T 0)), (1, .int (nI b1)), (2, .int (nI a)), (3, .int (nI d)), (5, .int (nI j))]) hx hb dMo_compare_131 hl (by decide) rfl (fun ls hl => ?_)
            refine lv_iinc (v := nI (j + 1)) (lv' := [(5, .int (nI (j + 1))), (4, .int (zCj (zBt b1 (mR C a) (L a)) (zBt b1 (mR C d) (L d)) (j + 1))), (8, .int 1), (7, .int (nI (zBt b1 (mR C d) (L d) j))), (6, .int (nI (zBt b1 (mR C a) (L a) j))), (0, .ref (T 0)), (1, .int (nI b1)), (2, .int (nI a)), (3, .int (nI d))]) hx hb dMo_compare_133 hl (k := 8) rfl (nI_1 j) (by decide) rfl (fun ls hl => ?_)
            refine lv_goto (tgt := 56) hx hb dMo_compare_136 (by decide) ?_
            exact ih (j + 1) (by omega) (by omega) ls (lv_sub hl [5, 6, 7, 8, 1, 0] rfl)
        · have mc9 : (zBt b1 (mR C a) (L a) j) = (zBt b1 (mR C d) (L d) j) := (nI_eq (a := (zBt b1 (mR C a) (L a) j)) (b := (zBt b1 (mR C d) (L d) j)) (by omega) (by omega)).mp c9
          refine lv_iload hx hb dMo_compare_104 (lv_at hl 7 rfl) ?_
          refine lv_goto (tgt := 131) hx hb dMo_compare_106 (by decide) ?_
          refine nz_eqi (y := zCj (zBt b1 (mR C a) (L a)) (zBt b1 (mR C d) (L d)) (j + 1)) (by show _ = (if _ then _ else _); rw [if_pos mc9]) ?_
          refine lv_istore (lv' := [(4, .int (zCj (zBt b1 (mR C a) (L a)) (zBt b1 (mR C d) (L d)) (j + 1))), (8, .int 1), (7, .int (nI (zBt b1 (mR C d) (L d) j))), (6, .int (nI (zBt b1 (mR C a) (L a) j))), (0, .ref (T 0)), (1, .int (nI b1)), (2, .int (nI a)), (3, .int (nI d)), (5, .int (nI j))]) hx hb dMo_compare_131 hl (by decide) rfl (fun ls hl => ?_)
          refine lv_iinc (v := nI (j + 1)) (lv' := [(5, .int (nI (j + 1))), (4, .int (zCj (zBt b1 (mR C a) (L a)) (zBt b1 (mR C d) (L d)) (j + 1))), (8, .int 1), (7, .int (nI (zBt b1 (mR C d) (L d) j))), (6, .int (nI (zBt b1 (mR C a) (L a) j))), (0, .ref (T 0)), (1, .int (nI b1)), (2, .int (nI a)), (3, .int (nI d))]) hx hb dMo_compare_133 hl (k := 8) rfl (nI_1 j) (by decide) rfl (fun ls hl => ?_)
          refine lv_goto (tgt := 56) hx hb dMo_compare_136 (by decide) ?_
          exact ih (j + 1) (by omega) (by omega) ls (lv_sub hl [5, 6, 7, 8, 1, 0] rfl)
set_option maxHeartbeats 4000000 in
set_option maxRecDepth 100000 in
theorem c_Mo_compare (l : Launch) (D : va_G) (cA : ClassId) (T : Nat → Nat) (hT : moT T) (k0 : Int32) (C L O : Nat → Nat) (c0 : Nat) (ok : moOk C L O) (b1 : Nat) (hb1 : b1 < 2) (x2 x3 : Int32) : Met l yMo_compare (Cond.code yMo_compare bMo_compare 9 (some .int) :: nzG) ({ frames := 3, cells := 0, slots := 0, locals := 63 }) (va_Pc [.ref (T 0), .int (nI b1), .int x2, .int x3] (moP D cA (moW cA T k0 C L O c0))) (va_Qi (fun r (_ : Unit) => (kPl2 x2 x3) = 0 → r = zCompare b1 (mR C (ix x2)) (L (ix x2)) (mR C (ix x3)) (L (ix x3))) (fun _ t => moB D cA T C L O c0 (kPl2 x2 x3) t) (moA T)) 0 0 (moA T) := by
  refine nz_of (own := RM) (by decide) rfl ?_
  intro p e s m args below meth c S hr hlocks _ hv9
  obtain ⟨rfl, hP, hK⟩ := hv9
  have hS : va_S (moA T) s.heap s.heap [] := va_S.rf
  have hx := S.1
  have hb := S.2.1
  refine nz_entry (vs := [.ref (T 0), .int (nI b1), .int x2, .int x3]) (n := 9) (lv := [(0, .ref (T 0)), (1, .int (nI b1)), (2, .int x2), (3, .int x3)]) (Nat.le_of_ble_eq_true rfl) rfl (fun ls hl => ?_)
  refine lv_aload_n hx hb dMo_compare_0 rfl (lv_at hl 0 rfl) ?_
  refine lv_iload_n hx hb dMo_compare_1 rfl (lv_at hl 2 rfl) ?_
  refine nz_si (As := [.int x2]) (rest := [.ref (T 0)]) S (c_Mo_none l x2) kMo_33 ⟨rfl, rfl, Nat.le_of_ble_eq_true rfl, Nat.le_of_ble_eq_true rfl⟩ ⟨Nat.zero_le _, Nat.zero_le _⟩ (fun _ _ _ _ h => h) (fun _ _ _ => trivial) rfl hl.1 rfl (Nat.le_of_ble_eq_true rfl) dMo_compare_2 (fun r1 er1 => ?_)
  subst er1
  refine lv_if_ne (tgt := 15) hx hb dMo_compare_5 (by decide) (fun c2 => ?_) (fun c2 => ?_)
  · have bc2 := ifn_y c2
    refine lv_iconst (v := 1) hx hb dMo_compare_15 (by decide) ?_
    refine lv_goto (tgt := 20) hx hb dMo_compare_16 (by decide) ?_
    refine mo_putk (k1 := 1) S hT hK hP hS dMo_compare_20 (fun H locs hP hS => ?_)
    have hk0 : kPl2 x2 x3 = 1 := by unfold kPl2; rw [if_pos (Or.inl bc2)]
    refine lv_aload_n hx hb dMo_compare_23 rfl (lv_at hl 0 rfl) ?_
    refine mo_getk S hK hP dMo_compare_24 ?_
    refine lv_if_le (tgt := 32) hx hb dMo_compare_27 (by decide) (fun c3 => absurd c3 (by decide)) (fun _ => ?_)
    refine lv_iconst (v := 0) hx hb dMo_compare_30 (by decide) ?_
    exact W.iret (v := 0) hx hb hr (fun t ht hW => ⟨⟨(0), (), rfl, fun h => absurd h (by rw [hk0]; decide), moB_of (by rw [hk0]; exact hP) ht⟩, hS.F ht⟩) hS.2.2 dMo_compare_31
  · have bc2 := ifn_n c2
    obtain ⟨a, ha, rfl⟩ := plB_not bc2
    have ea : ix (nI a) = a := ix_nI (by omega)
    have hLa := ok.2.1 a
    refine lv_iload_n hx hb dMo_compare_8 rfl (lv_at hl 3 rfl) ?_
    refine nz_si (As := [.int x3]) (rest := [.ref (T 0)]) S (c_Mo_none l x3) kMo_33 ⟨rfl, rfl, Nat.le_of_ble_eq_true rfl, Nat.le_of_ble_eq_true rfl⟩ ⟨Nat.zero_le _, Nat.zero_le _⟩ (fun _ _ _ _ h => h) (fun _ _ _ => trivial) rfl hl.1 rfl (Nat.le_of_ble_eq_true rfl) dMo_compare_9 (fun r4 er4 => ?_)
    subst er4
    refine lv_if_eq (tgt := 19) hx hb dMo_compare_12 (by decide) (fun c5 => ?_) (fun c5 => ?_)
    · have bc5 := ifn_n c5
      obtain ⟨d, hd, rfl⟩ := plB_not bc5
      have ed : ix (nI d) = d := ix_nI (by omega)
      have hLd := ok.2.1 d
      refine lv_iconst (v := 0) hx hb dMo_compare_19 (by decide) ?_
      refine mo_putk (k1 := 0) S hT hK hP hS dMo_compare_20 (fun H locs hP hS => ?_)
      have hk0 : kPl2 (nI a) (nI d) = 0 := by unfold kPl2; rw [if_neg (fun h => h.elim bc2 bc5)]
      refine lv_aload_n hx hb dMo_compare_23 rfl (lv_at hl 0 rfl) ?_
      refine mo_getk S hK hP dMo_compare_24 ?_
      refine lv_if_le (tgt := 32) hx hb dMo_compare_27 (by decide) (fun _ => ?_) (fun c6 => absurd (by decide) c6)
      refine lv_aload_n hx hb dMo_compare_32 rfl (lv_at hl 0 rfl) ?_
      refine lv_iload_n hx hb dMo_compare_33 rfl (lv_at hl 2 rfl) ?_
      refine nz_vi (As := [.int (nI a)]) (rest := []) S (c_Mo_clear l D cA T hT 0 C L O c0 ok a ha) kMo_53 ⟨rfl, rfl, Nat.le_of_ble_eq_true rfl, Nat.le_of_ble_eq_true rfl⟩ ⟨Nat.zero_le _, Nat.zero_le _⟩ moP.bl (mo_ob hK hP) (moP.to hP hK) rfl hl.1 rfl (Nat.le_of_ble_eq_true rfl) dMo_compare_34 (fun r7 er7 => ?_)
      subst er7
      refine lv_if_eq (tgt := 48) hx hb dMo_compare_37 (by decide) (fun c8 => ?_) (fun c8 => ?_)
      · refine lv_iconst (v := 2) hx hb dMo_compare_48 (by decide) ?_
        exact W.iret (v := 2) hx hb hr (fun t ht hW => ⟨⟨(2), (), rfl, fun _ => by rw [ea, ed]; exact zCmp_2 (fun q => zCnt_n c8 q.1), moB_of (by rw [hk0]; exact hP) ht⟩, hS.F ht⟩) hS.2.2 dMo_compare_49
      · refine lv_aload_n hx hb dMo_compare_40 rfl (lv_at hl 0 rfl) ?_
        refine lv_iload_n hx hb dMo_compare_41 rfl (lv_at hl 3 rfl) ?_
        refine nz_vi (As := [.int (nI d)]) (rest := []) S (c_Mo_clear l D cA T hT 0 C L O c0 ok d hd) kMo_53 ⟨rfl, rfl, Nat.le_of_ble_eq_true rfl, Nat.le_of_ble_eq_true rfl⟩ ⟨Nat.zero_le _, Nat.zero_le _⟩ moP.bl (mo_ob hK hP) (moP.to hP hK) rfl hl.1 rfl (Nat.le_of_ble_eq_true rfl) dMo_compare_42 (fun r9 er9 => ?_)
        subst er9
        refine lv_if_ne (tgt := 50) hx hb dMo_compare_45 (by decide) (fun c10 => ?_) (fun c10 => ?_)
        · refine lv_iconst (v := 0) hx hb dMo_compare_50 (by decide) ?_
          refine lv_istore (lv' := [(4, .int 0), (0, .ref (T 0)), (1, .int (nI b1)), (2, .int (nI a)), (3, .int (nI d))]) hx hb dMo_compare_51 hl (by decide) rfl (fun ls hl => ?_)
          refine lv_iconst (v := 0) hx hb dMo_compare_53 (by decide) ?_
          refine lv_istore (lv' := [(5, .int 0), (4, .int 0), (0, .ref (T 0)), (1, .int (nI b1)), (2, .int (nI a)), (3, .int (nI d))]) hx hb dMo_compare_54 hl (by decide) rfl (fun ls hl => ?_)
          have c1 := zCnt_y c8
          have c2 := zCnt_y c10
          refine lpM_compare l D cA T hT 0 C L O c0 ok b1 hb1 a ha (zCnt_pos c1) d hd (zCnt_pos c2) _ _ S hK hP (fun ls hl => ?_) (65 + 1) 0 (by omega) (by omega) ls (lv_sub hl [2, 3, 4, 5, 1, 0] rfl)
          refine lv_iload hx hb dMo_compare_139 (lv_at hl 4 rfl) ?_
          exact W.iret (v := zCj (zBt b1 (mR C a) (L a)) (zBt b1 (mR C d) (L d)) 65) hx hb hr (fun t ht hW => ⟨⟨zCj (zBt b1 (mR C a) (L a)) (zBt b1 (mR C d) (L d)) 65, (), rfl, fun _ => by rw [ea, ed]; exact zCj_cmp hb1 (zCnt_pos c1) hLa (zCnt_pos c2) hLd c1 c2, moB_of (by rw [hk0]; exact hP) ht⟩, hS.F ht⟩) hS.2.2 dMo_compare_141
        · refine lv_iconst (v := 2) hx hb dMo_compare_48 (by decide) ?_
          exact W.iret (v := 2) hx hb hr (fun t ht hW => ⟨⟨(2), (), rfl, fun _ => by rw [ea, ed]; exact zCmp_2 (fun q => zCnt_n c10 q.2), moB_of (by rw [hk0]; exact hP) ht⟩, hS.F ht⟩) hS.2.2 dMo_compare_49
    · have bc5 := ifn_y c5
      refine lv_iconst (v := 1) hx hb dMo_compare_15 (by decide) ?_
      refine lv_goto (tgt := 20) hx hb dMo_compare_16 (by decide) ?_
      refine mo_putk (k1 := 1) S hT hK hP hS dMo_compare_20 (fun H locs hP hS => ?_)
      have hk0 : kPl2 (nI a) x3 = 1 := by unfold kPl2; rw [if_pos (Or.inr bc5)]
      refine lv_aload_n hx hb dMo_compare_23 rfl (lv_at hl 0 rfl) ?_
      refine mo_getk S hK hP dMo_compare_24 ?_
      refine lv_if_le (tgt := 32) hx hb dMo_compare_27 (by decide) (fun c11 => absurd c11 (by decide)) (fun _ => ?_)
      refine lv_iconst (v := 0) hx hb dMo_compare_30 (by decide) ?_
      exact W.iret (v := 0) hx hb hr (fun t ht hW => ⟨⟨(0), (), rfl, fun h => absurd h (by rw [hk0]; decide), moB_of (by rw [hk0]; exact hP) ht⟩, hS.F ht⟩) hS.2.2 dMo_compare_31
