set_option maxHeartbeats 4000000 in
set_option maxRecDepth 100000 in
theorem c_Mo_put (l : Launch) (D : va_G) (cA : ClassId) (T : Nat → Nat) (hT : moT T) (k0 : Int32) (C L O : Nat → Nat) (c0 : Nat) (ok : moOk C L O) (x1 x2 x3 : Int32) : Met l yMo_put (Cond.code yMo_put bMo_put 4 none :: nzG) ({ frames := 1, cells := 0, slots := 0, locals := 20 }) (va_Pc [.ref (T 0), .int x1, .int x2, .int x3] (moP D cA (moW cA T k0 C L O c0))) (va_Qv (fun _ : Unit => True) (fun _ t => moV D cA T C L (kPut L x1 x2 x3) (ix x1) (L (ix x1)) (va_up (mR C (ix x1)) (ix x2) (ix x3)) t) (moA T)) 0 0 (moA T) := by
  refine nz_of (own := RM) (by decide) rfl ?_
  intro p e s m args below meth c S hr hlocks _ hv9
  obtain ⟨rfl, hP, hK⟩ := hv9
  have hS : va_S (moA T) s.heap s.heap [] := va_S.rf
  have hx := S.1
  have hb := S.2.1
  refine nz_entry (vs := [.ref (T 0), .int x1, .int x2, .int x3]) (n := 4) (lv := [(0, .ref (T 0)), (1, .int x1), (2, .int x2), (3, .int x3)]) (Nat.le_of_ble_eq_true rfl) rfl (fun ls hl => ?_)
  refine lv_aload_n hx hb dMo_put_0 rfl (lv_at hl 0 rfl) ?_
  refine lv_iload_n hx hb dMo_put_1 rfl (lv_at hl 1 rfl) ?_
  refine nz_si (As := [.int x1]) (rest := [.ref (T 0)]) S (c_Mo_none l x1) kMo_33 ⟨rfl, rfl, Nat.le_of_ble_eq_true rfl, Nat.le_of_ble_eq_true rfl⟩ ⟨Nat.zero_le _, Nat.zero_le _⟩ (fun _ _ _ _ h => h) (fun _ _ _ => trivial) rfl hl.1 rfl (Nat.le_of_ble_eq_true rfl) dMo_put_2 (fun r1 er1 => ?_)
  subst er1
  refine lv_if_ne (tgt := 22) hx hb dMo_put_5 (by decide) (fun c2 => ?_) (fun c2 => ?_)
  · have bc2 := ifn_y c2
    refine lv_iconst (v := 1) hx hb dMo_put_22 (by decide) ?_
    refine lv_goto (tgt := 41) hx hb dMo_put_23 (by decide) ?_
    refine mo_putk (k1 := 1) S hT hK hP hS dMo_put_41 (fun H locs hP hS => ?_)
    have hk0 : kPut L x1 x2 x3 = 1 := by unfold kPut; rw [if_pos (Or.inl bc2)]
    refine lv_aload_n hx hb dMo_put_44 rfl (lv_at hl 0 rfl) ?_
    refine mo_getk S hK hP dMo_put_45 ?_
    refine lv_if_ne (tgt := 63) hx hb dMo_put_48 (by decide) (fun _ => ?_) (fun c3 => absurd c3 (by decide))
    exact W.vret hx hb hr (fun t ht hW => ⟨⟨(), rfl, trivial, C, L, O, c0, fun h => absurd h (by rw [hk0]; decide), fun _ => ⟨rfl, rfl⟩, ok, by rw [hk0, ht]; exact hP⟩, hS.F ht⟩) hS.2.2 dMo_put_63
  · have bc2 := ifn_n c2
    obtain ⟨u, hu, rfl⟩ := plB_not bc2
    have eu : ix (nI u) = u := ix_nI (by omega)
    refine lv_iload_n hx hb dMo_put_8 rfl (lv_at hl 2 rfl) ?_
    refine lv_if_lt (tgt := 22) hx hb dMo_put_9 (by decide) (fun c4 => ?_) (fun c4 => ?_)
    · refine lv_iconst (v := 1) hx hb dMo_put_22 (by decide) ?_
      refine lv_goto (tgt := 41) hx hb dMo_put_23 (by decide) ?_
      refine mo_putk (k1 := 1) S hT hK hP hS dMo_put_41 (fun H locs hP hS => ?_)
      have hk0 : kPut L (nI u) x2 x3 = 1 := by unfold kPut; rw [if_pos (Or.inr (Or.inl c4))]
      refine lv_aload_n hx hb dMo_put_44 rfl (lv_at hl 0 rfl) ?_
      refine mo_getk S hK hP dMo_put_45 ?_
      refine lv_if_ne (tgt := 63) hx hb dMo_put_48 (by decide) (fun _ => ?_) (fun c5 => absurd c5 (by decide))
      exact W.vret hx hb hr (fun t ht hW => ⟨⟨(), rfl, trivial, C, L, O, c0, fun h => absurd h (by rw [hk0]; decide), fun _ => ⟨rfl, rfl⟩, ok, by rw [hk0, ht]; exact hP⟩, hS.F ht⟩) hS.2.2 dMo_put_63
    · refine lv_iload_n hx hb dMo_put_12 rfl (lv_at hl 2 rfl) ?_
      refine lv_aload_n hx hb dMo_put_13 rfl (lv_at hl 0 rfl) ?_
      refine mo_getL S hK hP dMo_put_14 ?_
      refine lv_iload_n hx hb dMo_put_17 rfl (lv_at hl 1 rfl) ?_
      refine mo_ldL (j := u) S hK hP hu dMo_put_18 ?_
      refine lv_icmp_lt (tgt := 26) hx hb dMo_put_19 (by decide) (fun c6 => ?_) (fun c6 => ?_)
      · refine lv_iload_n hx hb dMo_put_26 rfl (lv_at hl 3 rfl) ?_
        refine lv_if_lt (tgt := 36) hx hb dMo_put_27 (by decide) (fun c7 => ?_) (fun c7 => ?_)
        · refine lv_iconst (v := 2) hx hb dMo_put_36 (by decide) ?_
          refine lv_goto (tgt := 41) hx hb dMo_put_37 (by decide) ?_
          refine mo_putk (k1 := 2) S hT hK hP hS dMo_put_41 (fun H locs hP hS => ?_)
          have hk0 : kPut L (nI u) x2 x3 = 2 := by unfold kPut; rw [if_neg (fun h => h.elim bc2 (fun h => h.elim c4 (fun q => by rw [eu] at q; exact Int32.not_le.mpr c6 q))), if_pos (Or.inl c7)]
          refine lv_aload_n hx hb dMo_put_44 rfl (lv_at hl 0 rfl) ?_
          refine mo_getk S hK hP dMo_put_45 ?_
          refine lv_if_ne (tgt := 63) hx hb dMo_put_48 (by decide) (fun _ => ?_) (fun c8 => absurd c8 (by decide))
          exact W.vret hx hb hr (fun t ht hW => ⟨⟨(), rfl, trivial, C, L, O, c0, fun h => absurd h (by rw [hk0]; decide), fun _ => ⟨rfl, rfl⟩, ok, by rw [hk0, ht]; exact hP⟩, hS.F ht⟩) hS.2.2 dMo_put_63
        · refine lv_iload_n hx hb dMo_put_30 rfl (lv_at hl 3 rfl) ?_
          refine lv_bipush (v := 8) hx hb dMo_put_31 (by decide) ?_
          refine lv_icmp_le (tgt := 40) hx hb dMo_put_33 (by decide) (fun c9 => ?_) (fun c9 => ?_)
          · refine lv_iconst (v := 0) hx hb dMo_put_40 (by decide) ?_
            refine mo_putk (k1 := 0) S hT hK hP hS dMo_put_41 (fun H locs hP hS => ?_)
            have hk0 : kPut L (nI u) x2 x3 = 0 := by unfold kPut; rw [if_neg (fun h => h.elim bc2 (fun h => h.elim c4 (fun q => by rw [eu] at q; exact Int32.not_le.mpr c6 q))), if_neg (fun h => h.elim c7 (fun q => Int32.not_lt.mpr c9 q))]
            have hLu := ok.2.1 u
            obtain ⟨k, hk, rfl⟩ := in_not (N := L u) (x := x2) rfl (by omega) (fun h => h.elim c4 (fun q => Int32.not_le.mpr c6 q))
            have ek : ix (nI k) = k := ix_nI (by omega)
            obtain ⟨v, hv, rfl⟩ := valB_not (fun h => h.elim c7 (fun q => Int32.not_lt.mpr c9 q))
            have ev : ix (nI v) = v := ix_nI (by omega)
            refine lv_aload_n hx hb dMo_put_44 rfl (lv_at hl 0 rfl) ?_
            refine mo_getk S hK hP dMo_put_45 ?_
            refine lv_if_ne (tgt := 63) hx hb dMo_put_48 (by decide) (fun c10 => absurd (by decide) c10) (fun _ => ?_)
            refine lv_aload_n hx hb dMo_put_51 rfl (lv_at hl 0 rfl) ?_
            refine mo_getC S hK hP dMo_put_52 ?_
            refine lv_bipush (v := 64) hx hb dMo_put_55 (by decide) ?_
            refine lv_iload_n hx hb dMo_put_57 rfl (lv_at hl 1 rfl) ?_
            refine lv_imul hx hb dMo_put_58 ?_
            refine nz_eqi (pk_mul 64 u) ?_
            refine lv_iload_n hx hb dMo_put_59 rfl (lv_at hl 2 rfl) ?_
            refine lv_iadd hx hb dMo_put_60 ?_
            refine nz_eqi (nI_add (64 * u) k) ?_
            refine lv_iload_n hx hb dMo_put_61 rfl (lv_at hl 3 rfl) ?_
            refine mo_stC (j := 64 * u + k) (v := v) S hT hK hP hS (by omega) dMo_put_62 (fun H locs hP hS => ?_)
            exact W.vret hx hb hr (fun t ht hW => ⟨⟨(), rfl, trivial, va_up C (64 * u + k) v, L, O, c0, fun _ => by rw [eu, ek, ev]; exact moU_put hu (by omega), fun h => absurd hk0 h, ⟨up_lt ok.1 hv _, ok.2⟩, by rw [hk0, ht]; exact hP⟩, hS.F ht⟩) hS.2.2 dMo_put_63
          · refine lv_iconst (v := 2) hx hb dMo_put_36 (by decide) ?_
            refine lv_goto (tgt := 41) hx hb dMo_put_37 (by decide) ?_
            refine mo_putk (k1 := 2) S hT hK hP hS dMo_put_41 (fun H locs hP hS => ?_)
            have hk0 : kPut L (nI u) x2 x3 = 2 := by unfold kPut; rw [if_neg (fun h => h.elim bc2 (fun h => h.elim c4 (fun q => by rw [eu] at q; exact Int32.not_le.mpr c6 q))), if_pos (Or.inr (Int32.not_le.mp c9))]
            refine lv_aload_n hx hb dMo_put_44 rfl (lv_at hl 0 rfl) ?_
            refine mo_getk S hK hP dMo_put_45 ?_
            refine lv_if_ne (tgt := 63) hx hb dMo_put_48 (by decide) (fun _ => ?_) (fun c11 => absurd c11 (by decide))
            exact W.vret hx hb hr (fun t ht hW => ⟨⟨(), rfl, trivial, C, L, O, c0, fun h => absurd h (by rw [hk0]; decide), fun _ => ⟨rfl, rfl⟩, ok, by rw [hk0, ht]; exact hP⟩, hS.F ht⟩) hS.2.2 dMo_put_63
      · refine lv_iconst (v := 1) hx hb dMo_put_22 (by decide) ?_
        refine lv_goto (tgt := 41) hx hb dMo_put_23 (by decide) ?_
        refine mo_putk (k1 := 1) S hT hK hP hS dMo_put_41 (fun H locs hP hS => ?_)
        have hk0 : kPut L (nI u) x2 x3 = 1 := by unfold kPut; rw [if_pos (Or.inr (Or.inr (by rw [eu]; exact Int32.not_lt.mp c6)))]
        refine lv_aload_n hx hb dMo_put_44 rfl (lv_at hl 0 rfl) ?_
        refine mo_getk S hK hP dMo_put_45 ?_
        refine lv_if_ne (tgt := 63) hx hb dMo_put_48 (by decide) (fun _ => ?_) (fun c12 => absurd c12 (by decide))
        exact W.vret hx hb hr (fun t ht hW => ⟨⟨(), rfl, trivial, C, L, O, c0, fun h => absurd h (by rw [hk0]; decide), fun _ => ⟨rfl, rfl⟩, ok, by rw [hk0, ht]; exact hP⟩, hS.F ht⟩) hS.2.2 dMo_put_63
set_option maxHeartbeats 4000000 in
set_option maxRecDepth 100000 in
theorem c_Mo_get (l : Launch) (D : va_G) (cA : ClassId) (T : Nat → Nat) (hT : moT T) (k0 : Int32) (C L O : Nat → Nat) (c0 : Nat) (ok : moOk C L O) (x1 x2 : Int32) : Met l yMo_get (Cond.code yMo_get bMo_get 3 (some .int) :: nzG) ({ frames := 1, cells := 0, slots := 0, locals := 22 }) (va_Pc [.ref (T 0), .int x1, .int x2] (moP D cA (moW cA T k0 C L O c0))) (va_Qi (fun r (_ : Unit) => (kGet L x1 x2) = 0 → r = nI (mR C (ix x1) (ix x2))) (fun _ t => moB D cA T C L O c0 (kGet L x1 x2) t) (moA T)) 0 0 (moA T) := by
  refine nz_of (own := RM) (by decide) rfl ?_
  intro p e s m args below meth c S hr hlocks _ hv9
  obtain ⟨rfl, hP, hK⟩ := hv9
  have hS : va_S (moA T) s.heap s.heap [] := va_S.rf
  have hx := S.1
  have hb := S.2.1
  refine nz_entry (vs := [.ref (T 0), .int x1, .int x2]) (n := 3) (lv := [(0, .ref (T 0)), (1, .int x1), (2, .int x2)]) (Nat.le_of_ble_eq_true rfl) rfl (fun ls hl => ?_)
  refine lv_aload_n hx hb dMo_get_0 rfl (lv_at hl 0 rfl) ?_
  refine lv_iload_n hx hb dMo_get_1 rfl (lv_at hl 1 rfl) ?_
  refine nz_si (As := [.int x1]) (rest := [.ref (T 0)]) S (c_Mo_none l x1) kMo_33 ⟨rfl, rfl, Nat.le_of_ble_eq_true rfl, Nat.le_of_ble_eq_true rfl⟩ ⟨Nat.zero_le _, Nat.zero_le _⟩ (fun _ _ _ _ h => h) (fun _ _ _ => trivial) rfl hl.1 rfl (Nat.le_of_ble_eq_true rfl) dMo_get_2 (fun r1 er1 => ?_)
  subst er1
  refine lv_if_ne (tgt := 22) hx hb dMo_get_5 (by decide) (fun c2 => ?_) (fun c2 => ?_)
  · have bc2 := ifn_y c2
    refine lv_iconst (v := 1) hx hb dMo_get_22 (by decide) ?_
    refine lv_goto (tgt := 27) hx hb dMo_get_23 (by decide) ?_
    refine mo_putk (k1 := 1) S hT hK hP hS dMo_get_27 (fun H locs hP hS => ?_)
    have hk0 : kGet L x1 x2 = 1 := by unfold kGet; rw [if_pos (Or.inl bc2)]
    refine lv_aload_n hx hb dMo_get_30 rfl (lv_at hl 0 rfl) ?_
    refine mo_getk S hK hP dMo_get_31 ?_
    refine lv_if_le (tgt := 41) hx hb dMo_get_34 (by decide) (fun c3 => absurd c3 (by decide)) (fun _ => ?_)
    refine lv_iconst (v := 0) hx hb dMo_get_37 (by decide) ?_
    refine lv_goto (tgt := 47) hx hb dMo_get_38 (by decide) ?_
    exact W.iret (v := 0) hx hb hr (fun t ht hW => ⟨⟨(0), (), rfl, fun h => absurd h (by rw [hk0]; decide), moB_of (by rw [hk0]; exact hP) ht⟩, hS.F ht⟩) hS.2.2 dMo_get_47
  · have bc2 := ifn_n c2
    obtain ⟨u, hu, rfl⟩ := plB_not bc2
    have eu : ix (nI u) = u := ix_nI (by omega)
    refine lv_iload_n hx hb dMo_get_8 rfl (lv_at hl 2 rfl) ?_
    refine lv_if_lt (tgt := 22) hx hb dMo_get_9 (by decide) (fun c4 => ?_) (fun c4 => ?_)
    · refine lv_iconst (v := 1) hx hb dMo_get_22 (by decide) ?_
      refine lv_goto (tgt := 27) hx hb dMo_get_23 (by decide) ?_
      refine mo_putk (k1 := 1) S hT hK hP hS dMo_get_27 (fun H locs hP hS => ?_)
      have hk0 : kGet L (nI u) x2 = 1 := by unfold kGet; rw [if_pos (Or.inr (Or.inl c4))]
      refine lv_aload_n hx hb dMo_get_30 rfl (lv_at hl 0 rfl) ?_
      refine mo_getk S hK hP dMo_get_31 ?_
      refine lv_if_le (tgt := 41) hx hb dMo_get_34 (by decide) (fun c5 => absurd c5 (by decide)) (fun _ => ?_)
      refine lv_iconst (v := 0) hx hb dMo_get_37 (by decide) ?_
      refine lv_goto (tgt := 47) hx hb dMo_get_38 (by decide) ?_
      exact W.iret (v := 0) hx hb hr (fun t ht hW => ⟨⟨(0), (), rfl, fun h => absurd h (by rw [hk0]; decide), moB_of (by rw [hk0]; exact hP) ht⟩, hS.F ht⟩) hS.2.2 dMo_get_47
    · refine lv_iload_n hx hb dMo_get_12 rfl (lv_at hl 2 rfl) ?_
      refine lv_aload_n hx hb dMo_get_13 rfl (lv_at hl 0 rfl) ?_
      refine mo_getL S hK hP dMo_get_14 ?_
      refine lv_iload_n hx hb dMo_get_17 rfl (lv_at hl 1 rfl) ?_
      refine mo_ldL (j := u) S hK hP hu dMo_get_18 ?_
      refine lv_icmp_lt (tgt := 26) hx hb dMo_get_19 (by decide) (fun c6 => ?_) (fun c6 => ?_)
      · refine lv_iconst (v := 0) hx hb dMo_get_26 (by decide) ?_
        refine mo_putk (k1 := 0) S hT hK hP hS dMo_get_27 (fun H locs hP hS => ?_)
        have hk0 : kGet L (nI u) x2 = 0 := by unfold kGet; rw [if_neg (fun h => h.elim bc2 (fun h => h.elim c4 (fun q => by rw [eu] at q; exact Int32.not_le.mpr c6 q)))]
        have hLu := ok.2.1 u
        obtain ⟨k, hk, rfl⟩ := in_not (N := L u) (x := x2) rfl (by omega) (fun h => h.elim c4 (fun q => Int32.not_le.mpr c6 q))
        have ek : ix (nI k) = k := ix_nI (by omega)
        refine lv_aload_n hx hb dMo_get_30 rfl (lv_at hl 0 rfl) ?_
        refine mo_getk S hK hP dMo_get_31 ?_
        refine lv_if_le (tgt := 41) hx hb dMo_get_34 (by decide) (fun _ => ?_) (fun c7 => absurd (by decide) c7)
        refine lv_aload_n hx hb dMo_get_41 rfl (lv_at hl 0 rfl) ?_
        refine lv_iload_n hx hb dMo_get_42 rfl (lv_at hl 1 rfl) ?_
        refine lv_iload_n hx hb dMo_get_43 rfl (lv_at hl 2 rfl) ?_
        refine nz_vi (As := [.int (nI u), .int (nI k)]) (rest := []) S (c_Mo_cell l D cA T hT 0 C L O c0 u hu k (by omega)) kMo_40 ⟨rfl, rfl, Nat.le_of_ble_eq_true rfl, Nat.le_of_ble_eq_true rfl⟩ ⟨Nat.zero_le _, Nat.zero_le _⟩ moP.bl (mo_ob hK hP) (moP.to hP hK) rfl hl.1 rfl (Nat.le_of_ble_eq_true rfl) dMo_get_44 (fun r8 er8 => ?_)
        subst er8
        exact W.iret (v := nI (mR C u k)) hx hb hr (fun t ht hW => ⟨⟨nI (mR C u k), (), rfl, fun _ => by rw [eu, ek], moB_of (by rw [hk0]; exact hP) ht⟩, hS.F ht⟩) hS.2.2 dMo_get_47
      · refine lv_iconst (v := 1) hx hb dMo_get_22 (by decide) ?_
        refine lv_goto (tgt := 27) hx hb dMo_get_23 (by decide) ?_
        refine mo_putk (k1 := 1) S hT hK hP hS dMo_get_27 (fun H locs hP hS => ?_)
        have hk0 : kGet L (nI u) x2 = 1 := by unfold kGet; rw [if_pos (Or.inr (Or.inr (by rw [eu]; exact Int32.not_lt.mp c6)))]
        refine lv_aload_n hx hb dMo_get_30 rfl (lv_at hl 0 rfl) ?_
        refine mo_getk S hK hP dMo_get_31 ?_
        refine lv_if_le (tgt := 41) hx hb dMo_get_34 (by decide) (fun c9 => absurd c9 (by decide)) (fun _ => ?_)
        refine lv_iconst (v := 0) hx hb dMo_get_37 (by decide) ?_
        refine lv_goto (tgt := 47) hx hb dMo_get_38 (by decide) ?_
        exact W.iret (v := 0) hx hb hr (fun t ht hW => ⟨⟨(0), (), rfl, fun h => absurd h (by rw [hk0]; decide), moB_of (by rw [hk0]; exact hP) ht⟩, hS.F ht⟩) hS.2.2 dMo_get_47
set_option maxHeartbeats 4000000 in
set_option maxRecDepth 100000 in
theorem c_Mo_length (l : Launch) (D : va_G) (cA : ClassId) (T : Nat → Nat) (hT : moT T) (k0 : Int32) (C L O : Nat → Nat) (c0 : Nat) (ok : moOk C L O) (x1 : Int32) : Met l yMo_length (Cond.code yMo_length bMo_length 2 (some .int) :: nzG) ({ frames := 1, cells := 0, slots := 0, locals := 20 }) (va_Pc [.ref (T 0), .int x1] (moP D cA (moW cA T k0 C L O c0))) (va_Qi (fun r (_ : Unit) => (kPl x1) = 0 → r = nI (L (ix x1))) (fun _ t => moB D cA T C L O c0 (kPl x1) t) (moA T)) 0 0 (moA T) := by
  refine nz_of (own := RM) (by decide) rfl ?_
  intro p e s m args below meth c S hr hlocks _ hv9
  obtain ⟨rfl, hP, hK⟩ := hv9
  have hS : va_S (moA T) s.heap s.heap [] := va_S.rf
  have hx := S.1
  have hb := S.2.1
  refine nz_entry (vs := [.ref (T 0), .int x1]) (n := 2) (lv := [(0, .ref (T 0)), (1, .int x1)]) (Nat.le_of_ble_eq_true rfl) rfl (fun ls hl => ?_)
  refine lv_aload_n hx hb dMo_length_0 rfl (lv_at hl 0 rfl) ?_
  refine lv_iload_n hx hb dMo_length_1 rfl (lv_at hl 1 rfl) ?_
  refine nz_si (As := [.int x1]) (rest := [.ref (T 0)]) S (c_Mo_none l x1) kMo_33 ⟨rfl, rfl, Nat.le_of_ble_eq_true rfl, Nat.le_of_ble_eq_true rfl⟩ ⟨Nat.zero_le _, Nat.zero_le _⟩ (fun _ _ _ _ h => h) (fun _ _ _ => trivial) rfl hl.1 rfl (Nat.le_of_ble_eq_true rfl) dMo_length_2 (fun r1 er1 => ?_)
  subst er1
  refine lv_if_eq (tgt := 12) hx hb dMo_length_5 (by decide) (fun c2 => ?_) (fun c2 => ?_)
  · have bc2 := ifn_n c2
    obtain ⟨u, hu, rfl⟩ := plB_not bc2
    have eu : ix (nI u) = u := ix_nI (by omega)
    refine lv_iconst (v := 0) hx hb dMo_length_12 (by decide) ?_
    refine mo_putk (k1 := 0) S hT hK hP hS dMo_length_13 (fun H locs hP hS => ?_)
    have hk0 : kPl (nI u) = 0 := by unfold kPl; rw [if_neg bc2]
    refine lv_aload_n hx hb dMo_length_16 rfl (lv_at hl 0 rfl) ?_
    refine mo_getk S hK hP dMo_length_17 ?_
    refine lv_if_le (tgt := 27) hx hb dMo_length_20 (by decide) (fun _ => ?_) (fun c3 => absurd (by decide) c3)
    refine lv_aload_n hx hb dMo_length_27 rfl (lv_at hl 0 rfl) ?_
    refine mo_getL S hK hP dMo_length_28 ?_
    refine lv_iload_n hx hb dMo_length_31 rfl (lv_at hl 1 rfl) ?_
    refine mo_ldL (j := u) S hK hP hu dMo_length_32 ?_
    exact W.iret (v := nI (L u)) hx hb hr (fun t ht hW => ⟨⟨nI (L u), (), rfl, fun _ => by rw [eu], moB_of (by rw [hk0]; exact hP) ht⟩, hS.F ht⟩) hS.2.2 dMo_length_33
  · have bc2 := ifn_y c2
    refine lv_iconst (v := 1) hx hb dMo_length_8 (by decide) ?_
    refine lv_goto (tgt := 13) hx hb dMo_length_9 (by decide) ?_
    refine mo_putk (k1 := 1) S hT hK hP hS dMo_length_13 (fun H locs hP hS => ?_)
    have hk0 : kPl x1 = 1 := by unfold kPl; rw [if_pos bc2]
    refine lv_aload_n hx hb dMo_length_16 rfl (lv_at hl 0 rfl) ?_
    refine mo_getk S hK hP dMo_length_17 ?_
    refine lv_if_le (tgt := 27) hx hb dMo_length_20 (by decide) (fun c4 => absurd c4 (by decide)) (fun _ => ?_)
    refine lv_iconst (v := 0) hx hb dMo_length_23 (by decide) ?_
    refine lv_goto (tgt := 33) hx hb dMo_length_24 (by decide) ?_
    exact W.iret (v := 0) hx hb hr (fun t ht hW => ⟨⟨(0), (), rfl, fun h => absurd h (by rw [hk0]; decide), moB_of (by rw [hk0]; exact hP) ht⟩, hS.F ht⟩) hS.2.2 dMo_length_33
set_option maxHeartbeats 4000000 in
set_option maxRecDepth 100000 in
theorem lpM_bits {p : Program} {e : Env} {s : State} {m : MethodId} {args : Array Value} {below : List Frame} {meth : Method} {c : Code} {Q : State → Prop} (l : Launch) (D : va_G) (cA : ClassId) (T : Nat → Nat) (hT : moT T) (k0 : Int32) (C L O : Nat → Nat) (c0 : Nat) (N : Nat) (v1 : Nat) (hv1 : v1 < 2 ^ 64) (hN : N ≤ 64) (S : CallFix p m c bMo_bits 5 s args nzG RM) (hK : va_K D vwCl (moTy cA) s) (kk : ∀ (H : Heap) (locs : List Loc) (ls : Array Slot), va_P D vwCl (moW cA T k0 C L (pov (zPut v1) O 0 N) c0) H → va_S (moA T) s.heap H locs → lv_has ls 5 [(0, .ref (T 0)), (1, .int (nI N)), (2, .long (lN v1)), (4, .int (nI N))] → W p l e ({ frames := 0, cells := 0, slots := 0, locals := 0 }) s m args below meth c H locs 0 0 Q (F0 m 43 ls [])) : ∀ (fuel j : Nat), j ≤ N → N < j + fuel → ∀ (H : Heap) (locs : List Loc), va_P D vwCl (moW cA T k0 C L (pov (zPut v1) O 0 j) c0) H → va_S (moA T) s.heap H locs → ∀ (ls : Array Slot), lv_has ls 5 [(0, .ref (T 0)), (1, .int (nI N)), (2, .long (lN v1)), (4, .int (nI j))] → W p l e ({ frames := 0, cells := 0, slots := 0, locals := 0 }) s m args below meth c H locs 0 0 Q (F0 m 8 ls []) := by
  have hx := S.1
  have hb := S.2.1
  intro fuel
  induction fuel with
  | zero =>
    intro j hj hfu
    exact absurd hfu (by omega)
  | succ fuel ih =>
    intro j hj hfu H locs hP hS ls hl
    refine lv_iload hx hb dMo_bits_8 (lv_at hl 3 rfl) ?_
    refine lv_iload_n hx hb dMo_bits_10 rfl (lv_at hl 1 rfl) ?_
    refine lv_icmp_ge (tgt := 43) hx hb dMo_bits_11 (by decide) (fun c1 => ?_) (fun c1 => ?_)
    · have mc1 : N ≤ j := (nI_leI (a := N) (b := j) (by omega) (by omega)).mp c1
      obtain rfl : j = N := by omega
      exact kk H locs ls hP hS (lv_sub hl [0, 1, 2, 3] rfl)
    · have mc1 : j < N := Nat.lt_of_not_le (fun h => c1 ((nI_leI (a := N) (b := j) (by omega) (by omega)).mpr h))
      refine lv_aload_n hx hb dMo_bits_14 rfl (lv_at hl 0 rfl) ?_
      refine mo_getO S hK hP dMo_bits_15 ?_
      refine lv_iload hx hb dMo_bits_18 (lv_at hl 3 rfl) ?_
      refine lv_lload_n hx hb dMo_bits_20 rfl (lv_at hl 2 rfl) ?_
      refine lv_iload hx hb dMo_bits_21 (lv_at hl 3 rfl) ?_
      refine lv_lshr (v := lN v1 >>> ((nI j).toInt64 &&& 63)) hx hb dMo_bits_23 rfl ?_
      refine lv_lconst (v := 1) hx hb dMo_bits_24 (by decide) ?_
      refine lv_land hx hb dMo_bits_25 ?_
      refine nz_eql (sbit hv1 (by omega)) ?_
      refine lv_lconst (v := 1) hx hb dMo_bits_26 (by decide) ?_
      refine W.lcmp hx hb dMo_bits_27 ?_
      refine lv_if_ne (tgt := 35) hx hb dMo_bits_28 (by decide) (fun c2 => ?_) (fun c2 => ?_)
      · refine lv_iconst (v := 2) hx hb dMo_bits_35 (by decide) ?_
        refine nz_eqi (y := nI (zPut v1 j)) (by rw [show zPut v1 j = 2 from if_pos (by have h9 : ¬ v1 / 2 ^ j % 2 = 1 := fun q => c2 ((lcmp_1 (Nat.mod_lt _ (by decide))).mpr q); omega)]; rfl) ?_
        refine mo_stO (j := j) (v := (zPut v1) j) S hT hK hP hS (by omega) dMo_bits_36 (fun H locs hP hS => ?_)
        rw [pov_s0] at hP
        refine lv_iinc (v := nI (j + 1)) (lv' := [(4, .int (nI (j + 1))), (0, .ref (T 0)), (1, .int (nI N)), (2, .long (lN v1))]) hx hb dMo_bits_37 hl (k := 3) rfl (nI_1 j) (by decide) rfl (fun ls hl => ?_)
        refine lv_goto (tgt := 8) hx hb dMo_bits_40 (by decide) ?_
        exact ih (j + 1) (by omega) (by omega) _ _ hP hS ls (lv_sub hl [1, 2, 3, 0] rfl)
      · refine lv_iconst (v := 3) hx hb dMo_bits_31 (by decide) ?_
        refine lv_goto (tgt := 36) hx hb dMo_bits_32 (by decide) ?_
        refine nz_eqi (y := nI (zPut v1 j)) (by rw [show zPut v1 j = 3 from if_neg (by have := (lcmp_1 (Nat.mod_lt _ (by decide))).mp c2; omega)]; rfl) ?_
        refine mo_stO (j := j) (v := (zPut v1) j) S hT hK hP hS (by omega) dMo_bits_36 (fun H locs hP hS => ?_)
        rw [pov_s0] at hP
        refine lv_iinc (v := nI (j + 1)) (lv' := [(4, .int (nI (j + 1))), (0, .ref (T 0)), (1, .int (nI N)), (2, .long (lN v1))]) hx hb dMo_bits_37 hl (k := 3) rfl (nI_1 j) (by decide) rfl (fun ls hl => ?_)
        refine lv_goto (tgt := 8) hx hb dMo_bits_40 (by decide) ?_
        exact ih (j + 1) (by omega) (by omega) _ _ hP hS ls (lv_sub hl [1, 2, 3, 0] rfl)
set_option maxHeartbeats 4000000 in
set_option maxRecDepth 100000 in
theorem c_Mo_bits (l : Launch) (D : va_G) (cA : ClassId) (T : Nat → Nat) (hT : moT T) (k0 : Int32) (C L O : Nat → Nat) (c0 : Nat) (N : Nat) (hN : N ≤ 64) (v1 : Nat) (hv1 : v1 < 2 ^ 64) : Met l yMo_bits (Cond.code yMo_bits bMo_bits 5 none :: nzG) ({ frames := 0, cells := 0, slots := 0, locals := 0 }) (va_Pc [.ref (T 0), .int (nI N), .long (lN v1)] (moP D cA (moW cA T k0 C L O c0))) (va_Qv (fun _ : Unit => True) (fun _ t => va_P D vwCl (moW cA T k0 C L (pov (zPut v1) O 0 N) N) t.heap) (moA T)) 0 0 (moA T) := by
  refine nz_of (own := RM) (by decide) rfl ?_
  intro p e s m args below meth c S hr hlocks _ hv9
  obtain ⟨rfl, hP, hK⟩ := hv9
  have hS : va_S (moA T) s.heap s.heap [] := va_S.rf
  have hx := S.1
  have hb := S.2.1
  refine nz_entry (vs := [.ref (T 0), .int (nI N), .long (lN v1)]) (n := 5) (lv := [(0, .ref (T 0)), (1, .int (nI N)), (2, .long (lN v1))]) (Nat.le_of_ble_eq_true rfl) rfl (fun ls hl => ?_)
  refine lv_aload_n hx hb dMo_bits_0 rfl (lv_at hl 0 rfl) ?_
  refine lv_iload_n hx hb dMo_bits_1 rfl (lv_at hl 1 rfl) ?_
  refine mo_putc (c1 := N) S hT hK hP hS dMo_bits_2 (fun H locs hP hS => ?_)
  refine lv_iconst (v := 0) hx hb dMo_bits_5 (by decide) ?_
  refine lv_istore (lv' := [(4, .int 0), (0, .ref (T 0)), (1, .int (nI N)), (2, .long (lN v1))]) hx hb dMo_bits_6 hl (by decide) rfl (fun ls hl => ?_)
  rw [← pov_0 (zPut v1) (O) 0] at hP
  refine lpM_bits l D cA T hT k0 C L O N N v1 hv1 hN S hK (fun H locs ls hP hS hl => ?_) (N + 1) 0 (by omega) (by omega) _ _ hP hS ls (lv_sub hl [1, 2, 3, 0] rfl)
  exact W.vret hx hb hr (fun t ht hW => ⟨⟨(), rfl, trivial, (show va_P D vwCl _ t.heap by rw [ht]; exact hP)⟩, hS.F ht⟩) hS.2.2 dMo_bits_43
set_option maxHeartbeats 4000000 in
set_option maxRecDepth 100000 in
theorem c_Mo_number (l : Launch) (D : va_G) (cA : ClassId) (T : Nat → Nat) (hT : moT T) (k0 : Int32) (C L O : Nat → Nat) (c0 : Nat) (ok : moOk C L O) (x1 x2 : Int32) (v1 : Nat) (hv1 : v1 < 2 ^ 64) : Met l yMo_number (Cond.code yMo_number bMo_number 5 none :: nzG) ({ frames := 1, cells := 0, slots := 0, locals := 24 }) (va_Pc [.ref (T 0), .int x1, .int x2, .long (lN v1)] (moP D cA (moW cA T k0 C L O c0))) (va_Qv (fun _ : Unit => True) (fun _ t => moV D cA T C L (kNumber x1 x2) (ix x1) (ix x2) (zPut v1) t) (moA T)) 0 0 (moA T) := by
  refine nz_of (own := RM) (by decide) rfl ?_
  intro p e s m args below meth c S hr hlocks _ hv9
  obtain ⟨rfl, hP, hK⟩ := hv9
  have hS : va_S (moA T) s.heap s.heap [] := va_S.rf
  have hx := S.1
  have hb := S.2.1
  refine nz_entry (vs := [.ref (T 0), .int x1, .int x2, .long (lN v1)]) (n := 5) (lv := [(0, .ref (T 0)), (1, .int x1), (2, .int x2), (3, .long (lN v1))]) (Nat.le_of_ble_eq_true rfl) rfl (fun ls hl => ?_)
  refine lv_aload_n hx hb dMo_number_0 rfl (lv_at hl 0 rfl) ?_
  refine lv_iload_n hx hb dMo_number_1 rfl (lv_at hl 1 rfl) ?_
  refine nz_si (As := [.int x1]) (rest := [.ref (T 0)]) S (c_Mo_none l x1) kMo_33 ⟨rfl, rfl, Nat.le_of_ble_eq_true rfl, Nat.le_of_ble_eq_true rfl⟩ ⟨Nat.zero_le _, Nat.zero_le _⟩ (fun _ _ _ _ h => h) (fun _ _ _ => trivial) rfl hl.1 rfl (Nat.le_of_ble_eq_true rfl) dMo_number_2 (fun r1 er1 => ?_)
  subst er1
  refine lv_if_eq (tgt := 12) hx hb dMo_number_5 (by decide) (fun c2 => ?_) (fun c2 => ?_)
  · have bc2 := ifn_n c2
    obtain ⟨u, hu, rfl⟩ := plB_not bc2
    have eu : ix (nI u) = u := ix_nI (by omega)
    refine lv_iload_n hx hb dMo_number_12 rfl (lv_at hl 2 rfl) ?_
    refine lv_if_lt (tgt := 22) hx hb dMo_number_13 (by decide) (fun c3 => ?_) (fun c3 => ?_)
    · refine lv_iconst (v := 2) hx hb dMo_number_22 (by decide) ?_
      refine lv_goto (tgt := 27) hx hb dMo_number_23 (by decide) ?_
      refine mo_putk (k1 := 2) S hT hK hP hS dMo_number_27 (fun H locs hP hS => ?_)
      have hk0 : kNumber (nI u) x2 = 2 := by unfold kNumber; rw [if_neg bc2, if_pos (Or.inl c3)]
      refine lv_aload_n hx hb dMo_number_30 rfl (lv_at hl 0 rfl) ?_
      refine mo_getk S hK hP dMo_number_31 ?_
      refine lv_if_le (tgt := 38) hx hb dMo_number_34 (by decide) (fun c4 => absurd c4 (by decide)) (fun _ => ?_)
      exact W.vret hx hb hr (fun t ht hW => ⟨⟨(), rfl, trivial, C, L, O, c0, fun h => absurd h (by rw [hk0]; decide), fun _ => ⟨rfl, rfl⟩, ok, by rw [hk0, ht]; exact hP⟩, hS.F ht⟩) hS.2.2 dMo_number_37
    · refine lv_iload_n hx hb dMo_number_16 rfl (lv_at hl 2 rfl) ?_
      refine lv_bipush (v := 64) hx hb dMo_number_17 (by decide) ?_
      refine lv_icmp_le (tgt := 26) hx hb dMo_number_19 (by decide) (fun c5 => ?_) (fun c5 => ?_)
      · refine lv_iconst (v := 0) hx hb dMo_number_26 (by decide) ?_
        refine mo_putk (k1 := 0) S hT hK hP hS dMo_number_27 (fun H locs hP hS => ?_)
        have hk0 : kNumber (nI u) x2 = 0 := by unfold kNumber; rw [if_neg bc2, if_neg (fun h => h.elim c3 (fun q => Int32.not_lt.mpr c5 q))]
        obtain ⟨N, hN, rfl⟩ := lenB_not (fun h => h.elim c3 (fun q => Int32.not_lt.mpr c5 q))
        have eN : ix (nI N) = N := ix_nI (by omega)
        refine lv_aload_n hx hb dMo_number_30 rfl (lv_at hl 0 rfl) ?_
        refine mo_getk S hK hP dMo_number_31 ?_
        refine lv_if_le (tgt := 38) hx hb dMo_number_34 (by decide) (fun _ => ?_) (fun c6 => absurd (by decide) c6)
        refine lv_aload_n hx hb dMo_number_38 rfl (lv_at hl 0 rfl) ?_
        refine lv_iload_n hx hb dMo_number_39 rfl (lv_at hl 2 rfl) ?_
        refine lv_lload_n hx hb dMo_number_40 rfl (lv_at hl 3 rfl) ?_
        refine mo_call (As := [.int (nI N), .long (lN v1)]) (rest := []) S (c_Mo_bits l D cA T hT 0 C L O c0 N hN v1 hv1) kMo_44 ⟨rfl, rfl, Nat.le_of_ble_eq_true rfl, Nat.le_of_ble_eq_true rfl⟩ ⟨Nat.zero_le _, Nat.zero_le _⟩ (mo_ob hK hP) hP hK hS rfl hl.1 rfl (Nat.le_of_ble_eq_true rfl) dMo_number_41 (fun H locs hP hS => ?_)
        refine lv_aload_n hx hb dMo_number_44 rfl (lv_at hl 0 rfl) ?_
        refine lv_iload_n hx hb dMo_number_45 rfl (lv_at hl 1 rfl) ?_
        refine mo_call (As := [.int (nI u)]) (rest := []) S (c_Mo_keep l D cA T hT 0 C L (pov (zPut v1) O 0 N) N u hu hN) kMo_36 ⟨rfl, rfl, Nat.le_of_ble_eq_true rfl, Nat.le_of_ble_eq_true rfl⟩ ⟨Nat.zero_le _, Nat.zero_le _⟩ (mo_ob hK hP) hP hK hS rfl hl.1 rfl (Nat.le_of_ble_eq_true rfl) dMo_number_46 (fun H locs hP hS => ?_)
        refine W.vret hx hb hr (fun t ht hW => ⟨⟨(), rfl, trivial, moK C (pov (zPut v1) O 0 N) u N, va_up L u N, (pov (zPut v1) O 0 N), N, fun _ => ?_, fun h => absurd hk0 h, moOk_keep (moOk_O ok (pov_lt (fun _ _ _ => zPut_lt _ _) ok.2.2)) hN, by rw [hk0, ht]; exact hP⟩, hS.F ht⟩) hS.2.2 dMo_number_49
        rw [eu]
        exact moU_eq (moU_keep hN) (by rw [eN]) (by rw [eN]; exact fun k hk => pov_in (Nat.zero_le _) (by omega))
      · refine lv_iconst (v := 2) hx hb dMo_number_22 (by decide) ?_
        refine lv_goto (tgt := 27) hx hb dMo_number_23 (by decide) ?_
        refine mo_putk (k1 := 2) S hT hK hP hS dMo_number_27 (fun H locs hP hS => ?_)
        have hk0 : kNumber (nI u) x2 = 2 := by unfold kNumber; rw [if_neg bc2, if_pos (Or.inr (Int32.not_le.mp c5))]
        refine lv_aload_n hx hb dMo_number_30 rfl (lv_at hl 0 rfl) ?_
        refine mo_getk S hK hP dMo_number_31 ?_
        refine lv_if_le (tgt := 38) hx hb dMo_number_34 (by decide) (fun c7 => absurd c7 (by decide)) (fun _ => ?_)
        exact W.vret hx hb hr (fun t ht hW => ⟨⟨(), rfl, trivial, C, L, O, c0, fun h => absurd h (by rw [hk0]; decide), fun _ => ⟨rfl, rfl⟩, ok, by rw [hk0, ht]; exact hP⟩, hS.F ht⟩) hS.2.2 dMo_number_37
  · have bc2 := ifn_y c2
    refine lv_iconst (v := 1) hx hb dMo_number_8 (by decide) ?_
    refine lv_goto (tgt := 27) hx hb dMo_number_9 (by decide) ?_
    refine mo_putk (k1 := 1) S hT hK hP hS dMo_number_27 (fun H locs hP hS => ?_)
    have hk0 : kNumber x1 x2 = 1 := by unfold kNumber; rw [if_pos bc2]
    refine lv_aload_n hx hb dMo_number_30 rfl (lv_at hl 0 rfl) ?_
    refine mo_getk S hK hP dMo_number_31 ?_
    refine lv_if_le (tgt := 38) hx hb dMo_number_34 (by decide) (fun c8 => absurd c8 (by decide)) (fun _ => ?_)
    exact W.vret hx hb hr (fun t ht hW => ⟨⟨(), rfl, trivial, C, L, O, c0, fun h => absurd h (by rw [hk0]; decide), fun _ => ⟨rfl, rfl⟩, ok, by rw [hk0, ht]; exact hP⟩, hS.F ht⟩) hS.2.2 dMo_number_37
set_option maxHeartbeats 4000000 in
set_option maxRecDepth 100000 in
theorem lpM_clear {p : Program} {e : Env} {s : State} {m : MethodId} {args : Array Value} {below : List Frame} {meth : Method} {c : Code} (l : Launch) (D : va_G) (cA : ClassId) (T : Nat → Nat) (hT : moT T) (k0 : Int32) (C L O : Nat → Nat) (c0 : Nat) (ok : moOk C L O) (a : Nat) (ha : a < 16) (S : CallFix p m c bMo_clear 4 s args nzG RM) (hr : meth.sig.returnType = some .boolean) (hlocks : meth.locks = false) (hK : va_K D vwCl (moTy cA) s) (hP : va_P D vwCl (moW cA T k0 C L O c0) s.heap) : ∀ (fuel j : Nat), j ≤ L a → L a < j + fuel → ∀ (ls : Array Slot), lv_has ls 4 [(0, .ref (T 0)), (1, .int (nI a)), (2, .int (nI (zCn (mR C a) (L a) j))), (3, .int (nI j))] → W p l e ({ frames := 2, cells := 0, slots := 0, locals := 40 }) s m args below meth c s.heap [] 0 0 (MQ below (vp_Si (fun r => r = nI (zCnt (mR C a) (L a)))) args s 0 0 (fun _ => False)) (F0 m 17 ls []) := by
  have hx := S.1
  have hb := S.2.1
  have hLa := ok.2.1 a
  intro fuel
  induction fuel with
  | zero =>
    intro j hj hfu
    exact absurd hfu (by omega)
  | succ fuel ih =>
    intro j hj hfu ls hl
    refine lv_iload_n hx hb dMo_clear_17 rfl (lv_at hl 3 rfl) ?_
    refine lv_aload_n hx hb dMo_clear_18 rfl (lv_at hl 0 rfl) ?_
    refine mo_getL S hK hP dMo_clear_19 ?_
    refine lv_iload_n hx hb dMo_clear_22 rfl (lv_at hl 1 rfl) ?_
    refine mo_ldL (j := a) S hK hP ha dMo_clear_23 ?_
    refine lv_icmp_ge (tgt := 55) hx hb dMo_clear_24 (by decide) (fun c1 => ?_) (fun c1 => ?_)
    · have mc1 : (L a) ≤ j := (nI_leI (a := (L a)) (b := j) (by omega) (by omega)).mp c1
      refine lv_iload_n hx hb dMo_clear_55 rfl (lv_at hl 2 rfl) ?_
      obtain ej : j = L a := by omega
      exact W.zret (v := nI (zCn (mR C a) (L a) j)) hx hb hr (zn_ok _ (zCn_01b _ _ _)) (fun t ht hW => ⟨_, rfl, by rw [ej, zCn_N], ht⟩) (fun q h => nomatch h) dMo_clear_56
    · have mc1 : j < (L a) := Nat.lt_of_not_le (fun h => c1 ((nI_leI (a := (L a)) (b := j) (by omega) (by omega)).mpr h))
      refine lv_iload_n hx hb dMo_clear_27 rfl (lv_at hl 2 rfl) ?_
      refine lv_if_eq (tgt := 47) hx hb dMo_clear_28 (by decide) (fun c2 => ?_) (fun c2 => ?_)
      · refine lv_iconst (v := 0) hx hb dMo_clear_47 (by decide) ?_
        refine nz_eqi (y := nI (zCn (mR C a) (L a) (j + 1))) (zCn_0 c2) ?_
        refine lv_istore_n (lv' := [(2, .int (nI (zCn (mR C a) (L a) (j + 1)))), (0, .ref (T 0)), (1, .int (nI a)), (3, .int (nI j))]) hx hb dMo_clear_48 rfl hl (by decide) rfl (fun ls hl => ?_)
        refine lv_iinc (v := nI (j + 1)) (lv' := [(3, .int (nI (j + 1))), (2, .int (nI (zCn (mR C a) (L a) (j + 1)))), (0, .ref (T 0)), (1, .int (nI a))]) hx hb dMo_clear_49 hl (k := 3) rfl (nI_1 j) (by decide) rfl (fun ls hl => ?_)
        refine lv_goto (tgt := 17) hx hb dMo_clear_52 (by decide) ?_
        exact ih (j + 1) (by omega) (by omega) ls (lv_sub hl [2, 3, 1, 0] rfl)
      · refine lv_aload_n hx hb dMo_clear_31 rfl (lv_at hl 0 rfl) ?_
        refine lv_iload_n hx hb dMo_clear_32 rfl (lv_at hl 1 rfl) ?_
        refine lv_iload_n hx hb dMo_clear_33 rfl (lv_at hl 3 rfl) ?_
        refine nz_vi (As := [.int (nI a), .int (nI j)]) (rest := []) S (c_Mo_cell l D cA T hT k0 C L O c0 a ha j (by omega)) kMo_40 ⟨rfl, rfl, Nat.le_of_ble_eq_true rfl, Nat.le_of_ble_eq_true rfl⟩ ⟨Nat.zero_le _, Nat.zero_le _⟩ moP.bl (mo_ob hK hP) (moP.to hP hK) rfl hl.1 rfl (Nat.le_of_ble_eq_true rfl) dMo_clear_34 (fun r3 er3 => ?_)
        subst er3
        refine nz_si (As := [.int (nI (mR C a j))]) (rest := []) S (c_Mo_isClear l (mR C a j) (ok.1 _)) kMo_48 ⟨rfl, rfl, Nat.le_of_ble_eq_true rfl, Nat.le_of_ble_eq_true rfl⟩ ⟨Nat.zero_le _, Nat.zero_le _⟩ (fun _ _ _ _ h => h) (fun _ _ _ => trivial) rfl hl.1 rfl (Nat.le_of_ble_eq_true rfl) dMo_clear_37 (fun r4 er4 => ?_)
        subst er4
        refine lv_if_eq (tgt := 47) hx hb dMo_clear_40 (by decide) (fun c5 => ?_) (fun c5 => ?_)
        · refine lv_iconst (v := 0) hx hb dMo_clear_47 (by decide) ?_
          refine nz_eqi (y := nI (zCn (mR C a) (L a) (j + 1))) (zCn_c (ok.1 _) c5) ?_
          refine lv_istore_n (lv' := [(2, .int (nI (zCn (mR C a) (L a) (j + 1)))), (0, .ref (T 0)), (1, .int (nI a)), (3, .int (nI j))]) hx hb dMo_clear_48 rfl hl (by decide) rfl (fun ls hl => ?_)
          refine lv_iinc (v := nI (j + 1)) (lv' := [(3, .int (nI (j + 1))), (2, .int (nI (zCn (mR C a) (L a) (j + 1)))), (0, .ref (T 0)), (1, .int (nI a))]) hx hb dMo_clear_49 hl (k := 3) rfl (nI_1 j) (by decide) rfl (fun ls hl => ?_)
          refine lv_goto (tgt := 17) hx hb dMo_clear_52 (by decide) ?_
          exact ih (j + 1) (by omega) (by omega) ls (lv_sub hl [2, 3, 1, 0] rfl)
        · refine lv_iconst (v := 1) hx hb dMo_clear_43 (by decide) ?_
          refine lv_goto (tgt := 48) hx hb dMo_clear_44 (by decide) ?_
          refine nz_eqi (y := nI (zCn (mR C a) (L a) (j + 1))) (zCn_1 (ok.1 _) c2 c5) ?_
          refine lv_istore_n (lv' := [(2, .int (nI (zCn (mR C a) (L a) (j + 1)))), (0, .ref (T 0)), (1, .int (nI a)), (3, .int (nI j))]) hx hb dMo_clear_48 rfl hl (by decide) rfl (fun ls hl => ?_)
          refine lv_iinc (v := nI (j + 1)) (lv' := [(3, .int (nI (j + 1))), (2, .int (nI (zCn (mR C a) (L a) (j + 1)))), (0, .ref (T 0)), (1, .int (nI a))]) hx hb dMo_clear_49 hl (k := 3) rfl (nI_1 j) (by decide) rfl (fun ls hl => ?_)
          refine lv_goto (tgt := 17) hx hb dMo_clear_52 (by decide) ?_
          exact ih (j + 1) (by omega) (by omega) ls (lv_sub hl [2, 3, 1, 0] rfl)
set_option maxHeartbeats 4000000 in
set_option maxRecDepth 100000 in
theorem c_Mo_clear (l : Launch) (D : va_G) (cA : ClassId) (T : Nat → Nat) (hT : moT T) (k0 : Int32) (C L O : Nat → Nat) (c0 : Nat) (ok : moOk C L O) (a : Nat) (ha : a < 16) : Met l yMo_clear (Cond.code yMo_clear bMo_clear 4 (some .boolean) :: nzG) ({ frames := 2, cells := 0, slots := 0, locals := 40 }) (va_Pc [.ref (T 0), .int (nI a)] (moP D cA (moW cA T k0 C L O c0))) (vp_Si (fun r => r = nI (zCnt (mR C a) (L a)))) 0 0 (fun _ => False) := by
  refine nz_of (own := RM) (by decide) rfl ?_
  intro p e s m args below meth c S hr hlocks _ hv9
  obtain ⟨rfl, hP, hK⟩ := hv9
  have hS : va_S (moA T) s.heap s.heap [] := va_S.rf
  have hx := S.1
  have hb := S.2.1
  refine nz_entry (vs := [.ref (T 0), .int (nI a)]) (n := 4) (lv := [(0, .ref (T 0)), (1, .int (nI a))]) (Nat.le_of_ble_eq_true rfl) rfl (fun ls hl => ?_)
  have hLa := ok.2.1 a
  refine lv_aload_n hx hb dMo_clear_0 rfl (lv_at hl 0 rfl) ?_
  refine mo_getL S hK hP dMo_clear_1 ?_
  refine lv_iload_n hx hb dMo_clear_4 rfl (lv_at hl 1 rfl) ?_
  refine mo_ldL (j := a) S hK hP ha dMo_clear_5 ?_
  refine lv_if_le (tgt := 13) hx hb dMo_clear_6 (by decide) (fun c1 => ?_) (fun c1 => ?_)
  · have mc1 : (L a) ≤ 0 := (nI_leI (a := (L a)) (b := 0) (by omega) (by omega)).mp c1
    refine lv_iconst (v := 0) hx hb dMo_clear_13 (by decide) ?_
    refine nz_eqi (y := nI (zCn (mR C a) (L a) 0)) (zCn_00 mc1) ?_
    refine lv_istore_n (lv' := [(2, .int (nI (zCn (mR C a) (L a) 0))), (0, .ref (T 0)), (1, .int (nI a))]) hx hb dMo_clear_14 rfl hl (by decide) rfl (fun ls hl => ?_)
    refine lv_iconst (v := 0) hx hb dMo_clear_15 (by decide) ?_
    refine lv_istore_n (lv' := [(3, .int 0), (2, .int (nI (zCn (mR C a) (L a) 0))), (0, .ref (T 0)), (1, .int (nI a))]) hx hb dMo_clear_16 rfl hl (by decide) rfl (fun ls hl => ?_)
    exact lpM_clear l D cA T hT k0 C L O c0 ok a ha S hr hlocks hK hP (L a + 1) 0 (by omega) (by omega) ls (lv_sub hl [2, 3, 1, 0] rfl)
  · have mc1 : 0 < (L a) := Nat.lt_of_not_le (fun h => c1 ((nI_leI (a := (L a)) (b := 0) (by omega) (by omega)).mpr h))
    refine lv_iconst (v := 1) hx hb dMo_clear_9 (by decide) ?_
    refine lv_goto (tgt := 14) hx hb dMo_clear_10 (by decide) ?_
    refine nz_eqi (y := nI (zCn (mR C a) (L a) 0)) (zCn_01 mc1) ?_
    refine lv_istore_n (lv' := [(2, .int (nI (zCn (mR C a) (L a) 0))), (0, .ref (T 0)), (1, .int (nI a))]) hx hb dMo_clear_14 rfl hl (by decide) rfl (fun ls hl => ?_)
    refine lv_iconst (v := 0) hx hb dMo_clear_15 (by decide) ?_
    refine lv_istore_n (lv' := [(3, .int 0), (2, .int (nI (zCn (mR C a) (L a) 0))), (0, .ref (T 0)), (1, .int (nI a))]) hx hb dMo_clear_16 rfl hl (by decide) rfl (fun ls hl => ?_)
    exact lpM_clear l D cA T hT k0 C L O c0 ok a ha S hr hlocks hK hP (L a + 1) 0 (by omega) (by omega) ls (lv_sub hl [2, 3, 1, 0] rfl)
set_option maxHeartbeats 4000000 in
set_option maxRecDepth 100000 in
theorem c_Mo_edge (l : Launch) (D : va_G) (cA : ClassId) (T : Nat → Nat) (hT : moT T) (k0 : Int32) (C L O : Nat → Nat) (c0 : Nat) (ok : moOk C L O) (x1 x2 : Int32) : Met l yMo_edge (Cond.code yMo_edge bMo_edge 3 (some .int) :: nzG) ({ frames := 1, cells := 0, slots := 0, locals := 20 }) (va_Pc [.ref (T 0), .int x1, .int x2] (moP D cA (moW cA T k0 C L O c0))) (va_Qi (fun r (_ : Unit) => (kEdge x1 x2) = 0 → r = zEdge (ix x1) (ix x2)) (fun _ t => moB D cA T C L O c0 (kEdge x1 x2) t) (moA T)) 0 0 (moA T) := by
  refine nz_of (own := RM) (by decide) rfl ?_
  intro p e s m args below meth c S hr hlocks _ hv9
  obtain ⟨rfl, hP, hK⟩ := hv9
  have hS : va_S (moA T) s.heap s.heap [] := va_S.rf
  have hx := S.1
  have hb := S.2.1
  refine nz_entry (vs := [.ref (T 0), .int x1, .int x2]) (n := 3) (lv := [(0, .ref (T 0)), (1, .int x1), (2, .int x2)]) (Nat.le_of_ble_eq_true rfl) rfl (fun ls hl => ?_)
  refine lv_aload_n hx hb dMo_edge_0 rfl (lv_at hl 0 rfl) ?_
  refine lv_iload_n hx hb dMo_edge_1 rfl (lv_at hl 1 rfl) ?_
  refine lv_if_lt (tgt := 21) hx hb dMo_edge_2 (by decide) (fun c1 => ?_) (fun c1 => ?_)
  · refine lv_iconst (v := 1) hx hb dMo_edge_21 (by decide) ?_
    refine lv_goto (tgt := 26) hx hb dMo_edge_22 (by decide) ?_
    refine mo_putk (k1 := 1) S hT hK hP hS dMo_edge_26 (fun H locs hP hS => ?_)
    have hk0 : kEdge x1 x2 = 1 := by unfold kEdge; rw [if_pos (Or.inl (Or.inl c1))]
    refine lv_aload_n hx hb dMo_edge_29 rfl (lv_at hl 0 rfl) ?_
    refine mo_getk S hK hP dMo_edge_30 ?_
    refine lv_if_le (tgt := 38) hx hb dMo_edge_33 (by decide) (fun c2 => absurd c2 (by decide)) (fun _ => ?_)
    refine lv_iconst (v := 0) hx hb dMo_edge_36 (by decide) ?_
    exact W.iret (v := 0) hx hb hr (fun t ht hW => ⟨⟨(0), (), rfl, fun h => absurd h (by rw [hk0]; decide), moB_of (by rw [hk0]; exact hP) ht⟩, hS.F ht⟩) hS.2.2 dMo_edge_37
  · refine lv_iload_n hx hb dMo_edge_5 rfl (lv_at hl 1 rfl) ?_
    refine lv_bipush (v := 8) hx hb dMo_edge_6 (by decide) ?_
    refine lv_icmp_gt (tgt := 21) hx hb dMo_edge_8 (by decide) (fun c3 => ?_) (fun c3 => ?_)
    · refine lv_iconst (v := 1) hx hb dMo_edge_21 (by decide) ?_
      refine lv_goto (tgt := 26) hx hb dMo_edge_22 (by decide) ?_
      refine mo_putk (k1 := 1) S hT hK hP hS dMo_edge_26 (fun H locs hP hS => ?_)
      have hk0 : kEdge x1 x2 = 1 := by unfold kEdge; rw [if_pos (Or.inl (Or.inr c3))]
      refine lv_aload_n hx hb dMo_edge_29 rfl (lv_at hl 0 rfl) ?_
      refine mo_getk S hK hP dMo_edge_30 ?_
      refine lv_if_le (tgt := 38) hx hb dMo_edge_33 (by decide) (fun c4 => absurd c4 (by decide)) (fun _ => ?_)
      refine lv_iconst (v := 0) hx hb dMo_edge_36 (by decide) ?_
      exact W.iret (v := 0) hx hb hr (fun t ht hW => ⟨⟨(0), (), rfl, fun h => absurd h (by rw [hk0]; decide), moB_of (by rw [hk0]; exact hP) ht⟩, hS.F ht⟩) hS.2.2 dMo_edge_37
    · refine lv_iload_n hx hb dMo_edge_11 rfl (lv_at hl 2 rfl) ?_
      refine lv_if_lt (tgt := 21) hx hb dMo_edge_12 (by decide) (fun c5 => ?_) (fun c5 => ?_)
      · refine lv_iconst (v := 1) hx hb dMo_edge_21 (by decide) ?_
        refine lv_goto (tgt := 26) hx hb dMo_edge_22 (by decide) ?_
        refine mo_putk (k1 := 1) S hT hK hP hS dMo_edge_26 (fun H locs hP hS => ?_)
        have hk0 : kEdge x1 x2 = 1 := by unfold kEdge; rw [if_pos (Or.inr (Or.inl c5))]
        refine lv_aload_n hx hb dMo_edge_29 rfl (lv_at hl 0 rfl) ?_
        refine mo_getk S hK hP dMo_edge_30 ?_
        refine lv_if_le (tgt := 38) hx hb dMo_edge_33 (by decide) (fun c6 => absurd c6 (by decide)) (fun _ => ?_)
        refine lv_iconst (v := 0) hx hb dMo_edge_36 (by decide) ?_
        exact W.iret (v := 0) hx hb hr (fun t ht hW => ⟨⟨(0), (), rfl, fun h => absurd h (by rw [hk0]; decide), moB_of (by rw [hk0]; exact hP) ht⟩, hS.F ht⟩) hS.2.2 dMo_edge_37
      · refine lv_iload_n hx hb dMo_edge_15 rfl (lv_at hl 2 rfl) ?_
        refine lv_bipush (v := 8) hx hb dMo_edge_16 (by decide) ?_
        refine lv_icmp_le (tgt := 25) hx hb dMo_edge_18 (by decide) (fun c7 => ?_) (fun c7 => ?_)
        · refine lv_iconst (v := 0) hx hb dMo_edge_25 (by decide) ?_
          refine mo_putk (k1 := 0) S hT hK hP hS dMo_edge_26 (fun H locs hP hS => ?_)
          have hk0 : kEdge x1 x2 = 0 := by unfold kEdge; rw [if_neg (fun h => h.elim (fun h => h.elim c1 c3) (fun h => h.elim c5 (fun q => Int32.not_lt.mpr c7 q)))]
          obtain ⟨u, hu, rfl⟩ := valB_not (fun h => h.elim c1 c3)
          have eu : ix (nI u) = u := ix_nI (by omega)
          obtain ⟨v, hv, rfl⟩ := valB_not (fun h => h.elim c5 (fun q => Int32.not_lt.mpr c7 q))
          have ev : ix (nI v) = v := ix_nI (by omega)
          refine lv_aload_n hx hb dMo_edge_29 rfl (lv_at hl 0 rfl) ?_
          refine mo_getk S hK hP dMo_edge_30 ?_
          refine lv_if_le (tgt := 38) hx hb dMo_edge_33 (by decide) (fun _ => ?_) (fun c8 => absurd (by decide) c8)
          refine lv_iload_n hx hb dMo_edge_38 rfl (lv_at hl 1 rfl) ?_
          refine nz_si (As := [.int (nI u)]) (rest := []) S (c_Mo_isLow l u hu) kMo_23 ⟨rfl, rfl, Nat.le_of_ble_eq_true rfl, Nat.le_of_ble_eq_true rfl⟩ ⟨Nat.zero_le _, Nat.zero_le _⟩ (fun _ _ _ _ h => h) (fun _ _ _ => trivial) rfl hl.1 rfl (Nat.le_of_ble_eq_true rfl) dMo_edge_39 (fun r9 er9 => ?_)
          subst er9
          refine lv_if_eq (tgt := 56) hx hb dMo_edge_42 (by decide) (fun c10 => ?_) (fun c10 => ?_)
          · refine lv_iload_n hx hb dMo_edge_56 rfl (lv_at hl 1 rfl) ?_
            refine nz_si (As := [.int (nI u)]) (rest := []) S (c_Mo_isHigh l u hu) kMo_27 ⟨rfl, rfl, Nat.le_of_ble_eq_true rfl, Nat.le_of_ble_eq_true rfl⟩ ⟨Nat.zero_le _, Nat.zero_le _⟩ (fun _ _ _ _ h => h) (fun _ _ _ => trivial) rfl hl.1 rfl (Nat.le_of_ble_eq_true rfl) dMo_edge_57 (fun r11 er11 => ?_)
            subst er11
            refine lv_if_eq (tgt := 74) hx hb dMo_edge_60 (by decide) (fun c12 => ?_) (fun c12 => ?_)
            · refine lv_iconst (v := 0) hx hb dMo_edge_74 (by decide) ?_
              exact W.iret (v := 0) hx hb hr (fun t ht hW => ⟨⟨(0), (), rfl, fun _ => by rw [eu, ev]; exact (of_decide_eq_true (ib (ib (al2 (N := 9) (M := 9) ((fun u v => (!decide (nI (zLow u) = 0) || (!decide (nI (zHigh u) = 0) || decide ((0 : Int32) = zEdge u v))))) (by decide +kernel) u hu v hv) c10) c12)), moB_of (by rw [hk0]; exact hP) ht⟩, hS.F ht⟩) hS.2.2 dMo_edge_75
            · refine lv_iload_n hx hb dMo_edge_63 rfl (lv_at hl 2 rfl) ?_
              refine nz_si (As := [.int (nI v)]) (rest := []) S (c_Mo_isLow l v hv) kMo_23 ⟨rfl, rfl, Nat.le_of_ble_eq_true rfl, Nat.le_of_ble_eq_true rfl⟩ ⟨Nat.zero_le _, Nat.zero_le _⟩ (fun _ _ _ _ h => h) (fun _ _ _ => trivial) rfl hl.1 rfl (Nat.le_of_ble_eq_true rfl) dMo_edge_64 (fun r13 er13 => ?_)
              subst er13
              refine lv_if_eq (tgt := 74) hx hb dMo_edge_67 (by decide) (fun c14 => ?_) (fun c14 => ?_)
              · refine lv_iconst (v := 0) hx hb dMo_edge_74 (by decide) ?_
                exact W.iret (v := 0) hx hb hr (fun t ht hW => ⟨⟨(0), (), rfl, fun _ => by rw [eu, ev]; exact (of_decide_eq_true (ib (ib (ib (al2 (N := 9) (M := 9) ((fun u v => (!decide (nI (zLow u) = 0) || (!decide (¬ nI (zHigh u) = 0) || (!decide (nI (zLow v) = 0) || decide ((0 : Int32) = zEdge u v)))))) (by decide +kernel) u hu v hv) c10) c12) c14)), moB_of (by rw [hk0]; exact hP) ht⟩, hS.F ht⟩) hS.2.2 dMo_edge_75
              · refine lv_iconst (v := (-1)) hx hb dMo_edge_70 (by decide) ?_
                refine lv_goto (tgt := 75) hx hb dMo_edge_71 (by decide) ?_
                exact W.iret (v := (-1)) hx hb hr (fun t ht hW => ⟨⟨(-1), (), rfl, fun _ => by rw [eu, ev]; exact (of_decide_eq_true (ib (ib (ib (al2 (N := 9) (M := 9) ((fun u v => (!decide (nI (zLow u) = 0) || (!decide (¬ nI (zHigh u) = 0) || (!decide (¬ nI (zLow v) = 0) || decide (((-1) : Int32) = zEdge u v)))))) (by decide +kernel) u hu v hv) c10) c12) c14)), moB_of (by rw [hk0]; exact hP) ht⟩, hS.F ht⟩) hS.2.2 dMo_edge_75
          · refine lv_iload_n hx hb dMo_edge_45 rfl (lv_at hl 2 rfl) ?_
            refine nz_si (As := [.int (nI v)]) (rest := []) S (c_Mo_isHigh l v hv) kMo_27 ⟨rfl, rfl, Nat.le_of_ble_eq_true rfl, Nat.le_of_ble_eq_true rfl⟩ ⟨Nat.zero_le _, Nat.zero_le _⟩ (fun _ _ _ _ h => h) (fun _ _ _ => trivial) rfl hl.1 rfl (Nat.le_of_ble_eq_true rfl) dMo_edge_46 (fun r15 er15 => ?_)
            subst er15
            refine lv_if_eq (tgt := 56) hx hb dMo_edge_49 (by decide) (fun c16 => ?_) (fun c16 => ?_)
            · refine lv_iload_n hx hb dMo_edge_56 rfl (lv_at hl 1 rfl) ?_
              refine nz_si (As := [.int (nI u)]) (rest := []) S (c_Mo_isHigh l u hu) kMo_27 ⟨rfl, rfl, Nat.le_of_ble_eq_true rfl, Nat.le_of_ble_eq_true rfl⟩ ⟨Nat.zero_le _, Nat.zero_le _⟩ (fun _ _ _ _ h => h) (fun _ _ _ => trivial) rfl hl.1 rfl (Nat.le_of_ble_eq_true rfl) dMo_edge_57 (fun r17 er17 => ?_)
              subst er17
              refine lv_if_eq (tgt := 74) hx hb dMo_edge_60 (by decide) (fun c18 => ?_) (fun c18 => ?_)
              · refine lv_iconst (v := 0) hx hb dMo_edge_74 (by decide) ?_
                exact W.iret (v := 0) hx hb hr (fun t ht hW => ⟨⟨(0), (), rfl, fun _ => by rw [eu, ev]; exact (of_decide_eq_true (ib (ib (ib (al2 (N := 9) (M := 9) ((fun u v => (!decide (¬ nI (zLow u) = 0) || (!decide (nI (zHigh v) = 0) || (!decide (nI (zHigh u) = 0) || decide ((0 : Int32) = zEdge u v)))))) (by decide +kernel) u hu v hv) c10) c16) c18)), moB_of (by rw [hk0]; exact hP) ht⟩, hS.F ht⟩) hS.2.2 dMo_edge_75
              · refine lv_iload_n hx hb dMo_edge_63 rfl (lv_at hl 2 rfl) ?_
                refine nz_si (As := [.int (nI v)]) (rest := []) S (c_Mo_isLow l v hv) kMo_23 ⟨rfl, rfl, Nat.le_of_ble_eq_true rfl, Nat.le_of_ble_eq_true rfl⟩ ⟨Nat.zero_le _, Nat.zero_le _⟩ (fun _ _ _ _ h => h) (fun _ _ _ => trivial) rfl hl.1 rfl (Nat.le_of_ble_eq_true rfl) dMo_edge_64 (fun r19 er19 => ?_)
                subst er19
                refine lv_if_eq (tgt := 74) hx hb dMo_edge_67 (by decide) (fun c20 => ?_) (fun c20 => ?_)
                · refine lv_iconst (v := 0) hx hb dMo_edge_74 (by decide) ?_
                  exact W.iret (v := 0) hx hb hr (fun t ht hW => ⟨⟨(0), (), rfl, fun _ => by rw [eu, ev]; exact (of_decide_eq_true (ib (ib (ib (ib (al2 (N := 9) (M := 9) ((fun u v => (!decide (¬ nI (zLow u) = 0) || (!decide (nI (zHigh v) = 0) || (!decide (¬ nI (zHigh u) = 0) || (!decide (nI (zLow v) = 0) || decide ((0 : Int32) = zEdge u v))))))) (by decide +kernel) u hu v hv) c10) c16) c18) c20)), moB_of (by rw [hk0]; exact hP) ht⟩, hS.F ht⟩) hS.2.2 dMo_edge_75
                · refine lv_iconst (v := (-1)) hx hb dMo_edge_70 (by decide) ?_
                  refine lv_goto (tgt := 75) hx hb dMo_edge_71 (by decide) ?_
                  exact W.iret (v := (-1)) hx hb hr (fun t ht hW => ⟨⟨(-1), (), rfl, fun _ => by rw [eu, ev]; exact (of_decide_eq_true (ib (ib (ib (ib (al2 (N := 9) (M := 9) ((fun u v => (!decide (¬ nI (zLow u) = 0) || (!decide (nI (zHigh v) = 0) || (!decide (¬ nI (zHigh u) = 0) || (!decide (¬ nI (zLow v) = 0) || decide (((-1) : Int32) = zEdge u v))))))) (by decide +kernel) u hu v hv) c10) c16) c18) c20)), moB_of (by rw [hk0]; exact hP) ht⟩, hS.F ht⟩) hS.2.2 dMo_edge_75
            · refine lv_iconst (v := 1) hx hb dMo_edge_52 (by decide) ?_
              refine lv_goto (tgt := 75) hx hb dMo_edge_53 (by decide) ?_
              exact W.iret (v := 1) hx hb hr (fun t ht hW => ⟨⟨(1), (), rfl, fun _ => by rw [eu, ev]; exact (of_decide_eq_true (ib (ib (al2 (N := 9) (M := 9) ((fun u v => (!decide (¬ nI (zLow u) = 0) || (!decide (¬ nI (zHigh v) = 0) || decide ((1 : Int32) = zEdge u v))))) (by decide +kernel) u hu v hv) c10) c16)), moB_of (by rw [hk0]; exact hP) ht⟩, hS.F ht⟩) hS.2.2 dMo_edge_75
        · refine lv_iconst (v := 1) hx hb dMo_edge_21 (by decide) ?_
          refine lv_goto (tgt := 26) hx hb dMo_edge_22 (by decide) ?_
          refine mo_putk (k1 := 1) S hT hK hP hS dMo_edge_26 (fun H locs hP hS => ?_)
          have hk0 : kEdge x1 x2 = 1 := by unfold kEdge; rw [if_pos (Or.inr (Or.inr (Int32.not_le.mp c7)))]
          refine lv_aload_n hx hb dMo_edge_29 rfl (lv_at hl 0 rfl) ?_
          refine mo_getk S hK hP dMo_edge_30 ?_
          refine lv_if_le (tgt := 38) hx hb dMo_edge_33 (by decide) (fun c21 => absurd c21 (by decide)) (fun _ => ?_)
          refine lv_iconst (v := 0) hx hb dMo_edge_36 (by decide) ?_
          exact W.iret (v := 0) hx hb hr (fun t ht hW => ⟨⟨(0), (), rfl, fun h => absurd h (by rw [hk0]; decide), moB_of (by rw [hk0]; exact hP) ht⟩, hS.F ht⟩) hS.2.2 dMo_edge_37
