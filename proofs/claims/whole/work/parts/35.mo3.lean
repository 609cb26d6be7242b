set_option maxHeartbeats 4000000 in
set_option maxRecDepth 100000 in
theorem lpM_bring {p : Program} {e : Env} {s : State} {m : MethodId} {args : Array Value} {below : List Frame} {meth : Method} {c : Code} {Q : State → Prop} (l : Launch) (D : va_G) (cA : ClassId) (T : Nat → Nat) (hT : moT T) (k0 : Int32) (C L O : Nat → Nat) (c0 : Nat) (ok : moOk C L O) (b1 : Nat) (a : Nat) (ha : a < 16) (u : Nat) (N : Nat) (hN : N ≤ 64) (S : CallFix p m c bMo_bring 8 s args nzG RM) (hK : va_K D vwCl (moTy cA) s) (kk : ∀ (H : Heap) (locs : List Loc) (ls : Array Slot), va_P D vwCl (moW cA T k0 C L (pov (fBring b1 (mR C a) (L a)) O 0 N) c0) H → va_S (moA T) s.heap H locs → lv_has ls 8 [(0, .ref (T 0)), (1, .int (nI b1)), (2, .int (nI N)), (3, .int (nI a)), (4, .int (nI u)), (5, .int (nI (L a))), (6, .int (nI (if b1 = 1 then zLast (mR C a) (L a) else 2))), (7, .int (nI N))] → W p l e ({ frames := 1, cells := 0, slots := 0, locals := 22 }) s m args below meth c H locs 0 0 Q (F0 m 124 ls [])) : ∀ (fuel j : Nat), j ≤ N → N < j + fuel → ∀ (H : Heap) (locs : List Loc), va_P D vwCl (moW cA T k0 C L (pov (fBring b1 (mR C a) (L a)) O 0 j) c0) H → va_S (moA T) s.heap H locs → ∀ (ls : Array Slot), lv_has ls 8 [(0, .ref (T 0)), (1, .int (nI b1)), (2, .int (nI N)), (3, .int (nI a)), (4, .int (nI u)), (5, .int (nI (L a))), (6, .int (nI (if b1 = 1 then zLast (mR C a) (L a) else 2))), (7, .int (nI j))] → W p l e ({ frames := 1, cells := 0, slots := 0, locals := 22 }) s m args below meth c H locs 0 0 Q (F0 m 86 ls []) := by
  have hx := S.1
  have hb := S.2.1
  intro fuel
  induction fuel with
  | zero =>
    intro j hj hfu
    exact absurd hfu (by omega)
  | succ fuel ih =>
    intro j hj hfu H locs hP hS ls hl
    have hLa := ok.2.1 a
    refine lv_iload hx hb dMo_bring_86 (lv_at hl 7 rfl) ?_
    refine lv_iload_n hx hb dMo_bring_88 rfl (lv_at hl 2 rfl) ?_
    refine lv_icmp_ge (tgt := 124) hx hb dMo_bring_89 (by decide) (fun c1 => ?_) (fun c1 => ?_)
    · have mc1 : N ≤ j := (nI_leI (a := N) (b := j) (by omega) (by omega)).mp c1
      obtain rfl : j = N := by omega
      exact kk H locs ls hP hS (lv_sub hl [0, 1, 2, 3, 4, 5, 6, 7] rfl)
    · have mc1 : j < N := Nat.lt_of_not_le (fun h => c1 ((nI_leI (a := N) (b := j) (by omega) (by omega)).mpr h))
      refine lv_aload_n hx hb dMo_bring_92 rfl (lv_at hl 0 rfl) ?_
      refine mo_getO S hK hP dMo_bring_93 ?_
      refine lv_iload hx hb dMo_bring_96 (lv_at hl 7 rfl) ?_
      refine lv_iload hx hb dMo_bring_98 (lv_at hl 7 rfl) ?_
      refine lv_iload hx hb dMo_bring_100 (lv_at hl 5 rfl) ?_
      refine lv_icmp_ge (tgt := 115) hx hb dMo_bring_102 (by decide) (fun c2 => ?_) (fun c2 => ?_)
      · have mc2 : (L a) ≤ j := (nI_leI (a := (L a)) (b := j) (by omega) (by omega)).mp c2
        refine lv_iload hx hb dMo_bring_115 (lv_at hl 6 rfl) ?_
        refine nz_eqi (y := nI (fBring b1 (mR C a) (L a) j)) (by unfold fBring; rw [if_neg (Nat.not_lt.mpr mc2)]) ?_
        refine mo_stO (j := j) (v := (fBring b1 (mR C a) (L a)) j) S hT hK hP hS (by omega) dMo_bring_117 (fun H locs hP hS => ?_)
        rw [pov_s0] at hP
        refine lv_iinc (v := nI (j + 1)) (lv' := [(7, .int (nI (j + 1))), (0, .ref (T 0)), (1, .int (nI b1)), (2, .int (nI N)), (3, .int (nI a)), (4, .int (nI u)), (5, .int (nI (L a))), (6, .int (nI (if b1 = 1 then zLast (mR C a) (L a) else 2)))]) hx hb dMo_bring_118 hl (k := 7) rfl (nI_1 j) (by decide) rfl (fun ls hl => ?_)
        refine lv_goto (tgt := 86) hx hb dMo_bring_121 (by decide) ?_
        exact ih (j + 1) (by omega) (by omega) _ _ hP hS ls (lv_sub hl [1, 2, 3, 4, 5, 6, 7, 0] rfl)
      · have mc2 : j < (L a) := Nat.lt_of_not_le (fun h => c2 ((nI_leI (a := (L a)) (b := j) (by omega) (by omega)).mpr h))
        refine lv_aload_n hx hb dMo_bring_105 rfl (lv_at hl 0 rfl) ?_
        refine lv_iload_n hx hb dMo_bring_106 rfl (lv_at hl 3 rfl) ?_
        refine lv_iload hx hb dMo_bring_107 (lv_at hl 7 rfl) ?_
        refine nz_vi (As := [.int (nI a), .int (nI j)]) (rest := [.int (nI j), .ref (T 3)]) S (c_Mo_cell l D cA T hT k0 C L (pov (fBring b1 (mR C a) (L a)) O 0 j) c0 a ha j (by omega)) kMo_40 ⟨rfl, rfl, Nat.le_of_ble_eq_true rfl, Nat.le_of_ble_eq_true rfl⟩ ⟨Nat.zero_le _, Nat.zero_le _⟩ moP.bl (mo_ob hK hP) (moP.to hP hK) rfl hl.1 rfl (Nat.le_of_ble_eq_true rfl) dMo_bring_109 (fun r3 er3 => ?_)
        subst er3
        refine lv_goto (tgt := 117) hx hb dMo_bring_112 (by decide) ?_
        refine nz_eqi (y := nI (fBring b1 (mR C a) (L a) j)) (by unfold fBring; rw [if_pos mc2]) ?_
        refine mo_stO (j := j) (v := (fBring b1 (mR C a) (L a)) j) S hT hK hP hS (by omega) dMo_bring_117 (fun H locs hP hS => ?_)
        rw [pov_s0] at hP
        refine lv_iinc (v := nI (j + 1)) (lv' := [(7, .int (nI (j + 1))), (0, .ref (T 0)), (1, .int (nI b1)), (2, .int (nI N)), (3, .int (nI a)), (4, .int (nI u)), (5, .int (nI (L a))), (6, .int (nI (if b1 = 1 then zLast (mR C a) (L a) else 2)))]) hx hb dMo_bring_118 hl (k := 7) rfl (nI_1 j) (by decide) rfl (fun ls hl => ?_)
        refine lv_goto (tgt := 86) hx hb dMo_bring_121 (by decide) ?_
        exact ih (j + 1) (by omega) (by omega) _ _ hP hS ls (lv_sub hl [1, 2, 3, 4, 5, 6, 7, 0] rfl)
set_option maxHeartbeats 4000000 in
set_option maxRecDepth 100000 in
theorem c_Mo_bring (l : Launch) (D : va_G) (cA : ClassId) (T : Nat → Nat) (hT : moT T) (k0 : Int32) (C L O : Nat → Nat) (c0 : Nat) (ok : moOk C L O) (b1 : Nat) (hb1 : b1 < 2) (x2 x3 x4 : Int32) : Met l yMo_bring (Cond.code yMo_bring bMo_bring 8 none :: nzG) ({ frames := 1, cells := 0, slots := 0, locals := 22 }) (va_Pc [.ref (T 0), .int (nI b1), .int x2, .int x3, .int x4] (moP D cA (moW cA T k0 C L O c0))) (va_Qv (fun _ : Unit => True) (fun _ t => moV D cA T C L (kBring x2 x3 x4) (ix x4) (ix x2) (fBring b1 (mR C (ix x3)) (L (ix x3))) t) (moA T)) 0 0 (moA T) := by
  refine nz_of (own := RM) (by decide) rfl ?_
  intro p e s m args below meth c S hr hlocks _ hv9
  obtain ⟨rfl, hP, hK⟩ := hv9
  have hS : va_S (moA T) s.heap s.heap [] := va_S.rf
  have hx := S.1
  have hb := S.2.1
  refine nz_entry (vs := [.ref (T 0), .int (nI b1), .int x2, .int x3, .int x4]) (n := 8) (lv := [(0, .ref (T 0)), (1, .int (nI b1)), (2, .int x2), (3, .int x3), (4, .int x4)]) (Nat.le_of_ble_eq_true rfl) rfl (fun ls hl => ?_)
  refine lv_aload_n hx hb dMo_bring_0 rfl (lv_at hl 0 rfl) ?_
  refine lv_iload_n hx hb dMo_bring_1 rfl (lv_at hl 3 rfl) ?_
  refine nz_si (As := [.int x3]) (rest := [.ref (T 0)]) S (c_Mo_none l x3) kMo_33 ⟨rfl, rfl, Nat.le_of_ble_eq_true rfl, Nat.le_of_ble_eq_true rfl⟩ ⟨Nat.zero_le _, Nat.zero_le _⟩ (fun _ _ _ _ h => h) (fun _ _ _ => trivial) rfl hl.1 rfl (Nat.le_of_ble_eq_true rfl) dMo_bring_2 (fun r1 er1 => ?_)
  subst er1
  refine lv_if_ne (tgt := 16) hx hb dMo_bring_5 (by decide) (fun c2 => ?_) (fun c2 => ?_)
  · have bc2 := ifn_y c2
    refine lv_iconst (v := 1) hx hb dMo_bring_16 (by decide) ?_
    refine lv_goto (tgt := 35) hx hb dMo_bring_17 (by decide) ?_
    refine mo_putk (k1 := 1) S hT hK hP hS dMo_bring_35 (fun H locs hP hS => ?_)
    have hk0 : kBring x2 x3 x4 = 1 := by unfold kBring; rw [if_pos (Or.inl bc2)]
    refine lv_aload_n hx hb dMo_bring_38 rfl (lv_at hl 0 rfl) ?_
    refine mo_getk S hK hP dMo_bring_39 ?_
    refine lv_if_le (tgt := 46) hx hb dMo_bring_42 (by decide) (fun c3 => absurd c3 (by decide)) (fun _ => ?_)
    exact W.vret hx hb hr (fun t ht hW => ⟨⟨(), rfl, trivial, C, L, O, c0, fun h => absurd h (by rw [hk0]; decide), fun _ => ⟨rfl, rfl⟩, ok, by rw [hk0, ht]; exact hP⟩, hS.F ht⟩) hS.2.2 dMo_bring_45
  · have bc2 := ifn_n c2
    obtain ⟨a, ha, rfl⟩ := plB_not bc2
    have ea : ix (nI a) = a := ix_nI (by omega)
    refine lv_iload hx hb dMo_bring_8 (lv_at hl 4 rfl) ?_
    refine nz_si (As := [.int x4]) (rest := [.ref (T 0)]) S (c_Mo_none l x4) kMo_33 ⟨rfl, rfl, Nat.le_of_ble_eq_true rfl, Nat.le_of_ble_eq_true rfl⟩ ⟨Nat.zero_le _, Nat.zero_le _⟩ (fun _ _ _ _ h => h) (fun _ _ _ => trivial) rfl hl.1 rfl (Nat.le_of_ble_eq_true rfl) dMo_bring_10 (fun r4 er4 => ?_)
    subst er4
    refine lv_if_eq (tgt := 20) hx hb dMo_bring_13 (by decide) (fun c5 => ?_) (fun c5 => ?_)
    · have bc5 := ifn_n c5
      obtain ⟨u, hu, rfl⟩ := plB_not bc5
      have eu : ix (nI u) = u := ix_nI (by omega)
      refine lv_iload_n hx hb dMo_bring_20 rfl (lv_at hl 2 rfl) ?_
      refine lv_if_lt (tgt := 30) hx hb dMo_bring_21 (by decide) (fun c6 => ?_) (fun c6 => ?_)
      · refine lv_iconst (v := 2) hx hb dMo_bring_30 (by decide) ?_
        refine lv_goto (tgt := 35) hx hb dMo_bring_31 (by decide) ?_
        refine mo_putk (k1 := 2) S hT hK hP hS dMo_bring_35 (fun H locs hP hS => ?_)
        have hk0 : kBring x2 (nI a) (nI u) = 2 := by unfold kBring; rw [if_neg (fun h => h.elim bc2 bc5), if_pos (Or.inl c6)]
        refine lv_aload_n hx hb dMo_bring_38 rfl (lv_at hl 0 rfl) ?_
        refine mo_getk S hK hP dMo_bring_39 ?_
        refine lv_if_le (tgt := 46) hx hb dMo_bring_42 (by decide) (fun c7 => absurd c7 (by decide)) (fun _ => ?_)
        exact W.vret hx hb hr (fun t ht hW => ⟨⟨(), rfl, trivial, C, L, O, c0, fun h => absurd h (by rw [hk0]; decide), fun _ => ⟨rfl, rfl⟩, ok, by rw [hk0, ht]; exact hP⟩, hS.F ht⟩) hS.2.2 dMo_bring_45
      · refine lv_iload_n hx hb dMo_bring_24 rfl (lv_at hl 2 rfl) ?_
        refine lv_bipush (v := 64) hx hb dMo_bring_25 (by decide) ?_
        refine lv_icmp_le (tgt := 34) hx hb dMo_bring_27 (by decide) (fun c8 => ?_) (fun c8 => ?_)
        · refine lv_iconst (v := 0) hx hb dMo_bring_34 (by decide) ?_
          refine mo_putk (k1 := 0) S hT hK hP hS dMo_bring_35 (fun H locs hP hS => ?_)
          have hk0 : kBring x2 (nI a) (nI u) = 0 := by unfold kBring; rw [if_neg (fun h => h.elim bc2 bc5), if_neg (fun h => h.elim c6 (fun q => Int32.not_lt.mpr c8 q))]
          obtain ⟨N, hN, rfl⟩ := lenB_not (fun h => h.elim c6 (fun q => Int32.not_lt.mpr c8 q))
          have eN : ix (nI N) = N := ix_nI (by omega)
          have hLa := ok.2.1 a
          refine lv_aload_n hx hb dMo_bring_38 rfl (lv_at hl 0 rfl) ?_
          refine mo_getk S hK hP dMo_bring_39 ?_
          refine lv_if_le (tgt := 46) hx hb dMo_bring_42 (by decide) (fun _ => ?_) (fun c9 => absurd (by decide) c9)
          refine lv_aload_n hx hb dMo_bring_46 rfl (lv_at hl 0 rfl) ?_
          refine mo_getL S hK hP dMo_bring_47 ?_
          refine lv_iload_n hx hb dMo_bring_50 rfl (lv_at hl 3 rfl) ?_
          refine mo_ldL (j := a) S hK hP ha dMo_bring_51 ?_
          refine lv_istore (lv' := [(5, .int (nI (L a))), (0, .ref (T 0)), (1, .int (nI b1)), (2, .int (nI N)), (3, .int (nI a)), (4, .int (nI u))]) hx hb dMo_bring_52 hl (by decide) rfl (fun ls hl => ?_)
          refine lv_iload_n hx hb dMo_bring_54 rfl (lv_at hl 2 rfl) ?_
          refine lv_if_eq (tgt := 75) hx hb dMo_bring_55 (by decide) (fun c10 => ?_) (fun c10 => ?_)
          · have mc10 : b1 = 0 := (nI_eq (a := b1) (b := 0) (by omega) (by omega)).mp c10
            refine lv_iconst (v := 2) hx hb dMo_bring_75 (by decide) ?_
            refine nz_eqi (y := nI (if b1 = 1 then zLast (mR C a) (L a) else 2)) (by rw [if_neg (by omega)]; rfl) ?_
            refine lv_istore (lv' := [(6, .int (nI (if b1 = 1 then zLast (mR C a) (L a) else 2))), (5, .int (nI (L a))), (0, .ref (T 0)), (1, .int (nI b1)), (2, .int (nI N)), (3, .int (nI a)), (4, .int (nI u))]) hx hb dMo_bring_76 hl (by decide) rfl (fun ls hl => ?_)
            refine lv_aload_n hx hb dMo_bring_78 rfl (lv_at hl 2 rfl) ?_
            refine lv_iload_n hx hb dMo_bring_79 rfl (lv_at hl 4 rfl) ?_
            refine mo_putc (c1 := N) S hT hK hP hS dMo_bring_80 (fun H locs hP hS => ?_)
            refine lv_iconst (v := 0) hx hb dMo_bring_83 (by decide) ?_
            refine lv_istore (lv' := [(7, .int 0), (6, .int (nI (if b1 = 1 then zLast (mR C a) (L a) else 2))), (5, .int (nI (L a))), (0, .ref (T 0)), (1, .int (nI b1)), (2, .int (nI N)), (3, .int (nI a)), (4, .int (nI u))]) hx hb dMo_bring_84 hl (by decide) rfl (fun ls hl => ?_)
            rw [← pov_0 (fBring b1 (mR C a) (L a)) (O) 0] at hP
            refine lpM_bring l D cA T hT 0 C L O N ok b1 a ha u N hN S hK (fun H locs ls hP hS hl => ?_) (N + 1) 0 (by omega) (by omega) _ _ hP hS ls (lv_sub hl [3, 4, 5, 6, 7, 2, 1, 0] rfl)
            refine lv_aload_n hx hb dMo_bring_124 rfl (lv_at hl 0 rfl) ?_
            refine lv_iload hx hb dMo_bring_125 (lv_at hl 4 rfl) ?_
            refine mo_call (As := [.int (nI u)]) (rest := []) S (c_Mo_keep l D cA T hT 0 C L (pov (fBring b1 (mR C a) (L a)) O 0 N) N u hu hN) kMo_36 ⟨rfl, rfl, Nat.le_of_ble_eq_true rfl, Nat.le_of_ble_eq_true rfl⟩ ⟨Nat.zero_le _, Nat.zero_le _⟩ (mo_ob hK hP) hP hK hS rfl hl.1 rfl (Nat.le_of_ble_eq_true rfl) dMo_bring_127 (fun H locs hP hS => ?_)
            refine W.vret hx hb hr (fun t ht hW => ⟨⟨(), rfl, trivial, moK C (pov (fBring b1 (mR C a) (L a)) O 0 N) u N, va_up L u N, (pov (fBring b1 (mR C a) (L a)) O 0 N), N, fun _ => ?_, fun h => absurd hk0 h, moOk_keep (moOk_O ok (pov_lt (fun k _ _ => by unfold fBring; split; exact ok.1 _; split; exact zLast_lt (fun k => ok.1 _) _; decide) ok.2.2)) hN, by rw [hk0, ht]; exact hP⟩, hS.F ht⟩) hS.2.2 dMo_bring_130
            rw [eu]
            exact moU_eq (moU_keep hN) (by rw [eN]) (by rw [eN, ea]; exact fun k hk => pov_in (Nat.zero_le _) (by omega))
          · have mc10 : ¬ b1 = 0 := fun h => c10 ((nI_eq (a := b1) (b := 0) (by omega) (by omega)).mpr h)
            refine lv_iload hx hb dMo_bring_58 (lv_at hl 0 rfl) ?_
            refine lv_if_le (tgt := 75) hx hb dMo_bring_60 (by decide) (fun c11 => ?_) (fun c11 => ?_)
            · have mc11 : (L a) ≤ 0 := (nI_leI (a := (L a)) (b := 0) (by omega) (by omega)).mp c11
              refine lv_iconst (v := 2) hx hb dMo_bring_75 (by decide) ?_
              refine nz_eqi (y := nI (if b1 = 1 then zLast (mR C a) (L a) else 2)) (by rw [if_pos (by omega), show zLast (mR C a) (L a) = 2 from if_pos (by omega)]; rfl) ?_
              refine lv_istore (lv' := [(6, .int (nI (if b1 = 1 then zLast (mR C a) (L a) else 2))), (5, .int (nI (L a))), (0, .ref (T 0)), (1, .int (nI b1)), (2, .int (nI N)), (3, .int (nI a)), (4, .int (nI u))]) hx hb dMo_bring_76 hl (by decide) rfl (fun ls hl => ?_)
              refine lv_aload_n hx hb dMo_bring_78 rfl (lv_at hl 2 rfl) ?_
              refine lv_iload_n hx hb dMo_bring_79 rfl (lv_at hl 4 rfl) ?_
              refine mo_putc (c1 := N) S hT hK hP hS dMo_bring_80 (fun H locs hP hS => ?_)
              refine lv_iconst (v := 0) hx hb dMo_bring_83 (by decide) ?_
              refine lv_istore (lv' := [(7, .int 0), (6, .int (nI (if b1 = 1 then zLast (mR C a) (L a) else 2))), (5, .int (nI (L a))), (0, .ref (T 0)), (1, .int (nI b1)), (2, .int (nI N)), (3, .int (nI a)), (4, .int (nI u))]) hx hb dMo_bring_84 hl (by decide) rfl (fun ls hl => ?_)
              rw [← pov_0 (fBring b1 (mR C a) (L a)) (O) 0] at hP
              refine lpM_bring l D cA T hT 0 C L O N ok b1 a ha u N hN S hK (fun H locs ls hP hS hl => ?_) (N + 1) 0 (by omega) (by omega) _ _ hP hS ls (lv_sub hl [3, 4, 5, 6, 7, 2, 1, 0] rfl)
              refine lv_aload_n hx hb dMo_bring_124 rfl (lv_at hl 0 rfl) ?_
              refine lv_iload hx hb dMo_bring_125 (lv_at hl 4 rfl) ?_
              refine mo_call (As := [.int (nI u)]) (rest := []) S (c_Mo_keep l D cA T hT 0 C L (pov (fBring b1 (mR C a) (L a)) O 0 N) N u hu hN) kMo_36 ⟨rfl, rfl, Nat.le_of_ble_eq_true rfl, Nat.le_of_ble_eq_true rfl⟩ ⟨Nat.zero_le _, Nat.zero_le _⟩ (mo_ob hK hP) hP hK hS rfl hl.1 rfl (Nat.le_of_ble_eq_true rfl) dMo_bring_127 (fun H locs hP hS => ?_)
              refine W.vret hx hb hr (fun t ht hW => ⟨⟨(), rfl, trivial, moK C (pov (fBring b1 (mR C a) (L a)) O 0 N) u N, va_up L u N, (pov (fBring b1 (mR C a) (L a)) O 0 N), N, fun _ => ?_, fun h => absurd hk0 h, moOk_keep (moOk_O ok (pov_lt (fun k _ _ => by unfold fBring; split; exact ok.1 _; split; exact zLast_lt (fun k => ok.1 _) _; decide) ok.2.2)) hN, by rw [hk0, ht]; exact hP⟩, hS.F ht⟩) hS.2.2 dMo_bring_130
              rw [eu]
              exact moU_eq (moU_keep hN) (by rw [eN]) (by rw [eN, ea]; exact fun k hk => pov_in (Nat.zero_le _) (by omega))
            · have mc11 : 0 < (L a) := Nat.lt_of_not_le (fun h => c11 ((nI_leI (a := (L a)) (b := 0) (by omega) (by omega)).mpr h))
              refine lv_aload_n hx hb dMo_bring_63 rfl (lv_at hl 1 rfl) ?_
              refine lv_iload_n hx hb dMo_bring_64 rfl (lv_at hl 4 rfl) ?_
              refine lv_iload hx hb dMo_bring_65 (lv_at hl 0 rfl) ?_
              refine lv_iconst (v := 1) hx hb dMo_bring_67 (by decide) ?_
              refine lv_isub hx hb dMo_bring_68 ?_
              refine nz_eqi (show nI (L a) - nI 1 = nI (L a - 1) from pk_sub (by omega)) ?_
              refine nz_vi (As := [.int (nI a), .int (nI (L a - 1))]) (rest := []) S (c_Mo_cell l D cA T hT 0 C L O c0 a ha (L a - 1) (by omega)) kMo_40 ⟨rfl, rfl, Nat.le_of_ble_eq_true rfl, Nat.le_of_ble_eq_true rfl⟩ ⟨Nat.zero_le _, Nat.zero_le _⟩ moP.bl (mo_ob hK hP) (moP.to hP hK) rfl hl.1 rfl (Nat.le_of_ble_eq_true rfl) dMo_bring_69 (fun r12 er12 => ?_)
              subst er12
              refine lv_goto (tgt := 76) hx hb dMo_bring_72 (by decide) ?_
              refine nz_eqi (y := nI (if b1 = 1 then zLast (mR C a) (L a) else 2)) (by rw [if_pos (by omega), show zLast (mR C a) (L a) = mR C a (L a - 1) from if_neg (by omega)]) ?_
              refine lv_istore (lv' := [(6, .int (nI (if b1 = 1 then zLast (mR C a) (L a) else 2))), (5, .int (nI (L a))), (0, .ref (T 0)), (1, .int (nI b1)), (2, .int (nI N)), (3, .int (nI a)), (4, .int (nI u))]) hx hb dMo_bring_76 hl (by decide) rfl (fun ls hl => ?_)
              refine lv_aload_n hx hb dMo_bring_78 rfl (lv_at hl 2 rfl) ?_
              refine lv_iload_n hx hb dMo_bring_79 rfl (lv_at hl 4 rfl) ?_
              refine mo_putc (c1 := N) S hT hK hP hS dMo_bring_80 (fun H locs hP hS => ?_)
              refine lv_iconst (v := 0) hx hb dMo_bring_83 (by decide) ?_
              refine lv_istore (lv' := [(7, .int 0), (6, .int (nI (if b1 = 1 then zLast (mR C a) (L a) else 2))), (5, .int (nI (L a))), (0, .ref (T 0)), (1, .int (nI b1)), (2, .int (nI N)), (3, .int (nI a)), (4, .int (nI u))]) hx hb dMo_bring_84 hl (by decide) rfl (fun ls hl => ?_)
              rw [← pov_0 (fBring b1 (mR C a) (L a)) (O) 0] at hP
              refine lpM_bring l D cA T hT 0 C L O N ok b1 a ha u N hN S hK (fun H locs ls hP hS hl => ?_) (N + 1) 0 (by omega) (by omega) _ _ hP hS ls (lv_sub hl [3, 4, 5, 6, 7, 2, 1, 0] rfl)
              refine lv_aload_n hx hb dMo_bring_124 rfl (lv_at hl 0 rfl) ?_
              refine lv_iload hx hb dMo_bring_125 (lv_at hl 4 rfl) ?_
              refine mo_call (As := [.int (nI u)]) (rest := []) S (c_Mo_keep l D cA T hT 0 C L (pov (fBring b1 (mR C a) (L a)) O 0 N) N u hu hN) kMo_36 ⟨rfl, rfl, Nat.le_of_ble_eq_true rfl, Nat.le_of_ble_eq_true rfl⟩ ⟨Nat.zero_le _, Nat.zero_le _⟩ (mo_ob hK hP) hP hK hS rfl hl.1 rfl (Nat.le_of_ble_eq_true rfl) dMo_bring_127 (fun H locs hP hS => ?_)
              refine W.vret hx hb hr (fun t ht hW => ⟨⟨(), rfl, trivial, moK C (pov (fBring b1 (mR C a) (L a)) O 0 N) u N, va_up L u N, (pov (fBring b1 (mR C a) (L a)) O 0 N), N, fun _ => ?_, fun h => absurd hk0 h, moOk_keep (moOk_O ok (pov_lt (fun k _ _ => by unfold fBring; split; exact ok.1 _; split; exact zLast_lt (fun k => ok.1 _) _; decide) ok.2.2)) hN, by rw [hk0, ht]; exact hP⟩, hS.F ht⟩) hS.2.2 dMo_bring_130
              rw [eu]
              exact moU_eq (moU_keep hN) (by rw [eN]) (by rw [eN, ea]; exact fun k hk => pov_in (Nat.zero_le _) (by omega))
        · refine lv_iconst (v := 2) hx hb dMo_bring_30 (by decide) ?_
          refine lv_goto (tgt := 35) hx hb dMo_bring_31 (by decide) ?_
          refine mo_putk (k1 := 2) S hT hK hP hS dMo_bring_35 (fun H locs hP hS => ?_)
          have hk0 : kBring x2 (nI a) (nI u) = 2 := by unfold kBring; rw [if_neg (fun h => h.elim bc2 bc5), if_pos (Or.inr (Int32.not_le.mp c8))]
          refine lv_aload_n hx hb dMo_bring_38 rfl (lv_at hl 0 rfl) ?_
          refine mo_getk S hK hP dMo_bring_39 ?_
          refine lv_if_le (tgt := 46) hx hb dMo_bring_42 (by decide) (fun c13 => absurd c13 (by decide)) (fun _ => ?_)
          exact W.vret hx hb hr (fun t ht hW => ⟨⟨(), rfl, trivial, C, L, O, c0, fun h => absurd h (by rw [hk0]; decide), fun _ => ⟨rfl, rfl⟩, ok, by rw [hk0, ht]; exact hP⟩, hS.F ht⟩) hS.2.2 dMo_bring_45
    · have bc5 := ifn_y c5
      refine lv_iconst (v := 1) hx hb dMo_bring_16 (by decide) ?_
      refine lv_goto (tgt := 35) hx hb dMo_bring_17 (by decide) ?_
      refine mo_putk (k1 := 1) S hT hK hP hS dMo_bring_35 (fun H locs hP hS => ?_)
      have hk0 : kBring x2 (nI a) x4 = 1 := by unfold kBring; rw [if_pos (Or.inr bc5)]
      refine lv_aload_n hx hb dMo_bring_38 rfl (lv_at hl 0 rfl) ?_
      refine mo_getk S hK hP dMo_bring_39 ?_
      refine lv_if_le (tgt := 46) hx hb dMo_bring_42 (by decide) (fun c14 => absurd c14 (by decide)) (fun _ => ?_)
      exact W.vret hx hb hr (fun t ht hW => ⟨⟨(), rfl, trivial, C, L, O, c0, fun h => absurd h (by rw [hk0]; decide), fun _ => ⟨rfl, rfl⟩, ok, by rw [hk0, ht]; exact hP⟩, hS.F ht⟩) hS.2.2 dMo_bring_45
set_option maxHeartbeats 4000000 in
set_option maxRecDepth 100000 in
theorem lpM_cut {p : Program} {e : Env} {s : State} {m : MethodId} {args : Array Value} {below : List Frame} {meth : Method} {c : Code} {Q : State → Prop} (l : Launch) (D : va_G) (cA : ClassId) (T : Nat → Nat) (hT : moT T) (k0 : Int32) (C L O : Nat → Nat) (c0 : Nat) (k : Nat) (N : Nat) (a : Nat) (ha : a < 16) (u : Nat) (hkN : k + N ≤ 64) (hN : N ≤ 64) (S : CallFix p m c bMo_cut 6 s args nzG RM) (hK : va_K D vwCl (moTy cA) s) (kk : ∀ (H : Heap) (locs : List Loc) (ls : Array Slot), va_P D vwCl (moW cA T k0 C L (pov (fun j => mR C a (k + j)) O 0 N) c0) H → va_S (moA T) s.heap H locs → lv_has ls 6 [(0, .ref (T 0)), (1, .int (nI k)), (2, .int (nI N)), (3, .int (nI a)), (4, .int (nI u)), (5, .int (nI N))] → W p l e ({ frames := 1, cells := 0, slots := 0, locals := 22 }) s m args below meth c H locs 0 0 Q (F0 m 114 ls [])) : ∀ (fuel j : Nat), j ≤ N → N < j + fuel → ∀ (H : Heap) (locs : List Loc), va_P D vwCl (moW cA T k0 C L (pov (fun j => mR C a (k + j)) O 0 j) c0) H → va_S (moA T) s.heap H locs → ∀ (ls : Array Slot), lv_has ls 6 [(0, .ref (T 0)), (1, .int (nI k)), (2, .int (nI N)), (3, .int (nI a)), (4, .int (nI u)), (5, .int (nI j))] → W p l e ({ frames := 1, cells := 0, slots := 0, locals := 22 }) s m args below meth c H locs 0 0 Q (F0 m 86 ls []) := by
  have hx := S.1
  have hb := S.2.1
  intro fuel
  induction fuel with
  | zero =>
    intro j hj hfu
    exact absurd hfu (by omega)
  | succ fuel ih =>
    intro j hj hfu H locs hP hS ls hl
    refine lv_iload hx hb dMo_cut_86 (lv_at hl 5 rfl) ?_
    refine lv_iload_n hx hb dMo_cut_88 rfl (lv_at hl 2 rfl) ?_
    refine lv_icmp_ge (tgt := 114) hx hb dMo_cut_89 (by decide) (fun c1 => ?_) (fun c1 => ?_)
    · have mc1 : N ≤ j := (nI_leI (a := N) (b := j) (by omega) (by omega)).mp c1
      obtain rfl : j = N := by omega
      exact kk H locs ls hP hS (lv_sub hl [0, 1, 2, 3, 4, 5] rfl)
    · have mc1 : j < N := Nat.lt_of_not_le (fun h => c1 ((nI_leI (a := N) (b := j) (by omega) (by omega)).mpr h))
      refine lv_aload_n hx hb dMo_cut_92 rfl (lv_at hl 0 rfl) ?_
      refine mo_getO S hK hP dMo_cut_93 ?_
      refine lv_iload hx hb dMo_cut_96 (lv_at hl 5 rfl) ?_
      refine lv_aload_n hx hb dMo_cut_98 rfl (lv_at hl 0 rfl) ?_
      refine lv_iload_n hx hb dMo_cut_99 rfl (lv_at hl 3 rfl) ?_
      refine lv_iload_n hx hb dMo_cut_100 rfl (lv_at hl 1 rfl) ?_
      refine lv_iload hx hb dMo_cut_101 (lv_at hl 5 rfl) ?_
      refine lv_iadd hx hb dMo_cut_103 ?_
      refine nz_eqi (nI_add k j) ?_
      refine nz_vi (As := [.int (nI a), .int (nI (k + j))]) (rest := [.int (nI j), .ref (T 3)]) S (c_Mo_cell l D cA T hT k0 C L (pov (fun j => mR C a (k + j)) O 0 j) c0 a ha (k + j) (by omega)) kMo_40 ⟨rfl, rfl, Nat.le_of_ble_eq_true rfl, Nat.le_of_ble_eq_true rfl⟩ ⟨Nat.zero_le _, Nat.zero_le _⟩ moP.bl (mo_ob hK hP) (moP.to hP hK) rfl hl.1 rfl (Nat.le_of_ble_eq_true rfl) dMo_cut_104 (fun r2 er2 => ?_)
      subst er2
      refine nz_eqi (y := nI ((fun j => mR C a (k + j)) j)) rfl ?_
      refine mo_stO (j := j) (v := (fun j => mR C a (k + j)) j) S hT hK hP hS (by omega) dMo_cut_107 (fun H locs hP hS => ?_)
      rw [pov_s0] at hP
      refine lv_iinc (v := nI (j + 1)) (lv' := [(5, .int (nI (j + 1))), (0, .ref (T 0)), (1, .int (nI k)), (2, .int (nI N)), (3, .int (nI a)), (4, .int (nI u))]) hx hb dMo_cut_108 hl (k := 5) rfl (nI_1 j) (by decide) rfl (fun ls hl => ?_)
      refine lv_goto (tgt := 86) hx hb dMo_cut_111 (by decide) ?_
      exact ih (j + 1) (by omega) (by omega) _ _ hP hS ls (lv_sub hl [1, 2, 3, 4, 5, 0] rfl)
set_option maxHeartbeats 4000000 in
set_option maxRecDepth 100000 in
theorem c_Mo_cut (l : Launch) (D : va_G) (cA : ClassId) (T : Nat → Nat) (hT : moT T) (k0 : Int32) (C L O : Nat → Nat) (c0 : Nat) (ok : moOk C L O) (x1 x2 x3 x4 : Int32) : Met l yMo_cut (Cond.code yMo_cut bMo_cut 6 none :: nzG) ({ frames := 1, cells := 0, slots := 0, locals := 22 }) (va_Pc [.ref (T 0), .int x1, .int x2, .int x3, .int x4] (moP D cA (moW cA T k0 C L O c0))) (va_Qv (fun _ : Unit => True) (fun _ t => moV D cA T C L (kCut L x1 x2 x3 x4) (ix x4) (ix x2) (fun i => mR C (ix x3) (ix x1 + i)) t) (moA T)) 0 0 (moA T) := by
  refine nz_of (own := RM) (by decide) rfl ?_
  intro p e s m args below meth c S hr hlocks _ hv9
  obtain ⟨rfl, hP, hK⟩ := hv9
  have hS : va_S (moA T) s.heap s.heap [] := va_S.rf
  have hx := S.1
  have hb := S.2.1
  refine nz_entry (vs := [.ref (T 0), .int x1, .int x2, .int x3, .int x4]) (n := 6) (lv := [(0, .ref (T 0)), (1, .int x1), (2, .int x2), (3, .int x3), (4, .int x4)]) (Nat.le_of_ble_eq_true rfl) rfl (fun ls hl => ?_)
  refine lv_aload_n hx hb dMo_cut_0 rfl (lv_at hl 0 rfl) ?_
  refine lv_iload_n hx hb dMo_cut_1 rfl (lv_at hl 3 rfl) ?_
  refine nz_si (As := [.int x3]) (rest := [.ref (T 0)]) S (c_Mo_none l x3) kMo_33 ⟨rfl, rfl, Nat.le_of_ble_eq_true rfl, Nat.le_of_ble_eq_true rfl⟩ ⟨Nat.zero_le _, Nat.zero_le _⟩ (fun _ _ _ _ h => h) (fun _ _ _ => trivial) rfl hl.1 rfl (Nat.le_of_ble_eq_true rfl) dMo_cut_2 (fun r1 er1 => ?_)
  subst er1
  refine lv_if_ne (tgt := 16) hx hb dMo_cut_5 (by decide) (fun c2 => ?_) (fun c2 => ?_)
  · have bc2 := ifn_y c2
    refine lv_iconst (v := 1) hx hb dMo_cut_16 (by decide) ?_
    refine lv_goto (tgt := 21) hx hb dMo_cut_17 (by decide) ?_
    refine mo_putk (k1 := 1) S hT hK hP hS dMo_cut_21 (fun H locs hP hS => ?_)
    have hk0 : kCut L x1 x2 x3 x4 = 1 := if_pos (Or.inl bc2)
    refine lv_aload_n hx hb dMo_cut_24 rfl (lv_at hl 0 rfl) ?_
    refine mo_getk S hK hP dMo_cut_25 ?_
    refine lv_if_ne (tgt := 70) hx hb dMo_cut_28 (by decide) (fun _ => ?_) (fun c3 => absurd c3 (by decide))
    refine lv_aload_n hx hb dMo_cut_70 rfl (lv_at hl 0 rfl) ?_
    refine mo_getk S hK hP dMo_cut_71 ?_
    refine lv_if_le (tgt := 78) hx hb dMo_cut_74 (by decide) (fun c4 => absurd c4 (by decide)) (fun _ => ?_)
    exact W.vret hx hb hr (fun t ht hW => ⟨⟨(), rfl, trivial, C, L, O, c0, fun h => absurd h (by rw [hk0]; decide), fun _ => ⟨rfl, rfl⟩, ok, by rw [hk0, ht]; exact hP⟩, hS.F ht⟩) hS.2.2 dMo_cut_77
  · have bc2 := ifn_n c2
    obtain ⟨a, ha, rfl⟩ := plB_not bc2
    have ea : ix (nI a) = a := ix_nI (by omega)
    refine lv_iload hx hb dMo_cut_8 (lv_at hl 4 rfl) ?_
    refine nz_si (As := [.int x4]) (rest := [.ref (T 0)]) S (c_Mo_none l x4) kMo_33 ⟨rfl, rfl, Nat.le_of_ble_eq_true rfl, Nat.le_of_ble_eq_true rfl⟩ ⟨Nat.zero_le _, Nat.zero_le _⟩ (fun _ _ _ _ h => h) (fun _ _ _ => trivial) rfl hl.1 rfl (Nat.le_of_ble_eq_true rfl) dMo_cut_10 (fun r5 er5 => ?_)
    subst er5
    refine lv_if_eq (tgt := 20) hx hb dMo_cut_13 (by decide) (fun c6 => ?_) (fun c6 => ?_)
    · have bc6 := ifn_n c6
      obtain ⟨u, hu, rfl⟩ := plB_not bc6
      have eu : ix (nI u) = u := ix_nI (by omega)
      refine lv_iconst (v := 0) hx hb dMo_cut_20 (by decide) ?_
      refine mo_putk (k1 := 0) S hT hK hP hS dMo_cut_21 (fun H locs hP hS => ?_)
      refine lv_aload_n hx hb dMo_cut_24 rfl (lv_at hl 0 rfl) ?_
      refine mo_getk S hK hP dMo_cut_25 ?_
      refine lv_if_ne (tgt := 70) hx hb dMo_cut_28 (by decide) (fun c7 => absurd (by decide) c7) (fun _ => ?_)
      refine lv_aload_n hx hb dMo_cut_31 rfl (lv_at hl 0 rfl) ?_
      refine lv_iload_n hx hb dMo_cut_32 rfl (lv_at hl 1 rfl) ?_
      refine lv_if_lt (tgt := 62) hx hb dMo_cut_33 (by decide) (fun c8 => ?_) (fun c8 => ?_)
      · refine lv_iconst (v := 1) hx hb dMo_cut_62 (by decide) ?_
        refine lv_goto (tgt := 67) hx hb dMo_cut_63 (by decide) ?_
        refine mo_putk (k1 := 1) S hT hK hP hS dMo_cut_67 (fun H locs hP hS => ?_)
        have hk0 : kCut L x1 x2 (nI a) (nI u) = 1 := if_pos (Or.inr (Or.inr (Or.inl c8)))
        refine lv_aload_n hx hb dMo_cut_70 rfl (lv_at hl 0 rfl) ?_
        refine mo_getk S hK hP dMo_cut_71 ?_
        refine lv_if_le (tgt := 78) hx hb dMo_cut_74 (by decide) (fun c9 => absurd c9 (by decide)) (fun _ => ?_)
        exact W.vret hx hb hr (fun t ht hW => ⟨⟨(), rfl, trivial, C, L, O, c0, fun h => absurd h (by rw [hk0]; decide), fun _ => ⟨rfl, rfl⟩, ok, by rw [hk0, ht]; exact hP⟩, hS.F ht⟩) hS.2.2 dMo_cut_77
      · refine lv_iload_n hx hb dMo_cut_36 rfl (lv_at hl 2 rfl) ?_
        refine lv_if_lt (tgt := 62) hx hb dMo_cut_37 (by decide) (fun c10 => ?_) (fun c10 => ?_)
        · refine lv_iconst (v := 1) hx hb dMo_cut_62 (by decide) ?_
          refine lv_goto (tgt := 67) hx hb dMo_cut_63 (by decide) ?_
          refine mo_putk (k1 := 1) S hT hK hP hS dMo_cut_67 (fun H locs hP hS => ?_)
          have hk0 : kCut L x1 x2 (nI a) (nI u) = 1 := if_pos (Or.inr (Or.inr (Or.inr (Or.inr (Or.inl c10)))))
          refine lv_aload_n hx hb dMo_cut_70 rfl (lv_at hl 0 rfl) ?_
          refine mo_getk S hK hP dMo_cut_71 ?_
          refine lv_if_le (tgt := 78) hx hb dMo_cut_74 (by decide) (fun c11 => absurd c11 (by decide)) (fun _ => ?_)
          exact W.vret hx hb hr (fun t ht hW => ⟨⟨(), rfl, trivial, C, L, O, c0, fun h => absurd h (by rw [hk0]; decide), fun _ => ⟨rfl, rfl⟩, ok, by rw [hk0, ht]; exact hP⟩, hS.F ht⟩) hS.2.2 dMo_cut_77
        · refine lv_iload_n hx hb dMo_cut_40 rfl (lv_at hl 1 rfl) ?_
          refine lv_aload_n hx hb dMo_cut_41 rfl (lv_at hl 0 rfl) ?_
          refine mo_getL S hK hP dMo_cut_42 ?_
          refine lv_iload_n hx hb dMo_cut_45 rfl (lv_at hl 3 rfl) ?_
          refine mo_ldL (j := a) S hK hP ha dMo_cut_46 ?_
          refine lv_icmp_gt (tgt := 62) hx hb dMo_cut_47 (by decide) (fun c12 => ?_) (fun c12 => ?_)
          · refine lv_iconst (v := 1) hx hb dMo_cut_62 (by decide) ?_
            refine lv_goto (tgt := 67) hx hb dMo_cut_63 (by decide) ?_
            refine mo_putk (k1 := 1) S hT hK hP hS dMo_cut_67 (fun H locs hP hS => ?_)
            have hk0 : kCut L x1 x2 (nI a) (nI u) = 1 := if_pos (Or.inr (Or.inr (Or.inr (Or.inl (by rw [ea]; exact c12)))))
            refine lv_aload_n hx hb dMo_cut_70 rfl (lv_at hl 0 rfl) ?_
            refine mo_getk S hK hP dMo_cut_71 ?_
            refine lv_if_le (tgt := 78) hx hb dMo_cut_74 (by decide) (fun c13 => absurd c13 (by decide)) (fun _ => ?_)
            exact W.vret hx hb hr (fun t ht hW => ⟨⟨(), rfl, trivial, C, L, O, c0, fun h => absurd h (by rw [hk0]; decide), fun _ => ⟨rfl, rfl⟩, ok, by rw [hk0, ht]; exact hP⟩, hS.F ht⟩) hS.2.2 dMo_cut_77
          · refine lv_iload_n hx hb dMo_cut_50 rfl (lv_at hl 2 rfl) ?_
            refine lv_aload_n hx hb dMo_cut_51 rfl (lv_at hl 0 rfl) ?_
            refine mo_getL S hK hP dMo_cut_52 ?_
            refine lv_iload_n hx hb dMo_cut_55 rfl (lv_at hl 3 rfl) ?_
            refine mo_ldL (j := a) S hK hP ha dMo_cut_56 ?_
            refine lv_iload_n hx hb dMo_cut_57 rfl (lv_at hl 1 rfl) ?_
            refine lv_isub hx hb dMo_cut_58 ?_
            refine lv_icmp_le (tgt := 66) hx hb dMo_cut_59 (by decide) (fun c14 => ?_) (fun c14 => ?_)
            · refine lv_iconst (v := 0) hx hb dMo_cut_66 (by decide) ?_
              refine mo_putk (k1 := 0) S hT hK hP hS dMo_cut_67 (fun H locs hP hS => ?_)
              have hk0 : kCut L x1 x2 (nI a) (nI u) = 0 := by
                refine if_neg ?_
                rw [ea]
                rintro (h | h | h | h | h | h)
                · exact bc2 h
                · exact bc6 h
                · exact c8 h
                · exact c12 h
                · exact c10 h
                · exact Int32.not_lt.mpr c14 h
              have hLa := ok.2.1 a
              obtain ⟨k, hk, rfl⟩ := in_not' (N := L a) (x := x1) rfl (by omega) (fun h => h.elim c8 c12)
              have h9 : x2 ≤ nI (L a - k) := by rw [← pk_sub hk]; exact c14
              obtain ⟨N, hN, rfl⟩ := in_not' (N := L a - k) (x := x2) rfl (by omega) (fun h => h.elim c10 (fun q => Int32.not_le.mpr q h9))
              have ek : ix (nI k) = k := ix_nI (by omega)
              have eN : ix (nI N) = N := ix_nI (by omega)
              refine lv_aload_n hx hb dMo_cut_70 rfl (lv_at hl 0 rfl) ?_
              refine mo_getk S hK hP dMo_cut_71 ?_
              refine lv_if_le (tgt := 78) hx hb dMo_cut_74 (by decide) (fun _ => ?_) (fun c15 => absurd (by decide) c15)
              refine lv_aload_n hx hb dMo_cut_78 rfl (lv_at hl 0 rfl) ?_
              refine lv_iload_n hx hb dMo_cut_79 rfl (lv_at hl 2 rfl) ?_
              refine mo_putc (c1 := N) S hT hK hP hS dMo_cut_80 (fun H locs hP hS => ?_)
              refine lv_iconst (v := 0) hx hb dMo_cut_83 (by decide) ?_
              refine lv_istore (lv' := [(5, .int 0), (0, .ref (T 0)), (1, .int (nI k)), (2, .int (nI N)), (3, .int (nI a)), (4, .int (nI u))]) hx hb dMo_cut_84 hl (by decide) rfl (fun ls hl => ?_)
              rw [← pov_0 (fun j => mR C a (k + j)) (O) 0] at hP
              refine lpM_cut l D cA T hT 0 C L O N k N a ha u (by omega) (by omega) S hK (fun H locs ls hP hS hl => ?_) (N + 1) 0 (by omega) (by omega) _ _ hP hS ls (lv_sub hl [1, 2, 3, 4, 5, 0] rfl)
              refine lv_aload_n hx hb dMo_cut_114 rfl (lv_at hl 0 rfl) ?_
              refine lv_iload hx hb dMo_cut_115 (lv_at hl 4 rfl) ?_
              refine mo_call (As := [.int (nI u)]) (rest := []) S (c_Mo_keep l D cA T hT 0 C L (pov (fun j => mR C a (k + j)) O 0 N) N u hu (by omega)) kMo_36 ⟨rfl, rfl, Nat.le_of_ble_eq_true rfl, Nat.le_of_ble_eq_true rfl⟩ ⟨Nat.zero_le _, Nat.zero_le _⟩ (mo_ob hK hP) hP hK hS rfl hl.1 rfl (Nat.le_of_ble_eq_true rfl) dMo_cut_117 (fun H locs hP hS => ?_)
              refine W.vret hx hb hr (fun t ht hW => ⟨⟨(), rfl, trivial, moK C (pov (fun j => mR C a (k + j)) O 0 N) u N, va_up L u N, (pov (fun j => mR C a (k + j)) O 0 N), N, fun _ => ?_, fun h => absurd hk0 h, moOk_keep (moOk_O ok (pov_lt (fun k _ _ => ok.1 _) ok.2.2)) (by omega), by rw [hk0, ht]; exact hP⟩, hS.F ht⟩) hS.2.2 dMo_cut_120
              rw [eu]
              exact moU_eq (moU_keep (by omega)) (by rw [eN]) (by rw [eN, ea, ek]; exact fun k hk => pov_in (Nat.zero_le _) (by omega))
            · refine lv_iconst (v := 1) hx hb dMo_cut_62 (by decide) ?_
              refine lv_goto (tgt := 67) hx hb dMo_cut_63 (by decide) ?_
              refine mo_putk (k1 := 1) S hT hK hP hS dMo_cut_67 (fun H locs hP hS => ?_)
              have hk0 : kCut L x1 x2 (nI a) (nI u) = 1 := if_pos (Or.inr (Or.inr (Or.inr (Or.inr (Or.inr (by rw [ea]; exact Int32.not_le.mp c14))))))
              refine lv_aload_n hx hb dMo_cut_70 rfl (lv_at hl 0 rfl) ?_
              refine mo_getk S hK hP dMo_cut_71 ?_
              refine lv_if_le (tgt := 78) hx hb dMo_cut_74 (by decide) (fun c16 => absurd c16 (by decide)) (fun _ => ?_)
              exact W.vret hx hb hr (fun t ht hW => ⟨⟨(), rfl, trivial, C, L, O, c0, fun h => absurd h (by rw [hk0]; decide), fun _ => ⟨rfl, rfl⟩, ok, by rw [hk0, ht]; exact hP⟩, hS.F ht⟩) hS.2.2 dMo_cut_77
    · have bc6 := ifn_y c6
      refine lv_iconst (v := 1) hx hb dMo_cut_16 (by decide) ?_
      refine lv_goto (tgt := 21) hx hb dMo_cut_17 (by decide) ?_
      refine mo_putk (k1 := 1) S hT hK hP hS dMo_cut_21 (fun H locs hP hS => ?_)
      have hk0 : kCut L x1 x2 (nI a) x4 = 1 := if_pos (Or.inr (Or.inl bc6))
      refine lv_aload_n hx hb dMo_cut_24 rfl (lv_at hl 0 rfl) ?_
      refine mo_getk S hK hP dMo_cut_25 ?_
      refine lv_if_ne (tgt := 70) hx hb dMo_cut_28 (by decide) (fun _ => ?_) (fun c17 => absurd c17 (by decide))
      refine lv_aload_n hx hb dMo_cut_70 rfl (lv_at hl 0 rfl) ?_
      refine mo_getk S hK hP dMo_cut_71 ?_
      refine lv_if_le (tgt := 78) hx hb dMo_cut_74 (by decide) (fun c18 => absurd c18 (by decide)) (fun _ => ?_)
      exact W.vret hx hb hr (fun t ht hW => ⟨⟨(), rfl, trivial, C, L, O, c0, fun h => absurd h (by rw [hk0]; decide), fun _ => ⟨rfl, rfl⟩, ok, by rw [hk0, ht]; exact hP⟩, hS.F ht⟩) hS.2.2 dMo_cut_77
