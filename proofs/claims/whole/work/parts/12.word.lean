set_option maxHeartbeats 4000000 in
set_option maxRecDepth 100000 in
theorem c_Word_last (l : Launch) (D : va_G) (cA cW : ClassId) (T : Nat → Nat) (hT : nvT T) (n : Nat → Nat) (g : Nat → Nat → Nat) (i : Nat) (hi : i < 17) (hn : n i ≤ 64) : Met l yWord_last (Cond.code yWord_last bWord_last 1 (some .int) :: nzG) ({ frames := 0, cells := 0, slots := 0, locals := 0 }) (va_Pc [.ref (T (2 + i))] (nvP D cA cW (nvW cA cW T n g))) (vp_Si (fun r => r = nI (zLast (g i) (n i)))) 0 0 (fun _ => False) := by
  refine nz_of (own := RW) (by decide) rfl ?_
  intro p e s m args below meth c S hr hlocks _ hv9
  obtain ⟨rfl, hP, hK⟩ := hv9
  have hx := S.1
  have hb := S.2.1
  refine nz_entry (vs := [.ref (T (2 + i))]) (n := 1) (lv := [(0, .ref (T (2 + i)))]) (Nat.le_of_ble_eq_true rfl) rfl (fun ls hl => ?_)
  refine lv_aload_n hx hb dWord_last_0 rfl (lv_at hl 0 rfl) ?_
  refine nv_getS S hK hP hi dWord_last_1 ?_
  refine lv_if_ne (tgt := 11) hx hb dWord_last_4 (by decide) (fun c1 => ?_) (fun c1 => ?_)
  · have mc1 : ¬ (n i) = 0 := fun h => c1 ((nI_eq (a := (n i)) (b := 0) (by omega) (by omega)).mpr h)
    refine lv_aload_n hx hb dWord_last_11 rfl (lv_at hl 0 rfl) ?_
    refine nv_getE S hK hP hi dWord_last_12 ?_
    refine lv_aload_n hx hb dWord_last_15 rfl (lv_at hl 0 rfl) ?_
    refine nv_getS S hK hP hi dWord_last_16 ?_
    refine lv_iconst (v := 1) hx hb dWord_last_19 (by decide) ?_
    refine lv_isub hx hb dWord_last_20 ?_
    refine nz_eqi (show nI (n i) - nI 1 = nI (n i - 1) from pk_sub (by omega)) ?_
    refine nv_ald (k := n i - 1) hx hb hK hP hi (by omega) dWord_last_21 ?_
    exact W.iret (v := nI (g i (n i - 1))) hx hb hr (fun t ht hW => ⟨_, rfl, (by rw [show zLast (g i) (n i) = g i (n i - 1) from if_neg mc1]), ht⟩) (fun q h => nomatch h) dWord_last_22
  · have mc1 : (n i) = 0 := (nI_eq (a := (n i)) (b := 0) (by omega) (by omega)).mp c1
    refine lv_iconst (v := 2) hx hb dWord_last_7 (by decide) ?_
    refine lv_goto (tgt := 22) hx hb dWord_last_8 (by decide) ?_
    exact W.iret (v := 2) hx hb hr (fun t ht hW => ⟨_, rfl, (by rw [show zLast (g i) (n i) = 2 from if_pos mc1]; rfl), ht⟩) (fun q h => nomatch h) dWord_last_22
set_option maxHeartbeats 4000000 in
set_option maxRecDepth 100000 in
theorem lp_Word_isClear {p : Program} {e : Env} {s : State} {m : MethodId} {args : Array Value} {below : List Frame} {meth : Method} {c : Code} (l : Launch) (D : va_G) (cA cW : ClassId) (T : Nat → Nat) (hT : nvT T) (n : Nat → Nat) (g : Nat → Nat → Nat) (i : Nat) (hi : i < 17) (hg : ∀ j k, g j k < 9) (hn : n i ≤ 64) (S : CallFix p m c bWord_isClear 2 s args nzG RW) (hr : meth.sig.returnType = (some .boolean)) (hlocks : meth.locks = false) (hK : va_K D vwCl (nvTy cA cW) s) (hP : va_P D vwCl (nvW cA cW T n g) s.heap) : ∀ (fuel : Nat) (k : Nat), k ≤ n i → n i < k + fuel → (∀ j, j < k → zClear (g i j) = 1) → ∀ (ls : Array Slot), lv_has ls 2 [(0, .ref (T (2 + i))), (1, .int (nI k))] → W p l e ({ frames := 2, cells := 0, slots := 0, locals := 40 }) s m args below meth c s.heap [] 0 0 (MQ below (vp_Si (fun r => r = nI (zAll (g i) (n i)))) args s 0 0 (fun _ => False)) (F0 m 2 ls []) := by
  have hx := S.1
  have hb := S.2.1
  intro fuel
  induction fuel with
  | zero =>
    intro k hk hfu hcl
    exact absurd hfu (by omega)
  | succ fuel ih =>
    intro k hk hfu hcl ls hl
    refine lv_iload_n hx hb dWord_isClear_2 rfl (lv_at hl 1 rfl) ?_
    refine lv_aload_n hx hb dWord_isClear_3 rfl (lv_at hl 0 rfl) ?_
    refine nv_getS S hK hP hi dWord_isClear_4 ?_
    refine lv_icmp_ge (tgt := 30) hx hb dWord_isClear_7 (by decide) (fun c1 => ?_) (fun c1 => ?_)
    · have mc1 : (n i) ≤ k := (nI_leI (a := (n i)) (b := k) (by omega) (by omega)).mp c1
      refine lv_iconst (v := 1) hx hb dWord_isClear_30 (by decide) ?_
      exact W.zret (v := 1) hx hb hr rfl (fun t ht hW => ⟨_, rfl, (by rw [show zAll (g i) (n i) = 1 from if_pos (fun j hj => hcl j (by omega))]; rfl), ht⟩) (fun q h => nomatch h) dWord_isClear_31
    · have mc1 : k < (n i) := Nat.lt_of_not_le (fun h => c1 ((nI_leI (a := (n i)) (b := k) (by omega) (by omega)).mpr h))
      refine lv_aload_n hx hb dWord_isClear_10 rfl (lv_at hl 0 rfl) ?_
      refine nv_getE S hK hP hi dWord_isClear_11 ?_
      refine lv_iload_n hx hb dWord_isClear_14 rfl (lv_at hl 1 rfl) ?_
      refine nv_ald (k := k) hx hb hK hP hi (by omega) dWord_isClear_15 ?_
      refine nz_si (As := [.int (nI (g i k))]) (rest := []) S (c_Wire_isClear l (g i k) (hg i k)) kWord_23 ⟨rfl, rfl, Nat.le_of_ble_eq_true rfl, Nat.le_of_ble_eq_true rfl⟩ ⟨Nat.zero_le _, Nat.zero_le _⟩ (fun _ _ _ _ h => h) (fun _ _ _ => trivial) rfl hl.1 rfl (Nat.le_of_ble_eq_true rfl) dWord_isClear_16 (fun r2 er2 => ?_)
      subst er2
      refine lv_if_ne (tgt := 24) hx hb dWord_isClear_19 (by decide) (fun c3 => ?_) (fun c3 => ?_)
      · refine lv_iinc (v := nI (k + 1)) (lv' := [(1, .int (nI (k + 1))), (0, .ref (T (2 + i)))]) hx hb dWord_isClear_24 hl (k := 1) rfl (nI_1 k) (by decide) rfl (fun ls hl => ?_)
        refine lv_goto (tgt := 2) hx hb dWord_isClear_27 (by decide) ?_
        refine ih (k + 1) (by omega) (by omega) (fun j hj => ?_) ls (lv_sub hl [1, 0] rfl)
        rcases Nat.lt_or_ge j k with q | q
        · exact hcl j q
        · rw [show j = k by omega]; exact (by decide +kernel : ∀ v, v < 9 → ¬ nI (zClear v) = 0 → zClear v = 1) _ (hg i k) c3
      · refine lv_iconst (v := 0) hx hb dWord_isClear_22 (by decide) ?_
        exact W.zret (v := 0) hx hb hr rfl (fun t ht hW => ⟨_, rfl, (by rw [show zAll (g i) (n i) = 0 from if_neg (fun q => absurd (q k (by omega)) ((by decide +kernel : ∀ v, v < 9 → nI (zClear v) = 0 → ¬ zClear v = 1) _ (hg i k) c3))]; rfl), ht⟩) (fun q h => nomatch h) dWord_isClear_23
set_option maxHeartbeats 4000000 in
set_option maxRecDepth 100000 in
theorem c_Word_isClear (l : Launch) (D : va_G) (cA cW : ClassId) (T : Nat → Nat) (hT : nvT T) (n : Nat → Nat) (g : Nat → Nat → Nat) (i : Nat) (hi : i < 17) (hg : ∀ j k, g j k < 9) (hn : n i ≤ 64) : Met l yWord_isClear (Cond.code yWord_isClear bWord_isClear 2 (some .boolean) :: nzG) ({ frames := 2, cells := 0, slots := 0, locals := 40 }) (va_Pc [.ref (T (2 + i))] (nvP D cA cW (nvW cA cW T n g))) (vp_Si (fun r => r = nI (zAll (g i) (n i)))) 0 0 (fun _ => False) := by
  refine nz_of (own := RW) (by decide) rfl ?_
  intro p e s m args below meth c S hr hlocks _ hv9
  obtain ⟨rfl, hP, hK⟩ := hv9
  have hx := S.1
  have hb := S.2.1
  refine nz_entry (vs := [.ref (T (2 + i))]) (n := 2) (lv := [(0, .ref (T (2 + i)))]) (Nat.le_of_ble_eq_true rfl) rfl (fun ls hl => ?_)
  refine lv_iconst (v := 0) hx hb dWord_isClear_0 (by decide) ?_
  refine lv_istore_n (lv' := [(1, .int 0), (0, .ref (T (2 + i)))]) hx hb dWord_isClear_1 rfl hl (by decide) rfl (fun ls hl => ?_)
  exact lp_Word_isClear l D cA cW T hT n g i hi hg hn S hr hlocks hK hP (n i + 1) 0 (by omega) (by omega) (fun j hj => absurd hj (by omega)) ls (lv_sub hl [1, 0] rfl)
set_option maxHeartbeats 4000000 in
set_option maxRecDepth 100000 in
theorem c_Word_counts (l : Launch) (D : va_G) (cA cW : ClassId) (T : Nat → Nat) (hT : nvT T) (n : Nat → Nat) (g : Nat → Nat → Nat) (i : Nat) (hi : i < 17) (hg : ∀ j k, g j k < 9) (hn : n i ≤ 64) : Met l yWord_counts (Cond.code yWord_counts bWord_counts 1 (some .boolean) :: nzG) ({ frames := 3, cells := 0, slots := 0, locals := 61 }) (va_Pc [.ref (T (2 + i))] (nvP D cA cW (nvW cA cW T n g))) (vp_Si (fun r => r = nI (zCnt (g i) (n i)))) 0 0 (fun _ => False) := by
  refine nz_of (own := RW) (by decide) rfl ?_
  intro p e s m args below meth c S hr hlocks _ hv9
  obtain ⟨rfl, hP, hK⟩ := hv9
  have hx := S.1
  have hb := S.2.1
  refine nz_entry (vs := [.ref (T (2 + i))]) (n := 1) (lv := [(0, .ref (T (2 + i)))]) (Nat.le_of_ble_eq_true rfl) rfl (fun ls hl => ?_)
  refine lv_aload_n hx hb dWord_counts_0 rfl (lv_at hl 0 rfl) ?_
  refine nv_getS S hK hP hi dWord_counts_1 ?_
  refine lv_if_le (tgt := 18) hx hb dWord_counts_4 (by decide) (fun c1 => ?_) (fun c1 => ?_)
  · have mc1 : (n i) ≤ 0 := (nI_leI (a := (n i)) (b := 0) (by omega) (by omega)).mp c1
    refine lv_iconst (v := 0) hx hb dWord_counts_18 (by decide) ?_
    exact W.zret (v := 0) hx hb hr rfl (fun t ht hW => ⟨_, rfl, (zCnt_0 mc1), ht⟩) (fun q h => nomatch h) dWord_counts_19
  · have mc1 : 0 < (n i) := Nat.lt_of_not_le (fun h => c1 ((nI_leI (a := (n i)) (b := 0) (by omega) (by omega)).mpr h))
    refine lv_aload_n hx hb dWord_counts_7 rfl (lv_at hl 0 rfl) ?_
    refine nz_vi (As := []) (rest := []) S (c_Word_isClear l D cA cW T hT n g i hi hg hn) kWord_29 ⟨rfl, rfl, Nat.le_of_ble_eq_true rfl, Nat.le_of_ble_eq_true rfl⟩ ⟨Nat.zero_le _, Nat.zero_le _⟩ nvP.bl (nv_ob hK hP hi) (nvP.to hP hK) rfl hl.1 rfl (Nat.le_of_ble_eq_true rfl) dWord_counts_8 (fun r2 er2 => ?_)
    subst er2
    refine lv_if_eq (tgt := 18) hx hb dWord_counts_11 (by decide) (fun c3 => ?_) (fun c3 => ?_)
    · refine lv_iconst (v := 0) hx hb dWord_counts_18 (by decide) ?_
      exact W.zret (v := 0) hx hb hr rfl (fun t ht hW => ⟨_, rfl, (zCnt_2 c3), ht⟩) (fun q h => nomatch h) dWord_counts_19
    · refine lv_iconst (v := 1) hx hb dWord_counts_14 (by decide) ?_
      refine lv_goto (tgt := 19) hx hb dWord_counts_15 (by decide) ?_
      exact W.zret (v := 1) hx hb hr rfl (fun t ht hW => ⟨_, rfl, (zCnt_1 mc1 c3), ht⟩) (fun q h => nomatch h) dWord_counts_19
set_option maxHeartbeats 4000000 in
set_option maxRecDepth 100000 in
theorem lp_Word_asLong {p : Program} {e : Env} {s : State} {m : MethodId} {args : Array Value} {below : List Frame} {meth : Method} {c : Code} (l : Launch) (D : va_G) (cA cW : ClassId) (T : Nat → Nat) (hT : nvT T) (n : Nat → Nat) (g : Nat → Nat → Nat) (i : Nat) (hi : i < 17) (hg : ∀ j k, g j k < 9) (hn : n i ≤ 64) (b1 : Nat) (hb1 : b1 < 2) (S : CallFix p m c bWord_asLong 7 s args nzG RW) (hr : meth.sig.returnType = (some .long)) (hlocks : meth.locks = false) (hK : va_K D vwCl (nvTy cA cW) s) (hP : va_P D vwCl (nvW cA cW T n g) s.heap) : ∀ (fuel : Nat) (k : Nat), k ≤ zB b1 (n i) → zB b1 (n i) < k + fuel → ∀ (ls : Array Slot), lv_has ls 7 [(0, .ref (T (2 + i))), (1, .int (nI b1)), (2, .long (lN (zNum (zExt (g i) (n i)) k))), (4, .int (nI (zB b1 (n i)))), (5, .int (nI k))] → W p l e ({ frames := 1, cells := 0, slots := 0, locals := 20 }) s m args below meth c s.heap [] 0 0 (MQ below (vp_Sl (fun r => r = lN (zLong b1 (g i) (n i)))) args s 0 0 (fun _ => False)) (F0 m 20 ls []) := by
  have hx := S.1
  have hb := S.2.1
  have hB : zB b1 (n i) ≤ 64 := zB_le b1 hn
  intro fuel
  induction fuel with
  | zero =>
    intro k hk hfu
    exact absurd hfu (by omega)
  | succ fuel ih =>
    intro k hk hfu ls hl
    refine lv_iload hx hb dWord_asLong_20 (lv_at hl 4 rfl) ?_
    refine lv_iload hx hb dWord_asLong_22 (lv_at hl 3 rfl) ?_
    refine lv_icmp_ge (tgt := 73) hx hb dWord_asLong_24 (by decide) (fun c1 => ?_) (fun c1 => ?_)
    · have mc1 : (zB b1 (n i)) ≤ k := (nI_leI (a := (zB b1 (n i))) (b := k) (by omega) (by omega)).mp c1
      refine lv_lload_n hx hb dWord_asLong_73 rfl (lv_at hl 2 rfl) ?_
      exact W.lret (v := lN (zNum (zExt (g i) (n i)) k)) hx hb hr (fun t ht hW => ⟨_, rfl, (by rw [show k = zB b1 (n i) by omega]; rfl), ht⟩) (fun q h => nomatch h) dWord_asLong_74
    · have mc1 : k < (zB b1 (n i)) := Nat.lt_of_not_le (fun h => c1 ((nI_leI (a := (zB b1 (n i))) (b := k) (by omega) (by omega)).mpr h))
      refine lv_iload hx hb dWord_asLong_27 (lv_at hl 4 rfl) ?_
      refine lv_aload_n hx hb dWord_asLong_29 rfl (lv_at hl 0 rfl) ?_
      refine nv_getS S hK hP hi dWord_asLong_30 ?_
      refine lv_icmp_ge (tgt := 46) hx hb dWord_asLong_33 (by decide) (fun c2 => ?_) (fun c2 => ?_)
      · have mc2 : (n i) ≤ k := (nI_leI (a := (n i)) (b := k) (by omega) (by omega)).mp c2
        refine lv_aload_n hx hb dWord_asLong_46 rfl (lv_at hl 0 rfl) ?_
        refine nz_vi (As := []) (rest := []) S (c_Word_last l D cA cW T hT n g i hi hn) kWord_32 ⟨rfl, rfl, Nat.le_of_ble_eq_true rfl, Nat.le_of_ble_eq_true rfl⟩ ⟨Nat.zero_le _, Nat.zero_le _⟩ nvP.bl (nv_ob hK hP hi) (nvP.to hP hK) rfl hl.1 rfl (Nat.le_of_ble_eq_true rfl) dWord_asLong_47 (fun r3 er3 => ?_)
        subst er3
        refine lv_istore (lv' := [(6, .int (nI (zLast (g i) (n i)))), (0, .ref (T (2 + i))), (1, .int (nI b1)), (2, .long (lN (zNum (zExt (g i) (n i)) k))), (4, .int (nI (zB b1 (n i)))), (5, .int (nI k))]) hx hb dWord_asLong_50 hl (by decide) rfl (fun ls hl => ?_)
        refine lv_iload hx hb dWord_asLong_52 (lv_at hl 0 rfl) ?_
        refine nz_si (As := [.int (nI (zLast (g i) (n i)))]) (rest := []) S (c_Wire_isHigh l (zLast (g i) (n i)) (zLast_lt (hg i) (n i))) kWord_36 ⟨rfl, rfl, Nat.le_of_ble_eq_true rfl, Nat.le_of_ble_eq_true rfl⟩ ⟨Nat.zero_le _, Nat.zero_le _⟩ (fun _ _ _ _ h => h) (fun _ _ _ => trivial) rfl hl.1 rfl (Nat.le_of_ble_eq_true rfl) dWord_asLong_54 (fun r4 er4 => ?_)
        subst er4
        refine lv_if_eq (tgt := 67) hx hb dWord_asLong_57 (by decide) (fun c5 => ?_) (fun c5 => ?_)
        · refine lv_iinc (v := nI (k + 1)) (lv' := [(5, .int (nI (k + 1))), (6, .int (nI (zLast (g i) (n i)))), (0, .ref (T (2 + i))), (1, .int (nI b1)), (2, .long (lN (zNum (zExt (g i) (n i)) k))), (4, .int (nI (zB b1 (n i))))]) hx hb dWord_asLong_67 hl (k := 5) rfl (nI_1 k) (by decide) rfl (fun ls hl => ?_)
          refine lv_goto (tgt := 20) hx hb dWord_asLong_70 (by decide) ?_
          rw [← zNum_s0 (f := (zExt (g i) (n i))) (k := k) (by rw [zExt_out mc2]; exact (by decide +kernel : ∀ v, v < 9 → nI (zHigh v) = 0 → zHigh v = 0) _ (zLast_lt (hg i) (n i)) c5)] at hl
          exact ih (k + 1) (by omega) (by omega) ls (lv_sub hl [2, 3, 4, 5, 0] rfl)
        · refine lv_lload_n hx hb dWord_asLong_60 rfl (lv_at hl 3 rfl) ?_
          refine lv_lconst (v := 1) hx hb dWord_asLong_61 (by decide) ?_
          refine lv_iload hx hb dWord_asLong_62 (lv_at hl 5 rfl) ?_
          refine lv_lshl (v := lN (2 ^ k)) hx hb dWord_asLong_64 (zShl1 (by omega)) ?_
          refine lv_lor hx hb dWord_asLong_65 ?_
          refine nz_eql (zNum_s1 (f := (zExt (g i) (n i))) (k := k) (by omega) (by rw [zExt_out mc2]; exact (by decide +kernel : ∀ v, v < 9 → ¬ nI (zHigh v) = 0 → zHigh v = 1) _ (zLast_lt (hg i) (n i)) c5)) ?_
          refine lv_lstore_n (lv' := [(2, .long (lN (zNum (zExt (g i) (n i)) (k + 1)))), (6, .int (nI (zLast (g i) (n i)))), (0, .ref (T (2 + i))), (1, .int (nI b1)), (4, .int (nI (zB b1 (n i)))), (5, .int (nI k))]) hx hb dWord_asLong_66 rfl hl (by decide) rfl (fun ls hl => ?_)
          refine lv_iinc (v := nI (k + 1)) (lv' := [(5, .int (nI (k + 1))), (2, .long (lN (zNum (zExt (g i) (n i)) (k + 1)))), (6, .int (nI (zLast (g i) (n i)))), (0, .ref (T (2 + i))), (1, .int (nI b1)), (4, .int (nI (zB b1 (n i))))]) hx hb dWord_asLong_67 hl (k := 5) rfl (nI_1 k) (by decide) rfl (fun ls hl => ?_)
          refine lv_goto (tgt := 20) hx hb dWord_asLong_70 (by decide) ?_
          exact ih (k + 1) (by omega) (by omega) ls (lv_sub hl [3, 4, 1, 5, 0] rfl)
      · have mc2 : k < (n i) := Nat.lt_of_not_le (fun h => c2 ((nI_leI (a := (n i)) (b := k) (by omega) (by omega)).mpr h))
        refine lv_aload_n hx hb dWord_asLong_36 rfl (lv_at hl 0 rfl) ?_
        refine nv_getE S hK hP hi dWord_asLong_37 ?_
        refine lv_iload hx hb dWord_asLong_40 (lv_at hl 4 rfl) ?_
        refine nv_ald (k := k) hx hb hK hP hi (by omega) dWord_asLong_42 ?_
        refine lv_goto (tgt := 50) hx hb dWord_asLong_43 (by decide) ?_
        refine lv_istore (lv' := [(6, .int (nI (g i k))), (0, .ref (T (2 + i))), (1, .int (nI b1)), (2, .long (lN (zNum (zExt (g i) (n i)) k))), (4, .int (nI (zB b1 (n i)))), (5, .int (nI k))]) hx hb dWord_asLong_50 hl (by decide) rfl (fun ls hl => ?_)
        refine lv_iload hx hb dWord_asLong_52 (lv_at hl 0 rfl) ?_
        refine nz_si (As := [.int (nI (g i k))]) (rest := []) S (c_Wire_isHigh l (g i k) (hg i k)) kWord_36 ⟨rfl, rfl, Nat.le_of_ble_eq_true rfl, Nat.le_of_ble_eq_true rfl⟩ ⟨Nat.zero_le _, Nat.zero_le _⟩ (fun _ _ _ _ h => h) (fun _ _ _ => trivial) rfl hl.1 rfl (Nat.le_of_ble_eq_true rfl) dWord_asLong_54 (fun r6 er6 => ?_)
        subst er6
        refine lv_if_eq (tgt := 67) hx hb dWord_asLong_57 (by decide) (fun c7 => ?_) (fun c7 => ?_)
        · refine lv_iinc (v := nI (k + 1)) (lv' := [(5, .int (nI (k + 1))), (6, .int (nI (g i k))), (0, .ref (T (2 + i))), (1, .int (nI b1)), (2, .long (lN (zNum (zExt (g i) (n i)) k))), (4, .int (nI (zB b1 (n i))))]) hx hb dWord_asLong_67 hl (k := 5) rfl (nI_1 k) (by decide) rfl (fun ls hl => ?_)
          refine lv_goto (tgt := 20) hx hb dWord_asLong_70 (by decide) ?_
          rw [← zNum_s0 (f := (zExt (g i) (n i))) (k := k) (by rw [zExt_in mc2]; exact (by decide +kernel : ∀ v, v < 9 → nI (zHigh v) = 0 → zHigh v = 0) _ (hg i k) c7)] at hl
          exact ih (k + 1) (by omega) (by omega) ls (lv_sub hl [2, 3, 4, 5, 0] rfl)
        · refine lv_lload_n hx hb dWord_asLong_60 rfl (lv_at hl 3 rfl) ?_
          refine lv_lconst (v := 1) hx hb dWord_asLong_61 (by decide) ?_
          refine lv_iload hx hb dWord_asLong_62 (lv_at hl 5 rfl) ?_
          refine lv_lshl (v := lN (2 ^ k)) hx hb dWord_asLong_64 (zShl1 (by omega)) ?_
          refine lv_lor hx hb dWord_asLong_65 ?_
          refine nz_eql (zNum_s1 (f := (zExt (g i) (n i))) (k := k) (by omega) (by rw [zExt_in mc2]; exact (by decide +kernel : ∀ v, v < 9 → ¬ nI (zHigh v) = 0 → zHigh v = 1) _ (hg i k) c7)) ?_
          refine lv_lstore_n (lv' := [(2, .long (lN (zNum (zExt (g i) (n i)) (k + 1)))), (6, .int (nI (g i k))), (0, .ref (T (2 + i))), (1, .int (nI b1)), (4, .int (nI (zB b1 (n i)))), (5, .int (nI k))]) hx hb dWord_asLong_66 rfl hl (by decide) rfl (fun ls hl => ?_)
          refine lv_iinc (v := nI (k + 1)) (lv' := [(5, .int (nI (k + 1))), (2, .long (lN (zNum (zExt (g i) (n i)) (k + 1)))), (6, .int (nI (g i k))), (0, .ref (T (2 + i))), (1, .int (nI b1)), (4, .int (nI (zB b1 (n i))))]) hx hb dWord_asLong_67 hl (k := 5) rfl (nI_1 k) (by decide) rfl (fun ls hl => ?_)
          refine lv_goto (tgt := 20) hx hb dWord_asLong_70 (by decide) ?_
          exact ih (k + 1) (by omega) (by omega) ls (lv_sub hl [3, 4, 1, 5, 0] rfl)
set_option maxHeartbeats 4000000 in
set_option maxRecDepth 100000 in
theorem c_Word_asLong (l : Launch) (D : va_G) (cA cW : ClassId) (T : Nat → Nat) (hT : nvT T) (n : Nat → Nat) (g : Nat → Nat → Nat) (i : Nat) (hi : i < 17) (hg : ∀ j k, g j k < 9) (hn : n i ≤ 64) (b1 : Nat) (hb1 : b1 < 2) : Met l yWord_asLong (Cond.code yWord_asLong bWord_asLong 7 (some .long) :: nzG) ({ frames := 1, cells := 0, slots := 0, locals := 20 }) (va_Pc [.ref (T (2 + i)), .int (nI b1)] (nvP D cA cW (nvW cA cW T n g))) (vp_Sl (fun r => r = lN (zLong b1 (g i) (n i)))) 0 0 (fun _ => False) := by
  refine nz_of (own := RW) (by decide) rfl ?_
  intro p e s m args below meth c S hr hlocks _ hv9
  obtain ⟨rfl, hP, hK⟩ := hv9
  have hx := S.1
  have hb := S.2.1
  refine nz_entry (vs := [.ref (T (2 + i)), .int (nI b1)]) (n := 7) (lv := [(0, .ref (T (2 + i))), (1, .int (nI b1))]) (Nat.le_of_ble_eq_true rfl) rfl (fun ls hl => ?_)
  refine lv_lconst (v := 0) hx hb dWord_asLong_0 (by decide) ?_
  refine lv_lstore_n (lv' := [(2, .long 0), (0, .ref (T (2 + i))), (1, .int (nI b1))]) hx hb dWord_asLong_1 rfl hl (by decide) rfl (fun ls hl => ?_)
  refine lv_iload_n hx hb dWord_asLong_2 rfl (lv_at hl 2 rfl) ?_
  refine lv_if_eq (tgt := 11) hx hb dWord_asLong_3 (by decide) (fun c1 => ?_) (fun c1 => ?_)
  · have mc1 : b1 = 0 := (nI_eq (a := b1) (b := 0) (by omega) (by omega)).mp c1
    refine lv_aload_n hx hb dWord_asLong_11 rfl (lv_at hl 1 rfl) ?_
    refine nv_getS S hK hP hi dWord_asLong_12 ?_
    refine lv_istore (lv' := [(4, .int (nI (n i))), (2, .long 0), (0, .ref (T (2 + i))), (1, .int (nI b1))]) hx hb dWord_asLong_15 hl (by decide) rfl (fun ls hl => ?_)
    refine lv_iconst (v := 0) hx hb dWord_asLong_17 (by decide) ?_
    refine lv_istore (lv' := [(5, .int 0), (4, .int (nI (n i))), (2, .long 0), (0, .ref (T (2 + i))), (1, .int (nI b1))]) hx hb dWord_asLong_18 hl (by decide) rfl (fun ls hl => ?_)
    rw [show nI (n i) = nI (zB b1 (n i)) by rw [show zB b1 (n i) = n i from if_neg (by omega)]] at hl
    exact lp_Word_asLong l D cA cW T hT n g i hi hg hn b1 hb1 S hr hlocks hK hP (zB b1 (n i) + 1) 0 (by omega) (by omega) ls (lv_sub hl [3, 4, 2, 1, 0] rfl)
  · have mc1 : ¬ b1 = 0 := fun h => c1 ((nI_eq (a := b1) (b := 0) (by omega) (by omega)).mpr h)
    refine lv_bipush (v := 64) hx hb dWord_asLong_6 (by decide) ?_
    refine lv_goto (tgt := 15) hx hb dWord_asLong_8 (by decide) ?_
    refine lv_istore (lv' := [(4, .int 64), (2, .long 0), (0, .ref (T (2 + i))), (1, .int (nI b1))]) hx hb dWord_asLong_15 hl (by decide) rfl (fun ls hl => ?_)
    refine lv_iconst (v := 0) hx hb dWord_asLong_17 (by decide) ?_
    refine lv_istore (lv' := [(5, .int 0), (4, .int 64), (2, .long 0), (0, .ref (T (2 + i))), (1, .int (nI b1))]) hx hb dWord_asLong_18 hl (by decide) rfl (fun ls hl => ?_)
    rw [show (64 : Int32) = nI (zB b1 (n i)) by rw [show zB b1 (n i) = 64 from if_pos (by omega)]; rfl] at hl
    exact lp_Word_asLong l D cA cW T hT n g i hi hg hn b1 hb1 S hr hlocks hK hP (zB b1 (n i) + 1) 0 (by omega) (by omega) ls (lv_sub hl [3, 4, 2, 1, 0] rfl)
set_option maxHeartbeats 4000000 in
set_option maxRecDepth 100000 in
theorem lp_Word_joined {p : Program} {e : Env} {s : State} {m : MethodId} {args : Array Value} {below : List Frame} {meth : Method} {c : Code} (l : Launch) (D : va_G) (cA cW : ClassId) (T : Nat → Nat) (hT : nvT T) (n : Nat → Nat) (g : Nat → Nat → Nat) (i : Nat) (hi : i < 17) (hg : ∀ j k, g j k < 9) (hn : n i ≤ 64) (o1 : Nat) (ho1 : o1 < 7) (v1 : Nat) (hv1 : v1 < 9) (S : CallFix p m c bWord_joined 5 s args nzG RW) (hr : meth.sig.returnType = (some .int)) (hlocks : meth.locks = false) (hK : va_K D vwCl (nvTy cA cW) s) (hP : va_P D vwCl (nvW cA cW T n g) s.heap) : ∀ (fuel : Nat) (k : Nat), k ≤ n i → n i < k + fuel → ∀ (ls : Array Slot), lv_has ls 5 [(0, .ref (T (2 + i))), (1, .int (nI o1)), (3, .int (nI (zFold o1 v1 (g i) k))), (4, .int (nI k))] → W p l e ({ frames := 4, cells := 0, slots := 0, locals := 83 }) s m args below meth c s.heap [] 0 0 (MQ below (vp_Si (fun r => r = nI (zFold o1 v1 (g i) (n i)))) args s 0 0 (fun _ => False)) (F0 m 5 ls []) := by
  have hx := S.1
  have hb := S.2.1
  intro fuel
  induction fuel with
  | zero =>
    intro k hk hfu
    exact absurd hfu (by omega)
  | succ fuel ih =>
    intro k hk hfu ls hl
    refine lv_iload hx hb dWord_joined_5 (lv_at hl 3 rfl) ?_
    refine lv_aload_n hx hb dWord_joined_7 rfl (lv_at hl 0 rfl) ?_
    refine nv_getS S hK hP hi dWord_joined_8 ?_
    refine lv_icmp_ge (tgt := 33) hx hb dWord_joined_11 (by decide) (fun c1 => ?_) (fun c1 => ?_)
    · have mc1 : (n i) ≤ k := (nI_leI (a := (n i)) (b := k) (by omega) (by omega)).mp c1
      refine lv_iload_n hx hb dWord_joined_33 rfl (lv_at hl 2 rfl) ?_
      exact W.iret (v := nI (zFold o1 v1 (g i) k)) hx hb hr (fun t ht hW => ⟨_, rfl, (by rw [show k = n i by omega]), ht⟩) (fun q h => nomatch h) dWord_joined_34
    · have mc1 : k < (n i) := Nat.lt_of_not_le (fun h => c1 ((nI_leI (a := (n i)) (b := k) (by omega) (by omega)).mpr h))
      refine lv_iload_n hx hb dWord_joined_14 rfl (lv_at hl 1 rfl) ?_
      refine lv_iload_n hx hb dWord_joined_15 rfl (lv_at hl 2 rfl) ?_
      refine lv_aload_n hx hb dWord_joined_16 rfl (lv_at hl 0 rfl) ?_
      refine nv_getE S hK hP hi dWord_joined_17 ?_
      refine lv_iload hx hb dWord_joined_20 (lv_at hl 3 rfl) ?_
      refine nv_ald (k := k) hx hb hK hP hi (by omega) dWord_joined_22 ?_
      refine nz_si (As := [.int (nI o1), .int (nI (zFold o1 v1 (g i) k)), .int (nI (g i k))]) (rest := []) S (c_Wire_join l o1 ho1 (zFold o1 v1 (g i) k) (zFold_lt ho1 hv1 (hg i) k) (g i k) (hg i k)) kWord_39 ⟨rfl, rfl, Nat.le_of_ble_eq_true rfl, Nat.le_of_ble_eq_true rfl⟩ ⟨Nat.zero_le _, Nat.zero_le _⟩ (fun _ _ _ _ h => h) (fun _ _ _ => trivial) rfl hl.1 rfl (Nat.le_of_ble_eq_true rfl) dWord_joined_23 (fun r2 er2 => ?_)
      subst er2
      refine lv_istore_n (lv' := [(3, .int (nI (zJoin o1 (zFold o1 v1 (g i) k) (g i k)))), (0, .ref (T (2 + i))), (1, .int (nI o1)), (4, .int (nI k))]) hx hb dWord_joined_26 rfl hl (by decide) rfl (fun ls hl => ?_)
      refine lv_iinc (v := nI (k + 1)) (lv' := [(4, .int (nI (k + 1))), (3, .int (nI (zJoin o1 (zFold o1 v1 (g i) k) (g i k)))), (0, .ref (T (2 + i))), (1, .int (nI o1))]) hx hb dWord_joined_27 hl (k := 3) rfl (nI_1 k) (by decide) rfl (fun ls hl => ?_)
      refine lv_goto (tgt := 5) hx hb dWord_joined_30 (by decide) ?_
      exact ih (k + 1) (by omega) (by omega) ls (lv_sub hl [2, 3, 1, 0] rfl)
set_option maxHeartbeats 4000000 in
set_option maxRecDepth 100000 in
theorem c_Word_joined (l : Launch) (D : va_G) (cA cW : ClassId) (T : Nat → Nat) (hT : nvT T) (n : Nat → Nat) (g : Nat → Nat → Nat) (i : Nat) (hi : i < 17) (hg : ∀ j k, g j k < 9) (hn : n i ≤ 64) (o1 : Nat) (ho1 : o1 < 7) (v1 : Nat) (hv1 : v1 < 9) : Met l yWord_joined (Cond.code yWord_joined bWord_joined 5 (some .int) :: nzG) ({ frames := 4, cells := 0, slots := 0, locals := 83 }) (va_Pc [.ref (T (2 + i)), .int (nI o1), .int (nI v1)] (nvP D cA cW (nvW cA cW T n g))) (vp_Si (fun r => r = nI (zFold o1 v1 (g i) (n i)))) 0 0 (fun _ => False) := by
  refine nz_of (own := RW) (by decide) rfl ?_
  intro p e s m args below meth c S hr hlocks _ hv9
  obtain ⟨rfl, hP, hK⟩ := hv9
  have hx := S.1
  have hb := S.2.1
  refine nz_entry (vs := [.ref (T (2 + i)), .int (nI o1), .int (nI v1)]) (n := 5) (lv := [(0, .ref (T (2 + i))), (1, .int (nI o1)), (2, .int (nI v1))]) (Nat.le_of_ble_eq_true rfl) rfl (fun ls hl => ?_)
  refine lv_iload_n hx hb dWord_joined_0 rfl (lv_at hl 2 rfl) ?_
  refine lv_istore_n (lv' := [(3, .int (nI v1)), (0, .ref (T (2 + i))), (1, .int (nI o1)), (2, .int (nI v1))]) hx hb dWord_joined_1 rfl hl (by decide) rfl (fun ls hl => ?_)
  refine lv_iconst (v := 0) hx hb dWord_joined_2 (by decide) ?_
  refine lv_istore (lv' := [(4, .int 0), (3, .int (nI v1)), (0, .ref (T (2 + i))), (1, .int (nI o1)), (2, .int (nI v1))]) hx hb dWord_joined_3 hl (by decide) rfl (fun ls hl => ?_)
  exact lp_Word_joined l D cA cW T hT n g i hi hg hn o1 ho1 v1 hv1 S hr hlocks hK hP (n i + 1) 0 (by omega) (by omega) ls (lv_sub hl [2, 3, 1, 0] rfl)
set_option maxHeartbeats 4000000 in
set_option maxRecDepth 100000 in
theorem lp_Word_become {p : Program} {e : Env} {s : State} {m : MethodId} {args : Array Value} {below : List Frame} {meth : Method} {c : Code} (l : Launch) (D : va_G) (cA cW : ClassId) (T : Nat → Nat) (hT : nvT T) (n : Nat → Nat) (g : Nat → Nat → Nat) (i : Nat) (hi : i < 17) (N : Nat) (hN : N ≤ 64) (v1 : Nat) (S : CallFix p m c bWord_become 4 s args nzG RW) (hr : meth.sig.returnType = none) (hlocks : meth.locks = false) (hK : va_K D vwCl (nvTy cA cW) s) : ∀ (fuel : Nat) (k : Nat), k ≤ N → N < k + fuel → ∀ (H : Heap) (locs : List Loc), va_P D vwCl (nvW cA cW T (va_up n i N) (va_up g i (pov (fun _ => v1) (g i) 0 k))) H → va_S (nvA T) s.heap H locs → ∀ (ls : Array Slot), lv_has ls 4 [(0, .ref (T (2 + i))), (1, .int (nI N)), (2, .int (nI v1)), (3, .int (nI k))] → W p l e ({ frames := 0, cells := 0, slots := 0, locals := 0 }) s m args below meth c H locs 0 0 (MQ below (va_Qv (fun _ : Unit => True) (fun _ t => va_P D vwCl (nvW cA cW T (va_up n i N) (va_up g i (pov (fun _ => v1) (g i) 0 N))) t.heap) (nvA T)) args s 0 0 (nvA T)) (F0 m 7 ls []) := by
  have hx := S.1
  have hb := S.2.1
  intro fuel
  induction fuel with
  | zero =>
    intro k hk hfu
    exact absurd hfu (by omega)
  | succ fuel ih =>
    intro k hk hfu H locs hP hS ls hl
    refine lv_iload_n hx hb dWord_become_7 rfl (lv_at hl 3 rfl) ?_
    refine lv_iload_n hx hb dWord_become_8 rfl (lv_at hl 1 rfl) ?_
    refine lv_icmp_ge (tgt := 25) hx hb dWord_become_9 (by decide) (fun c1 => ?_) (fun c1 => ?_)
    · have mc1 : N ≤ k := (nI_leI (a := N) (b := k) (by omega) (by omega)).mp c1
      obtain rfl : k = N := by omega
      exact W.vret hx hb hr (fun t ht hW => ⟨⟨(), rfl, trivial, (show va_P D vwCl _ t.heap by rw [ht]; exact hP)⟩, hS.F ht⟩) hS.2.2 dWord_become_25
    · have mc1 : k < N := Nat.lt_of_not_le (fun h => c1 ((nI_leI (a := N) (b := k) (by omega) (by omega)).mpr h))
      refine lv_aload_n hx hb dWord_become_12 rfl (lv_at hl 0 rfl) ?_
      refine nv_getE S hK hP hi dWord_become_13 ?_
      refine lv_iload_n hx hb dWord_become_16 rfl (lv_at hl 3 rfl) ?_
      refine lv_iload_n hx hb dWord_become_17 rfl (lv_at hl 2 rfl) ?_
      refine nv_ast (k := k) (v := v1) hx hb hT hK hP hS hi (by omega) dWord_become_18 (fun H locs hP hS => ?_)
      rw [nv_step g i (fun _ => v1) (g i) k] at hP
      refine lv_iinc (v := nI (k + 1)) (lv' := [(3, .int (nI (k + 1))), (0, .ref (T (2 + i))), (1, .int (nI N)), (2, .int (nI v1))]) hx hb dWord_become_19 hl (k := 3) rfl (nI_1 k) (by decide) rfl (fun ls hl => ?_)
      refine lv_goto (tgt := 7) hx hb dWord_become_22 (by decide) ?_
      exact ih (k + 1) (by omega) (by omega) _ _ hP hS ls (lv_sub hl [1, 2, 3, 0] rfl)
set_option maxHeartbeats 4000000 in
set_option maxRecDepth 100000 in
theorem c_Word_become (l : Launch) (D : va_G) (cA cW : ClassId) (T : Nat → Nat) (hT : nvT T) (n : Nat → Nat) (g : Nat → Nat → Nat) (i : Nat) (hi : i < 17) (N : Nat) (hN : N ≤ 64) (v1 : Nat) : Met l yWord_become (Cond.code yWord_become bWord_become 4 none :: nzG) ({ frames := 0, cells := 0, slots := 0, locals := 0 }) (va_Pc [.ref (T (2 + i)), .int (nI N), .int (nI v1)] (nvP D cA cW (nvW cA cW T n g))) (va_Qv (fun _ : Unit => True) (fun _ t => va_P D vwCl (nvW cA cW T (va_up n i N) (va_up g i (pov (fun _ => v1) (g i) 0 N))) t.heap) (nvA T)) 0 0 (nvA T) := by
  refine nz_of (own := RW) (by decide) rfl ?_
  intro p e s m args below meth c S hr hlocks _ hv9
  obtain ⟨rfl, hP, hK⟩ := hv9
  have hx := S.1
  have hb := S.2.1
  refine nz_entry (vs := [.ref (T (2 + i)), .int (nI N), .int (nI v1)]) (n := 4) (lv := [(0, .ref (T (2 + i))), (1, .int (nI N)), (2, .int (nI v1))]) (Nat.le_of_ble_eq_true rfl) rfl (fun ls hl => ?_)
  have hS : va_S (nvA T) s.heap s.heap [] := va_S.rf
  refine lv_aload_n hx hb dWord_become_0 rfl (lv_at hl 0 rfl) ?_
  refine lv_iload_n hx hb dWord_become_1 rfl (lv_at hl 1 rfl) ?_
  refine nv_putS (N := N) S hT hK hP hS hi dWord_become_2 (fun H locs hP hS => ?_)
  refine lv_iconst (v := 0) hx hb dWord_become_5 (by decide) ?_
  refine lv_istore_n (lv' := [(3, .int 0), (0, .ref (T (2 + i))), (1, .int (nI N)), (2, .int (nI v1))]) hx hb dWord_become_6 rfl hl (by decide) rfl (fun ls hl => ?_)
  rw [show g = va_up g i (pov (fun _ => v1) (g i) 0 0) by rw [pov_0, va_up_eta]] at hP
  exact lp_Word_become l D cA cW T hT n g i hi N hN v1 S hr hlocks hK (N + 1) 0 (by omega) (by omega) _ _ hP hS ls (lv_sub hl [1, 2, 3, 0] rfl)
set_option maxHeartbeats 4000000 in
set_option maxRecDepth 100000 in
theorem lp_Word_hold {p : Program} {e : Env} {s : State} {m : MethodId} {args : Array Value} {below : List Frame} {meth : Method} {c : Code} (l : Launch) (D : va_G) (cA cW : ClassId) (T : Nat → Nat) (hT : nvT T) (n : Nat → Nat) (g : Nat → Nat → Nat) (i : Nat) (hi : i < 17) (N : Nat) (hN : N ≤ 64) (v1 : Nat) (hv1 : v1 < 2 ^ 64) (S : CallFix p m c bWord_hold 5 s args nzG RW) (hr : meth.sig.returnType = none) (hlocks : meth.locks = false) (hK : va_K D vwCl (nvTy cA cW) s) : ∀ (fuel : Nat) (k : Nat), k ≤ N → N < k + fuel → ∀ (H : Heap) (locs : List Loc), va_P D vwCl (nvW cA cW T (va_up n i N) (va_up g i (pov (zPut v1) (g i) 0 k))) H → va_S (nvA T) s.heap H locs → ∀ (ls : Array Slot), lv_has ls 5 [(0, .ref (T (2 + i))), (1, .int (nI N)), (2, .long (lN v1)), (4, .int (nI k))] → W p l e ({ frames := 0, cells := 0, slots := 0, locals := 0 }) s m args below meth c H locs 0 0 (MQ below (va_Qv (fun _ : Unit => True) (fun _ t => va_P D vwCl (nvW cA cW T (va_up n i N) (va_up g i (pov (zPut v1) (g i) 0 N))) t.heap) (nvA T)) args s 0 0 (nvA T)) (F0 m 8 ls []) := by
  have hx := S.1
  have hb := S.2.1
  intro fuel
  induction fuel with
  | zero =>
    intro k hk hfu
    exact absurd hfu (by omega)
  | succ fuel ih =>
    intro k hk hfu H locs hP hS ls hl
    refine lv_iload hx hb dWord_hold_8 (lv_at hl 3 rfl) ?_
    refine lv_iload_n hx hb dWord_hold_10 rfl (lv_at hl 1 rfl) ?_
    refine lv_icmp_ge (tgt := 43) hx hb dWord_hold_11 (by decide) (fun c1 => ?_) (fun c1 => ?_)
    · have mc1 : N ≤ k := (nI_leI (a := N) (b := k) (by omega) (by omega)).mp c1
      obtain rfl : k = N := by omega
      exact W.vret hx hb hr (fun t ht hW => ⟨⟨(), rfl, trivial, (show va_P D vwCl _ t.heap by rw [ht]; exact hP)⟩, hS.F ht⟩) hS.2.2 dWord_hold_43
    · have mc1 : k < N := Nat.lt_of_not_le (fun h => c1 ((nI_leI (a := N) (b := k) (by omega) (by omega)).mpr h))
      refine lv_aload_n hx hb dWord_hold_14 rfl (lv_at hl 0 rfl) ?_
      refine nv_getE S hK hP hi dWord_hold_15 ?_
      refine lv_iload hx hb dWord_hold_18 (lv_at hl 3 rfl) ?_
      refine lv_lload_n hx hb dWord_hold_20 rfl (lv_at hl 2 rfl) ?_
      refine lv_iload hx hb dWord_hold_21 (lv_at hl 3 rfl) ?_
      refine lv_lushr (v := lN (v1 / 2 ^ k)) hx hb dWord_hold_23 (wb_shr hv1 (by omega)) ?_
      refine lv_lconst (v := 1) hx hb dWord_hold_24 (by decide) ?_
      refine lv_land hx hb dWord_hold_25 ?_
      refine nz_eql (wb_a1 (n := v1 / 2 ^ k) (Nat.lt_of_le_of_lt (Nat.div_le_self _ _) hv1)) ?_
      refine lv_lconst (v := 0) hx hb dWord_hold_26 (by decide) ?_
      refine W.lcmp hx hb dWord_hold_27 ?_
      refine lv_if_ne (tgt := 35) hx hb dWord_hold_28 (by decide) (fun c2 => ?_) (fun c2 => ?_)
      · refine lv_iconst (v := 3) hx hb dWord_hold_35 (by decide) ?_
        refine nz_eqi (y := nI (zPut v1 k)) (by rw [show zPut v1 k = 3 from if_neg ((by decide +kernel : ∀ b, b < 2 → ¬ lg_cmp (lN b) 0 = 0 → ¬ b = 0) _ (Nat.mod_lt _ (by decide)) c2)]; rfl) ?_
        refine nv_ast (k := k) (v := zPut v1 k) hx hb hT hK hP hS hi (by omega) dWord_hold_36 (fun H locs hP hS => ?_)
        rw [nv_step g i (zPut v1) (g i) k] at hP
        refine lv_iinc (v := nI (k + 1)) (lv' := [(4, .int (nI (k + 1))), (0, .ref (T (2 + i))), (1, .int (nI N)), (2, .long (lN v1))]) hx hb dWord_hold_37 hl (k := 3) rfl (nI_1 k) (by decide) rfl (fun ls hl => ?_)
        refine lv_goto (tgt := 8) hx hb dWord_hold_40 (by decide) ?_
        exact ih (k + 1) (by omega) (by omega) _ _ hP hS ls (lv_sub hl [1, 2, 3, 0] rfl)
      · refine lv_iconst (v := 2) hx hb dWord_hold_31 (by decide) ?_
        refine lv_goto (tgt := 36) hx hb dWord_hold_32 (by decide) ?_
        refine nz_eqi (y := nI (zPut v1 k)) (by rw [show zPut v1 k = 2 from if_pos ((by decide +kernel : ∀ b, b < 2 → lg_cmp (lN b) 0 = 0 → b = 0) _ (Nat.mod_lt _ (by decide)) c2)]; rfl) ?_
        refine nv_ast (k := k) (v := zPut v1 k) hx hb hT hK hP hS hi (by omega) dWord_hold_36 (fun H locs hP hS => ?_)
        rw [nv_step g i (zPut v1) (g i) k] at hP
        refine lv_iinc (v := nI (k + 1)) (lv' := [(4, .int (nI (k + 1))), (0, .ref (T (2 + i))), (1, .int (nI N)), (2, .long (lN v1))]) hx hb dWord_hold_37 hl (k := 3) rfl (nI_1 k) (by decide) rfl (fun ls hl => ?_)
        refine lv_goto (tgt := 8) hx hb dWord_hold_40 (by decide) ?_
        exact ih (k + 1) (by omega) (by omega) _ _ hP hS ls (lv_sub hl [1, 2, 3, 0] rfl)
set_option maxHeartbeats 4000000 in
set_option maxRecDepth 100000 in
theorem c_Word_hold (l : Launch) (D : va_G) (cA cW : ClassId) (T : Nat → Nat) (hT : nvT T) (n : Nat → Nat) (g : Nat → Nat → Nat) (i : Nat) (hi : i < 17) (N : Nat) (hN : N ≤ 64) (v1 : Nat) (hv1 : v1 < 2 ^ 64) : Met l yWord_hold (Cond.code yWord_hold bWord_hold 5 none :: nzG) ({ frames := 0, cells := 0, slots := 0, locals := 0 }) (va_Pc [.ref (T (2 + i)), .int (nI N), .long (lN v1)] (nvP D cA cW (nvW cA cW T n g))) (va_Qv (fun _ : Unit => True) (fun _ t => va_P D vwCl (nvW cA cW T (va_up n i N) (va_up g i (pov (zPut v1) (g i) 0 N))) t.heap) (nvA T)) 0 0 (nvA T) := by
  refine nz_of (own := RW) (by decide) rfl ?_
  intro p e s m args below meth c S hr hlocks _ hv9
  obtain ⟨rfl, hP, hK⟩ := hv9
  have hx := S.1
  have hb := S.2.1
  refine nz_entry (vs := [.ref (T (2 + i)), .int (nI N), .long (lN v1)]) (n := 5) (lv := [(0, .ref (T (2 + i))), (1, .int (nI N)), (2, .long (lN v1))]) (Nat.le_of_ble_eq_true rfl) rfl (fun ls hl => ?_)
  have hS : va_S (nvA T) s.heap s.heap [] := va_S.rf
  refine lv_aload_n hx hb dWord_hold_0 rfl (lv_at hl 0 rfl) ?_
  refine lv_iload_n hx hb dWord_hold_1 rfl (lv_at hl 1 rfl) ?_
  refine nv_putS (N := N) S hT hK hP hS hi dWord_hold_2 (fun H locs hP hS => ?_)
  refine lv_iconst (v := 0) hx hb dWord_hold_5 (by decide) ?_
  refine lv_istore (lv' := [(4, .int 0), (0, .ref (T (2 + i))), (1, .int (nI N)), (2, .long (lN v1))]) hx hb dWord_hold_6 hl (by decide) rfl (fun ls hl => ?_)
  rw [show g = va_up g i (pov (zPut v1) (g i) 0 0) by rw [pov_0, va_up_eta]] at hP
  exact lp_Word_hold l D cA cW T hT n g i hi N hN v1 hv1 S hr hlocks hK (N + 1) 0 (by omega) (by omega) _ _ hP hS ls (lv_sub hl [1, 2, 3, 0] rfl)
set_option maxHeartbeats 4000000 in
set_option maxRecDepth 100000 in
theorem lp_Word_lay {p : Program} {e : Env} {s : State} {m : MethodId} {args : Array Value} {below : List Frame} {meth : Method} {c : Code} (l : Launch) (D : va_G) (cA cW : ClassId) (T : Nat → Nat) (hT : nvT T) (n : Nat → Nat) (g : Nat → Nat → Nat) (i : Nat) (hi : i < 17) (i2 : Nat) (hi2 : i2 < 17) (hne : i2 ≠ i) (k1 N a1 : Nat) (hk1 : k1 + N ≤ 64) (ha1 : a1 + N ≤ 64) (S : CallFix p m c bWord_lay 6 s args nzG RW) (hr : meth.sig.returnType = none) (hlocks : meth.locks = false) (hK : va_K D vwCl (nvTy cA cW) s) : ∀ (fuel : Nat) (k : Nat), k ≤ N → N < k + fuel → ∀ (H : Heap) (locs : List Loc), va_P D vwCl (nvW cA cW T n (va_up g i (pov (fun x => g i2 (k1 + (x - a1))) (g i) a1 k))) H → va_S (nvA T) s.heap H locs → ∀ (ls : Array Slot), lv_has ls 6 [(0, .ref (T (2 + i))), (1, .ref (T (2 + i2))), (2, .int (nI k1)), (3, .int (nI N)), (4, .int (nI a1)), (5, .int (nI k))] → W p l e ({ frames := 0, cells := 0, slots := 0, locals := 0 }) s m args below meth c H locs 0 0 (MQ below (va_Qv (fun _ : Unit => True) (fun _ t => va_P D vwCl (nvW cA cW T n (va_up g i (pov (fun x => g i2 (k1 + (x - a1))) (g i) a1 N))) t.heap) (nvA T)) args s 0 0 (nvA T)) (F0 m 3 ls []) := by
  have hx := S.1
  have hb := S.2.1
  intro fuel
  induction fuel with
  | zero =>
    intro k hk hfu
    exact absurd hfu (by omega)
  | succ fuel ih =>
    intro k hk hfu H locs hP hS ls hl
    refine lv_iload hx hb dWord_lay_3 (lv_at hl 5 rfl) ?_
    refine lv_iload_n hx hb dWord_lay_5 rfl (lv_at hl 3 rfl) ?_
    refine lv_icmp_ge (tgt := 34) hx hb dWord_lay_6 (by decide) (fun c1 => ?_) (fun c1 => ?_)
    · have mc1 : N ≤ k := (nI_leI (a := N) (b := k) (by omega) (by omega)).mp c1
      obtain rfl : k = N := by omega
      exact W.vret hx hb hr (fun t ht hW => ⟨⟨(), rfl, trivial, (show va_P D vwCl _ t.heap by rw [ht]; exact hP)⟩, hS.F ht⟩) hS.2.2 dWord_lay_34
    · have mc1 : k < N := Nat.lt_of_not_le (fun h => c1 ((nI_leI (a := N) (b := k) (by omega) (by omega)).mpr h))
      refine lv_aload_n hx hb dWord_lay_9 rfl (lv_at hl 0 rfl) ?_
      refine nv_getE S hK hP hi dWord_lay_10 ?_
      refine lv_iload hx hb dWord_lay_13 (lv_at hl 4 rfl) ?_
      refine lv_iload hx hb dWord_lay_15 (lv_at hl 5 rfl) ?_
      refine lv_iadd hx hb dWord_lay_17 ?_
      refine nz_eqi (nI_add a1 k) ?_
      refine lv_aload_n hx hb dWord_lay_18 rfl (lv_at hl 1 rfl) ?_
      refine nv_getE S hK hP hi2 dWord_lay_19 ?_
      refine lv_iload_n hx hb dWord_lay_22 rfl (lv_at hl 2 rfl) ?_
      refine lv_iload hx hb dWord_lay_23 (lv_at hl 5 rfl) ?_
      refine lv_iadd hx hb dWord_lay_25 ?_
      refine nz_eqi (nI_add k1 k) ?_
      refine nv_ald (k := k1 + k) hx hb hK hP hi2 (by omega) dWord_lay_26 ?_
      refine nz_eqi (y := nI ((fun x => g i2 (k1 + (x - a1))) (a1 + k))) (by show _ = nI (g i2 (k1 + (a1 + k - a1))); rw [va_up_ne _ _ hne, Nat.add_sub_cancel_left]) ?_
      refine nv_ast (k := a1 + k) (v := (fun x => g i2 (k1 + (x - a1))) (a1 + k)) hx hb hT hK hP hS hi (by omega) dWord_lay_27 (fun H locs hP hS => ?_)
      rw [nv_stepA g i (fun x => g i2 (k1 + (x - a1))) (g i) a1 k] at hP
      refine lv_iinc (v := nI (k + 1)) (lv' := [(5, .int (nI (k + 1))), (0, .ref (T (2 + i))), (1, .ref (T (2 + i2))), (2, .int (nI k1)), (3, .int (nI N)), (4, .int (nI a1))]) hx hb dWord_lay_28 hl (k := 5) rfl (nI_1 k) (by decide) rfl (fun ls hl => ?_)
      refine lv_goto (tgt := 3) hx hb dWord_lay_31 (by decide) ?_
      exact ih (k + 1) (by omega) (by omega) _ _ hP hS ls (lv_sub hl [1, 2, 3, 4, 5, 0] rfl)
set_option maxHeartbeats 4000000 in
set_option maxRecDepth 100000 in
theorem c_Word_lay (l : Launch) (D : va_G) (cA cW : ClassId) (T : Nat → Nat) (hT : nvT T) (n : Nat → Nat) (g : Nat → Nat → Nat) (i : Nat) (hi : i < 17) (i2 : Nat) (hi2 : i2 < 17) (hne : i2 ≠ i) (k1 N a1 : Nat) (hk1 : k1 + N ≤ 64) (ha1 : a1 + N ≤ 64) : Met l yWord_lay (Cond.code yWord_lay bWord_lay 6 none :: nzG) ({ frames := 0, cells := 0, slots := 0, locals := 0 }) (va_Pc [.ref (T (2 + i)), .ref (T (2 + i2)), .int (nI k1), .int (nI N), .int (nI a1)] (nvP D cA cW (nvW cA cW T n g))) (va_Qv (fun _ : Unit => True) (fun _ t => va_P D vwCl (nvW cA cW T n (va_up g i (pov (fun x => g i2 (k1 + (x - a1))) (g i) a1 N))) t.heap) (nvA T)) 0 0 (nvA T) := by
  refine nz_of (own := RW) (by decide) rfl ?_
  intro p e s m args below meth c S hr hlocks _ hv9
  obtain ⟨rfl, hP, hK⟩ := hv9
  have hx := S.1
  have hb := S.2.1
  refine nz_entry (vs := [.ref (T (2 + i)), .ref (T (2 + i2)), .int (nI k1), .int (nI N), .int (nI a1)]) (n := 6) (lv := [(0, .ref (T (2 + i))), (1, .ref (T (2 + i2))), (2, .int (nI k1)), (3, .int (nI N)), (4, .int (nI a1))]) (Nat.le_of_ble_eq_true rfl) rfl (fun ls hl => ?_)
  have hS : va_S (nvA T) s.heap s.heap [] := va_S.rf
  refine lv_iconst (v := 0) hx hb dWord_lay_0 (by decide) ?_
  refine lv_istore (lv' := [(5, .int 0), (0, .ref (T (2 + i))), (1, .ref (T (2 + i2))), (2, .int (nI k1)), (3, .int (nI N)), (4, .int (nI a1))]) hx hb dWord_lay_1 hl (by decide) rfl (fun ls hl => ?_)
  rw [show g = va_up g i (pov (fun x => g i2 (k1 + (x - a1))) (g i) a1 0) by rw [pov_0, va_up_eta]] at hP
  exact lp_Word_lay l D cA cW T hT n g i hi i2 hi2 hne k1 N a1 hk1 ha1 S hr hlocks hK (N + 1) 0 (by omega) (by omega) _ _ hP hS ls (lv_sub hl [1, 2, 3, 4, 5, 0] rfl)
set_option maxHeartbeats 4000000 in
set_option maxRecDepth 100000 in
theorem c_Word_copy (l : Launch) (D : va_G) (cA cW : ClassId) (T : Nat → Nat) (hT : nvT T) (n : Nat → Nat) (g : Nat → Nat → Nat) (i : Nat) (hi : i < 17) (i2 : Nat) (hi2 : i2 < 17) (hne : i2 ≠ i) (hn2 : n i2 ≤ 64) : Met l yWord_copy (Cond.code yWord_copy bWord_copy 2 none :: nzG) ({ frames := 1, cells := 0, slots := 0, locals := 25 }) (va_Pc [.ref (T (2 + i)), .ref (T (2 + i2))] (nvP D cA cW (nvW cA cW T n g))) (va_Qv (fun _ : Unit => True) (fun _ t => va_P D vwCl (nvW cA cW T (va_up n i (n i2)) (va_up g i (pov (g i2) (g i) 0 (n i2)))) t.heap) (nvA T)) 0 0 (nvA T) := by
  refine nz_of (own := RW) (by decide) rfl ?_
  intro p e s m args below meth c S hr hlocks _ hv9
  obtain ⟨rfl, hP, hK⟩ := hv9
  have hx := S.1
  have hb := S.2.1
  refine nz_entry (vs := [.ref (T (2 + i)), .ref (T (2 + i2))]) (n := 2) (lv := [(0, .ref (T (2 + i))), (1, .ref (T (2 + i2)))]) (Nat.le_of_ble_eq_true rfl) rfl (fun ls hl => ?_)
  have hS : va_S (nvA T) s.heap s.heap [] := va_S.rf
  refine lv_aload_n hx hb dWord_copy_0 rfl (lv_at hl 0 rfl) ?_
  refine lv_aload_n hx hb dWord_copy_1 rfl (lv_at hl 1 rfl) ?_
  refine nv_getS S hK hP hi2 dWord_copy_2 ?_
  refine nv_putS (N := n i2) S hT hK hP hS hi dWord_copy_5 (fun H locs hP hS => ?_)
  refine lv_aload_n hx hb dWord_copy_8 rfl (lv_at hl 0 rfl) ?_
  refine lv_aload_n hx hb dWord_copy_9 rfl (lv_at hl 1 rfl) ?_
  refine lv_iconst (v := 0) hx hb dWord_copy_10 (by decide) ?_
  refine lv_aload_n hx hb dWord_copy_11 rfl (lv_at hl 1 rfl) ?_
  refine nv_getS S hK hP hi2 dWord_copy_12 ?_
  refine nz_eqi (y := nI (n i2)) (by rw [va_up_ne _ _ hne]) ?_
  refine lv_iconst (v := 0) hx hb dWord_copy_15 (by decide) ?_
  refine nv_call (As := [.ref (T (2 + i2)), .int 0, .int (nI (n i2)), .int 0]) (rest := []) S (c_Word_lay l D cA cW T hT (va_up n i (n i2)) g i hi i2 hi2 hne 0 (n i2) 0 (by omega) (by omega)) kWord_19 ⟨rfl, rfl, Nat.le_of_ble_eq_true rfl, Nat.le_of_ble_eq_true rfl⟩ ⟨Nat.zero_le _, Nat.zero_le _⟩ (nv_ob hK hP hi) hP hK hS rfl hl.1 rfl (Nat.le_of_ble_eq_true rfl) dWord_copy_16 (fun H locs hP hS => ?_)
  rw [lay0 (g i2)] at hP
  exact W.vret hx hb hr (fun t ht hW => ⟨⟨(), rfl, trivial, (show va_P D vwCl _ t.heap by rw [ht]; exact hP)⟩, hS.F ht⟩) hS.2.2 dWord_copy_19
