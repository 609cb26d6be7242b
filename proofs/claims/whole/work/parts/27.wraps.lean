set_option maxHeartbeats 4000000 in
set_option maxRecDepth 100000 in
theorem cL_fill (l : Launch) (hfl : l.flags = pinnedFlags ++ [noTraceFlag]) (D : va_G) (cA cW : ClassId) (T : Nat → Nat) (hT : nvT T) (n : Nat → Nat) (g : Nat → Nat → Nat) (ok : nvOk n g)  (x1 x2 x3 : Int32) : Met l yL_fill (Cond.codeWith yL_fill bL_fill 5 (some .int) [(0, 7, 10, 13), (0, 7, 14, 15)] :: nzG) ({ frames := 8, cells := 1, slots := 6, locals := 133 }) (va_Pc [.ref (T 0), .int x1, .int x2, .int x3] (wrP D cA cW (nvW cA cW T n g))) (va_Qi (fun r (_ : Unit) => r = nI (kFill x1 x2 x3)) (fun _ t => (kFill x1 x2 x3 = 0 ∧ (fun H9 : Heap => ∃ n9 g9, nvU 16 n g (ix x1) (ix x2) (fun _ => ix x3) n9 g9 ∧ va_P D vwCl (nvW cA cW T n9 g9) H9) t.heap) ∨ (¬ kFill x1 x2 x3 = 0 ∧ va_P D vwCl (nvW cA cW T n g) t.heap)) (nvA T)) 1 6 (nvA T) := by
  refine wr_of (own := RL) (by decide) rfl ?_
  intro p e s m args below meth c S hr hlocks htab hv9
  obtain ⟨rfl, ⟨hP, hK, hX⟩, hC⟩ := hv9
  have hob0 := nv_ob0 hK hP
  have hx := S.1
  have hb := S.2.1
  refine nz_entry (vs := [.ref (T 0), .int x1, .int x2, .int x3]) (n := 5) (lv := [(0, .ref (T 0)), (1, .int x1), (2, .int x2), (3, .int x3)]) (Nat.le_of_ble_eq_true rfl) rfl (fun ls hl => ?_)
  refine lv_aload_n hx hb dL_fill_0 rfl (lv_at hl 0 rfl) ?_
  refine lv_iload_n hx hb dL_fill_1 rfl (lv_at hl 1 rfl) ?_
  refine lv_iload_n hx hb dL_fill_2 rfl (lv_at hl 2 rfl) ?_
  refine lv_iload_n hx hb dL_fill_3 rfl (lv_at hl 3 rfl) ?_
  refine wr_call (As := [.int x1, .int x2, .int x3]) (rest := []) S (cN_fill l hfl D cA cW T hT n g ok x1 x2 x3) kL_7 ⟨rfl, rfl, Nat.le_of_ble_eq_true rfl, Nat.le_of_ble_eq_true rfl⟩ ⟨Nat.le_of_ble_eq_true rfl, Nat.le_of_ble_eq_true rfl⟩ nmP.bl hob0 (nmP.to hP hK hX) rfl hl.1 rfl (Nat.le_of_ble_eq_true rfl) dL_fill_4 (fun v st t L h0 hL hq => ?_) (fun E q t L hL hE hT => ?_)
  · obtain ⟨rfl, hk, hB, hF⟩ := hq
    refine lv_goto (tgt := 18) hx hb dL_fill_7 (by decide) ?_
    refine lv_iconst (v := 0) hx hb dL_fill_18 (by decide) ?_
    refine W.widen (k := 1) (n := 6) (Nat.zero_le _) (Nat.zero_le _) ?_
    exact W.iret (v := 0) hx hb hr (fun t2 ht hW => ⟨⟨0, (), rfl, by rw [hk]; rfl, Or.inl ⟨hk, by rw [ht]; exact hB⟩⟩, ⟨by rw [ht, ← h0]; exact hF.1, fun z h1 h2 => by rw [ht, ← h0]; exact hF.2 z (by rw [h0]; exact h1) h2⟩⟩) hL dL_fill_19
  · have hks : kFill x1 x2 x3 = 1 ∨ kFill x1 x2 x3 = 2 := by
      exact kFill_in hE.1
    rcases hks with hk | hk
    · obtain rfl : E = eIO := by rw [hE.2, hk]; rfl
      obtain ⟨ce, hc1, hc2, hc3, hc4, hc5⟩ := id hT
      refine ny_catch (own := RL) (name := eIO) (E := eIO) S.2.2.2.1 [] ⟨0, 7, 10, 13⟩ [⟨0, 7, 14, 15⟩] (htab.trans rfl) (fun z hz => nomatch hz) rfl (by decide) (S.2.2.2.2 _ kclL_13) (va_Nw.use rfl (hX.2.2.1 eIO (by decide))) hc1 hc2 hc3 ?_
      refine lv_astore (lv' := [(4, .ref q), (0, .ref (T 0)), (1, .int x1), (2, .int x2), (3, .int x3)]) hx hb dL_fill_10 hl (by decide) rfl (fun ls hl => ?_)
      refine lv_iconst (v := 1) hx hb dL_fill_12 (by decide) ?_
      exact W.iret (v := 1) hx hb hr (fun t2 ht hW => ⟨⟨1, (), rfl, by rw [hk]; rfl, Or.inr ⟨by rw [hk]; decide, by rw [ht]; exact wr_kept hP hT⟩⟩, ⟨by rw [ht]; exact hc4, fun z h1 h2 => by rw [ht]; exact hc5 z h1⟩⟩) hL dL_fill_13
    · obtain rfl : E = eIA := by rw [hE.2, hk]; rfl
      obtain ⟨ce, hc1, hc2, hc3, hc4, hc5⟩ := id hT
      refine ny_catch (own := RL) (name := eIA) (E := eIA) S.2.2.2.1 [⟨0, 7, 10, 13⟩] ⟨0, 7, 14, 15⟩ [] (htab.trans rfl) (fun z hz => by
            rw [List.mem_singleton.mp hz]
            exact ⟨rfl, by decide, eIO, S.2.2.2.2 _ kclL_13, hC.1⟩) rfl (by decide) (S.2.2.2.2 _ kclL_15) (va_Nw.use rfl (hX.2.2.1 eIA (by decide))) hc1 hc2 hc3 ?_
      refine lv_astore (lv' := [(4, .ref q), (0, .ref (T 0)), (1, .int x1), (2, .int x2), (3, .int x3)]) hx hb dL_fill_14 hl (by decide) rfl (fun ls hl => ?_)
      refine lv_iconst (v := 2) hx hb dL_fill_16 (by decide) ?_
      exact W.iret (v := 2) hx hb hr (fun t2 ht hW => ⟨⟨2, (), rfl, by rw [hk]; rfl, Or.inr ⟨by rw [hk]; decide, by rw [ht]; exact wr_kept hP hT⟩⟩, ⟨by rw [ht]; exact hc4, fun z h1 h2 => by rw [ht]; exact hc5 z h1⟩⟩) hL dL_fill_17
set_option maxHeartbeats 4000000 in
set_option maxRecDepth 100000 in
theorem cL_put (l : Launch) (hfl : l.flags = pinnedFlags ++ [noTraceFlag]) (D : va_G) (cA cW : ClassId) (T : Nat → Nat) (hT : nvT T) (n : Nat → Nat) (g : Nat → Nat → Nat) (ok : nvOk n g)  (x1 x2 x3 : Int32) : Met l yL_put (Cond.codeWith yL_put bL_put 5 (some .int) [(0, 7, 10, 13), (0, 7, 14, 15)] :: nzG) ({ frames := 9, cells := 1, slots := 6, locals := 155 }) (va_Pc [.ref (T 0), .int x1, .int x2, .int x3] (wrP D cA cW (nvW cA cW T n g))) (va_Qi (fun r (_ : Unit) => r = nI (kPut n x1 x2 x3)) (fun _ t => (kPut n x1 x2 x3 = 0 ∧ (fun H9 : Heap => ∃ n9 g9, nvU 16 n g (ix x1) (n (ix x1)) (va_up (g (ix x1)) (ix x2) (ix x3)) n9 g9 ∧ va_P D vwCl (nvW cA cW T n9 g9) H9) t.heap) ∨ (¬ kPut n x1 x2 x3 = 0 ∧ va_P D vwCl (nvW cA cW T n g) t.heap)) (nvA T)) 1 6 (nvA T) := by
  refine wr_of (own := RL) (by decide) rfl ?_
  intro p e s m args below meth c S hr hlocks htab hv9
  obtain ⟨rfl, ⟨hP, hK, hX⟩, hC⟩ := hv9
  have hob0 := nv_ob0 hK hP
  have hx := S.1
  have hb := S.2.1
  refine nz_entry (vs := [.ref (T 0), .int x1, .int x2, .int x3]) (n := 5) (lv := [(0, .ref (T 0)), (1, .int x1), (2, .int x2), (3, .int x3)]) (Nat.le_of_ble_eq_true rfl) rfl (fun ls hl => ?_)
  refine lv_aload_n hx hb dL_put_0 rfl (lv_at hl 0 rfl) ?_
  refine lv_iload_n hx hb dL_put_1 rfl (lv_at hl 1 rfl) ?_
  refine lv_iload_n hx hb dL_put_2 rfl (lv_at hl 2 rfl) ?_
  refine lv_iload_n hx hb dL_put_3 rfl (lv_at hl 3 rfl) ?_
  refine wr_call (As := [.int x1, .int x2, .int x3]) (rest := []) S (cN_put l hfl D cA cW T hT n g ok x1 x2 x3) kL_17 ⟨rfl, rfl, Nat.le_of_ble_eq_true rfl, Nat.le_of_ble_eq_true rfl⟩ ⟨Nat.le_of_ble_eq_true rfl, Nat.le_of_ble_eq_true rfl⟩ nmP.bl hob0 (nmP.to hP hK hX) rfl hl.1 rfl (Nat.le_of_ble_eq_true rfl) dL_put_4 (fun v st t L h0 hL hq => ?_) (fun E q t L hL hE hT => ?_)
  · obtain ⟨rfl, hk, hB, hF⟩ := hq
    refine lv_goto (tgt := 18) hx hb dL_put_7 (by decide) ?_
    refine lv_iconst (v := 0) hx hb dL_put_18 (by decide) ?_
    refine W.widen (k := 1) (n := 6) (Nat.zero_le _) (Nat.zero_le _) ?_
    exact W.iret (v := 0) hx hb hr (fun t2 ht hW => ⟨⟨0, (), rfl, by rw [hk]; rfl, Or.inl ⟨hk, by rw [ht]; exact hB⟩⟩, ⟨by rw [ht, ← h0]; exact hF.1, fun z h1 h2 => by rw [ht, ← h0]; exact hF.2 z (by rw [h0]; exact h1) h2⟩⟩) hL dL_put_19
  · have hks : kPut n x1 x2 x3 = 1 ∨ kPut n x1 x2 x3 = 2 := by
      exact kPut_in hE.1
    rcases hks with hk | hk
    · obtain rfl : E = eIO := by rw [hE.2, hk]; rfl
      obtain ⟨ce, hc1, hc2, hc3, hc4, hc5⟩ := id hT
      refine ny_catch (own := RL) (name := eIO) (E := eIO) S.2.2.2.1 [] ⟨0, 7, 10, 13⟩ [⟨0, 7, 14, 15⟩] (htab.trans rfl) (fun z hz => nomatch hz) rfl (by decide) (S.2.2.2.2 _ kclL_13) (va_Nw.use rfl (hX.2.2.1 eIO (by decide))) hc1 hc2 hc3 ?_
      refine lv_astore (lv' := [(4, .ref q), (0, .ref (T 0)), (1, .int x1), (2, .int x2), (3, .int x3)]) hx hb dL_put_10 hl (by decide) rfl (fun ls hl => ?_)
      refine lv_iconst (v := 1) hx hb dL_put_12 (by decide) ?_
      exact W.iret (v := 1) hx hb hr (fun t2 ht hW => ⟨⟨1, (), rfl, by rw [hk]; rfl, Or.inr ⟨by rw [hk]; decide, by rw [ht]; exact wr_kept hP hT⟩⟩, ⟨by rw [ht]; exact hc4, fun z h1 h2 => by rw [ht]; exact hc5 z h1⟩⟩) hL dL_put_13
    · obtain rfl : E = eIA := by rw [hE.2, hk]; rfl
      obtain ⟨ce, hc1, hc2, hc3, hc4, hc5⟩ := id hT
      refine ny_catch (own := RL) (name := eIA) (E := eIA) S.2.2.2.1 [⟨0, 7, 10, 13⟩] ⟨0, 7, 14, 15⟩ [] (htab.trans rfl) (fun z hz => by
            rw [List.mem_singleton.mp hz]
            exact ⟨rfl, by decide, eIO, S.2.2.2.2 _ kclL_13, hC.1⟩) rfl (by decide) (S.2.2.2.2 _ kclL_15) (va_Nw.use rfl (hX.2.2.1 eIA (by decide))) hc1 hc2 hc3 ?_
      refine lv_astore (lv' := [(4, .ref q), (0, .ref (T 0)), (1, .int x1), (2, .int x2), (3, .int x3)]) hx hb dL_put_14 hl (by decide) rfl (fun ls hl => ?_)
      refine lv_iconst (v := 2) hx hb dL_put_16 (by decide) ?_
      exact W.iret (v := 2) hx hb hr (fun t2 ht hW => ⟨⟨2, (), rfl, by rw [hk]; rfl, Or.inr ⟨by rw [hk]; decide, by rw [ht]; exact wr_kept hP hT⟩⟩, ⟨by rw [ht]; exact hc4, fun z h1 h2 => by rw [ht]; exact hc5 z h1⟩⟩) hL dL_put_17
set_option maxHeartbeats 4000000 in
set_option maxRecDepth 100000 in
theorem cL_get (l : Launch) (hfl : l.flags = pinnedFlags ++ [noTraceFlag]) (D : va_G) (cA cW : ClassId) (T : Nat → Nat) (hT : nvT T) (n : Nat → Nat) (g : Nat → Nat → Nat) (ok : nvOk n g) (cJ : ClassId) (bo : Nat) (f : Nat → Int64) (x1 x2 : Int32) : Met l yL_get (Cond.codeWith yL_get bL_get 5 (some .int) [(0, 10, 13, 13)] :: nzG) ({ frames := 9, cells := 1, slots := 6, locals := 154 }) (va_Pc [.ref (T 0), .int x1, .int x2, .ref bo] (woP D cA cW cJ (nvW cA cW T n g ++ woC cJ bo f))) (va_Qi (fun r (_ : Unit) => r = nI (kGet n x1 x2)) (fun _ t => ∃ f9 : Nat → Int64, (kGet n x1 x2 = 0 → f9 0 = (nI (g (ix x1) (ix x2))).toInt64) ∧ va_P D vwCl (nvW cA cW T n g ++ woC cJ bo f9) t.heap) (fun q => q = bo)) 1 6 (fun q => q = bo) := by
  refine wr_of (own := RL) (by decide) rfl ?_
  intro p e s m args below meth c S hr hlocks htab hv9
  obtain ⟨rfl, hP2, hK2, hD2, hX, hC⟩ := hv9
  have hP := nw_P1 hP2
  have hK := wo_K hK2
  have hob0 := nv_ob0 hK hP
  have hx := S.1
  have hb := S.2.1
  refine nz_entry (vs := [.ref (T 0), .int x1, .int x2, .ref bo]) (n := 5) (lv := [(0, .ref (T 0)), (1, .int x1), (2, .int x2), (3, .ref bo)]) (Nat.le_of_ble_eq_true rfl) rfl (fun ls hl => ?_)
  refine lv_aload_n hx hb dL_get_0 rfl (lv_at hl 3 rfl) ?_
  refine lv_iconst (v := 0) hx hb dL_get_1 (by decide) ?_
  refine lv_aload_n hx hb dL_get_2 rfl (lv_at hl 0 rfl) ?_
  refine lv_iload_n hx hb dL_get_3 rfl (lv_at hl 1 rfl) ?_
  refine lv_iload_n hx hb dL_get_4 rfl (lv_at hl 2 rfl) ?_
  refine wr_call (As := [.int x1, .int x2]) (rest := [.int 0, .ref bo]) S (cN_get l hfl D cA cW T hT n g ok x1 x2) kL_20 ⟨rfl, rfl, Nat.le_of_ble_eq_true rfl, Nat.le_of_ble_eq_true rfl⟩ ⟨Nat.le_of_ble_eq_true rfl, Nat.le_of_ble_eq_true rfl⟩ nmP.bl hob0 (nmP.to hP hK hX) rfl hl.1 rfl (Nat.le_of_ble_eq_true rfl) dL_get_5 (fun v st t L h0 hL hq => ?_) (fun E q t L hL hE hT => ?_)
  · obtain ⟨hk, rfl, hh9⟩ := hq
    obtain rfl : L = [] := by
      cases L with
      | nil => rfl
      | cons z L => exact (hL z List.mem_cons_self).elim
    have hh0 : t.heap = s.heap := by rw [hh9, h0]
    refine lv_i2l (v := (nI (g (ix x1) (ix x2))).toInt64) hx hb dL_get_8 rfl ?_
    refine wo_store hx hb hK2 hP2 hD2 hh0 dL_get_9 (fun H locs hP2 hS => ?_)
    refine lv_goto (tgt := 17) hx hb dL_get_10 (by decide) ?_
    refine lv_iconst (v := 0) hx hb dL_get_17 (by decide) ?_
    refine W.widen (k := 1) (n := 6) (Nat.zero_le _) (Nat.zero_le _) ?_
    exact W.iret (v := 0) hx hb hr (fun t2 ht hW => ⟨⟨0, (), rfl, by rw [hk]; rfl, vp_updL f 0 ((nI (g (ix x1) (ix x2))).toInt64), fun _ => rfl, by rw [ht]; exact hP2⟩, hS.F ht⟩) hS.2.2 dL_get_18
  · have hks : kGet n x1 x2 = 1 := by
      exact kGet_in hE.1
    have hk := hks
    obtain rfl : E = eIO := by rw [hE.2, hk]; rfl
    obtain ⟨ce, hc1, hc2, hc3, hc4, hc5⟩ := id hT
    refine ny_catch (own := RL) (name := eIO) (E := eIO) S.2.2.2.1 [] ⟨0, 10, 13, 13⟩ [] (htab.trans rfl) (fun z hz => nomatch hz) rfl (by decide) (S.2.2.2.2 _ kclL_13) (va_Nw.use rfl (hX.2.2.1 eIO (by decide))) hc1 hc2 hc3 ?_
    refine lv_astore (lv' := [(4, .ref q), (0, .ref (T 0)), (1, .int x1), (2, .int x2), (3, .ref bo)]) hx hb dL_get_13 hl (by decide) rfl (fun ls hl => ?_)
    refine lv_iconst (v := 1) hx hb dL_get_15 (by decide) ?_
    exact W.iret (v := 1) hx hb hr (fun t2 ht hW => ⟨⟨1, (), rfl, by rw [hk]; rfl, f, fun h => absurd h (by rw [hk]; decide), by rw [ht]; exact wr_kept hP2 hT⟩, ⟨by rw [ht]; exact hc4, fun z h1 h2 => by rw [ht]; exact hc5 z h1⟩⟩) (fun z hz => (hL z hz).elim) dL_get_16
set_option maxHeartbeats 4000000 in
set_option maxRecDepth 100000 in
theorem cL_length (l : Launch) (hfl : l.flags = pinnedFlags ++ [noTraceFlag]) (D : va_G) (cA cW : ClassId) (T : Nat → Nat) (hT : nvT T) (n : Nat → Nat) (g : Nat → Nat → Nat) (ok : nvOk n g) (cJ : ClassId) (bo : Nat) (f : Nat → Int64) (x1 : Int32) : Met l yL_length (Cond.codeWith yL_length bL_length 4 (some .int) [(0, 9, 12, 13)] :: nzG) ({ frames := 8, cells := 1, slots := 6, locals := 131 }) (va_Pc [.ref (T 0), .int x1, .ref bo] (woP D cA cW cJ (nvW cA cW T n g ++ woC cJ bo f))) (va_Qi (fun r (_ : Unit) => r = nI (kPl x1)) (fun _ t => ∃ f9 : Nat → Int64, (kPl x1 = 0 → f9 0 = (nI (n (ix x1))).toInt64) ∧ va_P D vwCl (nvW cA cW T n g ++ woC cJ bo f9) t.heap) (fun q => q = bo)) 1 6 (fun q => q = bo) := by
  refine wr_of (own := RL) (by decide) rfl ?_
  intro p e s m args below meth c S hr hlocks htab hv9
  obtain ⟨rfl, hP2, hK2, hD2, hX, hC⟩ := hv9
  have hP := nw_P1 hP2
  have hK := wo_K hK2
  have hob0 := nv_ob0 hK hP
  have hx := S.1
  have hb := S.2.1
  refine nz_entry (vs := [.ref (T 0), .int x1, .ref bo]) (n := 4) (lv := [(0, .ref (T 0)), (1, .int x1), (2, .ref bo)]) (Nat.le_of_ble_eq_true rfl) rfl (fun ls hl => ?_)
  refine lv_aload_n hx hb dL_length_0 rfl (lv_at hl 2 rfl) ?_
  refine lv_iconst (v := 0) hx hb dL_length_1 (by decide) ?_
  refine lv_aload_n hx hb dL_length_2 rfl (lv_at hl 0 rfl) ?_
  refine lv_iload_n hx hb dL_length_3 rfl (lv_at hl 1 rfl) ?_
  refine wr_call (As := [.int x1]) (rest := [.int 0, .ref bo]) S (cN_length l hfl D cA cW T hT n g ok x1) kL_24 ⟨rfl, rfl, Nat.le_of_ble_eq_true rfl, Nat.le_of_ble_eq_true rfl⟩ ⟨Nat.le_of_ble_eq_true rfl, Nat.le_of_ble_eq_true rfl⟩ nmP.bl hob0 (nmP.to hP hK hX) rfl hl.1 rfl (Nat.le_of_ble_eq_true rfl) dL_length_4 (fun v st t L h0 hL hq => ?_) (fun E q t L hL hE hT => ?_)
  · obtain ⟨hk, rfl, hh9⟩ := hq
    obtain rfl : L = [] := by
      cases L with
      | nil => rfl
      | cons z L => exact (hL z List.mem_cons_self).elim
    have hh0 : t.heap = s.heap := by rw [hh9, h0]
    refine lv_i2l (v := (nI (n (ix x1))).toInt64) hx hb dL_length_7 rfl ?_
    refine wo_store hx hb hK2 hP2 hD2 hh0 dL_length_8 (fun H locs hP2 hS => ?_)
    refine lv_goto (tgt := 15) hx hb dL_length_9 (by decide) ?_
    refine lv_iconst (v := 0) hx hb dL_length_15 (by decide) ?_
    refine W.widen (k := 1) (n := 6) (Nat.zero_le _) (Nat.zero_le _) ?_
    exact W.iret (v := 0) hx hb hr (fun t2 ht hW => ⟨⟨0, (), rfl, by rw [hk]; rfl, vp_updL f 0 ((nI (n (ix x1))).toInt64), fun _ => rfl, by rw [ht]; exact hP2⟩, hS.F ht⟩) hS.2.2 dL_length_16
  · have hks : kPl x1 = 1 := by
      exact kPl_in hE.1
    have hk := hks
    obtain rfl : E = eIO := by rw [hE.2, hk]; rfl
    obtain ⟨ce, hc1, hc2, hc3, hc4, hc5⟩ := id hT
    refine ny_catch (own := RL) (name := eIO) (E := eIO) S.2.2.2.1 [] ⟨0, 9, 12, 13⟩ [] (htab.trans rfl) (fun z hz => nomatch hz) rfl (by decide) (S.2.2.2.2 _ kclL_13) (va_Nw.use rfl (hX.2.2.1 eIO (by decide))) hc1 hc2 hc3 ?_
    refine lv_astore_n (lv' := [(3, .ref q), (0, .ref (T 0)), (1, .int x1), (2, .ref bo)]) hx hb dL_length_12 rfl hl (by decide) rfl (fun ls hl => ?_)
    refine lv_iconst (v := 1) hx hb dL_length_13 (by decide) ?_
    exact W.iret (v := 1) hx hb hr (fun t2 ht hW => ⟨⟨1, (), rfl, by rw [hk]; rfl, f, fun h => absurd h (by rw [hk]; decide), by rw [ht]; exact wr_kept hP2 hT⟩, ⟨by rw [ht]; exact hc4, fun z h1 h2 => by rw [ht]; exact hc5 z h1⟩⟩) (fun z hz => (hL z hz).elim) dL_length_14
set_option maxHeartbeats 4000000 in
set_option maxRecDepth 100000 in
theorem cL_number (l : Launch) (hfl : l.flags = pinnedFlags ++ [noTraceFlag]) (D : va_G) (cA cW : ClassId) (T : Nat → Nat) (hT : nvT T) (n : Nat → Nat) (g : Nat → Nat → Nat) (ok : nvOk n g)  (x1 x2 : Int32) (v1 : Nat) (hv1 : v1 < 2 ^ 64) : Met l yL_number (Cond.codeWith yL_number bL_number 6 (some .int) [(0, 7, 10, 13), (0, 7, 14, 15)] :: nzG) ({ frames := 8, cells := 1, slots := 6, locals := 134 }) (va_Pc [.ref (T 0), .int x1, .int x2, .long (lN v1)] (wrP D cA cW (nvW cA cW T n g))) (va_Qi (fun r (_ : Unit) => r = nI (kNumber x1 x2)) (fun _ t => (kNumber x1 x2 = 0 ∧ (fun H9 : Heap => ∃ n9 g9, nvU 16 n g (ix x1) (ix x2) (zPut v1) n9 g9 ∧ va_P D vwCl (nvW cA cW T n9 g9) H9) t.heap) ∨ (¬ kNumber x1 x2 = 0 ∧ va_P D vwCl (nvW cA cW T n g) t.heap)) (nvA T)) 1 6 (nvA T) := by
  refine wr_of (own := RL) (by decide) rfl ?_
  intro p e s m args below meth c S hr hlocks htab hv9
  obtain ⟨rfl, ⟨hP, hK, hX⟩, hC⟩ := hv9
  have hob0 := nv_ob0 hK hP
  have hx := S.1
  have hb := S.2.1
  refine nz_entry (vs := [.ref (T 0), .int x1, .int x2, .long (lN v1)]) (n := 6) (lv := [(0, .ref (T 0)), (1, .int x1), (2, .int x2), (3, .long (lN v1))]) (Nat.le_of_ble_eq_true rfl) rfl (fun ls hl => ?_)
  refine lv_aload_n hx hb dL_number_0 rfl (lv_at hl 0 rfl) ?_
  refine lv_iload_n hx hb dL_number_1 rfl (lv_at hl 1 rfl) ?_
  refine lv_iload_n hx hb dL_number_2 rfl (lv_at hl 2 rfl) ?_
  refine lv_lload_n hx hb dL_number_3 rfl (lv_at hl 3 rfl) ?_
  refine wr_call (As := [.int x1, .int x2, .long (lN v1)]) (rest := []) S (cN_number l hfl D cA cW T hT n g ok x1 x2 v1 hv1) kL_28 ⟨rfl, rfl, Nat.le_of_ble_eq_true rfl, Nat.le_of_ble_eq_true rfl⟩ ⟨Nat.le_of_ble_eq_true rfl, Nat.le_of_ble_eq_true rfl⟩ nmP.bl hob0 (nmP.to hP hK hX) rfl hl.1 rfl (Nat.le_of_ble_eq_true rfl) dL_number_4 (fun v st t L h0 hL hq => ?_) (fun E q t L hL hE hT => ?_)
  · obtain ⟨rfl, hk, hB, hF⟩ := hq
    refine lv_goto (tgt := 18) hx hb dL_number_7 (by decide) ?_
    refine lv_iconst (v := 0) hx hb dL_number_18 (by decide) ?_
    refine W.widen (k := 1) (n := 6) (Nat.zero_le _) (Nat.zero_le _) ?_
    exact W.iret (v := 0) hx hb hr (fun t2 ht hW => ⟨⟨0, (), rfl, by rw [hk]; rfl, Or.inl ⟨hk, by rw [ht]; exact hB⟩⟩, ⟨by rw [ht, ← h0]; exact hF.1, fun z h1 h2 => by rw [ht, ← h0]; exact hF.2 z (by rw [h0]; exact h1) h2⟩⟩) hL dL_number_19
  · have hks : kNumber x1 x2 = 1 ∨ kNumber x1 x2 = 2 := by
      exact kNumber_in hE.1
    rcases hks with hk | hk
    · obtain rfl : E = eIO := by rw [hE.2, hk]; rfl
      obtain ⟨ce, hc1, hc2, hc3, hc4, hc5⟩ := id hT
      refine ny_catch (own := RL) (name := eIO) (E := eIO) S.2.2.2.1 [] ⟨0, 7, 10, 13⟩ [⟨0, 7, 14, 15⟩] (htab.trans rfl) (fun z hz => nomatch hz) rfl (by decide) (S.2.2.2.2 _ kclL_13) (va_Nw.use rfl (hX.2.2.1 eIO (by decide))) hc1 hc2 hc3 ?_
      refine lv_astore (lv' := [(5, .ref q), (0, .ref (T 0)), (1, .int x1), (2, .int x2), (3, .long (lN v1))]) hx hb dL_number_10 hl (by decide) rfl (fun ls hl => ?_)
      refine lv_iconst (v := 1) hx hb dL_number_12 (by decide) ?_
      exact W.iret (v := 1) hx hb hr (fun t2 ht hW => ⟨⟨1, (), rfl, by rw [hk]; rfl, Or.inr ⟨by rw [hk]; decide, by rw [ht]; exact wr_kept hP hT⟩⟩, ⟨by rw [ht]; exact hc4, fun z h1 h2 => by rw [ht]; exact hc5 z h1⟩⟩) hL dL_number_13
    · obtain rfl : E = eIA := by rw [hE.2, hk]; rfl
      obtain ⟨ce, hc1, hc2, hc3, hc4, hc5⟩ := id hT
      refine ny_catch (own := RL) (name := eIA) (E := eIA) S.2.2.2.1 [⟨0, 7, 10, 13⟩] ⟨0, 7, 14, 15⟩ [] (htab.trans rfl) (fun z hz => by
            rw [List.mem_singleton.mp hz]
            exact ⟨rfl, by decide, eIO, S.2.2.2.2 _ kclL_13, hC.1⟩) rfl (by decide) (S.2.2.2.2 _ kclL_15) (va_Nw.use rfl (hX.2.2.1 eIA (by decide))) hc1 hc2 hc3 ?_
      refine lv_astore (lv' := [(5, .ref q), (0, .ref (T 0)), (1, .int x1), (2, .int x2), (3, .long (lN v1))]) hx hb dL_number_14 hl (by decide) rfl (fun ls hl => ?_)
      refine lv_iconst (v := 2) hx hb dL_number_16 (by decide) ?_
      exact W.iret (v := 2) hx hb hr (fun t2 ht hW => ⟨⟨2, (), rfl, by rw [hk]; rfl, Or.inr ⟨by rw [hk]; decide, by rw [ht]; exact wr_kept hP hT⟩⟩, ⟨by rw [ht]; exact hc4, fun z h1 h2 => by rw [ht]; exact hc5 z h1⟩⟩) hL dL_number_17
set_option maxHeartbeats 4000000 in
set_option maxRecDepth 100000 in
theorem cL_numberOf (l : Launch) (hfl : l.flags = pinnedFlags ++ [noTraceFlag]) (D : va_G) (cA cW : ClassId) (T : Nat → Nat) (hT : nvT T) (n : Nat → Nat) (g : Nat → Nat → Nat) (ok : nvOk n g) (cJ : ClassId) (bo : Nat) (f : Nat → Int64) (x1 : Int32) (b1 : Nat) (hb1 : b1 < 2) : Met l yL_numberOf (Cond.codeWith yL_numberOf bL_numberOf 5 (some .int) [(0, 9, 12, 13), (0, 9, 16, 36)] :: nzG) ({ frames := 8, cells := 1, slots := 6, locals := 132 }) (va_Pc [.ref (T 0), .int x1, .int (nI b1), .ref bo] (woP D cA cW cJ (nvW cA cW T n g ++ woC cJ bo f))) (va_Qi (fun r (_ : Unit) => r = nI (kNumberOf n g x1)) (fun _ t => ∃ f9 : Nat → Int64, (kNumberOf n g x1 = 0 → f9 0 = lN (zLong b1 (g (ix x1)) (n (ix x1)))) ∧ va_P D vwCl (nvW cA cW T n g ++ woC cJ bo f9) t.heap) (fun q => q = bo)) 1 6 (fun q => q = bo) := by
  refine wr_of (own := RL) (by decide) rfl ?_
  intro p e s m args below meth c S hr hlocks htab hv9
  obtain ⟨rfl, hP2, hK2, hD2, hX, hC⟩ := hv9
  have hP := nw_P1 hP2
  have hK := wo_K hK2
  have hob0 := nv_ob0 hK hP
  have hx := S.1
  have hb := S.2.1
  refine nz_entry (vs := [.ref (T 0), .int x1, .int (nI b1), .ref bo]) (n := 5) (lv := [(0, .ref (T 0)), (1, .int x1), (2, .int (nI b1)), (3, .ref bo)]) (Nat.le_of_ble_eq_true rfl) rfl (fun ls hl => ?_)
  refine lv_aload_n hx hb dL_numberOf_0 rfl (lv_at hl 3 rfl) ?_
  refine lv_iconst (v := 0) hx hb dL_numberOf_1 (by decide) ?_
  refine lv_aload_n hx hb dL_numberOf_2 rfl (lv_at hl 0 rfl) ?_
  refine lv_iload_n hx hb dL_numberOf_3 rfl (lv_at hl 1 rfl) ?_
  refine lv_iload_n hx hb dL_numberOf_4 rfl (lv_at hl 2 rfl) ?_
  refine wr_call (As := [.int x1, .int (nI b1)]) (rest := [.int 0, .ref bo]) S (cN_numberOf l hfl D cA cW T hT n g ok x1 b1 hb1) kL_32 ⟨rfl, rfl, Nat.le_of_ble_eq_true rfl, Nat.le_of_ble_eq_true rfl⟩ ⟨Nat.le_of_ble_eq_true rfl, Nat.le_of_ble_eq_true rfl⟩ nmP.bl hob0 (nmP.to hP hK hX) rfl hl.1 rfl (Nat.le_of_ble_eq_true rfl) dL_numberOf_5 (fun v st t L h0 hL hq => ?_) (fun E q t L hL hE hT => ?_)
  · obtain ⟨hk, rfl, hh9⟩ := hq
    obtain rfl : L = [] := by
      cases L with
      | nil => rfl
      | cons z L => exact (hL z List.mem_cons_self).elim
    have hh0 : t.heap = s.heap := by rw [hh9, h0]
    refine wo_store hx hb hK2 hP2 hD2 hh0 dL_numberOf_8 (fun H locs hP2 hS => ?_)
    refine lv_goto (tgt := 20) hx hb dL_numberOf_9 (by decide) ?_
    refine lv_iconst (v := 0) hx hb dL_numberOf_20 (by decide) ?_
    refine W.widen (k := 1) (n := 6) (Nat.zero_le _) (Nat.zero_le _) ?_
    exact W.iret (v := 0) hx hb hr (fun t2 ht hW => ⟨⟨0, (), rfl, by rw [hk]; rfl, vp_updL f 0 (lN (zLong b1 (g (ix x1)) (n (ix x1)))), fun _ => rfl, by rw [ht]; exact hP2⟩, hS.F ht⟩) hS.2.2 dL_numberOf_21
  · have hks : kNumberOf n g x1 = 1 ∨ kNumberOf n g x1 = 2 := by
      exact kNumberOf_in hE.1
    rcases hks with hk | hk
    · obtain rfl : E = eIO := by rw [hE.2, hk]; rfl
      obtain ⟨ce, hc1, hc2, hc3, hc4, hc5⟩ := id hT
      refine ny_catch (own := RL) (name := eIO) (E := eIO) S.2.2.2.1 [] ⟨0, 9, 12, 13⟩ [⟨0, 9, 16, 36⟩] (htab.trans rfl) (fun z hz => nomatch hz) rfl (by decide) (S.2.2.2.2 _ kclL_13) (va_Nw.use rfl (hX.2.2.1 eIO (by decide))) hc1 hc2 hc3 ?_
      refine lv_astore (lv' := [(4, .ref q), (0, .ref (T 0)), (1, .int x1), (2, .int (nI b1)), (3, .ref bo)]) hx hb dL_numberOf_12 hl (by decide) rfl (fun ls hl => ?_)
      refine lv_iconst (v := 1) hx hb dL_numberOf_14 (by decide) ?_
      exact W.iret (v := 1) hx hb hr (fun t2 ht hW => ⟨⟨1, (), rfl, by rw [hk]; rfl, f, fun h => absurd h (by rw [hk]; decide), by rw [ht]; exact wr_kept hP2 hT⟩, ⟨by rw [ht]; exact hc4, fun z h1 h2 => by rw [ht]; exact hc5 z h1⟩⟩) (fun z hz => (hL z hz).elim) dL_numberOf_15
    · obtain rfl : E = eIS := by rw [hE.2, hk]; rfl
      obtain ⟨ce, hc1, hc2, hc3, hc4, hc5⟩ := id hT
      refine ny_catch (own := RL) (name := eIS) (E := eIS) S.2.2.2.1 [⟨0, 9, 12, 13⟩] ⟨0, 9, 16, 36⟩ [] (htab.trans rfl) (fun z hz => by
            rw [List.mem_singleton.mp hz]
            exact ⟨rfl, by decide, eIO, S.2.2.2.2 _ kclL_13, hC.2.1⟩) rfl (by decide) (S.2.2.2.2 _ kclL_36) (va_Nw.use rfl (hX.2.2.1 eIS (by decide))) hc1 hc2 hc3 ?_
      refine lv_astore (lv' := [(4, .ref q), (0, .ref (T 0)), (1, .int x1), (2, .int (nI b1)), (3, .ref bo)]) hx hb dL_numberOf_16 hl (by decide) rfl (fun ls hl => ?_)
      refine lv_iconst (v := 2) hx hb dL_numberOf_18 (by decide) ?_
      exact W.iret (v := 2) hx hb hr (fun t2 ht hW => ⟨⟨2, (), rfl, by rw [hk]; rfl, f, fun h => absurd h (by rw [hk]; decide), by rw [ht]; exact wr_kept hP2 hT⟩, ⟨by rw [ht]; exact hc4, fun z h1 h2 => by rw [ht]; exact hc5 z h1⟩⟩) (fun z hz => (hL z hz).elim) dL_numberOf_19
set_option maxHeartbeats 4000000 in
set_option maxRecDepth 100000 in
theorem cL_operate (l : Launch) (hfl : l.flags = pinnedFlags ++ [noTraceFlag]) (D : va_G) (cA cW : ClassId) (T : Nat → Nat) (hT : nvT T) (n : Nat → Nat) (g : Nat → Nat → Nat) (ok : nvOk n g)  (x1 x3 x4 x5 : Int32) (b1 : Nat) (hb1 : b1 < 2) : Met l yL_operate (Cond.codeWith yL_operate bL_operate 7 (some .int) [(0, 11, 14, 13), (0, 11, 18, 15), (0, 11, 22, 42)] :: nzG) ({ frames := 9, cells := 1, slots := 6, locals := 164 }) (va_Pc [.ref (T 0), .int x1, .int (nI b1), .int x3, .int x4, .int x5] (wrP D cA cW (nvW cA cW T n g))) (va_Qi (fun r (_ : Unit) => r = nI (kOperate n g b1 x1 x3 x4 x5)) (fun _ t => (kOperate n g b1 x1 x3 x4 x5 = 0 ∧ (fun H9 : Heap => ∃ n9 g9, nvU 16 n g (ix x5) (nOp (ix x1) (g (ix x3)) (n (ix x3)) (g (ix x4)) (n (ix x4))) (fOp (ix x1) b1 (g (ix x3)) (n (ix x3)) (g (ix x4)) (n (ix x4))) n9 g9 ∧ va_P D vwCl (nvW cA cW T n9 g9) H9) t.heap) ∨ (¬ kOperate n g b1 x1 x3 x4 x5 = 0 ∧ va_P D vwCl (nvW cA cW T n g) t.heap)) (nvA T)) 1 6 (nvA T) := by
  refine wr_of (own := RL) (by decide) rfl ?_
  intro p e s m args below meth c S hr hlocks htab hv9
  obtain ⟨rfl, ⟨hP, hK, hX⟩, hC⟩ := hv9
  have hob0 := nv_ob0 hK hP
  have hx := S.1
  have hb := S.2.1
  refine nz_entry (vs := [.ref (T 0), .int x1, .int (nI b1), .int x3, .int x4, .int x5]) (n := 7) (lv := [(0, .ref (T 0)), (1, .int x1), (2, .int (nI b1)), (3, .int x3), (4, .int x4), (5, .int x5)]) (Nat.le_of_ble_eq_true rfl) rfl (fun ls hl => ?_)
  refine lv_aload_n hx hb dL_operate_0 rfl (lv_at hl 0 rfl) ?_
  refine lv_iload_n hx hb dL_operate_1 rfl (lv_at hl 1 rfl) ?_
  refine lv_iload_n hx hb dL_operate_2 rfl (lv_at hl 2 rfl) ?_
  refine lv_iload_n hx hb dL_operate_3 rfl (lv_at hl 3 rfl) ?_
  refine lv_iload hx hb dL_operate_4 (lv_at hl 4 rfl) ?_
  refine lv_iload hx hb dL_operate_6 (lv_at hl 5 rfl) ?_
  refine wr_call (As := [.int x1, .int (nI b1), .int x3, .int x4, .int x5]) (rest := []) S (cN_operate l hfl D cA cW T hT n g ok x1 b1 hb1 x3 x4 x5) kL_38 ⟨rfl, rfl, Nat.le_of_ble_eq_true rfl, Nat.le_of_ble_eq_true rfl⟩ ⟨Nat.le_of_ble_eq_true rfl, Nat.le_of_ble_eq_true rfl⟩ nmP.bl hob0 (nmP.to hP hK hX) rfl hl.1 rfl (Nat.le_of_ble_eq_true rfl) dL_operate_8 (fun v st t L h0 hL hq => ?_) (fun E q t L hL hE hT => ?_)
  · obtain ⟨rfl, hk, hB, hF⟩ := hq
    refine lv_goto (tgt := 26) hx hb dL_operate_11 (by decide) ?_
    refine lv_iconst (v := 0) hx hb dL_operate_26 (by decide) ?_
    refine W.widen (k := 1) (n := 6) (Nat.zero_le _) (Nat.zero_le _) ?_
    exact W.iret (v := 0) hx hb hr (fun t2 ht hW => ⟨⟨0, (), rfl, by rw [hk]; rfl, Or.inl ⟨hk, by rw [ht]; exact hB⟩⟩, ⟨by rw [ht, ← h0]; exact hF.1, fun z h1 h2 => by rw [ht, ← h0]; exact hF.2 z (by rw [h0]; exact h1) h2⟩⟩) hL dL_operate_27
  · have hks : kOperate n g b1 x1 x3 x4 x5 = 1 ∨ kOperate n g b1 x1 x3 x4 x5 = 2 ∨ kOperate n g b1 x1 x3 x4 x5 = 3 := by
      exact kOperate_in hE.1
    rcases hks with hk | hk | hk
    · obtain rfl : E = eIO := by rw [hE.2, hk]; rfl
      obtain ⟨ce, hc1, hc2, hc3, hc4, hc5⟩ := id hT
      refine ny_catch (own := RL) (name := eIO) (E := eIO) S.2.2.2.1 [] ⟨0, 11, 14, 13⟩ [⟨0, 11, 18, 15⟩, ⟨0, 11, 22, 42⟩] (htab.trans rfl) (fun z hz => nomatch hz) rfl (by decide) (S.2.2.2.2 _ kclL_13) (va_Nw.use rfl (hX.2.2.1 eIO (by decide))) hc1 hc2 hc3 ?_
      refine lv_astore (lv' := [(6, .ref q), (0, .ref (T 0)), (1, .int x1), (2, .int (nI b1)), (3, .int x3), (4, .int x4), (5, .int x5)]) hx hb dL_operate_14 hl (by decide) rfl (fun ls hl => ?_)
      refine lv_iconst (v := 1) hx hb dL_operate_16 (by decide) ?_
      exact W.iret (v := 1) hx hb hr (fun t2 ht hW => ⟨⟨1, (), rfl, by rw [hk]; rfl, Or.inr ⟨by rw [hk]; decide, by rw [ht]; exact wr_kept hP hT⟩⟩, ⟨by rw [ht]; exact hc4, fun z h1 h2 => by rw [ht]; exact hc5 z h1⟩⟩) hL dL_operate_17
    · obtain rfl : E = eIA := by rw [hE.2, hk]; rfl
      obtain ⟨ce, hc1, hc2, hc3, hc4, hc5⟩ := id hT
      refine ny_catch (own := RL) (name := eIA) (E := eIA) S.2.2.2.1 [⟨0, 11, 14, 13⟩] ⟨0, 11, 18, 15⟩ [⟨0, 11, 22, 42⟩] (htab.trans rfl) (fun z hz => by
            rw [List.mem_singleton.mp hz]
            exact ⟨rfl, by decide, eIO, S.2.2.2.2 _ kclL_13, hC.1⟩) rfl (by decide) (S.2.2.2.2 _ kclL_15) (va_Nw.use rfl (hX.2.2.1 eIA (by decide))) hc1 hc2 hc3 ?_
      refine lv_astore (lv' := [(6, .ref q), (0, .ref (T 0)), (1, .int x1), (2, .int (nI b1)), (3, .int x3), (4, .int x4), (5, .int x5)]) hx hb dL_operate_18 hl (by decide) rfl (fun ls hl => ?_)
      refine lv_iconst (v := 2) hx hb dL_operate_20 (by decide) ?_
      exact W.iret (v := 2) hx hb hr (fun t2 ht hW => ⟨⟨2, (), rfl, by rw [hk]; rfl, Or.inr ⟨by rw [hk]; decide, by rw [ht]; exact wr_kept hP hT⟩⟩, ⟨by rw [ht]; exact hc4, fun z h1 h2 => by rw [ht]; exact hc5 z h1⟩⟩) hL dL_operate_21
    · obtain rfl : E = eAR := by rw [hE.2, hk]; rfl
      obtain ⟨ce, hc1, hc2, hc3, hc4, hc5⟩ := id hT
      refine ny_catch (own := RL) (name := eAR) (E := eAR) S.2.2.2.1 [⟨0, 11, 14, 13⟩, ⟨0, 11, 18, 15⟩] ⟨0, 11, 22, 42⟩ [] (htab.trans rfl) (fun z hz => by
            rcases List.mem_cons.mp hz with h | h
            · rw [h]; exact ⟨rfl, by decide, eIO, S.2.2.2.2 _ kclL_13, hC.2.2.1⟩
            · rw [List.mem_singleton.mp h]; exact ⟨rfl, by decide, eIA, S.2.2.2.2 _ kclL_15, hC.2.2.2⟩) rfl (by decide) (S.2.2.2.2 _ kclL_42) (va_Nw.use rfl (hX.2.2.1 eAR (by decide))) hc1 hc2 hc3 ?_
      refine lv_astore (lv' := [(6, .ref q), (0, .ref (T 0)), (1, .int x1), (2, .int (nI b1)), (3, .int x3), (4, .int x4), (5, .int x5)]) hx hb dL_operate_22 hl (by decide) rfl (fun ls hl => ?_)
      refine lv_iconst (v := 3) hx hb dL_operate_24 (by decide) ?_
      exact W.iret (v := 3) hx hb hr (fun t2 ht hW => ⟨⟨3, (), rfl, by rw [hk]; rfl, Or.inr ⟨by rw [hk]; decide, by rw [ht]; exact wr_kept hP hT⟩⟩, ⟨by rw [ht]; exact hc4, fun z h1 h2 => by rw [ht]; exact hc5 z h1⟩⟩) hL dL_operate_25
set_option maxHeartbeats 4000000 in
set_option maxRecDepth 100000 in
theorem cL_change (l : Launch) (hfl : l.flags = pinnedFlags ++ [noTraceFlag]) (D : va_G) (cA cW : ClassId) (T : Nat → Nat) (hT : nvT T) (n : Nat → Nat) (g : Nat → Nat → Nat) (ok : nvOk n g)  (x1 x2 x3 : Int32) : Met l yL_change (Cond.codeWith yL_change bL_change 5 (some .int) [(0, 7, 10, 13), (0, 7, 14, 15)] :: nzG) ({ frames := 8, cells := 1, slots := 6, locals := 133 }) (va_Pc [.ref (T 0), .int x1, .int x2, .int x3] (wrP D cA cW (nvW cA cW T n g))) (va_Qi (fun r (_ : Unit) => r = nI (kChange x1 x2 x3)) (fun _ t => (kChange x1 x2 x3 = 0 ∧ (fun H9 : Heap => ∃ n9 g9, nvU 16 n g (ix x3) (n (ix x2)) (fChange (ix x1) (g (ix x2)) (n (ix x2))) n9 g9 ∧ va_P D vwCl (nvW cA cW T n9 g9) H9) t.heap) ∨ (¬ kChange x1 x2 x3 = 0 ∧ va_P D vwCl (nvW cA cW T n g) t.heap)) (nvA T)) 1 6 (nvA T) := by
  refine wr_of (own := RL) (by decide) rfl ?_
  intro p e s m args below meth c S hr hlocks htab hv9
  obtain ⟨rfl, ⟨hP, hK, hX⟩, hC⟩ := hv9
  have hob0 := nv_ob0 hK hP
  have hx := S.1
  have hb := S.2.1
  refine nz_entry (vs := [.ref (T 0), .int x1, .int x2, .int x3]) (n := 5) (lv := [(0, .ref (T 0)), (1, .int x1), (2, .int x2), (3, .int x3)]) (Nat.le_of_ble_eq_true rfl) rfl (fun ls hl => ?_)
  refine lv_aload_n hx hb dL_change_0 rfl (lv_at hl 0 rfl) ?_
  refine lv_iload_n hx hb dL_change_1 rfl (lv_at hl 1 rfl) ?_
  refine lv_iload_n hx hb dL_change_2 rfl (lv_at hl 2 rfl) ?_
  refine lv_iload_n hx hb dL_change_3 rfl (lv_at hl 3 rfl) ?_
  refine wr_call (As := [.int x1, .int x2, .int x3]) (rest := []) S (cN_change l hfl D cA cW T hT n g ok x1 x2 x3) kL_44 ⟨rfl, rfl, Nat.le_of_ble_eq_true rfl, Nat.le_of_ble_eq_true rfl⟩ ⟨Nat.le_of_ble_eq_true rfl, Nat.le_of_ble_eq_true rfl⟩ nmP.bl hob0 (nmP.to hP hK hX) rfl hl.1 rfl (Nat.le_of_ble_eq_true rfl) dL_change_4 (fun v st t L h0 hL hq => ?_) (fun E q t L hL hE hT => ?_)
  · obtain ⟨rfl, hk, hB, hF⟩ := hq
    refine lv_goto (tgt := 18) hx hb dL_change_7 (by decide) ?_
    refine lv_iconst (v := 0) hx hb dL_change_18 (by decide) ?_
    refine W.widen (k := 1) (n := 6) (Nat.zero_le _) (Nat.zero_le _) ?_
    exact W.iret (v := 0) hx hb hr (fun t2 ht hW => ⟨⟨0, (), rfl, by rw [hk]; rfl, Or.inl ⟨hk, by rw [ht]; exact hB⟩⟩, ⟨by rw [ht, ← h0]; exact hF.1, fun z h1 h2 => by rw [ht, ← h0]; exact hF.2 z (by rw [h0]; exact h1) h2⟩⟩) hL dL_change_19
  · have hks : kChange x1 x2 x3 = 1 ∨ kChange x1 x2 x3 = 2 := by
      exact kChange_in hE.1
    rcases hks with hk | hk
    · obtain rfl : E = eIO := by rw [hE.2, hk]; rfl
      obtain ⟨ce, hc1, hc2, hc3, hc4, hc5⟩ := id hT
      refine ny_catch (own := RL) (name := eIO) (E := eIO) S.2.2.2.1 [] ⟨0, 7, 10, 13⟩ [⟨0, 7, 14, 15⟩] (htab.trans rfl) (fun z hz => nomatch hz) rfl (by decide) (S.2.2.2.2 _ kclL_13) (va_Nw.use rfl (hX.2.2.1 eIO (by decide))) hc1 hc2 hc3 ?_
      refine lv_astore (lv' := [(4, .ref q), (0, .ref (T 0)), (1, .int x1), (2, .int x2), (3, .int x3)]) hx hb dL_change_10 hl (by decide) rfl (fun ls hl => ?_)
      refine lv_iconst (v := 1) hx hb dL_change_12 (by decide) ?_
      exact W.iret (v := 1) hx hb hr (fun t2 ht hW => ⟨⟨1, (), rfl, by rw [hk]; rfl, Or.inr ⟨by rw [hk]; decide, by rw [ht]; exact wr_kept hP hT⟩⟩, ⟨by rw [ht]; exact hc4, fun z h1 h2 => by rw [ht]; exact hc5 z h1⟩⟩) hL dL_change_13
    · obtain rfl : E = eIA := by rw [hE.2, hk]; rfl
      obtain ⟨ce, hc1, hc2, hc3, hc4, hc5⟩ := id hT
      refine ny_catch (own := RL) (name := eIA) (E := eIA) S.2.2.2.1 [⟨0, 7, 10, 13⟩] ⟨0, 7, 14, 15⟩ [] (htab.trans rfl) (fun z hz => by
            rw [List.mem_singleton.mp hz]
            exact ⟨rfl, by decide, eIO, S.2.2.2.2 _ kclL_13, hC.1⟩) rfl (by decide) (S.2.2.2.2 _ kclL_15) (va_Nw.use rfl (hX.2.2.1 eIA (by decide))) hc1 hc2 hc3 ?_
      refine lv_astore (lv' := [(4, .ref q), (0, .ref (T 0)), (1, .int x1), (2, .int x2), (3, .int x3)]) hx hb dL_change_14 hl (by decide) rfl (fun ls hl => ?_)
      refine lv_iconst (v := 2) hx hb dL_change_16 (by decide) ?_
      exact W.iret (v := 2) hx hb hr (fun t2 ht hW => ⟨⟨2, (), rfl, by rw [hk]; rfl, Or.inr ⟨by rw [hk]; decide, by rw [ht]; exact wr_kept hP hT⟩⟩, ⟨by rw [ht]; exact hc4, fun z h1 h2 => by rw [ht]; exact hc5 z h1⟩⟩) hL dL_change_17
set_option maxHeartbeats 4000000 in
set_option maxRecDepth 100000 in
theorem cL_shift (l : Launch) (hfl : l.flags = pinnedFlags ++ [noTraceFlag]) (D : va_G) (cA cW : ClassId) (T : Nat → Nat) (hT : nvT T) (n : Nat → Nat) (g : Nat → Nat → Nat) (ok : nvOk n g)  (x1 x2 x3 x4 x5 : Int32) : Met l yL_shift (Cond.codeWith yL_shift bL_shift 7 (some .int) [(0, 11, 14, 13), (0, 11, 18, 15)] :: nzG) ({ frames := 8, cells := 1, slots := 6, locals := 135 }) (va_Pc [.ref (T 0), .int x1, .int x2, .int x3, .int x4, .int x5] (wrP D cA cW (nvW cA cW T n g))) (va_Qi (fun r (_ : Unit) => r = nI (kShift x1 x2 x3 x4 x5)) (fun _ t => (kShift x1 x2 x3 x4 x5 = 0 ∧ (fun H9 : Heap => ∃ n9 g9, nvU 16 n g (ix x5) (n (ix x4)) (fShift (ix x1) x2.toInt (ix x3) (g (ix x4)) (n (ix x4))) n9 g9 ∧ va_P D vwCl (nvW cA cW T n9 g9) H9) t.heap) ∨ (¬ kShift x1 x2 x3 x4 x5 = 0 ∧ va_P D vwCl (nvW cA cW T n g) t.heap)) (nvA T)) 1 6 (nvA T) := by
  refine wr_of (own := RL) (by decide) rfl ?_
  intro p e s m args below meth c S hr hlocks htab hv9
  obtain ⟨rfl, ⟨hP, hK, hX⟩, hC⟩ := hv9
  have hob0 := nv_ob0 hK hP
  have hx := S.1
  have hb := S.2.1
  refine nz_entry (vs := [.ref (T 0), .int x1, .int x2, .int x3, .int x4, .int x5]) (n := 7) (lv := [(0, .ref (T 0)), (1, .int x1), (2, .int x2), (3, .int x3), (4, .int x4), (5, .int x5)]) (Nat.le_of_ble_eq_true rfl) rfl (fun ls hl => ?_)
  refine lv_aload_n hx hb dL_shift_0 rfl (lv_at hl 0 rfl) ?_
  refine lv_iload_n hx hb dL_shift_1 rfl (lv_at hl 1 rfl) ?_
  refine lv_iload_n hx hb dL_shift_2 rfl (lv_at hl 2 rfl) ?_
  refine lv_iload_n hx hb dL_shift_3 rfl (lv_at hl 3 rfl) ?_
  refine lv_iload hx hb dL_shift_4 (lv_at hl 4 rfl) ?_
  refine lv_iload hx hb dL_shift_6 (lv_at hl 5 rfl) ?_
  refine wr_call (As := [.int x1, .int x2, .int x3, .int x4, .int x5]) (rest := []) S (cN_shift l hfl D cA cW T hT n g ok x1 x2 x3 x4 x5) kL_47 ⟨rfl, rfl, Nat.le_of_ble_eq_true rfl, Nat.le_of_ble_eq_true rfl⟩ ⟨Nat.le_of_ble_eq_true rfl, Nat.le_of_ble_eq_true rfl⟩ nmP.bl hob0 (nmP.to hP hK hX) rfl hl.1 rfl (Nat.le_of_ble_eq_true rfl) dL_shift_8 (fun v st t L h0 hL hq => ?_) (fun E q t L hL hE hT => ?_)
  · obtain ⟨rfl, hk, hB, hF⟩ := hq
    refine lv_goto (tgt := 22) hx hb dL_shift_11 (by decide) ?_
    refine lv_iconst (v := 0) hx hb dL_shift_22 (by decide) ?_
    refine W.widen (k := 1) (n := 6) (Nat.zero_le _) (Nat.zero_le _) ?_
    exact W.iret (v := 0) hx hb hr (fun t2 ht hW => ⟨⟨0, (), rfl, by rw [hk]; rfl, Or.inl ⟨hk, by rw [ht]; exact hB⟩⟩, ⟨by rw [ht, ← h0]; exact hF.1, fun z h1 h2 => by rw [ht, ← h0]; exact hF.2 z (by rw [h0]; exact h1) h2⟩⟩) hL dL_shift_23
  · have hks : kShift x1 x2 x3 x4 x5 = 1 ∨ kShift x1 x2 x3 x4 x5 = 2 := by
      exact kShift_in hE.1
    rcases hks with hk | hk
    · obtain rfl : E = eIO := by rw [hE.2, hk]; rfl
      obtain ⟨ce, hc1, hc2, hc3, hc4, hc5⟩ := id hT
      refine ny_catch (own := RL) (name := eIO) (E := eIO) S.2.2.2.1 [] ⟨0, 11, 14, 13⟩ [⟨0, 11, 18, 15⟩] (htab.trans rfl) (fun z hz => nomatch hz) rfl (by decide) (S.2.2.2.2 _ kclL_13) (va_Nw.use rfl (hX.2.2.1 eIO (by decide))) hc1 hc2 hc3 ?_
      refine lv_astore (lv' := [(6, .ref q), (0, .ref (T 0)), (1, .int x1), (2, .int x2), (3, .int x3), (4, .int x4), (5, .int x5)]) hx hb dL_shift_14 hl (by decide) rfl (fun ls hl => ?_)
      refine lv_iconst (v := 1) hx hb dL_shift_16 (by decide) ?_
      exact W.iret (v := 1) hx hb hr (fun t2 ht hW => ⟨⟨1, (), rfl, by rw [hk]; rfl, Or.inr ⟨by rw [hk]; decide, by rw [ht]; exact wr_kept hP hT⟩⟩, ⟨by rw [ht]; exact hc4, fun z h1 h2 => by rw [ht]; exact hc5 z h1⟩⟩) hL dL_shift_17
    · obtain rfl : E = eIA := by rw [hE.2, hk]; rfl
      obtain ⟨ce, hc1, hc2, hc3, hc4, hc5⟩ := id hT
      refine ny_catch (own := RL) (name := eIA) (E := eIA) S.2.2.2.1 [⟨0, 11, 14, 13⟩] ⟨0, 11, 18, 15⟩ [] (htab.trans rfl) (fun z hz => by
            rw [List.mem_singleton.mp hz]
            exact ⟨rfl, by decide, eIO, S.2.2.2.2 _ kclL_13, hC.1⟩) rfl (by decide) (S.2.2.2.2 _ kclL_15) (va_Nw.use rfl (hX.2.2.1 eIA (by decide))) hc1 hc2 hc3 ?_
      refine lv_astore (lv' := [(6, .ref q), (0, .ref (T 0)), (1, .int x1), (2, .int x2), (3, .int x3), (4, .int x4), (5, .int x5)]) hx hb dL_shift_18 hl (by decide) rfl (fun ls hl => ?_)
      refine lv_iconst (v := 2) hx hb dL_shift_20 (by decide) ?_
      exact W.iret (v := 2) hx hb hr (fun t2 ht hW => ⟨⟨2, (), rfl, by rw [hk]; rfl, Or.inr ⟨by rw [hk]; decide, by rw [ht]; exact wr_kept hP hT⟩⟩, ⟨by rw [ht]; exact hc4, fun z h1 h2 => by rw [ht]; exact hc5 z h1⟩⟩) hL dL_shift_21
set_option maxHeartbeats 4000000 in
set_option maxRecDepth 100000 in
theorem cL_bring (l : Launch) (hfl : l.flags = pinnedFlags ++ [noTraceFlag]) (D : va_G) (cA cW : ClassId) (T : Nat → Nat) (hT : nvT T) (n : Nat → Nat) (g : Nat → Nat → Nat) (ok : nvOk n g)  (x2 x3 x4 : Int32) (b1 : Nat) (hb1 : b1 < 2) : Met l yL_bring (Cond.codeWith yL_bring bL_bring 6 (some .int) [(0, 9, 12, 13), (0, 9, 16, 15)] :: nzG) ({ frames := 8, cells := 1, slots := 6, locals := 135 }) (va_Pc [.ref (T 0), .int (nI b1), .int x2, .int x3, .int x4] (wrP D cA cW (nvW cA cW T n g))) (va_Qi (fun r (_ : Unit) => r = nI (kBring x2 x3 x4)) (fun _ t => (kBring x2 x3 x4 = 0 ∧ (fun H9 : Heap => ∃ n9 g9, nvU 16 n g (ix x4) (ix x2) (fBring b1 (g (ix x3)) (n (ix x3))) n9 g9 ∧ va_P D vwCl (nvW cA cW T n9 g9) H9) t.heap) ∨ (¬ kBring x2 x3 x4 = 0 ∧ va_P D vwCl (nvW cA cW T n g) t.heap)) (nvA T)) 1 6 (nvA T) := by
  refine wr_of (own := RL) (by decide) rfl ?_
  intro p e s m args below meth c S hr hlocks htab hv9
  obtain ⟨rfl, ⟨hP, hK, hX⟩, hC⟩ := hv9
  have hob0 := nv_ob0 hK hP
  have hx := S.1
  have hb := S.2.1
  refine nz_entry (vs := [.ref (T 0), .int (nI b1), .int x2, .int x3, .int x4]) (n := 6) (lv := [(0, .ref (T 0)), (1, .int (nI b1)), (2, .int x2), (3, .int x3), (4, .int x4)]) (Nat.le_of_ble_eq_true rfl) rfl (fun ls hl => ?_)
  refine lv_aload_n hx hb dL_bring_0 rfl (lv_at hl 0 rfl) ?_
  refine lv_iload_n hx hb dL_bring_1 rfl (lv_at hl 1 rfl) ?_
  refine lv_iload_n hx hb dL_bring_2 rfl (lv_at hl 2 rfl) ?_
  refine lv_iload_n hx hb dL_bring_3 rfl (lv_at hl 3 rfl) ?_
  refine lv_iload hx hb dL_bring_4 (lv_at hl 4 rfl) ?_
  refine wr_call (As := [.int (nI b1), .int x2, .int x3, .int x4]) (rest := []) S (cN_bring l hfl D cA cW T hT n g ok b1 hb1 x2 x3 x4) kL_51 ⟨rfl, rfl, Nat.le_of_ble_eq_true rfl, Nat.le_of_ble_eq_true rfl⟩ ⟨Nat.le_of_ble_eq_true rfl, Nat.le_of_ble_eq_true rfl⟩ nmP.bl hob0 (nmP.to hP hK hX) rfl hl.1 rfl (Nat.le_of_ble_eq_true rfl) dL_bring_6 (fun v st t L h0 hL hq => ?_) (fun E q t L hL hE hT => ?_)
  · obtain ⟨rfl, hk, hB, hF⟩ := hq
    refine lv_goto (tgt := 20) hx hb dL_bring_9 (by decide) ?_
    refine lv_iconst (v := 0) hx hb dL_bring_20 (by decide) ?_
    refine W.widen (k := 1) (n := 6) (Nat.zero_le _) (Nat.zero_le _) ?_
    exact W.iret (v := 0) hx hb hr (fun t2 ht hW => ⟨⟨0, (), rfl, by rw [hk]; rfl, Or.inl ⟨hk, by rw [ht]; exact hB⟩⟩, ⟨by rw [ht, ← h0]; exact hF.1, fun z h1 h2 => by rw [ht, ← h0]; exact hF.2 z (by rw [h0]; exact h1) h2⟩⟩) hL dL_bring_21
  · have hks : kBring x2 x3 x4 = 1 ∨ kBring x2 x3 x4 = 2 := by
      exact kBring_in hE.1
    rcases hks with hk | hk
    · obtain rfl : E = eIO := by rw [hE.2, hk]; rfl
      obtain ⟨ce, hc1, hc2, hc3, hc4, hc5⟩ := id hT
      refine ny_catch (own := RL) (name := eIO) (E := eIO) S.2.2.2.1 [] ⟨0, 9, 12, 13⟩ [⟨0, 9, 16, 15⟩] (htab.trans rfl) (fun z hz => nomatch hz) rfl (by decide) (S.2.2.2.2 _ kclL_13) (va_Nw.use rfl (hX.2.2.1 eIO (by decide))) hc1 hc2 hc3 ?_
      refine lv_astore (lv' := [(5, .ref q), (0, .ref (T 0)), (1, .int (nI b1)), (2, .int x2), (3, .int x3), (4, .int x4)]) hx hb dL_bring_12 hl (by decide) rfl (fun ls hl => ?_)
      refine lv_iconst (v := 1) hx hb dL_bring_14 (by decide) ?_
      exact W.iret (v := 1) hx hb hr (fun t2 ht hW => ⟨⟨1, (), rfl, by rw [hk]; rfl, Or.inr ⟨by rw [hk]; decide, by rw [ht]; exact wr_kept hP hT⟩⟩, ⟨by rw [ht]; exact hc4, fun z h1 h2 => by rw [ht]; exact hc5 z h1⟩⟩) hL dL_bring_15
    · obtain rfl : E = eIA := by rw [hE.2, hk]; rfl
      obtain ⟨ce, hc1, hc2, hc3, hc4, hc5⟩ := id hT
      refine ny_catch (own := RL) (name := eIA) (E := eIA) S.2.2.2.1 [⟨0, 9, 12, 13⟩] ⟨0, 9, 16, 15⟩ [] (htab.trans rfl) (fun z hz => by
            rw [List.mem_singleton.mp hz]
            exact ⟨rfl, by decide, eIO, S.2.2.2.2 _ kclL_13, hC.1⟩) rfl (by decide) (S.2.2.2.2 _ kclL_15) (va_Nw.use rfl (hX.2.2.1 eIA (by decide))) hc1 hc2 hc3 ?_
      refine lv_astore (lv' := [(5, .ref q), (0, .ref (T 0)), (1, .int (nI b1)), (2, .int x2), (3, .int x3), (4, .int x4)]) hx hb dL_bring_16 hl (by decide) rfl (fun ls hl => ?_)
      refine lv_iconst (v := 2) hx hb dL_bring_18 (by decide) ?_
      exact W.iret (v := 2) hx hb hr (fun t2 ht hW => ⟨⟨2, (), rfl, by rw [hk]; rfl, Or.inr ⟨by rw [hk]; decide, by rw [ht]; exact wr_kept hP hT⟩⟩, ⟨by rw [ht]; exact hc4, fun z h1 h2 => by rw [ht]; exact hc5 z h1⟩⟩) hL dL_bring_19
set_option maxHeartbeats 4000000 in
set_option maxRecDepth 100000 in
theorem cL_cut (l : Launch) (hfl : l.flags = pinnedFlags ++ [noTraceFlag]) (D : va_G) (cA cW : ClassId) (T : Nat → Nat) (hT : nvT T) (n : Nat → Nat) (g : Nat → Nat → Nat) (ok : nvOk n g)  (x1 x2 x3 x4 : Int32) : Met l yL_cut (Cond.codeWith yL_cut bL_cut 6 (some .int) [(0, 9, 12, 13)] :: nzG) ({ frames := 8, cells := 1, slots := 6, locals := 135 }) (va_Pc [.ref (T 0), .int x1, .int x2, .int x3, .int x4] (wrP D cA cW (nvW cA cW T n g))) (va_Qi (fun r (_ : Unit) => r = nI (kCut n x1 x2 x3 x4)) (fun _ t => (kCut n x1 x2 x3 x4 = 0 ∧ (fun H9 : Heap => ∃ n9 g9, nvU 16 n g (ix x4) (ix x2) (fun i => g (ix x3) (ix x1 + i)) n9 g9 ∧ va_P D vwCl (nvW cA cW T n9 g9) H9) t.heap) ∨ (¬ kCut n x1 x2 x3 x4 = 0 ∧ va_P D vwCl (nvW cA cW T n g) t.heap)) (nvA T)) 1 6 (nvA T) := by
  refine wr_of (own := RL) (by decide) rfl ?_
  intro p e s m args below meth c S hr hlocks htab hv9
  obtain ⟨rfl, ⟨hP, hK, hX⟩, hC⟩ := hv9
  have hob0 := nv_ob0 hK hP
  have hx := S.1
  have hb := S.2.1
  refine nz_entry (vs := [.ref (T 0), .int x1, .int x2, .int x3, .int x4]) (n := 6) (lv := [(0, .ref (T 0)), (1, .int x1), (2, .int x2), (3, .int x3), (4, .int x4)]) (Nat.le_of_ble_eq_true rfl) rfl (fun ls hl => ?_)
  refine lv_aload_n hx hb dL_cut_0 rfl (lv_at hl 0 rfl) ?_
  refine lv_iload_n hx hb dL_cut_1 rfl (lv_at hl 1 rfl) ?_
  refine lv_iload_n hx hb dL_cut_2 rfl (lv_at hl 2 rfl) ?_
  refine lv_iload_n hx hb dL_cut_3 rfl (lv_at hl 3 rfl) ?_
  refine lv_iload hx hb dL_cut_4 (lv_at hl 4 rfl) ?_
  refine wr_call (As := [.int x1, .int x2, .int x3, .int x4]) (rest := []) S (cN_cut l hfl D cA cW T hT n g ok x1 x2 x3 x4) kL_55 ⟨rfl, rfl, Nat.le_of_ble_eq_true rfl, Nat.le_of_ble_eq_true rfl⟩ ⟨Nat.le_of_ble_eq_true rfl, Nat.le_of_ble_eq_true rfl⟩ nmP.bl hob0 (nmP.to hP hK hX) rfl hl.1 rfl (Nat.le_of_ble_eq_true rfl) dL_cut_6 (fun v st t L h0 hL hq => ?_) (fun E q t L hL hE hT => ?_)
  · obtain ⟨rfl, hk, hB, hF⟩ := hq
    refine lv_goto (tgt := 16) hx hb dL_cut_9 (by decide) ?_
    refine lv_iconst (v := 0) hx hb dL_cut_16 (by decide) ?_
    refine W.widen (k := 1) (n := 6) (Nat.zero_le _) (Nat.zero_le _) ?_
    exact W.iret (v := 0) hx hb hr (fun t2 ht hW => ⟨⟨0, (), rfl, by rw [hk]; rfl, Or.inl ⟨hk, by rw [ht]; exact hB⟩⟩, ⟨by rw [ht, ← h0]; exact hF.1, fun z h1 h2 => by rw [ht, ← h0]; exact hF.2 z (by rw [h0]; exact h1) h2⟩⟩) hL dL_cut_17
  · have hks : kCut n x1 x2 x3 x4 = 1 := by
      exact kCut_in hE.1
    have hk := hks
    obtain rfl : E = eIO := by rw [hE.2, hk]; rfl
    obtain ⟨ce, hc1, hc2, hc3, hc4, hc5⟩ := id hT
    refine ny_catch (own := RL) (name := eIO) (E := eIO) S.2.2.2.1 [] ⟨0, 9, 12, 13⟩ [] (htab.trans rfl) (fun z hz => nomatch hz) rfl (by decide) (S.2.2.2.2 _ kclL_13) (va_Nw.use rfl (hX.2.2.1 eIO (by decide))) hc1 hc2 hc3 ?_
    refine lv_astore (lv' := [(5, .ref q), (0, .ref (T 0)), (1, .int x1), (2, .int x2), (3, .int x3), (4, .int x4)]) hx hb dL_cut_12 hl (by decide) rfl (fun ls hl => ?_)
    refine lv_iconst (v := 1) hx hb dL_cut_14 (by decide) ?_
    exact W.iret (v := 1) hx hb hr (fun t2 ht hW => ⟨⟨1, (), rfl, by rw [hk]; rfl, Or.inr ⟨by rw [hk]; decide, by rw [ht]; exact wr_kept hP hT⟩⟩, ⟨by rw [ht]; exact hc4, fun z h1 h2 => by rw [ht]; exact hc5 z h1⟩⟩) hL dL_cut_15
set_option maxHeartbeats 4000000 in
set_option maxRecDepth 100000 in
theorem cL_compare (l : Launch) (hfl : l.flags = pinnedFlags ++ [noTraceFlag]) (D : va_G) (cA cW : ClassId) (T : Nat → Nat) (hT : nvT T) (n : Nat → Nat) (g : Nat → Nat → Nat) (ok : nvOk n g) (cJ : ClassId) (bo : Nat) (f : Nat → Int64) (x2 x3 : Int32) (b1 : Nat) (hb1 : b1 < 2) : Met l yL_compare (Cond.codeWith yL_compare bL_compare 6 (some .int) [(0, 12, 15, 13)] :: nzG) ({ frames := 8, cells := 1, slots := 6, locals := 137 }) (va_Pc [.ref (T 0), .int (nI b1), .int x2, .int x3, .ref bo] (woP D cA cW cJ (nvW cA cW T n g ++ woC cJ bo f))) (va_Qi (fun r (_ : Unit) => r = nI (kPl2 x2 x3)) (fun _ t => ∃ f9 : Nat → Int64, (kPl2 x2 x3 = 0 → f9 0 = (zCompare b1 (g (ix x2)) (n (ix x2)) (g (ix x3)) (n (ix x3))).toInt64) ∧ va_P D vwCl (nvW cA cW T n g ++ woC cJ bo f9) t.heap) (fun q => q = bo)) 1 6 (fun q => q = bo) := by
  refine wr_of (own := RL) (by decide) rfl ?_
  intro p e s m args below meth c S hr hlocks htab hv9
  obtain ⟨rfl, hP2, hK2, hD2, hX, hC⟩ := hv9
  have hP := nw_P1 hP2
  have hK := wo_K hK2
  have hob0 := nv_ob0 hK hP
  have hx := S.1
  have hb := S.2.1
  refine nz_entry (vs := [.ref (T 0), .int (nI b1), .int x2, .int x3, .ref bo]) (n := 6) (lv := [(0, .ref (T 0)), (1, .int (nI b1)), (2, .int x2), (3, .int x3), (4, .ref bo)]) (Nat.le_of_ble_eq_true rfl) rfl (fun ls hl => ?_)
  refine lv_aload hx hb dL_compare_0 (lv_at hl 4 rfl) ?_
  refine lv_iconst (v := 0) hx hb dL_compare_2 (by decide) ?_
  refine lv_aload_n hx hb dL_compare_3 rfl (lv_at hl 0 rfl) ?_
  refine lv_iload_n hx hb dL_compare_4 rfl (lv_at hl 1 rfl) ?_
  refine lv_iload_n hx hb dL_compare_5 rfl (lv_at hl 2 rfl) ?_
  refine lv_iload_n hx hb dL_compare_6 rfl (lv_at hl 3 rfl) ?_
  refine wr_call (As := [.int (nI b1), .int x2, .int x3]) (rest := [.int 0, .ref bo]) S (cN_compare l hfl D cA cW T hT n g ok b1 hb1 x2 x3) kL_59 ⟨rfl, rfl, Nat.le_of_ble_eq_true rfl, Nat.le_of_ble_eq_true rfl⟩ ⟨Nat.le_of_ble_eq_true rfl, Nat.le_of_ble_eq_true rfl⟩ nmP.bl hob0 (nmP.to hP hK hX) rfl hl.1 rfl (Nat.le_of_ble_eq_true rfl) dL_compare_7 (fun v st t L h0 hL hq => ?_) (fun E q t L hL hE hT => ?_)
  · obtain ⟨hk, rfl, hh9⟩ := hq
    obtain rfl : L = [] := by
      cases L with
      | nil => rfl
      | cons z L => exact (hL z List.mem_cons_self).elim
    have hh0 : t.heap = s.heap := by rw [hh9, h0]
    refine lv_i2l (v := (zCompare b1 (g (ix x2)) (n (ix x2)) (g (ix x3)) (n (ix x3))).toInt64) hx hb dL_compare_10 rfl ?_
    refine wo_store hx hb hK2 hP2 hD2 hh0 dL_compare_11 (fun H locs hP2 hS => ?_)
    refine lv_goto (tgt := 19) hx hb dL_compare_12 (by decide) ?_
    refine lv_iconst (v := 0) hx hb dL_compare_19 (by decide) ?_
    refine W.widen (k := 1) (n := 6) (Nat.zero_le _) (Nat.zero_le _) ?_
    exact W.iret (v := 0) hx hb hr (fun t2 ht hW => ⟨⟨0, (), rfl, by rw [hk]; rfl, vp_updL f 0 ((zCompare b1 (g (ix x2)) (n (ix x2)) (g (ix x3)) (n (ix x3))).toInt64), fun _ => rfl, by rw [ht]; exact hP2⟩, hS.F ht⟩) hS.2.2 dL_compare_20
  · have hks : kPl2 x2 x3 = 1 := by
      exact kPl2_in hE.1
    have hk := hks
    obtain rfl : E = eIO := by rw [hE.2, hk]; rfl
    obtain ⟨ce, hc1, hc2, hc3, hc4, hc5⟩ := id hT
    refine ny_catch (own := RL) (name := eIO) (E := eIO) S.2.2.2.1 [] ⟨0, 12, 15, 13⟩ [] (htab.trans rfl) (fun z hz => nomatch hz) rfl (by decide) (S.2.2.2.2 _ kclL_13) (va_Nw.use rfl (hX.2.2.1 eIO (by decide))) hc1 hc2 hc3 ?_
    refine lv_astore (lv' := [(5, .ref q), (0, .ref (T 0)), (1, .int (nI b1)), (2, .int x2), (3, .int x3), (4, .ref bo)]) hx hb dL_compare_15 hl (by decide) rfl (fun ls hl => ?_)
    refine lv_iconst (v := 1) hx hb dL_compare_17 (by decide) ?_
    exact W.iret (v := 1) hx hb hr (fun t2 ht hW => ⟨⟨1, (), rfl, by rw [hk]; rfl, f, fun h => absurd h (by rw [hk]; decide), by rw [ht]; exact wr_kept hP2 hT⟩, ⟨by rw [ht]; exact hc4, fun z h1 h2 => by rw [ht]; exact hc5 z h1⟩⟩) (fun z hz => (hL z hz).elim) dL_compare_18
set_option maxHeartbeats 4000000 in
set_option maxRecDepth 100000 in
theorem cL_same (l : Launch) (hfl : l.flags = pinnedFlags ++ [noTraceFlag]) (D : va_G) (cA cW : ClassId) (T : Nat → Nat) (hT : nvT T) (n : Nat → Nat) (g : Nat → Nat → Nat) (ok : nvOk n g) (cJ : ClassId) (bo : Nat) (f : Nat → Int64) (x2 x3 : Int32) (b1 : Nat) (hb1 : b1 < 2) : Met l yL_same (Cond.codeWith yL_same bL_same 6 (some .int) [(0, 19, 22, 13)] :: nzG) ({ frames := 8, cells := 1, slots := 6, locals := 138 }) (va_Pc [.ref (T 0), .int (nI b1), .int x2, .int x3, .ref bo] (woP D cA cW cJ (nvW cA cW T n g ++ woC cJ bo f))) (va_Qi (fun r (_ : Unit) => r = nI (kPl2 x2 x3)) (fun _ t => ∃ f9 : Nat → Int64, (kPl2 x2 x3 = 0 → f9 0 = (nI (zSame b1 (g (ix x2)) (g (ix x3)) (n (ix x2)) (n (ix x3)))).toInt64) ∧ va_P D vwCl (nvW cA cW T n g ++ woC cJ bo f9) t.heap) (fun q => q = bo)) 1 6 (fun q => q = bo) := by
  refine wr_of (own := RL) (by decide) rfl ?_
  intro p e s m args below meth c S hr hlocks htab hv9
  obtain ⟨rfl, hP2, hK2, hD2, hX, hC⟩ := hv9
  have hP := nw_P1 hP2
  have hK := wo_K hK2
  have hob0 := nv_ob0 hK hP
  have hx := S.1
  have hb := S.2.1
  refine nz_entry (vs := [.ref (T 0), .int (nI b1), .int x2, .int x3, .ref bo]) (n := 6) (lv := [(0, .ref (T 0)), (1, .int (nI b1)), (2, .int x2), (3, .int x3), (4, .ref bo)]) (Nat.le_of_ble_eq_true rfl) rfl (fun ls hl => ?_)
  refine lv_aload hx hb dL_same_0 (lv_at hl 4 rfl) ?_
  refine lv_iconst (v := 0) hx hb dL_same_2 (by decide) ?_
  refine lv_aload_n hx hb dL_same_3 rfl (lv_at hl 0 rfl) ?_
  refine lv_iload_n hx hb dL_same_4 rfl (lv_at hl 1 rfl) ?_
  refine lv_iload_n hx hb dL_same_5 rfl (lv_at hl 2 rfl) ?_
  refine lv_iload_n hx hb dL_same_6 rfl (lv_at hl 3 rfl) ?_
  refine wr_call (As := [.int (nI b1), .int x2, .int x3]) (rest := [.int 0, .ref bo]) S (cN_same l hfl D cA cW T hT n g ok b1 hb1 x2 x3) kL_63 ⟨rfl, rfl, Nat.le_of_ble_eq_true rfl, Nat.le_of_ble_eq_true rfl⟩ ⟨Nat.le_of_ble_eq_true rfl, Nat.le_of_ble_eq_true rfl⟩ nmP.bl hob0 (nmP.to hP hK hX) rfl hl.1 rfl (Nat.le_of_ble_eq_true rfl) dL_same_7 (fun v st t L h0 hL hq => ?_) (fun E q t L hL hE hT => ?_)
  · obtain ⟨hk, rfl, hh9⟩ := hq
    obtain rfl : L = [] := by
      cases L with
      | nil => rfl
      | cons z L => exact (hL z List.mem_cons_self).elim
    have hh0 : t.heap = s.heap := by rw [hh9, h0]
    refine lv_if_eq (tgt := 17) hx hb dL_same_10 (by decide) (fun c1 => ?_) (fun c1 => ?_)
    · refine lv_lconst (v := 0) hx hb dL_same_17 (by decide) ?_
      refine wo_store hx hb hK2 hP2 hD2 hh0 dL_same_18 (fun H locs hP2 hS => ?_)
      refine lv_goto (tgt := 26) hx hb dL_same_19 (by decide) ?_
      refine lv_iconst (v := 0) hx hb dL_same_26 (by decide) ?_
      refine W.widen (k := 1) (n := 6) (Nat.zero_le _) (Nat.zero_le _) ?_
      exact W.iret (v := 0) hx hb hr (fun t2 ht hW => ⟨⟨0, (), rfl, by rw [hk]; rfl, vp_updL f 0 0, fun _ => (by rw [c1]; rfl), by rw [ht]; exact hP2⟩, hS.F ht⟩) hS.2.2 dL_same_27
    · refine lv_lconst (v := 1) hx hb dL_same_13 (by decide) ?_
      refine lv_goto (tgt := 18) hx hb dL_same_14 (by decide) ?_
      refine wo_store hx hb hK2 hP2 hD2 hh0 dL_same_18 (fun H locs hP2 hS => ?_)
      refine lv_goto (tgt := 26) hx hb dL_same_19 (by decide) ?_
      refine lv_iconst (v := 0) hx hb dL_same_26 (by decide) ?_
      refine W.widen (k := 1) (n := 6) (Nat.zero_le _) (Nat.zero_le _) ?_
      exact W.iret (v := 0) hx hb hr (fun t2 ht hW => ⟨⟨0, (), rfl, by rw [hk]; rfl, vp_updL f 0 1, fun _ => (by rw [zSame_y c1]; rfl), by rw [ht]; exact hP2⟩, hS.F ht⟩) hS.2.2 dL_same_27
  · have hks : kPl2 x2 x3 = 1 := by
      exact kPl2_in hE.1
    have hk := hks
    obtain rfl : E = eIO := by rw [hE.2, hk]; rfl
    obtain ⟨ce, hc1, hc2, hc3, hc4, hc5⟩ := id hT
    refine ny_catch (own := RL) (name := eIO) (E := eIO) S.2.2.2.1 [] ⟨0, 19, 22, 13⟩ [] (htab.trans rfl) (fun z hz => nomatch hz) rfl (by decide) (S.2.2.2.2 _ kclL_13) (va_Nw.use rfl (hX.2.2.1 eIO (by decide))) hc1 hc2 hc3 ?_
    refine lv_astore (lv' := [(5, .ref q), (0, .ref (T 0)), (1, .int (nI b1)), (2, .int x2), (3, .int x3), (4, .ref bo)]) hx hb dL_same_22 hl (by decide) rfl (fun ls hl => ?_)
    refine lv_iconst (v := 1) hx hb dL_same_24 (by decide) ?_
    exact W.iret (v := 1) hx hb hr (fun t2 ht hW => ⟨⟨1, (), rfl, by rw [hk]; rfl, f, fun h => absurd h (by rw [hk]; decide), by rw [ht]; exact wr_kept hP2 hT⟩, ⟨by rw [ht]; exact hc4, fun z h1 h2 => by rw [ht]; exact hc5 z h1⟩⟩) (fun z hz => (hL z hz).elim) dL_same_25
set_option maxHeartbeats 4000000 in
set_option maxRecDepth 100000 in
theorem cL_all (l : Launch) (hfl : l.flags = pinnedFlags ++ [noTraceFlag]) (D : va_G) (cA cW : ClassId) (T : Nat → Nat) (hT : nvT T) (n : Nat → Nat) (g : Nat → Nat → Nat) (ok : nvOk n g) (cJ : ClassId) (bo : Nat) (f : Nat → Int64) (x1 x2 : Int32) : Met l yL_all (Cond.codeWith yL_all bL_all 5 (some .int) [(0, 10, 13, 13), (0, 10, 17, 15)] :: nzG) ({ frames := 8, cells := 1, slots := 6, locals := 132 }) (va_Pc [.ref (T 0), .int x1, .int x2, .ref bo] (woP D cA cW cJ (nvW cA cW T n g ++ woC cJ bo f))) (va_Qi (fun r (_ : Unit) => r = nI (kAll x1 x2)) (fun _ t => ∃ f9 : Nat → Int64, (kAll x1 x2 = 0 → f9 0 = (nI (zAllOf (ix x1) (g (ix x2)) (n (ix x2)))).toInt64) ∧ va_P D vwCl (nvW cA cW T n g ++ woC cJ bo f9) t.heap) (fun q => q = bo)) 1 6 (fun q => q = bo) := by
  refine wr_of (own := RL) (by decide) rfl ?_
  intro p e s m args below meth c S hr hlocks htab hv9
  obtain ⟨rfl, hP2, hK2, hD2, hX, hC⟩ := hv9
  have hP := nw_P1 hP2
  have hK := wo_K hK2
  have hob0 := nv_ob0 hK hP
  have hx := S.1
  have hb := S.2.1
  refine nz_entry (vs := [.ref (T 0), .int x1, .int x2, .ref bo]) (n := 5) (lv := [(0, .ref (T 0)), (1, .int x1), (2, .int x2), (3, .ref bo)]) (Nat.le_of_ble_eq_true rfl) rfl (fun ls hl => ?_)
  refine lv_aload_n hx hb dL_all_0 rfl (lv_at hl 3 rfl) ?_
  refine lv_iconst (v := 0) hx hb dL_all_1 (by decide) ?_
  refine lv_aload_n hx hb dL_all_2 rfl (lv_at hl 0 rfl) ?_
  refine lv_iload_n hx hb dL_all_3 rfl (lv_at hl 1 rfl) ?_
  refine lv_iload_n hx hb dL_all_4 rfl (lv_at hl 2 rfl) ?_
  refine wr_call (As := [.int x1, .int x2]) (rest := [.int 0, .ref bo]) S (cN_all l hfl D cA cW T hT n g ok x1 x2) kL_67 ⟨rfl, rfl, Nat.le_of_ble_eq_true rfl, Nat.le_of_ble_eq_true rfl⟩ ⟨Nat.le_of_ble_eq_true rfl, Nat.le_of_ble_eq_true rfl⟩ nmP.bl hob0 (nmP.to hP hK hX) rfl hl.1 rfl (Nat.le_of_ble_eq_true rfl) dL_all_5 (fun v st t L h0 hL hq => ?_) (fun E q t L hL hE hT => ?_)
  · obtain ⟨hk, rfl, hh9⟩ := hq
    obtain rfl : L = [] := by
      cases L with
      | nil => rfl
      | cons z L => exact (hL z List.mem_cons_self).elim
    have hh0 : t.heap = s.heap := by rw [hh9, h0]
    refine lv_i2l (v := (nI (zAllOf (ix x1) (g (ix x2)) (n (ix x2)))).toInt64) hx hb dL_all_8 rfl ?_
    refine wo_store hx hb hK2 hP2 hD2 hh0 dL_all_9 (fun H locs hP2 hS => ?_)
    refine lv_goto (tgt := 21) hx hb dL_all_10 (by decide) ?_
    refine lv_iconst (v := 0) hx hb dL_all_21 (by decide) ?_
    refine W.widen (k := 1) (n := 6) (Nat.zero_le _) (Nat.zero_le _) ?_
    exact W.iret (v := 0) hx hb hr (fun t2 ht hW => ⟨⟨0, (), rfl, by rw [hk]; rfl, vp_updL f 0 ((nI (zAllOf (ix x1) (g (ix x2)) (n (ix x2)))).toInt64), fun _ => rfl, by rw [ht]; exact hP2⟩, hS.F ht⟩) hS.2.2 dL_all_22
  · have hks : kAll x1 x2 = 1 ∨ kAll x1 x2 = 2 := by
      exact kAll_in hE.1
    rcases hks with hk | hk
    · obtain rfl : E = eIO := by rw [hE.2, hk]; rfl
      obtain ⟨ce, hc1, hc2, hc3, hc4, hc5⟩ := id hT
      refine ny_catch (own := RL) (name := eIO) (E := eIO) S.2.2.2.1 [] ⟨0, 10, 13, 13⟩ [⟨0, 10, 17, 15⟩] (htab.trans rfl) (fun z hz => nomatch hz) rfl (by decide) (S.2.2.2.2 _ kclL_13) (va_Nw.use rfl (hX.2.2.1 eIO (by decide))) hc1 hc2 hc3 ?_
      refine lv_astore (lv' := [(4, .ref q), (0, .ref (T 0)), (1, .int x1), (2, .int x2), (3, .ref bo)]) hx hb dL_all_13 hl (by decide) rfl (fun ls hl => ?_)
      refine lv_iconst (v := 1) hx hb dL_all_15 (by decide) ?_
      exact W.iret (v := 1) hx hb hr (fun t2 ht hW => ⟨⟨1, (), rfl, by rw [hk]; rfl, f, fun h => absurd h (by rw [hk]; decide), by rw [ht]; exact wr_kept hP2 hT⟩, ⟨by rw [ht]; exact hc4, fun z h1 h2 => by rw [ht]; exact hc5 z h1⟩⟩) (fun z hz => (hL z hz).elim) dL_all_16
    · obtain rfl : E = eIA := by rw [hE.2, hk]; rfl
      obtain ⟨ce, hc1, hc2, hc3, hc4, hc5⟩ := id hT
      refine ny_catch (own := RL) (name := eIA) (E := eIA) S.2.2.2.1 [⟨0, 10, 13, 13⟩] ⟨0, 10, 17, 15⟩ [] (htab.trans rfl) (fun z hz => by
            rw [List.mem_singleton.mp hz]
            exact ⟨rfl, by decide, eIO, S.2.2.2.2 _ kclL_13, hC.1⟩) rfl (by decide) (S.2.2.2.2 _ kclL_15) (va_Nw.use rfl (hX.2.2.1 eIA (by decide))) hc1 hc2 hc3 ?_
      refine lv_astore (lv' := [(4, .ref q), (0, .ref (T 0)), (1, .int x1), (2, .int x2), (3, .ref bo)]) hx hb dL_all_17 hl (by decide) rfl (fun ls hl => ?_)
      refine lv_iconst (v := 2) hx hb dL_all_19 (by decide) ?_
      exact W.iret (v := 2) hx hb hr (fun t2 ht hW => ⟨⟨2, (), rfl, by rw [hk]; rfl, f, fun h => absurd h (by rw [hk]; decide), by rw [ht]; exact wr_kept hP2 hT⟩, ⟨by rw [ht]; exact hc4, fun z h1 h2 => by rw [ht]; exact hc5 z h1⟩⟩) (fun z hz => (hL z hz).elim) dL_all_20
set_option maxHeartbeats 4000000 in
set_option maxRecDepth 100000 in
theorem cL_edge (l : Launch) (hfl : l.flags = pinnedFlags ++ [noTraceFlag]) (D : va_G) (cA cW : ClassId) (T : Nat → Nat) (hT : nvT T) (n : Nat → Nat) (g : Nat → Nat → Nat) (ok : nvOk n g) (cJ : ClassId) (bo : Nat) (f : Nat → Int64) (x1 x2 : Int32) : Met l yL_edge (Cond.codeWith yL_edge bL_edge 5 (some .int) [(0, 10, 13, 15)] :: nzG) ({ frames := 8, cells := 1, slots := 6, locals := 132 }) (va_Pc [.ref (T 0), .int x1, .int x2, .ref bo] (woP D cA cW cJ (nvW cA cW T n g ++ woC cJ bo f))) (va_Qi (fun r (_ : Unit) => r = nI (kEdge x1 x2)) (fun _ t => ∃ f9 : Nat → Int64, (kEdge x1 x2 = 0 → f9 0 = (zEdge (ix x1) (ix x2)).toInt64) ∧ va_P D vwCl (nvW cA cW T n g ++ woC cJ bo f9) t.heap) (fun q => q = bo)) 1 6 (fun q => q = bo) := by
  refine wr_of (own := RL) (by decide) rfl ?_
  intro p e s m args below meth c S hr hlocks htab hv9
  obtain ⟨rfl, hP2, hK2, hD2, hX, hC⟩ := hv9
  have hP := nw_P1 hP2
  have hK := wo_K hK2
  have hob0 := nv_ob0 hK hP
  have hx := S.1
  have hb := S.2.1
  refine nz_entry (vs := [.ref (T 0), .int x1, .int x2, .ref bo]) (n := 5) (lv := [(0, .ref (T 0)), (1, .int x1), (2, .int x2), (3, .ref bo)]) (Nat.le_of_ble_eq_true rfl) rfl (fun ls hl => ?_)
  refine lv_aload_n hx hb dL_edge_0 rfl (lv_at hl 3 rfl) ?_
  refine lv_iconst (v := 0) hx hb dL_edge_1 (by decide) ?_
  refine lv_aload_n hx hb dL_edge_2 rfl (lv_at hl 0 rfl) ?_
  refine lv_iload_n hx hb dL_edge_3 rfl (lv_at hl 1 rfl) ?_
  refine lv_iload_n hx hb dL_edge_4 rfl (lv_at hl 2 rfl) ?_
  refine wr_call (As := [.int x1, .int x2]) (rest := [.int 0, .ref bo]) S (cN_edge l hfl D cA cW T hT n g ok x1 x2) kL_70 ⟨rfl, rfl, Nat.le_of_ble_eq_true rfl, Nat.le_of_ble_eq_true rfl⟩ ⟨Nat.le_of_ble_eq_true rfl, Nat.le_of_ble_eq_true rfl⟩ nmP.bl hob0 (nmP.to hP hK hX) rfl hl.1 rfl (Nat.le_of_ble_eq_true rfl) dL_edge_5 (fun v st t L h0 hL hq => ?_) (fun E q t L hL hE hT => ?_)
  · obtain ⟨hk, rfl, hh9⟩ := hq
    obtain rfl : L = [] := by
      cases L with
      | nil => rfl
      | cons z L => exact (hL z List.mem_cons_self).elim
    have hh0 : t.heap = s.heap := by rw [hh9, h0]
    refine lv_i2l (v := (zEdge (ix x1) (ix x2)).toInt64) hx hb dL_edge_8 rfl ?_
    refine wo_store hx hb hK2 hP2 hD2 hh0 dL_edge_9 (fun H locs hP2 hS => ?_)
    refine lv_goto (tgt := 17) hx hb dL_edge_10 (by decide) ?_
    refine lv_iconst (v := 0) hx hb dL_edge_17 (by decide) ?_
    refine W.widen (k := 1) (n := 6) (Nat.zero_le _) (Nat.zero_le _) ?_
    exact W.iret (v := 0) hx hb hr (fun t2 ht hW => ⟨⟨0, (), rfl, by rw [hk]; rfl, vp_updL f 0 ((zEdge (ix x1) (ix x2)).toInt64), fun _ => rfl, by rw [ht]; exact hP2⟩, hS.F ht⟩) hS.2.2 dL_edge_18
  · have hks : kEdge x1 x2 = 1 := by
      exact kEdge_in hE.1
    have hk := hks
    obtain rfl : E = eIA := by exact hE.2
    obtain ⟨ce, hc1, hc2, hc3, hc4, hc5⟩ := id hT
    refine ny_catch (own := RL) (name := eIA) (E := eIA) S.2.2.2.1 [] ⟨0, 10, 13, 15⟩ [] (htab.trans rfl) (fun z hz => nomatch hz) rfl (by decide) (S.2.2.2.2 _ kclL_15) (va_Nw.use rfl (hX.2.2.1 eIA (by decide))) hc1 hc2 hc3 ?_
    refine lv_astore (lv' := [(4, .ref q), (0, .ref (T 0)), (1, .int x1), (2, .int x2), (3, .ref bo)]) hx hb dL_edge_13 hl (by decide) rfl (fun ls hl => ?_)
    refine lv_iconst (v := 1) hx hb dL_edge_15 (by decide) ?_
    exact W.iret (v := 1) hx hb hr (fun t2 ht hW => ⟨⟨1, (), rfl, by rw [hk]; rfl, f, fun h => absurd h (by rw [hk]; decide), by rw [ht]; exact wr_kept hP2 hT⟩, ⟨by rw [ht]; exact hc4, fun z h1 h2 => by rw [ht]; exact hc5 z h1⟩⟩) (fun z hz => (hL z hz).elim) dL_edge_16
