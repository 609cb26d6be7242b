/-! ===== the law from its entry to its loop ===== -/
section Lt
theorem mo_in {Tm : Nat → Nat} {A : Nat → Prop} (h : ∀ k, k < 4 → A (Tm k)) : ∀ q, moA Tm q → A q := by
  intro q hq
  rcases hq with e | e | e | e
  · rw [e]; exact h 0 (by decide)
  · rw [e]; exact h 1 (by decide)
  · rw [e]; exact h 2 (by decide)
  · rw [e]; exact h 3 (by decide)
theorem mo_of {cA : ClassId} {Tm : Nat → Nat} {k : Int32} {C L O : Nat → Nat} {c0 q : Nat} (h : moA Tm q) : ∃ (j : Nat) (x : Nat × va_E), (moW cA Tm k C L O c0)[j]? = some x ∧ x.1 = q := by
  rcases h with e | e | e | e
  · exact ⟨0, _, rfl, e.symm⟩
  · exact ⟨1, _, rfl, e.symm⟩
  · exact ⟨2, _, rfl, e.symm⟩
  · exact ⟨3, _, rfl, e.symm⟩
theorem nv_of {cA cW : ClassId} {T : Nat → Nat} {n : Nat → Nat} {g : Nat → Nat → Nat} {q : Nat} (h : nvA T q) : ∃ (j : Nat) (x : Nat × va_E), (nvW cA cW T n g)[j]? = some x ∧ x.1 = q := by
  obtain ⟨j, h1, h2⟩ := h
  exact ⟨j, _, bw_get h1, h2.symm⟩
set_option maxHeartbeats 4000000 in
set_option maxRecDepth 100000 in
theorem whole_start {p : Program} {e : Env} {s : State} {m : MethodId} {below : List Frame} {meth : Method} {c : Code} (l : Launch) (hfl : l.flags = pinnedFlags ++ [noTraceFlag]) {b L : Nat} {xs : Nat → Int32} (hL : L ≤ 3072) (C0 : lw_At p s m meth c b L xs) : W p l e room_1 s m #[Value.ref b] below meth c s.heap [] 0 0 (lw_Z below #[Value.ref b] s) (entryFrame m ([Value.ref b] : List Value).toArray 8) := by
  obtain ⟨hX9, hC9, hNi, hAO⟩ := lw_nmX C0
  obtain ⟨D, cA, cW, cJ, hK⟩ := lw_K C0
  obtain ⟨hx, hb, hr, hml, hown, hts, hXs, hbl, hlocks, hgv⟩ := C0
  have S : CallFix p m c bL_law 8 s #[Value.ref b] nzG RL := ⟨hx, hb, hml, hown, fun w hw => hts w (nzG_tbl w hw)⟩
  have hA : ∀ q : Nat, s.heap.size ≤ q → lwA s q := fun q h => h
  have hP0 : va_P D vwCl [] s.heap := fun k q hk => by simp at hk
  have hD0 : va_D (lwA s) [] := ⟨fun i j p q hi => by simp at hi, fun k q hk => by simp at hk⟩
  have hK1 : va_K D vwCl (nvTy cA cW) s := wo_K hK
  have hK2 : va_K D vwCl (moTy cA) s := hK.sub [0] rfl
  refine nz_entry (vs := [.ref b]) (n := 8) (lv := [(0, .ref b)]) (Nat.le_of_ble_eq_true rfl) rfl (fun ls hl => ?_)
  -- the class's object
  refine va_new (ci := ciN) (fs := [.null, .null]) (C := RN) (T := FN) (N := 2) hx hb S.2.2.2.2 in_N tyN tyN_ok S.2.2.2.1 (S.2.2.2.2 _ kL_clN) (S.2.2.2.2 _ kL_inN) (S.2.2.2.2 _ kL_iniN) hK hP0 hD0 va_S.rf hA rfl (fun j hj => by rcases (show j = 0 ∨ j = 1 by omega) with rfl | rfl <;> rfl) (Nat.le_of_ble_eq_true rfl) (Nat.le_of_ble_eq_true rfl) dL_law_0 (fun q H hP hD hS => ?_)
  refine lv_dup hx hb dL_law_3 rfl ?_
  have hP : va_P D vwCl (ni0 q ++ []) H := hP
  have hD : va_D (lwA s) (ni0 q ++ []) := hD
  have hF := nw_free hD hS hA
  refine va_callv (va_runI (As := []) (rest := [.ref q]) S (c_N_init l D cA cW q H.size) ⟨⟨rfl, rfl, Nat.le_of_ble_eq_true rfl, Nat.le_of_ble_eq_true rfl, nz_pay S.2.2.2.2 kL_cdN, List.mem_cons_self, S.2.2.2.2 _ kL_cdN, S.2.2.2.2 _ kL_iniN, by decide, fun sig hs => (Option.some.inj ((by decide +kernel : (parseMethodDescriptor yN_init.desc).map (fun d => d.parameters.length) = some 0).symm.trans (congrArg (Option.map (fun d => d.parameters.length)) hs))), S.2.2.2.2 _ kL_mlN⟩, rfl, S.2.2.2.2 _ kL_imN⟩
    ⟨fun a U g mk q => ⟨q.1, q.2.1, q.2.2.1, va_K.moved (u := U) (U := U.calling g mk a) (Vm.Alike.refl U.vm) q.2.2.2.1, va_Nw.same rfl rfl q.2.2.2.2.1, q.2.2.2.2.2⟩, fun U hU hW => ⟨rfl, by rw [hU], by rw [hU]; exact nw_P1 hP, va_K.moved hW.alike hK1, va_Nw.warmM hW hNi, va_AO.moved hW.alike hAO⟩⟩ rfl rfl hl.1 rfl (lv_room (Nat.le_of_ble_eq_true rfl)) dL_law_4 ⟨Nat.le_of_ble_eq_true rfl, Nat.le_of_ble_eq_true rfl⟩) hS (fun z _ h => hF z h) hF (fun u t H1 locs1 ht hvm hw hB hz hk hS => ?_)
  obtain ⟨T, hT0, hT, hTA, hP1⟩ := hB
  rw [ht] at hP1
  have hD1 : va_D (lwA s) (nvW cA cW T (fun _ => 0) (fun _ _ => 0)) := (nvD hT).weaken (fun k x _ h => by
    obtain ⟨j, h1, h2⟩ := h
    rw [h2]
    exact hF _ (hTA j h1))
  rw [← hT0]
  refine lv_astore_n (lv' := [(1, .ref (T 0)), (0, .ref b)]) hx hb dL_law_7 rfl hl (by decide) rfl (fun ls hl => ?_)
  clear hP hD hF hk hz hTA
  -- the reference's object
  refine va_new (ci := ciM) (fs := [.int 0, .null, .null, .null, .int 0]) (C := RM) (T := FM) (N := 5) hx hb S.2.2.2.2 in_M tyM tyM_ok S.2.2.2.1 (S.2.2.2.2 _ kL_clM) (S.2.2.2.2 _ kL_inM) (S.2.2.2.2 _ kL_iniM) hK hP1 hD1 hS hA rfl (fun j hj => by rcases (show j = 0 ∨ j = 1 ∨ j = 2 ∨ j = 3 ∨ j = 4 by omega) with rfl | rfl | rfl | rfl | rfl <;> rfl) (Nat.le_of_ble_eq_true rfl) (Nat.le_of_ble_eq_true rfl) dL_law_8 (fun q2 H hP hD hS => ?_)
  refine lv_dup hx hb dL_law_11 rfl ?_
  have hPs : va_P D vwCl (mi0 q2 ++ nvW cA cW T (fun _ => 0) (fun _ _ => 0)) H := nw_Psw hP
  have hDs : va_D (lwA s) (mi0 q2 ++ nvW cA cW T (fun _ => 0) (fun _ _ => 0)) := nw_Dsw hD
  have hF := nw_free hDs hS hA
  refine va_callv (va_runI (As := []) (rest := [.ref q2]) S (c_Mo_init l D cA q2 H.size) ⟨⟨rfl, rfl, Nat.le_of_ble_eq_true rfl, Nat.le_of_ble_eq_true rfl, nz_pay S.2.2.2.2 kL_cdMo, List.mem_cons_self, S.2.2.2.2 _ kL_cdMo, S.2.2.2.2 _ kL_iniM, by decide, fun sig hs => (Option.some.inj ((by decide +kernel : (parseMethodDescriptor yMo_init.desc).map (fun d => d.parameters.length) = some 0).symm.trans (congrArg (Option.map (fun d => d.parameters.length)) hs))), S.2.2.2.2 _ kL_mlMo⟩, rfl, S.2.2.2.2 _ kL_imMo⟩
    ⟨fun a U g mk q => ⟨q.1, q.2.1, moP.bl a U g mk q.2.2⟩, fun U hU hW => ⟨rfl, by rw [hU], moP.to (nw_P1 hPs) hK2 U hU hW⟩⟩ rfl rfl hl.1 rfl (lv_room (Nat.le_of_ble_eq_true rfl)) dL_law_12 ⟨Nat.le_of_ble_eq_true rfl, Nat.le_of_ble_eq_true rfl⟩) hS (fun z _ h => hF z h) hF (fun u t H1 locs1 ht hvm hw hB hz hk hS => ?_)
  obtain ⟨Tm, hM0, hM, hMA, hP2⟩ := hB
  rw [ht] at hP2
  obtain ⟨hPj, hDj⟩ := nw_join hPs hDs hk hF hP2 ((moD hM).weaken (fun k x _ h => mo_in (A := va_A (mi0 q2) H.size) hMA _ h))
  rw [← hM0]
  refine lv_astore_n (lv' := [(2, .ref (Tm 0)), (1, .ref (T 0)), (0, .ref b)]) hx hb dL_law_15 rfl hl (by decide) rfl (fun ls hl => ?_)
  -- the out array
  refine lv_iconst (v := 1) hx hb dL_law_16 (by decide) ?_
  refine va_newa (a0 := (1, .inr (.inl (fun _ => 0)))) hx hb (S.2.2.2.2 _ k_arrJ) rfl hK hPj hDj hS hA (N' := 1) (fun _ => rfl) (by decide) (by decide) (by decide) (Nat.le_of_ble_eq_true rfl) (Nat.le_of_ble_eq_true rfl) dL_law_17 (fun bo cJ1 H hK9 hP hD hS => ?_)
  obtain rfl : cJ = cJ1 := by
    have h1 : s.vm.findClass ("[" ++ FieldType.long.toString) = some cJ := (hK.2 2 (cJ, .long) rfl).2
    have h2 : s.vm.findClass ("[" ++ FieldType.long.toString) = some cJ1 := (hK9.2 3 (cJ1, .long) rfl).2
    exact Option.some.inj (h1.symm.trans h2)
  refine lv_astore_n (lv' := [(3, .ref bo), (2, .ref (Tm 0)), (1, .ref (T 0)), (0, .ref b)]) hx hb dL_law_19 rfl hl (by decide) rfl (fun ls hl => ?_)
  refine lv_iconst (v := 0) hx hb dL_law_20 (by decide) ?_
  refine lv_istore (lv' := [(4, .int 0), (3, .ref bo), (2, .ref (Tm 0)), (1, .ref (T 0)), (0, .ref b)]) hx hb dL_law_21 hl (by decide) rfl (fun ls hl => ?_)
  have hDm := nw_D1 hD
  have X : lwX D cA cW cJ T Tm bo s := by
    refine ⟨hT, hM, fun k hk => ?_, fun z hz => ?_, (nw_D2 hD).2 0 _ rfl, fun z h1 h2 => ?_, fun h1 => ?_, fun h2 => ?_, hK, hX9, hC9⟩
    · exact (nw_D2 hDm).2 k _ (bw_get hk)
    · obtain ⟨j, x, h1, h2⟩ := mo_of (cA := cA) (k := nI 0) (C := fun _ => 0) (L := fun _ => 0) (O := fun _ => 0) (c0 := 0) hz
      rw [← h2]
      exact (nw_D1 hDm).2 j x h1
    · obtain ⟨j, x, g1, g2⟩ := mo_of (cA := cA) (k := nI 0) (C := fun _ => 0) (L := fun _ => 0) (O := fun _ => 0) (c0 := 0) h2
      obtain ⟨i, y, g3, g4⟩ := nv_of (cA := cA) (cW := cW) (n := fun _ => 0) (g := fun _ _ => 0) h1
      exact nw_ne hDm g1 g3 (g2.trans g4.symm)
    · obtain ⟨i, y, g3, g4⟩ := nv_of (cA := cA) (cW := cW) (n := fun _ => 0) (g := fun _ _ => 0) h1
      exact nw_ne (nw_Dsw hD) (i := 0) rfl (show _ = some y by rw [List.getElem?_append_right (Nat.le_add_right 4 i)]; show (nvW cA cW T (fun _ => 0) (fun _ _ => 0))[4 + i - 4]? = some y; rw [Nat.add_sub_cancel_left]; exact g3) g4.symm
    · obtain ⟨j, x, g1, g2⟩ := mo_of (cA := cA) (k := nI 0) (C := fun _ => 0) (L := fun _ => 0) (O := fun _ => 0) (c0 := 0) h2
      exact nw_ne (nw_Dsw hD) (i := 0) rfl (show _ = some x by rw [List.getElem?_append_left (List.getElem?_eq_some_iff.mp g1).1]; exact g1) g2.symm
  refine law_loop l hfl X S hr hlocks hXs hbl hL 513 0 (by omega) (by omega) H _ ls ⟨fun _ => 0, fun _ _ => 0, fun _ => 0, fun _ => 0, fun _ => 0, 0, nI 0, fun _ => 0, ⟨fun _ => Nat.zero_le _, fun _ _ => Nat.zero_lt_succ 8⟩, ⟨fun _ => Nat.zero_lt_succ 8, fun _ => Nat.zero_le _, fun _ => Nat.zero_lt_succ 8⟩, fun j hj => ⟨rfl, fun k hk => absurd hk (Nat.not_lt_zero _)⟩, ⟨nw_P2 (nw_P1 hP), nw_P2 hP, nw_P1 (nw_P1 hP)⟩, hS⟩ (lv_sub hl [4, 3, 2, 1, 0] rfl)
end Lt
