/-! ===== what the law's entry gives ===== -/
section Lc
theorem tb_at {w : Cond} (i : Nat) (h : tables_1[i]? = some w) : w ∈ lw_tbl := List.mem_append_right _ (List.mem_of_getElem? h)
theorem str_of {A : Array Value} {s : State} {k : Nat} {tx : String} (h1 : (Cond.stringRef RN k tx).before A s = true) (h2 : (Cond.exactly (.string RN k) "java/lang/String").before A s = true) : ∃ sa, vk_R RN k tx sa s := by
  obtain ⟨b, -, -, -, hb, -⟩ := Cond.exactly_spec h2
  exact ⟨b, vk_R.of h1 hb⟩
def lwN : List Cond := [.isRef (.static Bundle.tN "UNASSIGNED_STACK" Bundle.steD), .isRef (.static Bundle.tN "SUPPRESSED_SENTINEL" Bundle.listD), .not (.castable eIA eIO), .not (.castable eIS eIO), .not (.castable eAR eIO), .not (.castable eAR eIA), .exactly (.string RN 55) "java/lang/String", .exactly (.string RN 66) "java/lang/String", .exactly (.string RN 85) "java/lang/String", .exactly (.string RN 94) "java/lang/String", .exactly (.string RN 96) "java/lang/String", .exactly (.string RN 118) "java/lang/String", .exactly (.string RN 137) "java/lang/String", .exactly (.string RN 146) "java/lang/String", .exactly (.string RN 148) "java/lang/String", .exactly (.string RN 150) "java/lang/String", .exactly (.string RN 152) "java/lang/String", .exactly (.string RN 154) "java/lang/String", .exactly (.string RN 169) "java/lang/String"]
set_option maxRecDepth 100000 in
set_option maxHeartbeats 4000000 in
theorem lwN_in : ∀ w ∈ lwN, w ∈ flatC (Jvm.Cond.and given_1 narrow_1) := by decide +kernel
set_option maxRecDepth 100000 in
set_option maxHeartbeats 4000000 in
theorem lw_nmX {p : Program} {s : State} {m : MethodId} {meth : Method} {c : Code} {b L : Nat} {xs : Nat → Int32} (C0 : lw_At p s m meth c b L xs) : nmX s ∧ wrC s ∧ va_Nw (.methodLinkNest RN nmI yWord_init nmHost) s ∧ va_AO RW s := by
  obtain ⟨hx, hb, hr, hml, hown, hts, hX, hbl, hlocks, hgv⟩ := C0
  have hs : ∀ w ∈ lwN, w.before #[Value.ref b] s = true := fun w hw => flat_of_before _ hgv w (lwN_in w hw)
  have hN : ∀ (i : Nat) (w : Cond), lwN[i]? = some w → w.before #[Value.ref b] s = true := fun i w h => hs w (List.mem_of_getElem? h)
  refine ⟨⟨hts nmS (tb_at 29 (by decide +kernel)), hts nmE (tb_at 31 (by decide +kernel)), ?_, ?_, ?_, ?_⟩, ⟨va_Nc.of (hN 2 _ rfl), va_Nc.of (hN 3 _ rfl), va_Nc.of (hN 4 _ rfl), va_Nc.of (hN 5 _ rfl)⟩, hts (.methodLinkNest RN nmI yWord_init nmHost) (tb_at 24 (by decide +kernel)), hts (.arrayOver (.object RW)) (tb_at 22 (by decide +kernel))⟩
  · exact List.forall_mem_cons.mpr ⟨hts (.castable eIO eIO) (tb_at 59 (by decide +kernel)), List.forall_mem_cons.mpr ⟨hts (.castable eIA eIA) (tb_at 131 (by decide +kernel)), List.forall_mem_cons.mpr ⟨hts (.castable eIS eIS) (tb_at 213 (by decide +kernel)), List.forall_mem_cons.mpr ⟨hts (.castable eAR eAR) (tb_at 297 (by decide +kernel)), fun _ h => absurd h List.not_mem_nil⟩⟩⟩⟩
  · exact List.forall_mem_cons.mpr ⟨str_of (hts _ (tb_at 220 (by decide +kernel))) (hN 6 _ rfl), List.forall_mem_cons.mpr ⟨str_of (hts _ (tb_at 244 (by decide +kernel))) (hN 7 _ rfl), List.forall_mem_cons.mpr ⟨str_of (hts _ (tb_at 339 (by decide +kernel))) (hN 8 _ rfl), List.forall_mem_cons.mpr ⟨str_of (hts _ (tb_at 359 (by decide +kernel))) (hN 9 _ rfl), List.forall_mem_cons.mpr ⟨str_of (hts _ (tb_at 360 (by decide +kernel))) (hN 10 _ rfl), List.forall_mem_cons.mpr ⟨str_of (hts _ (tb_at 394 (by decide +kernel))) (hN 11 _ rfl), List.forall_mem_cons.mpr ⟨str_of (hts _ (tb_at 424 (by decide +kernel))) (hN 12 _ rfl), List.forall_mem_cons.mpr ⟨str_of (hts _ (tb_at 99 (by decide +kernel))) (hN 13 _ rfl), List.forall_mem_cons.mpr ⟨str_of (hts _ (tb_at 164 (by decide +kernel))) (hN 14 _ rfl), List.forall_mem_cons.mpr ⟨str_of (hts _ (tb_at 138 (by decide +kernel))) (hN 15 _ rfl), List.forall_mem_cons.mpr ⟨str_of (hts _ (tb_at 148 (by decide +kernel))) (hN 16 _ rfl), List.forall_mem_cons.mpr ⟨str_of (hts _ (tb_at 249 (by decide +kernel))) (hN 17 _ rfl), List.forall_mem_cons.mpr ⟨str_of (hts _ (tb_at 304 (by decide +kernel))) (hN 18 _ rfl), fun _ h => absurd h List.not_mem_nil⟩⟩⟩⟩⟩⟩⟩⟩⟩⟩⟩⟩⟩
  · exact ny_J.of (args := #[Value.ref b]) (hts _ (tb_at 4 (by decide +kernel))) (hN 0 _ rfl) (hN 1 _ rfl) (hts _ (tb_at 84 (by decide +kernel))) (hts _ (tb_at 86 (by decide +kernel)))
  · exact List.forall_mem_cons.mpr ⟨hts (.declares (Bundle.initS "java/lang/RuntimeException")) (tb_at 61 (by decide +kernel)), List.forall_mem_cons.mpr ⟨hts (.declares (Bundle.initS "java/lang/Exception")) (tb_at 63 (by decide +kernel)), List.forall_mem_cons.mpr ⟨hts (.declares (Bundle.initS Bundle.tN)) (tb_at 65 (by decide +kernel)), fun _ h => absurd h List.not_mem_nil⟩⟩⟩
set_option maxRecDepth 100000 in
set_option maxHeartbeats 4000000 in
theorem lw_K {p : Program} {s : State} {m : MethodId} {meth : Method} {c : Code} {b L : Nat} {xs : Nat → Int32} (C0 : lw_At p s m meth c b L xs) : ∃ (D : va_G) (cA cW cJ : ClassId), va_K D vwCl (woTy cA cW cJ) s := by
  obtain ⟨hx, hb, hr, hml, hown, hts, hX, hbl, hlocks, hgv⟩ := C0
  have ht : ∀ w ∈ nzG, w.before #[Value.ref b] s = true := fun w hw => hts w (nzG_tbl w hw)
  obtain ⟨c0, i0, k0⟩ := u_known ht in_W (ht _ kN_instW)
  obtain ⟨c1, i1, k1⟩ := u_known ht in_N (ht _ kL_inN)
  obtain ⟨c2, i2, k2⟩ := u_known ht in_M (ht _ kL_inM)
  obtain ⟨cA, kA, pA, a1, a2, a3⟩ := Cond.arrayClass_spec (ht _ k_arrI)
  obtain ⟨cJ, kJ, pJ, j1, j2, j3⟩ := Cond.arrayClass_spec (ht _ k_arrJ)
  obtain ⟨pW, cW, kW, w1, -, w2, w3, w4⟩ := Cond.arrayOver_spec (hts _ (tb_at (w := .arrayOver (.object "NineValues$Word")) 22 (by decide +kernel)))
  refine ⟨(fun j => if j = 0 then c0 else if j = 1 then c1 else c2, fun j => if j = 0 then i0 else if j = 1 then i1 else i2), cA, cW, cJ, fun j q hq => ?_, fun j q hq => ?_⟩
  · match j, hq with
    | 0, hq => cases hq; exact k0
    | 1, hq => cases hq; exact k1
    | 2, hq => cases hq; exact k2
    | j + 3, hq => simp at hq
  · match j, hq with
    | 0, hq => cases hq; exact ⟨fun n z => ⟨fun k h => (by cases h), kA, a2, pA, a3⟩, a1⟩
    | 1, hq => cases hq; exact ⟨fun n z => ⟨fun k h => (by cases h), kW, w2, pW, w3⟩, kW, pW, w2, w3, w1, w4⟩
    | 2, hq => cases hq; exact ⟨fun n z => ⟨fun k h => (by cases h), kJ, j2, pJ, j3⟩, j1⟩
    | j + 3, hq => simp at hq
end Lc
