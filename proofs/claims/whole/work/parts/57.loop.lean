/-! THE CLAIM OUT OF ONE WALK OF THE LAW'S BODY. Your part is whole_start (and what it stands on); all else here is the same for every law, but numbers. -/
def R_law : String := "NineValuesLaw"
def lw_P (b : Addr) (xs : List Int32) (args : Array Value) (s : State) : Prop := args = #[.ref b] ∧ s.IntsAt b xs ∧ xs.length ≤ 3072 ∧ (Jvm.Cond.and given_1 narrow_1).before args s = true
def lw_Q (_ : Array Value) (s : State) (o : Outcome) (t : State) : Prop := o = .returned (some (.int 1)) ∧ Framed s o t [] 601024 7293034
def lw_Z (below : List Frame) (a : Array Value) (s : State) : State → Prop := fun t => ∃ o, t.status = .running ∧ Ended t below o ∧ lw_Q a s o t
/-- the law's own end, with 1 on the stack, nothing written that was there before, its room as the claim has it -/
theorem lw_ret {p : Program} {l : Launch} {e : Env} {s : State} {m : MethodId} {below : List Frame} {meth : Method} {c : Code} {b : Nat} (hx : p.tables.exec = Jvm.exec) (hb : c.code = code) (hr : meth.sig.returnType = ret) (hlocks : meth.locks = false) {pc : Nat} {H : Heap} {ls : Array Slot} (hdg : decode code pc = .ok (.ireturn, 1)) : W p l e room_1 s m #[Value.ref b] below meth c H [] 601024 7293034 (lw_Z below #[Value.ref b] s) (F0 m pc ls [.int 1]) := by
  intro T hT X
  obtain ⟨fs, hret, hrun, hended, hW, hframe⟩ := X.leave (v := some (.int 1)) (hlocks := hlocks) (fun h => by rw [hr] at h; cases h)
  have hmeth' : T.vm.method? m = some meth := X.method'
  refine ⟨T.setFrames fs, ?_, .returned (some (.int 1)), hrun, hended, rfl, ⟨_, rfl⟩, hW, hframe⟩
  jvm_step X.here [X.here.top, hx, hb, hdg, hmeth', hr, ret, narrow_b1]
  (try refine ⟨rfl, ?_⟩); (try refine ⟨rfl, ?_⟩)
  first | (intro acts; rw [hret _ acts rfl rfl rfl]) | rw [hret _ _ rfl rfl rfl]
  exact Steps.refl _
/-- what holds at the law's entry: the machine, the code, the tables' words (any of lw_tbl by 'hts w (by decide +kernel)'), the script of L ints xs at the cell b, what the Statement gives of the start (any of its parts by flat_of_before) -/
def lw_At (p : Program) (s : State) (m : MethodId) (meth : Method) (c : Code) (b L : Nat) (xs : Nat → Int32) : Prop :=
  p.tables.exec = Jvm.exec ∧ c.code = code ∧ meth.sig.returnType = ret ∧ c.maxLocals = 8 ∧ s.vm.findClass R_law = some m.cls ∧ (∀ w ∈ lw_tbl, w.before #[Value.ref b] s = true) ∧ va_X b L xs s s.heap ∧ b < s.heap.size ∧ meth.locks = false ∧ (Jvm.Cond.and given_1 narrow_1).before #[Value.ref b] s = true

/-! ===== the law's loop ===== -/
section Lp
theorem and15 (x : Int32) : ∃ w, w < 16 ∧ x &&& 15 = nI w := by
  refine ⟨(x &&& 15).toBitVec.toNat, ?_, Int32.toBitVec_inj.mp (by show _ = BitVec.ofNat 32 _; simp)⟩
  rw [Int32.toBitVec_and, BitVec.toNat_and]
  exact Nat.and_lt_two_pow (n := 4) _ (by decide)
theorem sub6 {LL : Nat} (h : LL ≤ 3072) : (nI LL - 6).toInt = (LL : Int) - 6 := by
  have e0 : (nI LL).toInt = LL := nI_toInt (by omega)
  have e6 : (6 : Int32).toInt = 6 := by decide
  rw [isub_toInt (by rw [e0, e6]; omega) (by rw [e0, e6]; omega), e0, e6]
set_option maxHeartbeats 4000000 in
set_option maxRecDepth 100000 in
theorem law_loop {p : Program} {e : Env} {s : State} {m : MethodId} {below : List Frame} {meth : Method} {c : Code} {D : va_G} {cA cW cJ : ClassId} {T Tm : Nat → Nat} {bo b9 LL : Nat} {xs : Nat → Int32} (l : Launch) (hfl : l.flags = pinnedFlags ++ [noTraceFlag]) (X : lwX D cA cW cJ T Tm bo s) (S : CallFix p m c bL_law 8 s #[Value.ref b9] nzG RL) (hr : meth.sig.returnType = ret) (hlocks : meth.locks = false) (hXs : va_X b9 LL xs s s.heap) (hbl : b9 < s.heap.size) (hLL : LL ≤ 3072) :
    ∀ (fuel t : Nat), 6 * t ≤ LL → LL < 6 * (t + fuel) → ∀ (H : Heap) (locs : List Loc) (ls : Array Slot), lwG D cA cW cJ T Tm bo s H locs → lv_has ls 8 (lwL b9 T Tm bo (6 * t)) → W p l e room_1 s m #[Value.ref b9] below meth c H locs (41 + t) (2314 + 6 * t) (lw_Z below #[Value.ref b9] s) (F0 m 23 ls []) := by
  have hx := S.1
  have hb := S.2.1
  intro fuel
  induction fuel with
  | zero =>
    intro t h1 h2
    exact absurd h2 (by omega)
  | succ fuel ih =>
    intro t h1 h2 H locs ls hG hl
    have hS : va_S (lwA s) s.heap H locs := by
      obtain ⟨n, g, C, L, O, c0, k, f, ok, okm, hRel, hH, hS⟩ := hG
      exact hS
    have hbA : ¬ lwA s b9 := fun h => by have h1 : s.heap.size ≤ b9 := h; omega
    refine lv_iload hx hb dL_law_23 (lv_at hl 4 rfl) ?_
    refine lv_aload_n hx hb dL_law_25 rfl (lv_at hl 0 rfl) ?_
    refine va_slen hx hb hXs hbl hbA hS dL_law_26 ?_
    refine lv_bipush (v := 6) hx hb dL_law_27 (by decide) ?_
    refine lv_isub hx hb dL_law_29 ?_
    refine lv_icmp_gt (tgt := 1280) hx hb dL_law_30 (by decide) (fun c1 => ?_) (fun c1 => ?_)
    · refine va_forget hS.2.2 ?_
      refine W.widen (k := 601024) (n := 7293034) (by omega) (by omega) ?_
      refine lv_iconst (v := 1) hx hb dL_law_1280 (by decide) ?_
      exact lw_ret hx hb hr hlocks dL_law_1281
    · have hi : 6 * t + 6 ≤ LL := by
        have e1 : (nI LL - 6).toInt = (LL : Int) - 6 := sub6 hLL
        have e2 : (nI (6 * t)).toInt = (6 * t : Nat) := nI_toInt (by omega)
        have c2 : ¬ (nI LL - 6 < nI (6 * t)) := c1
        rw [Int32.lt_iff_toInt_lt, e1, e2] at c2
        omega
      have kk : ∀ (H : Heap) (locs : List Loc) (ls : Array Slot), lwG D cA cW cJ T Tm bo s H locs → lv_has ls 8 (lwL b9 T Tm bo (6 * t)) → W p l e room_1 s m #[Value.ref b9] below meth c H locs (41 + t + 1) (2314 + 6 * t + 6) (lw_Z below #[Value.ref b9] s) (F0 m 1274 ls []) := by
        intro H locs ls hG hl
        refine lv_iinc (v := nI (6 * (t + 1))) (lv' := [(4, .int (nI (6 * (t + 1)))), (0, .ref b9), (1, .ref (T 0)), (2, .ref (Tm 0)), (3, .ref bo)]) hx hb dL_law_1274 hl (k := 4) rfl (nI_add (6 * t) 6) (by decide) rfl (fun ls hl => ?_)
        refine lv_goto (tgt := 23) hx hb dL_law_1277 (by decide) ?_
        exact ih (t + 1) (by omega) (by omega) H locs ls hG (lv_sub hl [1, 2, 3, 4, 0] rfl)
      refine lv_aload_n hx hb dL_law_33 rfl (lv_at hl 0 rfl) ?_
      refine lv_iload hx hb dL_law_34 (lv_at hl 4 rfl) ?_
      refine va_sld hx hb hXs hbl hbA hS (vp_in_nI (show 6 * t < LL by omega) (by omega)) dL_law_36 ?_
      refine lv_bipush (v := 15) hx hb dL_law_37 (by decide) ?_
      refine lv_iand hx hb dL_law_39 ?_
      obtain ⟨w, hw, e⟩ := and15 (xs (nI (6 * t)).toNatClampNeg)
      refine nz_eqi e ?_
      have hc : 41 + t + 1 ≤ 601024 ∧ 2314 + 6 * t + 6 ≤ 7293034 := ⟨by omega, by omega⟩
      match w, hw with
      | 0, _ =>
        refine lv_tableIn (tgt := 116) hx hb dL_law_40 (by decide) (by decide) rfl (by decide) ?_
        exact law_fill l hfl X S hXs hbl hLL (6 * t) hi hG hc hl kk
      | 1, _ =>
        refine lv_tableIn (tgt := 176) hx hb dL_law_40 (by decide) (by decide) rfl (by decide) ?_
        exact law_put l hfl X S hXs hbl hLL (6 * t) hi hG hc hl kk
      | 2, _ =>
        refine lv_tableIn (tgt := 236) hx hb dL_law_40 (by decide) (by decide) rfl (by decide) ?_
        exact law_get l hfl X S hXs hbl hLL (6 * t) hi hG hc hl kk
      | 3, _ =>
        refine lv_tableIn (tgt := 304) hx hb dL_law_40 (by decide) (by decide) rfl (by decide) ?_
        exact law_length l hfl X S hXs hbl hLL (6 * t) hi hG hc hl kk
      | 4, _ =>
        refine lv_tableIn (tgt := 360) hx hb dL_law_40 (by decide) (by decide) rfl (by decide) ?_
        exact law_number l hfl X S hXs hbl hLL (6 * t) hi hG hc hl kk
      | 5, _ =>
        refine lv_tableIn (tgt := 452) hx hb dL_law_40 (by decide) (by decide) rfl (by decide) ?_
        exact law_numberOf l hfl X S hXs hbl hLL (6 * t) hi hG hc hl kk
      | 6, _ =>
        refine lv_tableIn (tgt := 535) hx hb dL_law_40 (by decide) (by decide) rfl (by decide) ?_
        exact law_operate l hfl X S hXs hbl hLL (6 * t) hi hG hc hl kk
      | 7, _ =>
        refine lv_tableIn (tgt := 635) hx hb dL_law_40 (by decide) (by decide) rfl (by decide) ?_
        exact law_change l hfl X S hXs hbl hLL (6 * t) hi hG hc hl kk
      | 8, _ =>
        refine lv_tableIn (tgt := 695) hx hb dL_law_40 (by decide) (by decide) rfl (by decide) ?_
        exact law_shift l hfl X S hXs hbl hLL (6 * t) hi hG hc hl kk
      | 9, _ =>
        refine lv_tableIn (tgt := 779) hx hb dL_law_40 (by decide) (by decide) rfl (by decide) ?_
        exact law_bring l hfl X S hXs hbl hLL (6 * t) hi hG hc hl kk
      | 10, _ =>
        refine lv_tableIn (tgt := 867) hx hb dL_law_40 (by decide) (by decide) rfl (by decide) ?_
        exact law_cut l hfl X S hXs hbl hLL (6 * t) hi hG hc hl kk
      | 11, _ =>
        refine lv_tableIn (tgt := 939) hx hb dL_law_40 (by decide) (by decide) rfl (by decide) ?_
        exact law_compare l hfl X S hXs hbl hLL (6 * t) hi hG hc hl kk
      | 12, _ =>
        refine lv_tableIn (tgt := 1035) hx hb dL_law_40 (by decide) (by decide) rfl (by decide) ?_
        exact law_same l hfl X S hXs hbl hLL (6 * t) hi hG hc hl kk
      | 13, _ =>
        refine lv_tableIn (tgt := 1138) hx hb dL_law_40 (by decide) (by decide) rfl (by decide) ?_
        exact law_all l hfl X S hXs hbl hLL (6 * t) hi hG hc hl kk
      | 14, _ =>
        refine lv_tableIn (tgt := 1206) hx hb dL_law_40 (by decide) (by decide) rfl (by decide) ?_
        exact law_edge l hfl X S hXs hbl hLL (6 * t) hi hG hc hl kk
      | 15, _ =>
        refine lv_tableOut (tgt := 1274) hx hb dL_law_40 (Or.inr (by decide)) (by decide) ?_
        refine W.widen (k := 41 + t + 1) (n := 2314 + 6 * t + 6) (by omega) (by omega) ?_
        exact kk H locs ls hG hl
      | w + 16, hw => exact absurd hw (by omega)
end Lp
