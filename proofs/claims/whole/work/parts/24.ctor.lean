/-! ===== constructors ===== -/
section Ct
abbrev wi0 (h0 : Nat) : va_W := [(h0, .inr (ciW, [.int 0, .null]))]
abbrev wi1 (cA : ClassId) (h0 q : Nat) : va_W := [(h0, .inr (ciW, [.int 0, .ref q])), (q, .inl (cA, 64, .inl (fun _ => 0)))]
theorem nz_good {w0 : Cond} (h0 : w0 ∈ nzG) : GoodIn nzG (w0 :: nzG) := fun w hw => by
  rcases List.mem_cons.mp hw with e | e
  · rw [e]; exact ⟨h0, good_of_word (nzG_good w0 h0)⟩
  · exact ⟨e, good_of_word (nzG_good w e)⟩
theorem va_D1 {A : Nat → Prop} {a : Nat} {e : va_E} (h : A a) : va_D A [(a, e)] := by
  refine ⟨fun i j p q hi hj _ => ?_, fun k q hk => ?_⟩
  · have h1 := (List.getElem?_eq_some_iff.mp hi).1
    have h2 := (List.getElem?_eq_some_iff.mp hj).1
    simp at h1 h2
    omega
  · have h1 := (List.getElem?_eq_some_iff.mp hk).1
    have h2 : k = 0 := by simpa using h1
    subst h2
    cases hk
    exact h
set_option maxHeartbeats 4000000 in
set_option maxRecDepth 100000 in
theorem c_Word_init (l : Launch) (D : va_G) (cA cW : ClassId) (h0 sz : Nat) : Met l yWord_init (Cond.code yWord_init bWord_init 1 none :: nzG) ({ frames := 1, cells := 1, slots := 64, locals := 12 }) (va_Pc [.ref h0] (fun U => U.heap.size = sz ∧ va_P D vwCl (wi0 h0) U.heap ∧ va_K D vwCl (nvTy cA cW) U)) (va_Qv (fun _ : Unit => True) (fun _ t => ∃ q, va_P D vwCl (wi1 cA h0 q) t.heap ∧ va_D (va_A (wi0 h0) sz) (wi1 cA h0 q)) (va_A (wi0 h0) sz)) 1 64 (va_A (wi0 h0) sz) := by
  refine nz_of (own := RW) (by decide) rfl ?_
  intro p e s m args below meth c S hr hlocks hin hv9
  obtain ⟨rfl, hsz, hP, hK⟩ := hv9
  have hx := S.1
  have hb := S.2.1
  subst hsz
  have hD : va_D (va_A (wi0 h0) s.heap.size) (wi0 h0) := va_D1 (Or.inl ⟨0, _, rfl⟩)
  generalize hAe : va_A (wi0 h0) s.heap.size = A at hD ⊢
  have hA : ∀ q : Nat, s.heap.size ≤ q → A q := fun q h => by rw [← hAe]; exact Or.inr h
  have hS : va_S A s.heap s.heap [] := va_S.rf
  refine nz_entry (vs := [.ref h0]) (n := 1) (lv := [(0, .ref h0)]) (Nat.le_of_ble_eq_true rfl) rfl (fun ls hl => ?_)
  refine lv_aload_n hx hb dWord_init_0 rfl (lv_at hl 0 rfl) ?_
  refine W.objInit hx hb S.2.2.2.1 (S.2.2.2.2 _ kW_oi.1) (S.2.2.2.2 _ kW_oi.2.1) (S.2.2.2.2 _ kW_oi.2.2) rfl (by rw [S.2.2.1]; exact hl.1) rfl dWord_init_1 (Nat.le_of_ble_eq_true rfl) (Nat.le_of_ble_eq_true rfl) ?_
  refine W.eq (g2 := F0 m 4 ls []) rfl ?_
  refine lv_aload_n hx hb dWord_init_4 rfl (lv_at hl 0 rfl) ?_
  refine lv_iconst (v := 0) hx hb dWord_init_5 (by decide) ?_
  refine va_put (D := D) (ci := ciW) (v := .int 0) (ty := .int) (C := RW) (T := FW) (N := 2) hx hb S.2.2.2.2 in_W tyW tyW_ok nmW S.2.2.2.1 hK hP hD hS 0 rfl rfl 0 (by decide) (S.2.2.2.2 _ fl_W_size) (fun _ h9 => h9) rfl (by decide +kernel) rfl rfl (Nat.le_of_ble_eq_true rfl) dWord_init_6 (fun H locs hP hD hS => ?_)
  have hP : va_P D vwCl [(h0, .inr (ciW, [.int 0, .null]))] H := hP
  have hD : va_D A [(h0, .inr (ciW, [.int 0, .null]))] := hD
  refine lv_aload_n hx hb dWord_init_9 rfl (lv_at hl 0 rfl) ?_
  refine lv_bipush (v := 64) hx hb dWord_init_10 (by decide) ?_
  refine va_newa (a0 := (64, .inl (fun _ => 0))) hx hb (S.2.2.2.2 _ k_arrI) rfl hK hP hD hS hA (N' := 64) (fun _ => rfl) (by decide) (by decide) (by decide) (Nat.le_of_ble_eq_true rfl) (Nat.le_of_ble_eq_true rfl) dWord_init_12 (fun q cA' H1 hK1 hP hD hS => ?_)
  have hcc : cA' = cA := by
    have h1 := va_nm_int (hK.2 0 (cA, .int) rfl).2
    have h2 := va_nm_int (hK1.2 2 (cA', .int) rfl).2
    exact Option.some.inj (h2.symm.trans h1)
  subst hcc
  refine va_putF (D := D) (ci := ciW) (v := .ref q) (ty := .array .int) (C := RW) (T := FW) (N := 2) hx hb S.2.2.2.2 in_W tyW tyW_ok nmW S.2.2.2.1 hK hP hD hS 0 rfl rfl 1 (by decide) (S.2.2.2.2 _ fl_W_elements) (fun _ h9 => h9) rfl hin rfl (by decide +kernel) rfl rfl (Nat.le_of_ble_eq_true rfl) dWord_init_14 (fun H locs hP hD hS => ?_)
  have hP : va_P D vwCl (wi1 cA' h0 q) H := hP
  have hD : va_D A (wi1 cA' h0 q) := hD
  exact W.vret hx hb hr (fun t ht hW => ⟨⟨(), rfl, trivial, q, by rw [ht]; exact hP, hD⟩, hS.F ht⟩) hS.2.2 dWord_init_17
variable {cA cW : ClassId} {D : va_G} {p : Program} {l : Launch} {e : Env} {R : Room} {s : State} {m : MethodId} {args : Array Value} {below : List Frame} {meth : Method} {c : Code} {H : Heap} {locs : List Loc} {cells slots : Nat} {Q : State → Prop}
variable {cc : ByteArray} {nL pc : Nat} {ls : Array Slot} {rest : List Value} {w : va_W} {A : Nat → Prop}
/-- new Word() -/
theorem nm_newW (S : CallFix p m c cc nL s args nzG RN) (hNi : va_Nw (.methodLinkNest RN nmI yWord_init nmHost) s) (hK : va_K D vwCl (nvTy cA cW) s) (hP : va_P D vwCl w H) (hD : va_D A w) (hS : va_S A s.heap H locs) (hA : ∀ q, s.heap.size ≤ q → A q) (hl : ls.size = nL) (hcells : cells + 2 ≤ R.cells) (hslots : slots + 66 ≤ R.slots) (hR : 2 ≤ R.frames ∧ 32 ≤ R.locals) (hW : (rest.map fun v => v.category).sum + 1 ≤ 8) (d0 : decode cc pc = .ok (.new nmK, 3)) (d3 : decode cc (pc + 3) = .ok (.dup, 1)) (d4 : decode cc (pc + 4) = .ok (.invokespecial nmI, 3))
    (kk : ∀ (q q2 : Nat) (H1 : Heap) (locs1 : List Loc), va_P D vwCl (w ++ wi1 cA q q2) H1 → va_D A (w ++ wi1 cA q q2) → va_S A s.heap H1 locs1 → W p l e R s m args below meth c H1 locs1 (cells + 2) (slots + 66) Q (F0 m (pc + 7) ls (.ref q :: rest))) : W p l e R s m args below meth c H locs cells slots Q (F0 m pc ls rest) := by
  refine va_new (ci := ciW) (fs := [.int 0, .null]) (C := RW) (T := FW) (N := 2) S.1 S.2.1 S.2.2.2.2 in_W tyW tyW_ok S.2.2.2.1 (S.2.2.2.2 _ kN_clW) (S.2.2.2.2 _ kN_instW) (S.2.2.2.2 _ kN_iniW) hK hP hD hS hA rfl (fun j hj => by rcases (show j = 0 ∨ j = 1 by omega) with rfl | rfl <;> rfl) (by omega) (by omega) d0 (fun q H1 hP hD hS => ?_)
  refine lv_dup S.1 S.2.1 d3 rfl ?_
  have hPs := nw_Psw hP
  have hDs := nw_Dsw hD
  have hF := nw_free hDs hS hA
  refine va_callv (va_runIN (As := []) (rest := .ref q :: rest) S (c_Word_init l D cA cW q H1.size) ⟨va_cnB 0 S.2.2.2.2 (nz_good kN_cdW) rfl rfl rfl hNi (S.2.2.2.2 _ kN_iniW) ⟨by decide, by decide, by decide +kernel⟩ ⟨hR.1, hR.2⟩, rfl, S.2.2.2.2 _ kN_imW⟩ ⟨fun a U g mk q => ⟨q.1, q.2.1, q.2.2.1, va_K.moved (u := U) (U := U.calling g mk a) (Vm.Alike.refl U.vm) q.2.2.2⟩, fun U hU hW => ⟨rfl, by rw [hU], by rw [hU]; exact nw_P1 hPs, va_K.moved hW.alike hK⟩⟩ rfl rfl hl rfl (lv_room (by
    show 1 + (rest.map fun v => v.category).sum ≤ 8
    omega)) d4 ⟨by omega, by omega⟩) hS (fun z _ h => hF z h) hF (fun u t H2 locs2 ht hvm hw hB hz hk hS => ?_)
  obtain ⟨q2, hP1, hD1⟩ := hB
  rw [ht] at hP1
  obtain ⟨hP2, hD2⟩ := nw_join hPs hDs hk hF hP1 hD1
  exact kk q q2 H2 locs2 (nw_Psw hP2) (nw_Dsw hD2) hS
/-- the cells in the order of their making, i places filled -/
def cE (cA cW : ClassId) (i : Nat) (T : Nat → Nat) (k : Nat) : va_E :=
  if k = 0 then .inr (ciN, [.ref (T 1), .ref (T 2)]) else if k = 1 then .inl (cW, 16, .inr (.inr (.inr (.inr (fun j => if j < i then some (T (4 + 2 * j)) else none)))))
  else if k % 2 = 0 then .inr (ciW, [.int 0, .ref (T (k + 1))]) else .inl (cA, 64, .inl (fun _ => 0))
theorem bw_app {N : Nat} {T : Nat → Nat} {E : Nat → va_E} : bw (N + 2) T E = bw N T E ++ [(T N, E N), (T (N + 1), E (N + 1))] := by
  unfold bw
  rw [List.range_succ, List.range_succ]
  simp
theorem bw_congr2 {N : Nat} {T T' : Nat → Nat} {E E' : Nat → va_E} (h : ∀ k, k < N → T k = T' k) (h2 : ∀ k, k < N → E k = E' k) : bw N T E = bw N T' E' := by
  apply List.ext_getElem?
  intro j
  by_cases hN : j < N
  · rw [bw_get hN, bw_get hN, h j hN, h2 j hN]
  · rw [bw_out hN, bw_out hN]
/-- one more word is made: its cells come to the end -/
def cT (T : Nat → Nat) (N q q2 : Nat) : Nat → Nat := fun k => if k = N then q else if k = N + 1 then q2 else T k
theorem cE_more (i : Nat) (hi : i < 16) (T : Nat → Nat) (q q2 : Nat) : bw (4 + 2 * i) T (cE cA cW i T) ++ wi1 cA q q2 = bw (4 + 2 * i + 2) (cT T (4 + 2 * i) q q2) (cE cA cW i (cT T (4 + 2 * i) q q2)) := by
  have ht : ∀ k, k < 4 + 2 * i → cT T (4 + 2 * i) q q2 k = T k := fun k hk => by unfold cT; rw [if_neg (by omega), if_neg (by omega)]
  have h1 : cT T (4 + 2 * i) q q2 (4 + 2 * i) = q := if_pos rfl
  have h2 : cT T (4 + 2 * i) q q2 (4 + 2 * i + 1) = q2 := by unfold cT; rw [if_neg (by omega), if_pos rfl]
  rw [bw_app, h1, h2]
  have hb : bw (4 + 2 * i) T (cE cA cW i T) = bw (4 + 2 * i) (cT T (4 + 2 * i) q q2) (cE cA cW i (cT T (4 + 2 * i) q q2)) := by
    refine bw_congr2 (fun k hk => (ht k hk).symm) (fun k hk => ?_)
    unfold cE
    by_cases k0 : k = 0
    · rw [if_pos k0, if_pos k0, ht 1 (by omega), ht 2 (by omega)]
    · by_cases k1 : k = 1
      · rw [if_neg k0, if_neg k0, if_pos k1, if_pos k1]
        have hf : (fun j => if j < i then some (T (4 + 2 * j)) else none) = fun j => if j < i then some (cT T (4 + 2 * i) q q2 (4 + 2 * j)) else none := by
          funext j
          by_cases hj : j < i
          · rw [if_pos hj, if_pos hj, ht _ (by omega)]
          · rw [if_neg hj, if_neg hj]
        rw [hf]
      · rw [if_neg k0, if_neg k0, if_neg k1, if_neg k1]
        by_cases ke : k % 2 = 0
        · rw [if_pos ke, if_pos ke, ht (k + 1) (by omega)]
        · rw [if_neg ke, if_neg ke]
  rw [← hb]
  have e1 : cE cA cW i (cT T (4 + 2 * i) q q2) (4 + 2 * i) = .inr (ciW, [.int 0, .ref q2]) := by
    unfold cE
    rw [if_neg (by omega), if_neg (by omega), if_pos (by omega), h2]
  have e2 : cE cA cW i (cT T (4 + 2 * i) q q2) (4 + 2 * i + 1) = .inl (cA, 64, .inl (fun _ => 0)) := by
    unfold cE
    rw [if_neg (by omega), if_neg (by omega), if_neg (by omega)]
  rw [e1, e2]
theorem cE_put (i : Nat) (hi : i < 16) (T : Nat → Nat) (N : Nat) (hN : 1 < N) : (bw N T (cE cA cW i T)).set 1 (T 1, .inl (cW, 16, .inr (.inr (.inr (.inr (va_up (fun j => if j < i then some (T (4 + 2 * j)) else none) i (some (T (4 + 2 * i))))))))) = bw N T (cE cA cW (i + 1) T) := by
  rw [bw_set hN]
  refine bw_congr fun k hk => ?_
  by_cases k1 : k = 1
  · subst k1
    rw [va_up_self]
    unfold cE
    rw [if_neg (by decide), if_pos rfl]
    congr 7
    funext j
    unfold va_up
    by_cases hj : j = i
    · subst hj
      rw [if_pos rfl, if_pos (by omega)]
    · rw [if_neg hj]
      show (if j < i then some (T (4 + 2 * j)) else none) = _
      by_cases hl : j < i
      · rw [if_pos hl, if_pos (by omega)]
      · rw [if_neg hl, if_neg (by omega)]
  · rw [va_up_ne _ _ k1]
    unfold cE
    by_cases k0 : k = 0
    · rw [if_pos k0, if_pos k0]
    · rw [if_neg k0, if_neg k0, if_neg k1, if_neg k1]
end Ct
section Cn
theorem nz_eqr {p : Program} {l : Launch} {e : Env} {R : Room} {s : State} {m : MethodId} {args : Array Value} {below : List Frame} {meth : Method} {c : Code} {H : Heap} {locs : List Loc} {cells slots pc : Nat} {Q : State → Prop} {ls : Array Slot} {rest : List Value} {x y : Nat} (h : x = y) (k : W p l e R s m args below meth c H locs cells slots Q (F0 m pc ls (.ref y :: rest))) : W p l e R s m args below meth c H locs cells slots Q (F0 m pc ls (.ref x :: rest)) := h ▸ k
theorem arrV_same {cI : ClassId} {N : Nat} {f g : Nat → Value} (h : ∀ j, j < N → f j = g j) : arrV cI N f = arrV cI N g := by
  unfold arrV
  congr 2
  funext j
  exact h j.1 j.2
variable {cA cW : ClassId} {D : va_G}
def cS (k : Nat) : Nat := if k < 2 then k else if k < 18 then 4 + 2 * (k - 2) else if k = 18 then 2 else if k < 35 then 5 + 2 * (k - 19) else 3
theorem cS_inj : ∀ i, i < 36 → ∀ j, j < 36 → cS i = cS j → i = j := by decide +kernel
theorem cS_lt : ∀ i, i < 36 → cS i < 36 := by decide +kernel
theorem cE_at {T : Nat → Nat} {H : Heap} {k : Nat} (hk : k < 36) (h : va_at D vwCl (T (cS k), cE cA cW 16 T (cS k)) H) : va_at D vwCl (T (cS k), nvE cA cW (fun k => T (cS k)) (fun _ => 0) (fun _ _ => 0) k) H := by
  by_cases k0 : k = 0
  · subst k0; exact h
  · by_cases k1 : k = 1
    · subst k1
      have e1 : cE cA cW 16 T (cS 1) = .inl (cW, 16, .inr (.inr (.inr (.inr (fun j => if j < 16 then some (T (4 + 2 * j)) else none))))) := rfl
      rw [e1] at h
      have e2 : nvE cA cW (fun k => T (cS k)) (fun _ => 0) (fun _ _ => 0) 1 = .inl (cW, 16, .inr (.inr (.inr (.inr (fun j => some (T (cS (2 + j)))))))) := rfl
      rw [e2]
      have h9 : H[T (cS 1)]? = some (vp_cell cW (16, .inr (.inr (.inr (.inr (fun j => if j < 16 then some (T (4 + 2 * j)) else none)))))) := h
      show H[T (cS 1)]? = some (vp_cell cW (16, .inr (.inr (.inr (.inr (fun j => some (T (cS (2 + j))))))))) 
      rw [h9, vp_cell_q, vp_cell_q]
      refine congrArg some (arrV_same fun j hj => ?_)
      rw [if_pos hj, show cS (2 + j) = 4 + 2 * j by unfold cS; rw [if_neg (by omega), if_pos (by omega)]; omega]
    · by_cases k2 : k < 18
      · have e0 : cS k = 4 + 2 * (k - 2) := by unfold cS; rw [if_neg (by omega), if_pos k2]
        have e3 : cS (k + 17) = 4 + 2 * (k - 2) + 1 := by unfold cS; rw [if_neg (by omega), if_neg (by omega), if_neg (by omega), if_pos (by omega)]; omega
        have e1 : cE cA cW 16 T (cS k) = .inr (ciW, [.int 0, .ref (T (4 + 2 * (k - 2) + 1))]) := by unfold cE; rw [e0, if_neg (by omega), if_neg (by omega), if_pos (by omega)]
        have e2 : nvE cA cW (fun k => T (cS k)) (fun _ => 0) (fun _ _ => 0) k = .inr (ciW, [.int 0, .ref (T (cS (k + 17)))]) := by unfold nvE; rw [if_neg k0, if_neg k1, if_pos (by omega)]; rfl
        rw [e1] at h
        rw [e2, e3]
        exact h
      · by_cases k3 : k = 18
        · subst k3; exact h
        · have e1 : cE cA cW 16 T (cS k) = .inl (cA, 64, .inl (fun _ => 0)) := by
            by_cases k4 : k < 35
            · have e0 : cS k = 5 + 2 * (k - 19) := by unfold cS; rw [if_neg (by omega), if_neg k2, if_neg k3, if_pos k4]
              unfold cE
              rw [e0, if_neg (by omega), if_neg (by omega), if_neg (by omega)]
            · have e0 : cS k = 3 := by unfold cS; rw [if_neg (by omega), if_neg k2, if_neg k3, if_neg k4]
              rw [e0]
              rfl
          have e2 : nvE cA cW (fun k => T (cS k)) (fun _ => 0) (fun _ _ => 0) k = .inl (cA, 64, .inl (fun _ => 0)) := by unfold nvE; rw [if_neg k0, if_neg k1, if_neg (by omega)]; rfl
          rw [e1] at h
          rw [e2]
          exact h
abbrev ni0 (h0 : Nat) : va_W := [(h0, .inr (ciN, [.null, .null]))]
def niQ (D : va_G) (cA cW : ClassId) (h0 sz : Nat) : Array Value → State → Outcome → State → Prop :=
  va_Qv (fun _ : Unit => True) (fun _ t => ∃ T : Nat → Nat, T 0 = h0 ∧ nvT T ∧ (∀ k, k < 36 → va_A (ni0 h0) sz (T k)) ∧ va_P D vwCl (nvW cA cW T (fun _ => 0) (fun _ _ => 0)) t.heap) (va_A (ni0 h0) sz)
set_option maxHeartbeats 4000000 in
set_option maxRecDepth 100000 in
theorem lpN_init {p : Program} {e : Env} {s : State} {m : MethodId} {args : Array Value} {below : List Frame} {meth : Method} {c : Code} (l : Launch) (h0 : Nat) (S : CallFix p m c bN_init 2 s args nzG RN) (hr : meth.sig.returnType = none) (hlocks : meth.locks = false) (hNi : va_Nw (.methodLinkNest RN nmI yWord_init nmHost) s) (hK : va_K D vwCl (nvTy cA cW) s) (hA : ∀ q : Nat, s.heap.size ≤ q → va_A (ni0 h0) s.heap.size q) :
    ∀ (fuel i : Nat), i ≤ 16 → 16 < i + fuel → ∀ (T : Nat → Nat) (H : Heap) (locs : List Loc), T 0 = h0 → va_P D vwCl (bw (4 + 2 * i) T (cE cA cW i T)) H → va_D (va_A (ni0 h0) s.heap.size) (bw (4 + 2 * i) T (cE cA cW i T)) → va_S (va_A (ni0 h0) s.heap.size) s.heap H locs → ∀ ls : Array Slot, lv_has ls 2 [(0, .ref h0), (1, .int (nI i))] →
      W p l e ({ frames := 2, cells := 35, slots := 1138, locals := 32 }) s m args below meth c H locs (3 + 2 * i) (82 + 66 * i) (MQ below (niQ D cA cW h0 s.heap.size) args s 35 1138 (va_A (ni0 h0) s.heap.size)) (F0 m 26 ls []) := by
  have hx := S.1
  have hb := S.2.1
  intro fuel
  induction fuel with
  | zero =>
    intro i hi hfu
    exact absurd hfu (by omega)
  | succ fuel ih =>
    intro i hi hfu T H locs hT0 hP hD hS ls hl
    refine lv_iload_n hx hb dN_init_26 rfl (lv_at hl 1 rfl) ?_
    refine lv_bipush (v := 16) hx hb dN_init_27 (by decide) ?_
    refine lv_icmp_ge (tgt := 51) hx hb dN_init_29 (by decide) (fun c1 => ?_) (fun c1 => ?_)
    · have hi16 : 16 ≤ i := (nI_leI (a := 16) (by decide) (by omega)).mp c1
      obtain rfl : i = 16 := by omega
      refine W.widen (k := 35) (n := 1138) (by omega) (by omega) ?_
      refine W.vret hx hb hr (fun t ht hW => ⟨⟨(), rfl, trivial, fun k => T (cS k), hT0, fun i j h1 h2 h3 => ?_, fun k hk => ?_, fun k q hk => ?_⟩, hS.F ht⟩) hS.2.2 dN_init_51
      · exact cS_inj i h1 j h2 (hD.1 _ _ _ _ (bw_get (cS_lt i h1)) (bw_get (cS_lt j h2)) h3)
      · exact hD.2 _ _ (bw_get (cS_lt k hk))
      · obtain ⟨h1, rfl⟩ := bw_of hk
        rw [ht]
        exact cE_at h1 (hP _ _ (bw_get (cS_lt k h1)))
    · have hlt : i < 16 := Nat.lt_of_not_le (fun h => c1 ((nI_leI (a := 16) (by decide) (by omega)).mpr h))
      refine lv_aload_n hx hb dN_init_32 rfl (lv_at hl 0 rfl) ?_
      refine nz_eqr hT0.symm ?_
      refine va_get (D := D) (ci := ciN) (v := .ref (T 1)) (C := RN) (T := FN) (N := 2) S.1 S.2.1 S.2.2.2.2 in_N S.2.2.2.1 hK hP 0 (bw_get (by omega)) rfl 0 (by decide) (S.2.2.2.2 _ fl_N_places) (fun _ h9 => h9) rfl dN_init_33 ?_
      refine lv_iload_n hx hb dN_init_36 rfl (lv_at hl 1 rfl) ?_
      refine nm_newW (rest := [.int (nI i), .ref (T 1)]) S hNi hK hP hD hS hA hl.1 (by show 3 + 2 * i + 2 ≤ 35; omega) (by show 82 + 66 * i + 66 ≤ 1138; omega) ⟨Nat.le_of_ble_eq_true rfl, Nat.le_of_ble_eq_true rfl⟩ (Nat.le_of_ble_eq_true rfl) dN_init_37 dN_init_40 dN_init_41 (fun q q2 H locs hP hD hS => ?_)
      rw [cE_more i hlt] at hP hD
      have hT1 : cT T (4 + 2 * i) q q2 1 = T 1 := by unfold cT; rw [if_neg (by omega), if_neg (by omega)]
      have hT00 : cT T (4 + 2 * i) q q2 0 = h0 := by unfold cT; rw [if_neg (by omega), if_neg (by omega)]; exact hT0
      have hTq : cT T (4 + 2 * i) q q2 (4 + 2 * i) = q := if_pos rfl
      generalize cT T (4 + 2 * i) q q2 = T1 at hP hD hT1 hT00 hTq
      rw [← hT1, ← hTq]
      refine va_astq hx hb hK hP hD hS 1 1 (4 + 2 * i) ciW (bw_get (by omega)) rfl (vs := [.int 0, .ref (T1 (4 + 2 * i + 1))]) ?_ rfl (vp_in_nI hlt (by omega)) dN_init_44 (fun H locs hP hD hS => ?_)
      · rw [bw_get (by omega)]
        unfold cE
        rw [if_neg (by omega), if_neg (by omega), if_pos (by omega)]
      · rw [nI_clamp (by omega), cE_put i hlt T1 _ (by omega)] at hP hD
        refine lv_iinc (v := nI (i + 1)) (lv' := [(1, .int (nI (i + 1))), (0, .ref h0)]) hx hb dN_init_45 hl (k := 1) rfl (nI_1 i) (by decide) rfl (fun ls hl => ?_)
        refine lv_goto (tgt := 26) hx hb dN_init_48 (by decide) ?_
        have e9 : 4 + 2 * (i + 1) = 4 + 2 * i + 2 := by omega
        rw [show 3 + 2 * i + 2 = 3 + 2 * (i + 1) by omega, show 82 + 66 * i + 66 = 82 + 66 * (i + 1) by omega]
        refine ih (i + 1) (by omega) (by omega) T1 H locs hT00 (by rw [e9]; exact hP) (by rw [e9]; exact hD) hS ls (lv_sub hl [1, 0] rfl)
set_option maxHeartbeats 4000000 in
set_option maxRecDepth 100000 in
theorem c_N_init (l : Launch) (D : va_G) (cA cW : ClassId) (h0 sz : Nat) : Met l yN_init (Cond.code yN_init bN_init 2 none :: nzG) ({ frames := 2, cells := 35, slots := 1138, locals := 32 }) (va_Pc [.ref h0] (fun U => U.heap.size = sz ∧ va_P D vwCl (ni0 h0) U.heap ∧ va_K D vwCl (nvTy cA cW) U ∧ va_Nw (.methodLinkNest RN nmI yWord_init nmHost) U ∧ va_AO RW U)) (niQ D cA cW h0 sz) 35 1138 (va_A (ni0 h0) sz) := by
  refine nz_of (own := RN) (by decide) rfl ?_
  intro p e s m args below meth c S hr hlocks hin hv9
  obtain ⟨rfl, hsz, hP, hK, hNi, hAO⟩ := hv9
  have hx := S.1
  have hb := S.2.1
  subst hsz
  have hD : va_D (va_A (ni0 h0) s.heap.size) (ni0 h0) := va_D1 (Or.inl ⟨0, _, rfl⟩)
  have hA : ∀ q : Nat, s.heap.size ≤ q → va_A (ni0 h0) s.heap.size q := fun q h => Or.inr h
  have hS : va_S (va_A (ni0 h0) s.heap.size) s.heap s.heap [] := va_S.rf
  refine nz_entry (vs := [.ref h0]) (n := 2) (lv := [(0, .ref h0)]) (Nat.le_of_ble_eq_true rfl) rfl (fun ls hl => ?_)
  refine lv_aload_n hx hb dN_init_0 rfl (lv_at hl 0 rfl) ?_
  refine W.objInit hx hb S.2.2.2.1 (S.2.2.2.2 _ kN_oi.1) (S.2.2.2.2 _ kN_oi.2.1) (S.2.2.2.2 _ kN_oi.2.2) rfl (by rw [S.2.2.1]; exact hl.1) rfl dN_init_1 (Nat.le_of_ble_eq_true rfl) (Nat.le_of_ble_eq_true rfl) ?_
  refine W.eq (g2 := F0 m 4 ls []) rfl ?_
  refine lv_aload_n hx hb dN_init_4 rfl (lv_at hl 0 rfl) ?_
  refine lv_bipush (v := 16) hx hb dN_init_5 (by decide) ?_
  refine va_newq (N' := 16) hx hb S.2.2.2.1 (S.2.2.2.2 _ kN_clW) hAO hK hP hD hS hA (by decide) (by decide) (by decide) (Nat.le_of_ble_eq_true rfl) (Nat.le_of_ble_eq_true rfl) dN_init_7 (fun q1 cW' H hK1 hP hD hS => ?_)
  have hcc : cW' = cW := by
    have h1 := va_nmO (nm := "[LNineValues$Word;") (hK.2 1 (cW, .object "NineValues$Word") rfl).2 rfl
    have h2 := va_nmO (nm := "[LNineValues$Word;") (hK1.2 2 (cW', .object "NineValues$Word") rfl).2 rfl
    exact Option.some.inj (h2.symm.trans h1)
  subst hcc
  refine va_putF (D := D) (ci := ciN) (v := .ref q1) (ty := .array (.object "NineValues$Word")) (C := RN) (T := FN) (N := 2) hx hb S.2.2.2.2 in_N tyN tyN_ok nmN S.2.2.2.1 hK hP hD hS 0 rfl rfl 0 (by decide) (S.2.2.2.2 _ fl_N_places) (fun _ h9 => h9) rfl hin rfl (by decide +kernel) rfl rfl (Nat.le_of_ble_eq_true rfl) dN_init_10 (fun H locs hP hD hS => ?_)
  refine lv_aload_n hx hb dN_init_13 rfl (lv_at hl 0 rfl) ?_
  refine nm_newW (rest := [.ref h0]) S hNi hK hP hD hS hA hl.1 (Nat.le_of_ble_eq_true rfl) (Nat.le_of_ble_eq_true rfl) ⟨Nat.le_of_ble_eq_true rfl, Nat.le_of_ble_eq_true rfl⟩ (Nat.le_of_ble_eq_true rfl) dN_init_14 dN_init_17 dN_init_18 (fun q q2 H locs hP hD hS => ?_)
  refine va_putF (D := D) (ci := ciN) (v := .ref q) (ty := .object "NineValues$Word") (C := RN) (T := FN) (N := 2) hx hb S.2.2.2.2 in_N tyN tyN_ok nmN S.2.2.2.1 hK hP hD hS 0 rfl rfl 1 (by decide) (S.2.2.2.2 _ fl_N_answer) (fun _ h9 => h9) rfl hin rfl (by decide +kernel) rfl rfl (Nat.le_of_ble_eq_true rfl) dN_init_21 (fun H locs hP hD hS => ?_)
  refine lv_iconst (v := 0) hx hb dN_init_24 (by decide) ?_
  refine lv_istore_n (lv' := [(1, .int 0), (0, .ref h0)]) hx hb dN_init_25 rfl hl (by decide) rfl (fun ls hl => ?_)
  refine lpN_init l h0 S hr hlocks hNi hK hA 17 0 (by omega) (by omega) (fun k => if k = 0 then h0 else if k = 1 then q1 else if k = 2 then q else q2) H locs rfl hP hD hS ls (lv_sub hl [1, 0] rfl)
end Cn
