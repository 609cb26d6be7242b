/-! ===== the reference: its world (object, cells, lengths, out), the rows of its instructions ===== -/
section Mo
abbrev moW (cA : ClassId) (T : Nat → Nat) (k : Int32) (C L O : Nat → Nat) (c0 : Nat) : va_W := [(T 0, .inr (ciM, [.int k, .ref (T 1), .ref (T 2), .ref (T 3), .int (nI c0)])), (T 1, .inl (cA, 1024, .inl (fun j => nI (C j)))), (T 2, .inl (cA, 16, .inl (fun j => nI (L j)))), (T 3, .inl (cA, 128, .inl (fun j => nI (O j))))]
def moT (T : Nat → Nat) : Prop := T 0 ≠ T 1 ∧ T 0 ≠ T 2 ∧ T 0 ≠ T 3 ∧ T 1 ≠ T 2 ∧ T 1 ≠ T 3 ∧ T 2 ≠ T 3
def moA (T : Nat → Nat) : Nat → Prop := fun q => q = T 0 ∨ q = T 1 ∨ q = T 2 ∨ q = T 3
abbrev moTy (cA : ClassId) : List (ClassId × FieldType) := [(cA, .int)]
theorem moD {cA : ClassId} {T : Nat → Nat} {k : Int32} {C L O : Nat → Nat} {c0 : Nat} (h : moT T) : va_D (moA T) (moW cA T k C L O c0) := by
  obtain ⟨h1, h2, h3, h4, h5, h6⟩ := h
  refine ⟨fun i j p q hi hj e => ?_, fun i q hi => ?_⟩
  · match i, j, hi, hj with
    | 0, 0, _, _ => rfl
    | 1, 1, _, _ => rfl
    | 2, 2, _, _ => rfl
    | 3, 3, _, _ => rfl
    | 0, 1, hi, hj => cases hi; cases hj; exact absurd e h1
    | 0, 2, hi, hj => cases hi; cases hj; exact absurd e h2
    | 0, 3, hi, hj => cases hi; cases hj; exact absurd e h3
    | 1, 2, hi, hj => cases hi; cases hj; exact absurd e h4
    | 1, 3, hi, hj => cases hi; cases hj; exact absurd e h5
    | 2, 3, hi, hj => cases hi; cases hj; exact absurd e h6
    | 1, 0, hi, hj => cases hi; cases hj; exact absurd e.symm h1
    | 2, 0, hi, hj => cases hi; cases hj; exact absurd e.symm h2
    | 3, 0, hi, hj => cases hi; cases hj; exact absurd e.symm h3
    | 2, 1, hi, hj => cases hi; cases hj; exact absurd e.symm h4
    | 3, 1, hi, hj => cases hi; cases hj; exact absurd e.symm h5
    | 3, 2, hi, hj => cases hi; cases hj; exact absurd e.symm h6
    | i + 4, _, hi, _ => simp at hi
    | _, j + 4, _, hj => simp at hj
  · match i, hi with
    | 0, hi => cases hi; exact Or.inl rfl
    | 1, hi => cases hi; exact Or.inr (Or.inl rfl)
    | 2, hi => cases hi; exact Or.inr (Or.inr (Or.inl rfl))
    | 3, hi => cases hi; exact Or.inr (Or.inr (Or.inr rfl))
    | i + 4, hi => simp at hi
def moP (D : va_G) (cA : ClassId) (w : va_W) (U : State) : Prop := va_P D vwCl w U.heap ∧ va_K D vwCl (moTy cA) U
theorem moP.bl {D : va_G} {cA : ClassId} {w : va_W} : ∀ (a : Array Value) (U : State) (g : JFrame) (mk : MethodId), moP D cA w U → moP D cA w (U.calling g mk a) :=
  fun a U g mk q => ⟨q.1, va_K.moved (u := U) (U := U.calling g mk a) (Vm.Alike.refl U.vm) q.2⟩
theorem moP.to {D : va_G} {cA : ClassId} {w : va_W} {s : State} {H : Heap} (hP : va_P D vwCl w H) (hK : va_K D vwCl (moTy cA) s) : ∀ U : State, U.heap = H → s.WarmedH U.vm → moP D cA w U :=
  fun U hU hW => ⟨by rw [hU]; exact hP, va_K.moved hW.alike hK⟩
theorem mo_ob {D : va_G} {cA : ClassId} {T : Nat → Nat} {k : Int32} {C L O : Nat → Nat} {c0 : Nat} {s : State} {H : Heap} (hK : va_K D vwCl (moTy cA) s) (hP : va_P D vwCl (moW cA T k C L O c0) H) : ∃ cellB : Cell, H[T 0]? = some cellB ∧ cellB.vm.isStatics = false ∧ s.vm.findClass RM = some cellB.cls := va_recv hK hP (ci := ciM) (q0 := 0) rfl rfl
theorem mo_getk {D : va_G} {cA : ClassId} {T : Nat → Nat} {k : Int32} {C L O : Nat → Nat} {c0 : Nat} {p : Program} {l : Launch} {e : Env} {R : Room} {s : State} {m : MethodId} {args : Array Value} {below : List Frame} {meth : Method} {c : Code} {H : Heap} {locs : List Loc} {cells slots : Nat} {Q : State → Prop} {cc : ByteArray} {nL pc : Nat} {ls : Array Slot} {rest : List Value} (S : CallFix p m c cc nL s args nzG RM) (hK : va_K D vwCl (moTy cA) s) (hP : va_P D vwCl (moW cA T k C L O c0) H) (hdg : decode cc pc = .ok (.getfield fM_code, 3)) (kk : W p l e R s m args below meth c H locs cells slots Q (F0 m (pc + 3) ls (.int k :: rest))) : W p l e R s m args below meth c H locs cells slots Q (F0 m pc ls (.ref (T 0) :: rest)) :=
  va_get (D := D) (ci := ciM) (v := .int k) (C := RM) (T := FM) (N := 5) S.1 S.2.1 S.2.2.2.2 in_M S.2.2.2.1 hK hP 0 rfl rfl 0 (by decide) (S.2.2.2.2 _ fl_M_code) (fun _ h9 => h9) rfl hdg kk
theorem mo_getC {D : va_G} {cA : ClassId} {T : Nat → Nat} {k : Int32} {C L O : Nat → Nat} {c0 : Nat} {p : Program} {l : Launch} {e : Env} {R : Room} {s : State} {m : MethodId} {args : Array Value} {below : List Frame} {meth : Method} {c : Code} {H : Heap} {locs : List Loc} {cells slots : Nat} {Q : State → Prop} {cc : ByteArray} {nL pc : Nat} {ls : Array Slot} {rest : List Value} (S : CallFix p m c cc nL s args nzG RM) (hK : va_K D vwCl (moTy cA) s) (hP : va_P D vwCl (moW cA T k C L O c0) H) (hdg : decode cc pc = .ok (.getfield fM_cells, 3)) (kk : W p l e R s m args below meth c H locs cells slots Q (F0 m (pc + 3) ls (.ref (T 1) :: rest))) : W p l e R s m args below meth c H locs cells slots Q (F0 m pc ls (.ref (T 0) :: rest)) :=
  va_get (D := D) (ci := ciM) (v := .ref (T 1)) (C := RM) (T := FM) (N := 5) S.1 S.2.1 S.2.2.2.2 in_M S.2.2.2.1 hK hP 0 rfl rfl 1 (by decide) (S.2.2.2.2 _ fl_M_cells) (fun _ h9 => h9) rfl hdg kk
theorem mo_getL {D : va_G} {cA : ClassId} {T : Nat → Nat} {k : Int32} {C L O : Nat → Nat} {c0 : Nat} {p : Program} {l : Launch} {e : Env} {R : Room} {s : State} {m : MethodId} {args : Array Value} {below : List Frame} {meth : Method} {c : Code} {H : Heap} {locs : List Loc} {cells slots : Nat} {Q : State → Prop} {cc : ByteArray} {nL pc : Nat} {ls : Array Slot} {rest : List Value} (S : CallFix p m c cc nL s args nzG RM) (hK : va_K D vwCl (moTy cA) s) (hP : va_P D vwCl (moW cA T k C L O c0) H) (hdg : decode cc pc = .ok (.getfield fM_lengths, 3)) (kk : W p l e R s m args below meth c H locs cells slots Q (F0 m (pc + 3) ls (.ref (T 2) :: rest))) : W p l e R s m args below meth c H locs cells slots Q (F0 m pc ls (.ref (T 0) :: rest)) :=
  va_get (D := D) (ci := ciM) (v := .ref (T 2)) (C := RM) (T := FM) (N := 5) S.1 S.2.1 S.2.2.2.2 in_M S.2.2.2.1 hK hP 0 rfl rfl 2 (by decide) (S.2.2.2.2 _ fl_M_lengths) (fun _ h9 => h9) rfl hdg kk
theorem mo_getO {D : va_G} {cA : ClassId} {T : Nat → Nat} {k : Int32} {C L O : Nat → Nat} {c0 : Nat} {p : Program} {l : Launch} {e : Env} {R : Room} {s : State} {m : MethodId} {args : Array Value} {below : List Frame} {meth : Method} {c : Code} {H : Heap} {locs : List Loc} {cells slots : Nat} {Q : State → Prop} {cc : ByteArray} {nL pc : Nat} {ls : Array Slot} {rest : List Value} (S : CallFix p m c cc nL s args nzG RM) (hK : va_K D vwCl (moTy cA) s) (hP : va_P D vwCl (moW cA T k C L O c0) H) (hdg : decode cc pc = .ok (.getfield fM_out, 3)) (kk : W p l e R s m args below meth c H locs cells slots Q (F0 m (pc + 3) ls (.ref (T 3) :: rest))) : W p l e R s m args below meth c H locs cells slots Q (F0 m pc ls (.ref (T 0) :: rest)) :=
  va_get (D := D) (ci := ciM) (v := .ref (T 3)) (C := RM) (T := FM) (N := 5) S.1 S.2.1 S.2.2.2.2 in_M S.2.2.2.1 hK hP 0 rfl rfl 3 (by decide) (S.2.2.2.2 _ fl_M_out) (fun _ h9 => h9) rfl hdg kk
theorem mo_getc {D : va_G} {cA : ClassId} {T : Nat → Nat} {k : Int32} {C L O : Nat → Nat} {c0 : Nat} {p : Program} {l : Launch} {e : Env} {R : Room} {s : State} {m : MethodId} {args : Array Value} {below : List Frame} {meth : Method} {c : Code} {H : Heap} {locs : List Loc} {cells slots : Nat} {Q : State → Prop} {cc : ByteArray} {nL pc : Nat} {ls : Array Slot} {rest : List Value} (S : CallFix p m c cc nL s args nzG RM) (hK : va_K D vwCl (moTy cA) s) (hP : va_P D vwCl (moW cA T k C L O c0) H) (hdg : decode cc pc = .ok (.getfield fM_count, 3)) (kk : W p l e R s m args below meth c H locs cells slots Q (F0 m (pc + 3) ls (.int (nI c0) :: rest))) : W p l e R s m args below meth c H locs cells slots Q (F0 m pc ls (.ref (T 0) :: rest)) :=
  va_get (D := D) (ci := ciM) (v := .int (nI c0)) (C := RM) (T := FM) (N := 5) S.1 S.2.1 S.2.2.2.2 in_M S.2.2.2.1 hK hP 0 rfl rfl 4 (by decide) (S.2.2.2.2 _ fl_M_count) (fun _ h9 => h9) rfl hdg kk
theorem mo_putk {D : va_G} {cA : ClassId} {T : Nat → Nat} {k : Int32} {C L O : Nat → Nat} {c0 : Nat} {p : Program} {l : Launch} {e : Env} {R : Room} {s : State} {m : MethodId} {args : Array Value} {below : List Frame} {meth : Method} {c : Code} {H : Heap} {locs : List Loc} {cells slots : Nat} {Q : State → Prop} {cc : ByteArray} {nL pc : Nat} {ls : Array Slot} {rest : List Value} {k1 : Int32} (S : CallFix p m c cc nL s args nzG RM) (hT : moT T) (hK : va_K D vwCl (moTy cA) s) (hP : va_P D vwCl (moW cA T k C L O c0) H) (hS : va_S (moA T) s.heap H locs) (hdg : decode cc pc = .ok (.putfield fM_code, 3)) (kk : ∀ (H1 : Heap) (locs1 : List Loc), va_P D vwCl (moW cA T k1 C L O c0) H1 → va_S (moA T) s.heap H1 locs1 → W p l e R s m args below meth c H1 locs1 cells slots Q (F0 m (pc + 3) ls (rest))) : W p l e R s m args below meth c H locs cells slots Q (F0 m pc ls (.int k1 :: .ref (T 0) :: rest)) :=
  va_put (D := D) (ci := ciM) (v := .int k1) (ty := .int) (C := RM) (T := FM) (N := 5) S.1 S.2.1 S.2.2.2.2 in_M tyM tyM_ok nmM S.2.2.2.1 hK hP (moD hT) hS 0 rfl rfl 0 (by decide) (S.2.2.2.2 _ fl_M_code) (fun _ h9 => h9) rfl (by decide +kernel) rfl rfl (Nat.le_of_ble_eq_true rfl) hdg (fun H1 locs1 h1 _ h3 => kk H1 locs1 h1 h3)
theorem mo_putc {D : va_G} {cA : ClassId} {T : Nat → Nat} {k : Int32} {C L O : Nat → Nat} {c0 : Nat} {p : Program} {l : Launch} {e : Env} {R : Room} {s : State} {m : MethodId} {args : Array Value} {below : List Frame} {meth : Method} {c : Code} {H : Heap} {locs : List Loc} {cells slots : Nat} {Q : State → Prop} {cc : ByteArray} {nL pc : Nat} {ls : Array Slot} {rest : List Value} {c1 : Nat} (S : CallFix p m c cc nL s args nzG RM) (hT : moT T) (hK : va_K D vwCl (moTy cA) s) (hP : va_P D vwCl (moW cA T k C L O c0) H) (hS : va_S (moA T) s.heap H locs) (hdg : decode cc pc = .ok (.putfield fM_count, 3)) (kk : ∀ (H1 : Heap) (locs1 : List Loc), va_P D vwCl (moW cA T k C L O c1) H1 → va_S (moA T) s.heap H1 locs1 → W p l e R s m args below meth c H1 locs1 cells slots Q (F0 m (pc + 3) ls (rest))) : W p l e R s m args below meth c H locs cells slots Q (F0 m pc ls (.int (nI c1) :: .ref (T 0) :: rest)) :=
  va_put (D := D) (ci := ciM) (v := .int (nI c1)) (ty := .int) (C := RM) (T := FM) (N := 5) S.1 S.2.1 S.2.2.2.2 in_M tyM tyM_ok nmM S.2.2.2.1 hK hP (moD hT) hS 0 rfl rfl 4 (by decide) (S.2.2.2.2 _ fl_M_count) (fun _ h9 => h9) rfl (by decide +kernel) rfl rfl (Nat.le_of_ble_eq_true rfl) hdg (fun H1 locs1 h1 _ h3 => kk H1 locs1 h1 h3)
theorem mo_ldC {D : va_G} {cA : ClassId} {T : Nat → Nat} {k : Int32} {C L O : Nat → Nat} {c0 : Nat} {p : Program} {l : Launch} {e : Env} {R : Room} {s : State} {m : MethodId} {args : Array Value} {below : List Frame} {meth : Method} {c : Code} {H : Heap} {locs : List Loc} {cells slots : Nat} {Q : State → Prop} {cc : ByteArray} {nL pc : Nat} {ls : Array Slot} {rest : List Value} {j : Nat} (S : CallFix p m c cc nL s args nzG RM) (hK : va_K D vwCl (moTy cA) s) (hP : va_P D vwCl (moW cA T k C L O c0) H) (hj : j < 1024) (hdg : decode cc pc = .ok (.iaload, 1)) (kk : W p l e R s m args below meth c H locs cells slots Q (F0 m (pc + 1) ls (.int (nI (C j)) :: rest))) : W p l e R s m args below meth c H locs cells slots Q (F0 m pc ls (.int (nI j) :: .ref (T 1) :: rest)) := by
  refine va_iald S.1 S.2.1 hK hP 1 0 rfl rfl (vp_in_nI hj (by omega)) hdg ?_
  rw [nI_clamp (by omega)]
  exact kk
theorem mo_stC {D : va_G} {cA : ClassId} {T : Nat → Nat} {k : Int32} {C L O : Nat → Nat} {c0 : Nat} {p : Program} {l : Launch} {e : Env} {R : Room} {s : State} {m : MethodId} {args : Array Value} {below : List Frame} {meth : Method} {c : Code} {H : Heap} {locs : List Loc} {cells slots : Nat} {Q : State → Prop} {cc : ByteArray} {nL pc : Nat} {ls : Array Slot} {rest : List Value} {j v : Nat} (S : CallFix p m c cc nL s args nzG RM) (hT : moT T) (hK : va_K D vwCl (moTy cA) s) (hP : va_P D vwCl (moW cA T k C L O c0) H) (hS : va_S (moA T) s.heap H locs) (hj : j < 1024) (hdg : decode cc pc = .ok (.iastore, 1)) (kk : ∀ (H1 : Heap) (locs1 : List Loc), va_P D vwCl (moW cA T k (va_up C j v) L O c0) H1 → va_S (moA T) s.heap H1 locs1 → W p l e R s m args below meth c H1 locs1 cells slots Q (F0 m (pc + 1) ls (rest))) : W p l e R s m args below meth c H locs cells slots Q (F0 m pc ls (.int (nI v) :: .int (nI j) :: .ref (T 1) :: rest)) := by
  refine va_iast S.1 S.2.1 hK hP (moD hT) hS 1 0 rfl rfl (vp_in_nI hj (by omega)) hdg ?_
  intro H1 locs1 h1 _ h3
  rw [nI_clamp (by omega), nv_upd] at h1
  exact kk H1 locs1 h1 h3
theorem mo_ldL {D : va_G} {cA : ClassId} {T : Nat → Nat} {k : Int32} {C L O : Nat → Nat} {c0 : Nat} {p : Program} {l : Launch} {e : Env} {R : Room} {s : State} {m : MethodId} {args : Array Value} {below : List Frame} {meth : Method} {c : Code} {H : Heap} {locs : List Loc} {cells slots : Nat} {Q : State → Prop} {cc : ByteArray} {nL pc : Nat} {ls : Array Slot} {rest : List Value} {j : Nat} (S : CallFix p m c cc nL s args nzG RM) (hK : va_K D vwCl (moTy cA) s) (hP : va_P D vwCl (moW cA T k C L O c0) H) (hj : j < 16) (hdg : decode cc pc = .ok (.iaload, 1)) (kk : W p l e R s m args below meth c H locs cells slots Q (F0 m (pc + 1) ls (.int (nI (L j)) :: rest))) : W p l e R s m args below meth c H locs cells slots Q (F0 m pc ls (.int (nI j) :: .ref (T 2) :: rest)) := by
  refine va_iald S.1 S.2.1 hK hP 2 0 rfl rfl (vp_in_nI hj (by omega)) hdg ?_
  rw [nI_clamp (by omega)]
  exact kk
theorem mo_stL {D : va_G} {cA : ClassId} {T : Nat → Nat} {k : Int32} {C L O : Nat → Nat} {c0 : Nat} {p : Program} {l : Launch} {e : Env} {R : Room} {s : State} {m : MethodId} {args : Array Value} {below : List Frame} {meth : Method} {c : Code} {H : Heap} {locs : List Loc} {cells slots : Nat} {Q : State → Prop} {cc : ByteArray} {nL pc : Nat} {ls : Array Slot} {rest : List Value} {j v : Nat} (S : CallFix p m c cc nL s args nzG RM) (hT : moT T) (hK : va_K D vwCl (moTy cA) s) (hP : va_P D vwCl (moW cA T k C L O c0) H) (hS : va_S (moA T) s.heap H locs) (hj : j < 16) (hdg : decode cc pc = .ok (.iastore, 1)) (kk : ∀ (H1 : Heap) (locs1 : List Loc), va_P D vwCl (moW cA T k C (va_up L j v) O c0) H1 → va_S (moA T) s.heap H1 locs1 → W p l e R s m args below meth c H1 locs1 cells slots Q (F0 m (pc + 1) ls (rest))) : W p l e R s m args below meth c H locs cells slots Q (F0 m pc ls (.int (nI v) :: .int (nI j) :: .ref (T 2) :: rest)) := by
  refine va_iast S.1 S.2.1 hK hP (moD hT) hS 2 0 rfl rfl (vp_in_nI hj (by omega)) hdg ?_
  intro H1 locs1 h1 _ h3
  rw [nI_clamp (by omega), nv_upd] at h1
  exact kk H1 locs1 h1 h3
theorem mo_ldO {D : va_G} {cA : ClassId} {T : Nat → Nat} {k : Int32} {C L O : Nat → Nat} {c0 : Nat} {p : Program} {l : Launch} {e : Env} {R : Room} {s : State} {m : MethodId} {args : Array Value} {below : List Frame} {meth : Method} {c : Code} {H : Heap} {locs : List Loc} {cells slots : Nat} {Q : State → Prop} {cc : ByteArray} {nL pc : Nat} {ls : Array Slot} {rest : List Value} {j : Nat} (S : CallFix p m c cc nL s args nzG RM) (hK : va_K D vwCl (moTy cA) s) (hP : va_P D vwCl (moW cA T k C L O c0) H) (hj : j < 128) (hdg : decode cc pc = .ok (.iaload, 1)) (kk : W p l e R s m args below meth c H locs cells slots Q (F0 m (pc + 1) ls (.int (nI (O j)) :: rest))) : W p l e R s m args below meth c H locs cells slots Q (F0 m pc ls (.int (nI j) :: .ref (T 3) :: rest)) := by
  refine va_iald S.1 S.2.1 hK hP 3 0 rfl rfl (vp_in_nI hj (by omega)) hdg ?_
  rw [nI_clamp (by omega)]
  exact kk
theorem mo_stO {D : va_G} {cA : ClassId} {T : Nat → Nat} {k : Int32} {C L O : Nat → Nat} {c0 : Nat} {p : Program} {l : Launch} {e : Env} {R : Room} {s : State} {m : MethodId} {args : Array Value} {below : List Frame} {meth : Method} {c : Code} {H : Heap} {locs : List Loc} {cells slots : Nat} {Q : State → Prop} {cc : ByteArray} {nL pc : Nat} {ls : Array Slot} {rest : List Value} {j v : Nat} (S : CallFix p m c cc nL s args nzG RM) (hT : moT T) (hK : va_K D vwCl (moTy cA) s) (hP : va_P D vwCl (moW cA T k C L O c0) H) (hS : va_S (moA T) s.heap H locs) (hj : j < 128) (hdg : decode cc pc = .ok (.iastore, 1)) (kk : ∀ (H1 : Heap) (locs1 : List Loc), va_P D vwCl (moW cA T k C L (va_up O j v) c0) H1 → va_S (moA T) s.heap H1 locs1 → W p l e R s m args below meth c H1 locs1 cells slots Q (F0 m (pc + 1) ls (rest))) : W p l e R s m args below meth c H locs cells slots Q (F0 m pc ls (.int (nI v) :: .int (nI j) :: .ref (T 3) :: rest)) := by
  refine va_iast S.1 S.2.1 hK hP (moD hT) hS 3 0 rfl rfl (vp_in_nI hj (by omega)) hdg ?_
  intro H1 locs1 h1 _ h3
  rw [nI_clamp (by omega), nv_upd] at h1
  exact kk H1 locs1 h1 h3
/-- a void method that writes in the reference's world -/
theorem mo_call {w w' : va_W} {o : Nat} {own C9 : String} {i9 : Nat} {y : MethodName} {b : ByteArray} {mL n9 : Nat} {r : Option FieldType} {rm : Room} {As st0 : List Value} {D : va_G} {cA : ClassId} {T : Nat → Nat} {p : Program} {l : Launch} {e : Env} {R : Room} {s : State} {m : MethodId} {args : Array Value} {below : List Frame} {meth : Method} {c : Code} {H : Heap} {locs : List Loc} {cells slots : Nat} {Q : State → Prop} {cc : ByteArray} {nL pc : Nat} {ls : Array Slot} {rest : List Value} (S : CallFix p m c cc nL s args nzG own) (hM : Met l y (Cond.code y b mL r :: nzG) rm (va_Pc (.ref o :: As) (moP D cA w)) (va_Qv (fun _ : Unit => True) (fun _ t => va_P D vwCl w' t.heap) (moA T)) 0 0 (moA T)) (hw : nzV own i9 C9 y b mL r n9) (hR : nzR rm R mL 0 0) (hc : cells ≤ R.cells ∧ slots ≤ R.slots)
    (hob : ∃ cellB : Cell, H[o]? = some cellB ∧ cellB.vm.isStatics = false ∧ s.vm.findClass C9 = some cellB.cls) (hP : va_P D vwCl w H) (hK : va_K D vwCl (moTy cA) s) (hS : va_S (moA T) s.heap H locs)
    (hn : As.length = n9) (hsz : ls.size = nL) (hst : st0 = As.reverse ++ .ref o :: rest) (hW : (rest.map fun v => v.category).sum ≤ 8) (hdg : decode cc pc = .ok (.invokevirtual i9, 3))
    (kk : ∀ (H1 : Heap) (locs1 : List Loc), va_P D vwCl w' H1 → va_S (moA T) s.heap H1 locs1 → W p l e R s m args below meth c H1 locs1 cells slots Q (F0 m (pc + 3) ls rest)) : W p l e R s m args below meth c H locs cells slots Q (F0 m pc ls st0) := by
  refine va_callv (va_runV S hM (hw.cb S.2.2.2.2 hR.1 hR.2.1 hR.2.2) ⟨fun a U g mk q => ⟨q.1, moP.bl a U g mk q.2⟩, hob, fun U hU hW => ⟨rfl, moP.to hP hK U hU hW⟩⟩ rfl hn hsz hst (lv_room hW) hdg hc) hS (fun q _ h => h) (fun q h => h) ?_
  intro u t H1 locs1 ht hvm hw9 hB hz hk hS1
  rw [ht] at hB
  exact kk H1 locs1 hB hS1
/-- a place's row -/
def mR (C : Nat → Nat) (a : Nat) : Nat → Nat := fun k => C (64 * a + k)
def moOk (C L O : Nat → Nat) : Prop := (∀ j, C j < 9) ∧ (∀ j, L j ≤ 64) ∧ ∀ j, O j < 9
/-- the place 'to' has become N elements F; no other has changed -/
def moU (C L : Nat → Nat) (to N : Nat) (F : Nat → Nat) (C' L' : Nat → Nat) : Prop := L' to = N ∧ (∀ k, k < N → mR C' to k = F k) ∧ ∀ j, j < 16 → j ≠ to → L' j = L j ∧ ∀ k, k < 64 → mR C' j k = mR C j k
/-- what keep leaves -/
def moK (C O : Nat → Nat) (to c0 : Nat) : Nat → Nat := pov (fun j => if j - 64 * to < c0 then O (j - 64 * to) else 0) C (64 * to) 64
variable {C L O C' L' F F' : Nat → Nat} {to N N' c0 v j : Nat}
theorem moU_keep (hc : c0 ≤ 64) : moU C L to c0 O (moK C O to c0) (va_up L to c0) := by
  refine ⟨va_up_self _ _ _, fun k hk => ?_, fun j hj hne => ⟨va_up_ne _ _ hne, fun k hk => ?_⟩⟩
  · show moK C O to c0 (64 * to + k) = O k
    unfold moK
    rw [pov_in (by omega) (by omega), show 64 * to + k - 64 * to = k by omega, if_pos hk]
  · show moK C O to c0 (64 * j + k) = C (64 * j + k)
    unfold moK
    exact pov_out (by omega)
theorem moU_eq (h : moU C L to N F C' L') (hN : N = N') (hF : ∀ k, k < N' → F k = F' k) : moU C L to N' F' C' L' := by
  subst hN
  exact ⟨h.1, fun k hk => (h.2.1 k hk).trans (hF k hk), h.2.2⟩
theorem moOk_keep (ok : moOk C L O) (hc : c0 ≤ 64) : moOk (moK C O to c0) (va_up L to c0) O := by
  refine ⟨pov_lt (fun k h1 h2 => ?_) ok.1, fun j => ?_, ok.2.2⟩
  · split
    · exact ok.2.2 _
    · decide
  · by_cases h1 : j = to
    · subst h1; rw [va_up_self]; exact hc
    · rw [va_up_ne _ _ h1]; exact ok.2.1 j
theorem up_lt {f : Nat → Nat} {b : Nat} (h : ∀ j, f j < b) (hv : v < b) (k : Nat) : ∀ j, va_up f k v j < b := by
  intro j
  by_cases h1 : j = k
  · subst h1; rw [va_up_self]; exact hv
  · rw [va_up_ne _ _ h1]; exact h j
theorem moU_put (hto : to < 16) (hk : j < 64) : moU C L to (L to) (va_up (mR C to) j v) (va_up C (64 * to + j) v) L := by
  refine ⟨rfl, fun k hk => ?_, fun i hi hne => ⟨rfl, fun k hk => ?_⟩⟩
  · show va_up C (64 * to + j) v (64 * to + k) = va_up (mR C to) j v k
    by_cases h : k = j
    · subst h; rw [va_up_self, va_up_self]
    · rw [va_up_ne _ _ (by omega), va_up_ne _ _ h]; rfl
  · show va_up C (64 * to + j) v (64 * i + k) = C (64 * i + k)
    exact va_up_ne _ _ (by omega)
theorem in15 {x : Int32} : (x < 0 ∨ 15 < x) ↔ plB x := by
  constructor
  · rintro (h | h)
    · exact Or.inl h
    · exact Or.inr (by rw [Int32.le_iff_toInt_le]; rw [Int32.lt_iff_toInt_lt] at h; have e1 : (15 : Int32).toInt = 15 := (by decide); have e2 : (16 : Int32).toInt = 16 := (by decide); omega)
  · rintro (h | h)
    · exact Or.inl h
    · exact Or.inr (by rw [Int32.le_iff_toInt_le] at h; rw [Int32.lt_iff_toInt_lt]; have e1 : (15 : Int32).toInt = 15 := (by decide); have e2 : (16 : Int32).toInt = 16 := (by decide); omega)
end Mo
