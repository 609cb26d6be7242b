/-! ===== the reference's constructor ===== -/
section Mi
abbrev mi0 (h0 : Nat) : va_W := [(h0, .inr (ciM, [.int 0, .null, .null, .null, .int 0]))]
def miQ (D : va_G) (cA : ClassId) (h0 sz : Nat) : Array Value → State → Outcome → State → Prop :=
  va_Qv (fun _ : Unit => True) (fun _ t => ∃ T : Nat → Nat, T 0 = h0 ∧ moT T ∧ (∀ k, k < 4 → va_A (mi0 h0) sz (T k)) ∧ va_P D vwCl (moW cA T (nI 0) (fun _ => 0) (fun _ => 0) (fun _ => 0) 0) t.heap) (va_A (mi0 h0) sz)
set_option maxHeartbeats 4000000 in
set_option maxRecDepth 100000 in
theorem c_Mo_init (l : Launch) (D : va_G) (cA : ClassId) (h0 sz : Nat) : Met l yMo_init (Cond.code yMo_init bMo_init 1 none :: nzG) ({ frames := 1, cells := 3, slots := 1168, locals := 12 }) (va_Pc [.ref h0] (fun U => U.heap.size = sz ∧ moP D cA (mi0 h0) U)) (miQ D cA h0 sz) 3 1168 (va_A (mi0 h0) sz) := by
  refine nz_of (own := RM) (by decide) rfl ?_
  intro p e s m args below meth c S hr hlocks hin hv9
  obtain ⟨rfl, hsz, hP, hK⟩ := hv9
  have hx := S.1
  have hb := S.2.1
  subst hsz
  have hD : va_D (va_A (mi0 h0) s.heap.size) (mi0 h0) := va_D1 (Or.inl ⟨0, _, rfl⟩)
  unfold miQ
  generalize hAe : va_A (mi0 h0) s.heap.size = A at hD ⊢
  have hA : ∀ q : Nat, s.heap.size ≤ q → A q := fun q h => by rw [← hAe]; exact Or.inr h
  have hS : va_S A s.heap s.heap [] := va_S.rf
  refine nz_entry (vs := [.ref h0]) (n := 1) (lv := [(0, .ref h0)]) (Nat.le_of_ble_eq_true rfl) rfl (fun ls hl => ?_)
  refine lv_aload_n hx hb dMo_init_0 rfl (lv_at hl 0 rfl) ?_
  refine W.objInit hx hb S.2.2.2.1 (S.2.2.2.2 _ kM_oi.1) (S.2.2.2.2 _ kM_oi.2.1) (S.2.2.2.2 _ kM_oi.2.2) rfl (by rw [S.2.2.1]; exact hl.1) rfl dMo_init_1 (Nat.le_of_ble_eq_true rfl) (Nat.le_of_ble_eq_true rfl) ?_
  refine W.eq (g2 := F0 m 4 ls []) rfl ?_
  refine lv_aload_n hx hb dMo_init_4 rfl (lv_at hl 0 rfl) ?_
  refine lv_sipush (v := 1024) hx hb dMo_init_5 (by decide) ?_
  refine va_newa (a0 := (1024, .inl (fun _ => 0))) hx hb (S.2.2.2.2 _ k_arrI) rfl hK hP hD hS hA (N' := 1024) (fun _ => rfl) (by decide) (by decide) (by decide) (Nat.le_of_ble_eq_true rfl) (Nat.le_of_ble_eq_true rfl) dMo_init_8 (fun q1 cA1 H hK1 hP hD hS => ?_)
  obtain rfl : cA = cA1 := by
    have h1 := va_nm_int (hK.2 0 (cA, .int) rfl).2
    have h2 := va_nm_int (hK1.2 1 (cA1, .int) rfl).2
    exact Option.some.inj (h1.symm.trans h2)
  refine va_putF (D := D) (ci := ciM) (v := .ref q1) (ty := .array .int) (C := RM) (T := FM) (N := 5) hx hb S.2.2.2.2 in_M tyM tyM_ok nmM S.2.2.2.1 hK hP hD hS 0 rfl rfl 1 (by decide) (S.2.2.2.2 _ fl_M_cells) (fun _ h9 => h9) rfl hin rfl (by decide +kernel) rfl rfl (Nat.le_of_ble_eq_true rfl) dMo_init_10 (fun H locs hP hD hS => ?_)
  have hP : va_P D vwCl [(h0, .inr (ciM, [.int 0, .ref q1, .null, .null, .int 0])), (q1, .inl (_, 1024, .inl (fun _ => 0)))] H := hP
  have hD : va_D A [(h0, .inr (ciM, [.int 0, .ref q1, .null, .null, .int 0])), (q1, .inl (_, 1024, .inl (fun _ => 0)))] := hD
  refine lv_aload_n hx hb dMo_init_13 rfl (lv_at hl 0 rfl) ?_
  refine lv_bipush (v := 16) hx hb dMo_init_14 (by decide) ?_
  refine va_newa (a0 := (16, .inl (fun _ => 0))) hx hb (S.2.2.2.2 _ k_arrI) rfl hK hP hD hS hA (N' := 16) (fun _ => rfl) (by decide) (by decide) (by decide) (Nat.le_of_ble_eq_true rfl) (Nat.le_of_ble_eq_true rfl) dMo_init_16 (fun q2 cA2 H hK1 hP hD hS => ?_)
  obtain rfl : cA = cA2 := by
    have h1 := va_nm_int (hK.2 0 (cA, .int) rfl).2
    have h2 := va_nm_int (hK1.2 1 (cA2, .int) rfl).2
    exact Option.some.inj (h1.symm.trans h2)
  refine va_putF (D := D) (ci := ciM) (v := .ref q2) (ty := .array .int) (C := RM) (T := FM) (N := 5) hx hb S.2.2.2.2 in_M tyM tyM_ok nmM S.2.2.2.1 hK hP hD hS 0 rfl rfl 2 (by decide) (S.2.2.2.2 _ fl_M_lengths) (fun _ h9 => h9) rfl hin rfl (by decide +kernel) rfl rfl (Nat.le_of_ble_eq_true rfl) dMo_init_18 (fun H locs hP hD hS => ?_)
  have hP : va_P D vwCl [(h0, .inr (ciM, [.int 0, .ref q1, .ref q2, .null, .int 0])), (q1, .inl (_, 1024, .inl (fun _ => 0))), (q2, .inl (_, 16, .inl (fun _ => 0)))] H := hP
  have hD : va_D A [(h0, .inr (ciM, [.int 0, .ref q1, .ref q2, .null, .int 0])), (q1, .inl (_, 1024, .inl (fun _ => 0))), (q2, .inl (_, 16, .inl (fun _ => 0)))] := hD
  refine lv_aload_n hx hb dMo_init_21 rfl (lv_at hl 0 rfl) ?_
  refine lv_sipush (v := 128) hx hb dMo_init_22 (by decide) ?_
  refine va_newa (a0 := (128, .inl (fun _ => 0))) hx hb (S.2.2.2.2 _ k_arrI) rfl hK hP hD hS hA (N' := 128) (fun _ => rfl) (by decide) (by decide) (by decide) (Nat.le_of_ble_eq_true rfl) (Nat.le_of_ble_eq_true rfl) dMo_init_25 (fun q3 cA3 H hK1 hP hD hS => ?_)
  obtain rfl : cA = cA3 := by
    have h1 := va_nm_int (hK.2 0 (cA, .int) rfl).2
    have h2 := va_nm_int (hK1.2 1 (cA3, .int) rfl).2
    exact Option.some.inj (h1.symm.trans h2)
  refine va_putF (D := D) (ci := ciM) (v := .ref q3) (ty := .array .int) (C := RM) (T := FM) (N := 5) hx hb S.2.2.2.2 in_M tyM tyM_ok nmM S.2.2.2.1 hK hP hD hS 0 rfl rfl 3 (by decide) (S.2.2.2.2 _ fl_M_out) (fun _ h9 => h9) rfl hin rfl (by decide +kernel) rfl rfl (Nat.le_of_ble_eq_true rfl) dMo_init_27 (fun H locs hP hD hS => ?_)
  have hP : va_P D vwCl [(h0, .inr (ciM, [.int 0, .ref q1, .ref q2, .ref q3, .int 0])), (q1, .inl (_, 1024, .inl (fun _ => 0))), (q2, .inl (_, 16, .inl (fun _ => 0))), (q3, .inl (_, 128, .inl (fun _ => 0)))] H := hP
  have hD : va_D A [(h0, .inr (ciM, [.int 0, .ref q1, .ref q2, .ref q3, .int 0])), (q1, .inl (_, 1024, .inl (fun _ => 0))), (q2, .inl (_, 16, .inl (fun _ => 0))), (q3, .inl (_, 128, .inl (fun _ => 0)))] := hD
  refine W.vret hx hb hr (fun t ht hW => ⟨⟨(), rfl, trivial, fun k => if k = 0 then h0 else if k = 1 then q1 else if k = 2 then q2 else q3, rfl, ?_, ?_, by rw [ht]; exact hP⟩, hS.F ht⟩) hS.2.2 dMo_init_30
  · refine ⟨fun h => ?_, fun h => ?_, fun h => ?_, fun h => ?_, fun h => ?_, fun h => ?_⟩
    · exact absurd (hD.1 0 1 _ _ rfl rfl h) (by decide)
    · exact absurd (hD.1 0 2 _ _ rfl rfl h) (by decide)
    · exact absurd (hD.1 0 3 _ _ rfl rfl h) (by decide)
    · exact absurd (hD.1 1 2 _ _ rfl rfl h) (by decide)
    · exact absurd (hD.1 1 3 _ _ rfl rfl h) (by decide)
    · exact absurd (hD.1 2 3 _ _ rfl rfl h) (by decide)
  · intro k hk
    match k, hk with
    | 0, _ => exact hD.2 0 _ rfl
    | 1, _ => exact hD.2 1 _ rfl
    | 2, _ => exact hD.2 2 _ rfl
    | 3, _ => exact hD.2 3 _ rfl
end Mi
