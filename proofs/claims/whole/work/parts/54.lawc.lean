set_option maxHeartbeats 4000000 in
set_option maxRecDepth 100000 in
theorem law_fill {p : Program} {e : Env} {s : State} {m : MethodId} {args : Array Value} {below : List Frame} {meth : Method} {c : Code} {Q : State → Prop} {D : va_G} {cA cW cJ : ClassId} {T Tm : Nat → Nat} {bo b9 LL : Nat} {xs : Nat → Int32} {H : Heap} {locs : List Loc} {cells slots : Nat} {ls : Array Slot} (l : Launch) (hfl : l.flags = pinnedFlags ++ [noTraceFlag]) (X : lwX D cA cW cJ T Tm bo s) (S : CallFix p m c bL_law 8 s args nzG RL) (hXs : va_X b9 LL xs s s.heap) (hbl : b9 < s.heap.size) (hLL : LL ≤ 3072) (i9 : Nat) (hi : i9 + 6 ≤ LL) (hG : lwG D cA cW cJ T Tm bo s H locs) (hc : cells + 1 ≤ 601024 ∧ slots + 6 ≤ 7293034) (hl : lv_has ls 8 (lwL b9 T Tm bo i9)) (kk : ∀ (H : Heap) (locs : List Loc) (ls : Array Slot), lwG D cA cW cJ T Tm bo s H locs → lv_has ls 8 (lwL b9 T Tm bo i9) → W p l e room_1 s m args below meth c H locs (cells + 1) (slots + 6) Q (F0 m 1274 ls [])) : W p l e room_1 s m args below meth c H locs cells slots Q (F0 m 116 ls []) := by
  have hx := S.1
  have hb := S.2.1
  obtain ⟨n, g, C, L, O, c0, k, f, ok, okm, hRel, hH, hS⟩ := hG
  refine lv_aload_n hx hb dL_law_116 rfl (lv_at hl 1 rfl) ?_
  refine lw_sc (i9 := i9) (j9 := 1) hx hb hXs hbl hLL hS (by omega) (lv_at hl 0 rfl) (lv_at hl 4 rfl) dL_law_117 dL_law_118 dL_law_120 dL_law_121 dL_law_122 ?_
  refine lw_sc (i9 := i9) (j9 := 2) hx hb hXs hbl hLL hS (by omega) (lv_at hl 0 rfl) (lv_at hl 4 rfl) dL_law_123 dL_law_124 dL_law_126 dL_law_127 dL_law_128 ?_
  refine lw_sc (i9 := i9) (j9 := 3) hx hb hXs hbl hLL hS (by omega) (lv_at hl 0 rfl) (lv_at hl 4 rfl) dL_law_129 dL_law_130 dL_law_132 dL_law_133 dL_law_134 ?_
  refine lw_w (As := [.int (xs (i9 + 1)), .int (xs (i9 + 2)), .int (xs (i9 + 3))]) (rest := []) X S (cL_fill l hfl D cA cW T X.hT n g ok (x1 := xs (i9 + 1)) (x2 := xs (i9 + 2)) (x3 := xs (i9 + 3))) kLs_fill ⟨rfl, rfl, (Nat.le_of_ble_eq_true rfl), (Nat.le_of_ble_eq_true rfl)⟩ hc ok hH hS rfl hl.1 rfl (Nat.le_of_ble_eq_true rfl) dL_law_135 (fun n1 g1 H locs hU0 hU1 ok1 hH hS => ?_)
  refine lv_istore (lv' := (5, .int (nI (kFill (xs (i9 + 1)) (xs (i9 + 2)) (xs (i9 + 3))))) :: lwL b9 T Tm bo i9) hx hb dL_law_138 hl (by decide) rfl (fun ls hl => ?_)
  refine lv_aload_n hx hb dL_law_140 rfl (lv_at hl 3 rfl) ?_
  refine lw_sc (i9 := i9) (j9 := 1) hx hb hXs hbl hLL hS (by omega) (lv_at hl 1 rfl) (lv_at hl 5 rfl) dL_law_141 dL_law_142 dL_law_144 dL_law_145 dL_law_146 ?_
  refine lw_sc (i9 := i9) (j9 := 2) hx hb hXs hbl hLL hS (by omega) (lv_at hl 1 rfl) (lv_at hl 5 rfl) dL_law_147 dL_law_148 dL_law_150 dL_law_151 dL_law_152 ?_
  refine lw_sc (i9 := i9) (j9 := 3) hx hb hXs hbl hLL hS (by omega) (lv_at hl 1 rfl) (lv_at hl 5 rfl) dL_law_153 dL_law_154 dL_law_156 dL_law_157 dL_law_158 ?_
  refine lw_m (As := [.int (xs (i9 + 1)), .int (xs (i9 + 2)), .int (xs (i9 + 3))]) (rest := []) X S (c_Mo_fill l D cA Tm X.hM k C L O c0 okm (x1 := xs (i9 + 1)) (x2 := xs (i9 + 2)) (x3 := xs (i9 + 3))) kL_82 ⟨rfl, rfl, (Nat.le_of_ble_eq_true rfl), (Nat.le_of_ble_eq_true rfl)⟩ hc hH hS rfl hl.1 rfl (Nat.le_of_ble_eq_true rfl) dL_law_159 (fun C1 L1 O1 c1 H locs hV0 hV1 okm1 hH hS => ?_)
  refine lv_aload_n hx hb dL_law_162 rfl (lv_at hl 3 rfl) ?_
  refine lw_t X S ⟨(Nat.le_of_ble_eq_true rfl), (Nat.le_of_ble_eq_true rfl)⟩ hc hH hl.1 (Nat.le_of_ble_eq_true rfl) dL_law_163 ?_
  refine lv_iload hx hb dL_law_166 (lv_at hl 0 rfl) ?_
  refine lv_icmp_eq (tgt := 173) hx hb dL_law_168 (by decide) (fun _ => ?_) (fun c1 => ?_)
  · refine lv_goto (tgt := 1274) hx hb dL_law_173 (by decide) ?_
    exact kk _ _ _ ⟨n1, g1, C1, L1, O1, c1, _, f, ok1, okm1, Rel.step hRel ok hU0 hU1 hV0 hV1 (rfl) (fun _ => ⟨rfl, fun _ _ => rfl⟩), hH, hS⟩ (lv_sub hl [1, 2, 3, 4, 5] rfl)
  · exact absurd (congrArg nI (rfl)).symm c1
set_option maxHeartbeats 4000000 in
set_option maxRecDepth 100000 in
theorem law_put {p : Program} {e : Env} {s : State} {m : MethodId} {args : Array Value} {below : List Frame} {meth : Method} {c : Code} {Q : State → Prop} {D : va_G} {cA cW cJ : ClassId} {T Tm : Nat → Nat} {bo b9 LL : Nat} {xs : Nat → Int32} {H : Heap} {locs : List Loc} {cells slots : Nat} {ls : Array Slot} (l : Launch) (hfl : l.flags = pinnedFlags ++ [noTraceFlag]) (X : lwX D cA cW cJ T Tm bo s) (S : CallFix p m c bL_law 8 s args nzG RL) (hXs : va_X b9 LL xs s s.heap) (hbl : b9 < s.heap.size) (hLL : LL ≤ 3072) (i9 : Nat) (hi : i9 + 6 ≤ LL) (hG : lwG D cA cW cJ T Tm bo s H locs) (hc : cells + 1 ≤ 601024 ∧ slots + 6 ≤ 7293034) (hl : lv_has ls 8 (lwL b9 T Tm bo i9)) (kk : ∀ (H : Heap) (locs : List Loc) (ls : Array Slot), lwG D cA cW cJ T Tm bo s H locs → lv_has ls 8 (lwL b9 T Tm bo i9) → W p l e room_1 s m args below meth c H locs (cells + 1) (slots + 6) Q (F0 m 1274 ls [])) : W p l e room_1 s m args below meth c H locs cells slots Q (F0 m 176 ls []) := by
  have hx := S.1
  have hb := S.2.1
  obtain ⟨n, g, C, L, O, c0, k, f, ok, okm, hRel, hH, hS⟩ := hG
  refine lv_aload_n hx hb dL_law_176 rfl (lv_at hl 1 rfl) ?_
  refine lw_sc (i9 := i9) (j9 := 1) hx hb hXs hbl hLL hS (by omega) (lv_at hl 0 rfl) (lv_at hl 4 rfl) dL_law_177 dL_law_178 dL_law_180 dL_law_181 dL_law_182 ?_
  refine lw_sc (i9 := i9) (j9 := 2) hx hb hXs hbl hLL hS (by omega) (lv_at hl 0 rfl) (lv_at hl 4 rfl) dL_law_183 dL_law_184 dL_law_186 dL_law_187 dL_law_188 ?_
  refine lw_sc (i9 := i9) (j9 := 3) hx hb hXs hbl hLL hS (by omega) (lv_at hl 0 rfl) (lv_at hl 4 rfl) dL_law_189 dL_law_190 dL_law_192 dL_law_193 dL_law_194 ?_
  refine lw_w (As := [.int (xs (i9 + 1)), .int (xs (i9 + 2)), .int (xs (i9 + 3))]) (rest := []) X S (cL_put l hfl D cA cW T X.hT n g ok (x1 := xs (i9 + 1)) (x2 := xs (i9 + 2)) (x3 := xs (i9 + 3))) kLs_put ⟨rfl, rfl, (Nat.le_of_ble_eq_true rfl), (Nat.le_of_ble_eq_true rfl)⟩ hc ok hH hS rfl hl.1 rfl (Nat.le_of_ble_eq_true rfl) dL_law_195 (fun n1 g1 H locs hU0 hU1 ok1 hH hS => ?_)
  refine lv_istore (lv' := (5, .int (nI (kPut n (xs (i9 + 1)) (xs (i9 + 2)) (xs (i9 + 3))))) :: lwL b9 T Tm bo i9) hx hb dL_law_198 hl (by decide) rfl (fun ls hl => ?_)
  refine lv_aload_n hx hb dL_law_200 rfl (lv_at hl 3 rfl) ?_
  refine lw_sc (i9 := i9) (j9 := 1) hx hb hXs hbl hLL hS (by omega) (lv_at hl 1 rfl) (lv_at hl 5 rfl) dL_law_201 dL_law_202 dL_law_204 dL_law_205 dL_law_206 ?_
  refine lw_sc (i9 := i9) (j9 := 2) hx hb hXs hbl hLL hS (by omega) (lv_at hl 1 rfl) (lv_at hl 5 rfl) dL_law_207 dL_law_208 dL_law_210 dL_law_211 dL_law_212 ?_
  refine lw_sc (i9 := i9) (j9 := 3) hx hb hXs hbl hLL hS (by omega) (lv_at hl 1 rfl) (lv_at hl 5 rfl) dL_law_213 dL_law_214 dL_law_216 dL_law_217 dL_law_218 ?_
  refine lw_m (As := [.int (xs (i9 + 1)), .int (xs (i9 + 2)), .int (xs (i9 + 3))]) (rest := []) X S (c_Mo_put l D cA Tm X.hM k C L O c0 okm (x1 := xs (i9 + 1)) (x2 := xs (i9 + 2)) (x3 := xs (i9 + 3))) kL_89 ⟨rfl, rfl, (Nat.le_of_ble_eq_true rfl), (Nat.le_of_ble_eq_true rfl)⟩ hc hH hS rfl hl.1 rfl (Nat.le_of_ble_eq_true rfl) dL_law_219 (fun C1 L1 O1 c1 H locs hV0 hV1 okm1 hH hS => ?_)
  refine lv_aload_n hx hb dL_law_222 rfl (lv_at hl 3 rfl) ?_
  refine lw_t X S ⟨(Nat.le_of_ble_eq_true rfl), (Nat.le_of_ble_eq_true rfl)⟩ hc hH hl.1 (Nat.le_of_ble_eq_true rfl) dL_law_223 ?_
  refine lv_iload hx hb dL_law_226 (lv_at hl 0 rfl) ?_
  refine lv_icmp_eq (tgt := 233) hx hb dL_law_228 (by decide) (fun _ => ?_) (fun c1 => ?_)
  · refine lv_goto (tgt := 1274) hx hb dL_law_233 (by decide) ?_
    exact kk _ _ _ ⟨n1, g1, C1, L1, O1, c1, _, f, ok1, okm1, Rel.step hRel ok hU0 hU1 hV0 hV1 (r_put hRel) (fun h0 => ⟨(hRel.len (k0_put h0)).symm, g_up (hRel.e (k0_put h0))⟩), hH, hS⟩ (lv_sub hl [1, 2, 3, 4, 5] rfl)
  · exact absurd (congrArg nI (r_put hRel)).symm c1
set_option maxHeartbeats 4000000 in
set_option maxRecDepth 100000 in
theorem law_get {p : Program} {e : Env} {s : State} {m : MethodId} {args : Array Value} {below : List Frame} {meth : Method} {c : Code} {Q : State → Prop} {D : va_G} {cA cW cJ : ClassId} {T Tm : Nat → Nat} {bo b9 LL : Nat} {xs : Nat → Int32} {H : Heap} {locs : List Loc} {cells slots : Nat} {ls : Array Slot} (l : Launch) (hfl : l.flags = pinnedFlags ++ [noTraceFlag]) (X : lwX D cA cW cJ T Tm bo s) (S : CallFix p m c bL_law 8 s args nzG RL) (hXs : va_X b9 LL xs s s.heap) (hbl : b9 < s.heap.size) (hLL : LL ≤ 3072) (i9 : Nat) (hi : i9 + 6 ≤ LL) (hG : lwG D cA cW cJ T Tm bo s H locs) (hc : cells + 1 ≤ 601024 ∧ slots + 6 ≤ 7293034) (hl : lv_has ls 8 (lwL b9 T Tm bo i9)) (kk : ∀ (H : Heap) (locs : List Loc) (ls : Array Slot), lwG D cA cW cJ T Tm bo s H locs → lv_has ls 8 (lwL b9 T Tm bo i9) → W p l e room_1 s m args below meth c H locs (cells + 1) (slots + 6) Q (F0 m 1274 ls [])) : W p l e room_1 s m args below meth c H locs cells slots Q (F0 m 236 ls []) := by
  have hx := S.1
  have hb := S.2.1
  obtain ⟨n, g, C, L, O, c0, k, f, ok, okm, hRel, hH, hS⟩ := hG
  refine lv_aload_n hx hb dL_law_236 rfl (lv_at hl 1 rfl) ?_
  refine lw_sc (i9 := i9) (j9 := 1) hx hb hXs hbl hLL hS (by omega) (lv_at hl 0 rfl) (lv_at hl 4 rfl) dL_law_237 dL_law_238 dL_law_240 dL_law_241 dL_law_242 ?_
  refine lw_sc (i9 := i9) (j9 := 2) hx hb hXs hbl hLL hS (by omega) (lv_at hl 0 rfl) (lv_at hl 4 rfl) dL_law_243 dL_law_244 dL_law_246 dL_law_247 dL_law_248 ?_
  refine lv_aload_n hx hb dL_law_249 rfl (lv_at hl 3 rfl) ?_
  refine lw_o (As := [.int (xs (i9 + 1)), .int (xs (i9 + 2)), .ref bo]) (rest := []) X S (cL_get l hfl D cA cW T X.hT n g ok cJ bo f (x1 := xs (i9 + 1)) (x2 := xs (i9 + 2))) kLs_get ⟨rfl, rfl, (Nat.le_of_ble_eq_true rfl), (Nat.le_of_ble_eq_true rfl)⟩ hc hH hS rfl hl.1 rfl (Nat.le_of_ble_eq_true rfl) dL_law_250 (fun f1 H locs hO hH hS => ?_)
  refine lv_istore (lv' := (5, .int (nI (kGet n (xs (i9 + 1)) (xs (i9 + 2))))) :: lwL b9 T Tm bo i9) hx hb dL_law_253 hl (by decide) rfl (fun ls hl => ?_)
  refine lv_aload_n hx hb dL_law_255 rfl (lv_at hl 3 rfl) ?_
  refine lw_sc (i9 := i9) (j9 := 1) hx hb hXs hbl hLL hS (by omega) (lv_at hl 1 rfl) (lv_at hl 5 rfl) dL_law_256 dL_law_257 dL_law_259 dL_law_260 dL_law_261 ?_
  refine lw_sc (i9 := i9) (j9 := 2) hx hb hXs hbl hLL hS (by omega) (lv_at hl 1 rfl) (lv_at hl 5 rfl) dL_law_262 dL_law_263 dL_law_265 dL_law_266 dL_law_267 ?_
  refine lw_ri (As := [.int (xs (i9 + 1)), .int (xs (i9 + 2))]) (rest := []) X S (c_Mo_get l D cA Tm X.hM k C L O c0 okm (x1 := xs (i9 + 1)) (x2 := xs (i9 + 2))) kL_93 ⟨rfl, rfl, (Nat.le_of_ble_eq_true rfl), (Nat.le_of_ble_eq_true rfl)⟩ hc hH hS rfl hl.1 rfl (Nat.le_of_ble_eq_true rfl) dL_law_268 (fun r H locs hr1 hH hS => ?_)
  refine lv_istore (lv' := (6, .int r) :: (5, .int (nI (kGet n (xs (i9 + 1)) (xs (i9 + 2))))) :: lwL b9 T Tm bo i9) hx hb dL_law_271 hl (by decide) rfl (fun ls hl => ?_)
  refine lv_aload_n hx hb dL_law_273 rfl (lv_at hl 4 rfl) ?_
  refine lw_t X S ⟨(Nat.le_of_ble_eq_true rfl), (Nat.le_of_ble_eq_true rfl)⟩ hc hH hl.1 (Nat.le_of_ble_eq_true rfl) dL_law_274 ?_
  refine lv_iload hx hb dL_law_277 (lv_at hl 1 rfl) ?_
  refine lv_icmp_eq (tgt := 284) hx hb dL_law_279 (by decide) (fun _ => ?_) (fun c1 => absurd (congrArg nI (r_get hRel)).symm c1)
  refine lv_iload hx hb dL_law_284 (lv_at hl 1 rfl) ?_
  refine lv_if_ne (tgt := 301) hx hb dL_law_286 (by decide) (fun _ => ?_) (fun c2 => ?_)
  · refine lv_goto (tgt := 1274) hx hb dL_law_301 (by decide) ?_
    exact kk _ _ _ ⟨n, g, C, L, O, c0, _, f1, ok, okm, hRel, hH, hS⟩ (lv_sub hl [2, 3, 4, 5, 6] rfl)
  · have h0 : kGet n (xs (i9 + 1)) (xs (i9 + 2)) = 0 := k01 (fun q => Or.inl (kGet_in q)) c2
    refine lv_aload_n hx hb dL_law_289 rfl (lv_at hl 5 rfl) ?_
    refine lv_iconst (v := 0) hx hb dL_law_290 (by decide) ?_
    refine va_lald hx hb X.hK hH.2.1 0 2 rfl rfl (vp_in_nI (n := 0) (N := 1) (by decide) (by decide)) dL_law_291 ?_
    refine lv_iload hx hb dL_law_292 (lv_at hl 0 rfl) ?_
    have hv := hr1 (by rw [← (show kGet n (xs (i9 + 1)) (xs (i9 + 2)) = _ from r_get hRel)]; exact h0)
    have hw := hO h0
    have hE : f1 0 = r.toInt64 := by
      rw [hw, hv]
      exact congrArg Int32.toInt64 (by rw [hRel.e (k0_get h0).1 _ (k0_get h0).2])
    refine lv_i2l hx hb dL_law_294 rfl ?_
    refine W.lcmp hx hb dL_law_295 ?_
    refine lv_if_eq (tgt := 301) hx hb dL_law_296 (by decide) (fun _ => ?_) (fun c3 => absurd (lg_cmp_of hE) c3)
    refine lv_goto (tgt := 1274) hx hb dL_law_301 (by decide) ?_
    exact kk _ _ _ ⟨n, g, C, L, O, c0, _, f1, ok, okm, hRel, hH, hS⟩ (lv_sub hl [2, 3, 4, 5, 6] rfl)
