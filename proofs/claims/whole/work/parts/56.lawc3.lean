set_option maxHeartbeats 4000000 in
set_option maxRecDepth 100000 in
theorem law_shift {p : Program} {e : Env} {s : State} {m : MethodId} {args : Array Value} {below : List Frame} {meth : Method} {c : Code} {Q : State → Prop} {D : va_G} {cA cW cJ : ClassId} {T Tm : Nat → Nat} {bo b9 LL : Nat} {xs : Nat → Int32} {H : Heap} {locs : List Loc} {cells slots : Nat} {ls : Array Slot} (l : Launch) (hfl : l.flags = pinnedFlags ++ [noTraceFlag]) (X : lwX D cA cW cJ T Tm bo s) (S : CallFix p m c bL_law 8 s args nzG RL) (hXs : va_X b9 LL xs s s.heap) (hbl : b9 < s.heap.size) (hLL : LL ≤ 3072) (i9 : Nat) (hi : i9 + 6 ≤ LL) (hG : lwG D cA cW cJ T Tm bo s H locs) (hc : cells + 1 ≤ 601024 ∧ slots + 6 ≤ 7293034) (hl : lv_has ls 8 (lwL b9 T Tm bo i9)) (kk : ∀ (H : Heap) (locs : List Loc) (ls : Array Slot), lwG D cA cW cJ T Tm bo s H locs → lv_has ls 8 (lwL b9 T Tm bo i9) → W p l e room_1 s m args below meth c H locs (cells + 1) (slots + 6) Q (F0 m 1274 ls [])) : W p l e room_1 s m args below meth c H locs cells slots Q (F0 m 695 ls []) := by
  have hx := S.1
  have hb := S.2.1
  obtain ⟨n, g, C, L, O, c0, k, f, ok, okm, hRel, hH, hS⟩ := hG
  refine lv_aload_n hx hb dL_law_695 rfl (lv_at hl 1 rfl) ?_
  refine lw_sc (i9 := i9) (j9 := 1) hx hb hXs hbl hLL hS (by omega) (lv_at hl 0 rfl) (lv_at hl 4 rfl) dL_law_696 dL_law_697 dL_law_699 dL_law_700 dL_law_701 ?_
  refine lw_sc (i9 := i9) (j9 := 2) hx hb hXs hbl hLL hS (by omega) (lv_at hl 0 rfl) (lv_at hl 4 rfl) dL_law_702 dL_law_703 dL_law_705 dL_law_706 dL_law_707 ?_
  refine lw_sc (i9 := i9) (j9 := 3) hx hb hXs hbl hLL hS (by omega) (lv_at hl 0 rfl) (lv_at hl 4 rfl) dL_law_708 dL_law_709 dL_law_711 dL_law_712 dL_law_713 ?_
  refine lw_sc (i9 := i9) (j9 := 4) hx hb hXs hbl hLL hS (by omega) (lv_at hl 0 rfl) (lv_at hl 4 rfl) dL_law_714 dL_law_715 dL_law_717 dL_law_718 dL_law_719 ?_
  refine lw_sc (i9 := i9) (j9 := 5) hx hb hXs hbl hLL hS (by omega) (lv_at hl 0 rfl) (lv_at hl 4 rfl) dL_law_720 dL_law_721 dL_law_723 dL_law_724 dL_law_725 ?_
  refine lw_w (As := [.int (xs (i9 + 1)), .int (xs (i9 + 2)), .int (xs (i9 + 3)), .int (xs (i9 + 4)), .int (xs (i9 + 5))]) (rest := []) X S (cL_shift l hfl D cA cW T X.hT n g ok (x1 := xs (i9 + 1)) (x2 := xs (i9 + 2)) (x3 := xs (i9 + 3)) (x4 := xs (i9 + 4)) (x5 := xs (i9 + 5))) kLs_shift ⟨rfl, rfl, (Nat.le_of_ble_eq_true rfl), (Nat.le_of_ble_eq_true rfl)⟩ hc ok hH hS rfl hl.1 rfl (Nat.le_of_ble_eq_true rfl) dL_law_726 (fun n1 g1 H locs hU0 hU1 ok1 hH hS => ?_)
  refine lv_istore (lv' := (5, .int (nI (kShift (xs (i9 + 1)) (xs (i9 + 2)) (xs (i9 + 3)) (xs (i9 + 4)) (xs (i9 + 5))))) :: lwL b9 T Tm bo i9) hx hb dL_law_729 hl (by decide) rfl (fun ls hl => ?_)
  refine lv_aload_n hx hb dL_law_731 rfl (lv_at hl 3 rfl) ?_
  refine lw_sc (i9 := i9) (j9 := 1) hx hb hXs hbl hLL hS (by omega) (lv_at hl 1 rfl) (lv_at hl 5 rfl) dL_law_732 dL_law_733 dL_law_735 dL_law_736 dL_law_737 ?_
  refine lw_sc (i9 := i9) (j9 := 2) hx hb hXs hbl hLL hS (by omega) (lv_at hl 1 rfl) (lv_at hl 5 rfl) dL_law_738 dL_law_739 dL_law_741 dL_law_742 dL_law_743 ?_
  refine lw_sc (i9 := i9) (j9 := 3) hx hb hXs hbl hLL hS (by omega) (lv_at hl 1 rfl) (lv_at hl 5 rfl) dL_law_744 dL_law_745 dL_law_747 dL_law_748 dL_law_749 ?_
  refine lw_sc (i9 := i9) (j9 := 4) hx hb hXs hbl hLL hS (by omega) (lv_at hl 1 rfl) (lv_at hl 5 rfl) dL_law_750 dL_law_751 dL_law_753 dL_law_754 dL_law_755 ?_
  refine lw_sc (i9 := i9) (j9 := 5) hx hb hXs hbl hLL hS (by omega) (lv_at hl 1 rfl) (lv_at hl 5 rfl) dL_law_756 dL_law_757 dL_law_759 dL_law_760 dL_law_761 ?_
  refine lw_m (As := [.int (xs (i9 + 1)), .int (xs (i9 + 2)), .int (xs (i9 + 3)), .int (xs (i9 + 4)), .int (xs (i9 + 5))]) (rest := []) X S (c_Mo_shift l D cA Tm X.hM k C L O c0 okm (x1 := xs (i9 + 1)) (x2 := xs (i9 + 2)) (x3 := xs (i9 + 3)) (x4 := xs (i9 + 4)) (x5 := xs (i9 + 5))) kL_118 ⟨rfl, rfl, (Nat.le_of_ble_eq_true rfl), (Nat.le_of_ble_eq_true rfl)⟩ hc hH hS rfl hl.1 rfl (Nat.le_of_ble_eq_true rfl) dL_law_762 (fun C1 L1 O1 c1 H locs hV0 hV1 okm1 hH hS => ?_)
  refine lv_aload_n hx hb dL_law_765 rfl (lv_at hl 3 rfl) ?_
  refine lw_t X S ⟨(Nat.le_of_ble_eq_true rfl), (Nat.le_of_ble_eq_true rfl)⟩ hc hH hl.1 (Nat.le_of_ble_eq_true rfl) dL_law_766 ?_
  refine lv_iload hx hb dL_law_769 (lv_at hl 0 rfl) ?_
  refine lv_icmp_eq (tgt := 776) hx hb dL_law_771 (by decide) (fun _ => ?_) (fun c1 => ?_)
  · refine lv_goto (tgt := 1274) hx hb dL_law_776 (by decide) ?_
    exact kk _ _ _ ⟨n1, g1, C1, L1, O1, c1, _, f, ok1, okm1, Rel.step hRel ok hU0 hU1 hV0 hV1 (rfl) (fun h0 => by
      rw [hRel.len (k0_shift h0)]
      exact ⟨rfl, g_shift _ _ _ (hRel.e (k0_shift h0))⟩), hH, hS⟩ (lv_sub hl [1, 2, 3, 4, 5] rfl)
  · exact absurd (congrArg nI (rfl)).symm c1
set_option maxHeartbeats 4000000 in
set_option maxRecDepth 100000 in
theorem law_bring {p : Program} {e : Env} {s : State} {m : MethodId} {args : Array Value} {below : List Frame} {meth : Method} {c : Code} {Q : State → Prop} {D : va_G} {cA cW cJ : ClassId} {T Tm : Nat → Nat} {bo b9 LL : Nat} {xs : Nat → Int32} {H : Heap} {locs : List Loc} {cells slots : Nat} {ls : Array Slot} (l : Launch) (hfl : l.flags = pinnedFlags ++ [noTraceFlag]) (X : lwX D cA cW cJ T Tm bo s) (S : CallFix p m c bL_law 8 s args nzG RL) (hXs : va_X b9 LL xs s s.heap) (hbl : b9 < s.heap.size) (hLL : LL ≤ 3072) (i9 : Nat) (hi : i9 + 6 ≤ LL) (hG : lwG D cA cW cJ T Tm bo s H locs) (hc : cells + 1 ≤ 601024 ∧ slots + 6 ≤ 7293034) (hl : lv_has ls 8 (lwL b9 T Tm bo i9)) (kk : ∀ (H : Heap) (locs : List Loc) (ls : Array Slot), lwG D cA cW cJ T Tm bo s H locs → lv_has ls 8 (lwL b9 T Tm bo i9) → W p l e room_1 s m args below meth c H locs (cells + 1) (slots + 6) Q (F0 m 1274 ls [])) : W p l e room_1 s m args below meth c H locs cells slots Q (F0 m 779 ls []) := by
  have hx := S.1
  have hb := S.2.1
  obtain ⟨n, g, C, L, O, c0, k, f, ok, okm, hRel, hH, hS⟩ := hG
  refine lv_aload_n hx hb dL_law_779 rfl (lv_at hl 1 rfl) ?_
  refine lw_sc (i9 := i9) (j9 := 1) hx hb hXs hbl hLL hS (by omega) (lv_at hl 0 rfl) (lv_at hl 4 rfl) dL_law_780 dL_law_781 dL_law_783 dL_law_784 dL_law_785 ?_
  refine lw_b hx hb dL_law_786 dL_law_789 dL_law_790 dL_law_793 ?_
  refine lw_sc (i9 := i9) (j9 := 2) hx hb hXs hbl hLL hS (by omega) (lv_at hl 0 rfl) (lv_at hl 4 rfl) dL_law_794 dL_law_795 dL_law_797 dL_law_798 dL_law_799 ?_
  refine lw_sc (i9 := i9) (j9 := 3) hx hb hXs hbl hLL hS (by omega) (lv_at hl 0 rfl) (lv_at hl 4 rfl) dL_law_800 dL_law_801 dL_law_803 dL_law_804 dL_law_805 ?_
  refine lw_sc (i9 := i9) (j9 := 4) hx hb hXs hbl hLL hS (by omega) (lv_at hl 0 rfl) (lv_at hl 4 rfl) dL_law_806 dL_law_807 dL_law_809 dL_law_810 dL_law_811 ?_
  refine lw_w (As := [.int (nI (zB1 (xs (i9 + 1)))), .int (xs (i9 + 2)), .int (xs (i9 + 3)), .int (xs (i9 + 4))]) (rest := []) X S (cL_bring l hfl D cA cW T X.hT n g ok (b1 := zB1 (xs (i9 + 1))) (hb1 := zB1_lt _) (x2 := xs (i9 + 2)) (x3 := xs (i9 + 3)) (x4 := xs (i9 + 4))) kLs_bring ⟨rfl, rfl, (Nat.le_of_ble_eq_true rfl), (Nat.le_of_ble_eq_true rfl)⟩ hc ok hH hS rfl hl.1 rfl (Nat.le_of_ble_eq_true rfl) dL_law_812 (fun n1 g1 H locs hU0 hU1 ok1 hH hS => ?_)
  refine lv_istore (lv' := (5, .int (nI (kBring (xs (i9 + 2)) (xs (i9 + 3)) (xs (i9 + 4))))) :: lwL b9 T Tm bo i9) hx hb dL_law_815 hl (by decide) rfl (fun ls hl => ?_)
  refine lv_aload_n hx hb dL_law_817 rfl (lv_at hl 3 rfl) ?_
  refine lw_sc (i9 := i9) (j9 := 1) hx hb hXs hbl hLL hS (by omega) (lv_at hl 1 rfl) (lv_at hl 5 rfl) dL_law_818 dL_law_819 dL_law_821 dL_law_822 dL_law_823 ?_
  refine lw_b hx hb dL_law_824 dL_law_827 dL_law_828 dL_law_831 ?_
  refine lw_sc (i9 := i9) (j9 := 2) hx hb hXs hbl hLL hS (by omega) (lv_at hl 1 rfl) (lv_at hl 5 rfl) dL_law_832 dL_law_833 dL_law_835 dL_law_836 dL_law_837 ?_
  refine lw_sc (i9 := i9) (j9 := 3) hx hb hXs hbl hLL hS (by omega) (lv_at hl 1 rfl) (lv_at hl 5 rfl) dL_law_838 dL_law_839 dL_law_841 dL_law_842 dL_law_843 ?_
  refine lw_sc (i9 := i9) (j9 := 4) hx hb hXs hbl hLL hS (by omega) (lv_at hl 1 rfl) (lv_at hl 5 rfl) dL_law_844 dL_law_845 dL_law_847 dL_law_848 dL_law_849 ?_
  refine lw_m (As := [.int (nI (zB1 (xs (i9 + 1)))), .int (xs (i9 + 2)), .int (xs (i9 + 3)), .int (xs (i9 + 4))]) (rest := []) X S (c_Mo_bring l D cA Tm X.hM k C L O c0 okm (b1 := zB1 (xs (i9 + 1))) (hb1 := zB1_lt _) (x2 := xs (i9 + 2)) (x3 := xs (i9 + 3)) (x4 := xs (i9 + 4))) kL_122 ⟨rfl, rfl, (Nat.le_of_ble_eq_true rfl), (Nat.le_of_ble_eq_true rfl)⟩ hc hH hS rfl hl.1 rfl (Nat.le_of_ble_eq_true rfl) dL_law_850 (fun C1 L1 O1 c1 H locs hV0 hV1 okm1 hH hS => ?_)
  refine lv_aload_n hx hb dL_law_853 rfl (lv_at hl 3 rfl) ?_
  refine lw_t X S ⟨(Nat.le_of_ble_eq_true rfl), (Nat.le_of_ble_eq_true rfl)⟩ hc hH hl.1 (Nat.le_of_ble_eq_true rfl) dL_law_854 ?_
  refine lv_iload hx hb dL_law_857 (lv_at hl 0 rfl) ?_
  refine lv_icmp_eq (tgt := 864) hx hb dL_law_859 (by decide) (fun _ => ?_) (fun c1 => ?_)
  · refine lv_goto (tgt := 1274) hx hb dL_law_864 (by decide) ?_
    exact kk _ _ _ ⟨n1, g1, C1, L1, O1, c1, _, f, ok1, okm1, Rel.step hRel ok hU0 hU1 hV0 hV1 (rfl) (fun h0 => by
      rw [hRel.len (k0_bring h0), g_bring _ (hRel.e (k0_bring h0))]
      exact ⟨rfl, fun _ _ => rfl⟩), hH, hS⟩ (lv_sub hl [1, 2, 3, 4, 5] rfl)
  · exact absurd (congrArg nI (rfl)).symm c1
set_option maxHeartbeats 4000000 in
set_option maxRecDepth 100000 in
theorem law_cut {p : Program} {e : Env} {s : State} {m : MethodId} {args : Array Value} {below : List Frame} {meth : Method} {c : Code} {Q : State → Prop} {D : va_G} {cA cW cJ : ClassId} {T Tm : Nat → Nat} {bo b9 LL : Nat} {xs : Nat → Int32} {H : Heap} {locs : List Loc} {cells slots : Nat} {ls : Array Slot} (l : Launch) (hfl : l.flags = pinnedFlags ++ [noTraceFlag]) (X : lwX D cA cW cJ T Tm bo s) (S : CallFix p m c bL_law 8 s args nzG RL) (hXs : va_X b9 LL xs s s.heap) (hbl : b9 < s.heap.size) (hLL : LL ≤ 3072) (i9 : Nat) (hi : i9 + 6 ≤ LL) (hG : lwG D cA cW cJ T Tm bo s H locs) (hc : cells + 1 ≤ 601024 ∧ slots + 6 ≤ 7293034) (hl : lv_has ls 8 (lwL b9 T Tm bo i9)) (kk : ∀ (H : Heap) (locs : List Loc) (ls : Array Slot), lwG D cA cW cJ T Tm bo s H locs → lv_has ls 8 (lwL b9 T Tm bo i9) → W p l e room_1 s m args below meth c H locs (cells + 1) (slots + 6) Q (F0 m 1274 ls [])) : W p l e room_1 s m args below meth c H locs cells slots Q (F0 m 867 ls []) := by
  have hx := S.1
  have hb := S.2.1
  obtain ⟨n, g, C, L, O, c0, k, f, ok, okm, hRel, hH, hS⟩ := hG
  refine lv_aload_n hx hb dL_law_867 rfl (lv_at hl 1 rfl) ?_
  refine lw_sc (i9 := i9) (j9 := 1) hx hb hXs hbl hLL hS (by omega) (lv_at hl 0 rfl) (lv_at hl 4 rfl) dL_law_868 dL_law_869 dL_law_871 dL_law_872 dL_law_873 ?_
  refine lw_sc (i9 := i9) (j9 := 2) hx hb hXs hbl hLL hS (by omega) (lv_at hl 0 rfl) (lv_at hl 4 rfl) dL_law_874 dL_law_875 dL_law_877 dL_law_878 dL_law_879 ?_
  refine lw_sc (i9 := i9) (j9 := 3) hx hb hXs hbl hLL hS (by omega) (lv_at hl 0 rfl) (lv_at hl 4 rfl) dL_law_880 dL_law_881 dL_law_883 dL_law_884 dL_law_885 ?_
  refine lw_sc (i9 := i9) (j9 := 4) hx hb hXs hbl hLL hS (by omega) (lv_at hl 0 rfl) (lv_at hl 4 rfl) dL_law_886 dL_law_887 dL_law_889 dL_law_890 dL_law_891 ?_
  refine lw_w (As := [.int (xs (i9 + 1)), .int (xs (i9 + 2)), .int (xs (i9 + 3)), .int (xs (i9 + 4))]) (rest := []) X S (cL_cut l hfl D cA cW T X.hT n g ok (x1 := xs (i9 + 1)) (x2 := xs (i9 + 2)) (x3 := xs (i9 + 3)) (x4 := xs (i9 + 4))) kLs_cut ⟨rfl, rfl, (Nat.le_of_ble_eq_true rfl), (Nat.le_of_ble_eq_true rfl)⟩ hc ok hH hS rfl hl.1 rfl (Nat.le_of_ble_eq_true rfl) dL_law_892 (fun n1 g1 H locs hU0 hU1 ok1 hH hS => ?_)
  refine lv_istore (lv' := (5, .int (nI (kCut n (xs (i9 + 1)) (xs (i9 + 2)) (xs (i9 + 3)) (xs (i9 + 4))))) :: lwL b9 T Tm bo i9) hx hb dL_law_895 hl (by decide) rfl (fun ls hl => ?_)
  refine lv_aload_n hx hb dL_law_897 rfl (lv_at hl 3 rfl) ?_
  refine lw_sc (i9 := i9) (j9 := 1) hx hb hXs hbl hLL hS (by omega) (lv_at hl 1 rfl) (lv_at hl 5 rfl) dL_law_898 dL_law_899 dL_law_901 dL_law_902 dL_law_903 ?_
  refine lw_sc (i9 := i9) (j9 := 2) hx hb hXs hbl hLL hS (by omega) (lv_at hl 1 rfl) (lv_at hl 5 rfl) dL_law_904 dL_law_905 dL_law_907 dL_law_908 dL_law_909 ?_
  refine lw_sc (i9 := i9) (j9 := 3) hx hb hXs hbl hLL hS (by omega) (lv_at hl 1 rfl) (lv_at hl 5 rfl) dL_law_910 dL_law_911 dL_law_913 dL_law_914 dL_law_915 ?_
  refine lw_sc (i9 := i9) (j9 := 4) hx hb hXs hbl hLL hS (by omega) (lv_at hl 1 rfl) (lv_at hl 5 rfl) dL_law_916 dL_law_917 dL_law_919 dL_law_920 dL_law_921 ?_
  refine lw_m (As := [.int (xs (i9 + 1)), .int (xs (i9 + 2)), .int (xs (i9 + 3)), .int (xs (i9 + 4))]) (rest := []) X S (c_Mo_cut l D cA Tm X.hM k C L O c0 okm (x1 := xs (i9 + 1)) (x2 := xs (i9 + 2)) (x3 := xs (i9 + 3)) (x4 := xs (i9 + 4))) kL_126 ⟨rfl, rfl, (Nat.le_of_ble_eq_true rfl), (Nat.le_of_ble_eq_true rfl)⟩ hc hH hS rfl hl.1 rfl (Nat.le_of_ble_eq_true rfl) dL_law_922 (fun C1 L1 O1 c1 H locs hV0 hV1 okm1 hH hS => ?_)
  refine lv_aload_n hx hb dL_law_925 rfl (lv_at hl 3 rfl) ?_
  refine lw_t X S ⟨(Nat.le_of_ble_eq_true rfl), (Nat.le_of_ble_eq_true rfl)⟩ hc hH hl.1 (Nat.le_of_ble_eq_true rfl) dL_law_926 ?_
  refine lv_iload hx hb dL_law_929 (lv_at hl 0 rfl) ?_
  refine lv_icmp_eq (tgt := 936) hx hb dL_law_931 (by decide) (fun _ => ?_) (fun c1 => ?_)
  · refine lv_goto (tgt := 1274) hx hb dL_law_936 (by decide) ?_
    exact kk _ _ _ ⟨n1, g1, C1, L1, O1, c1, _, f, ok1, okm1, Rel.step hRel ok hU0 hU1 hV0 hV1 (r_cut hRel) (fun h0 => ⟨rfl, fun j hj => hRel.e (k0_cut ok h0).1 _ (by have := (k0_cut ok h0).2; omega)⟩), hH, hS⟩ (lv_sub hl [1, 2, 3, 4, 5] rfl)
  · exact absurd (congrArg nI (r_cut hRel)).symm c1
set_option maxHeartbeats 4000000 in
set_option maxRecDepth 100000 in
theorem law_compare {p : Program} {e : Env} {s : State} {m : MethodId} {args : Array Value} {below : List Frame} {meth : Method} {c : Code} {Q : State → Prop} {D : va_G} {cA cW cJ : ClassId} {T Tm : Nat → Nat} {bo b9 LL : Nat} {xs : Nat → Int32} {H : Heap} {locs : List Loc} {cells slots : Nat} {ls : Array Slot} (l : Launch) (hfl : l.flags = pinnedFlags ++ [noTraceFlag]) (X : lwX D cA cW cJ T Tm bo s) (S : CallFix p m c bL_law 8 s args nzG RL) (hXs : va_X b9 LL xs s s.heap) (hbl : b9 < s.heap.size) (hLL : LL ≤ 3072) (i9 : Nat) (hi : i9 + 6 ≤ LL) (hG : lwG D cA cW cJ T Tm bo s H locs) (hc : cells + 1 ≤ 601024 ∧ slots + 6 ≤ 7293034) (hl : lv_has ls 8 (lwL b9 T Tm bo i9)) (kk : ∀ (H : Heap) (locs : List Loc) (ls : Array Slot), lwG D cA cW cJ T Tm bo s H locs → lv_has ls 8 (lwL b9 T Tm bo i9) → W p l e room_1 s m args below meth c H locs (cells + 1) (slots + 6) Q (F0 m 1274 ls [])) : W p l e room_1 s m args below meth c H locs cells slots Q (F0 m 939 ls []) := by
  have hx := S.1
  have hb := S.2.1
  obtain ⟨n, g, C, L, O, c0, k, f, ok, okm, hRel, hH, hS⟩ := hG
  refine lv_aload_n hx hb dL_law_939 rfl (lv_at hl 1 rfl) ?_
  refine lw_sc (i9 := i9) (j9 := 1) hx hb hXs hbl hLL hS (by omega) (lv_at hl 0 rfl) (lv_at hl 4 rfl) dL_law_940 dL_law_941 dL_law_943 dL_law_944 dL_law_945 ?_
  refine lw_b hx hb dL_law_946 dL_law_949 dL_law_950 dL_law_953 ?_
  refine lw_sc (i9 := i9) (j9 := 2) hx hb hXs hbl hLL hS (by omega) (lv_at hl 0 rfl) (lv_at hl 4 rfl) dL_law_954 dL_law_955 dL_law_957 dL_law_958 dL_law_959 ?_
  refine lw_sc (i9 := i9) (j9 := 3) hx hb hXs hbl hLL hS (by omega) (lv_at hl 0 rfl) (lv_at hl 4 rfl) dL_law_960 dL_law_961 dL_law_963 dL_law_964 dL_law_965 ?_
  refine lv_aload_n hx hb dL_law_966 rfl (lv_at hl 3 rfl) ?_
  refine lw_o (As := [.int (nI (zB1 (xs (i9 + 1)))), .int (xs (i9 + 2)), .int (xs (i9 + 3)), .ref bo]) (rest := []) X S (cL_compare l hfl D cA cW T X.hT n g ok cJ bo f (b1 := zB1 (xs (i9 + 1))) (hb1 := zB1_lt _) (x2 := xs (i9 + 2)) (x3 := xs (i9 + 3))) kLs_compare ⟨rfl, rfl, (Nat.le_of_ble_eq_true rfl), (Nat.le_of_ble_eq_true rfl)⟩ hc hH hS rfl hl.1 rfl (Nat.le_of_ble_eq_true rfl) dL_law_967 (fun f1 H locs hO hH hS => ?_)
  refine lv_istore (lv' := (5, .int (nI (kPl2 (xs (i9 + 2)) (xs (i9 + 3))))) :: lwL b9 T Tm bo i9) hx hb dL_law_970 hl (by decide) rfl (fun ls hl => ?_)
  refine lv_aload_n hx hb dL_law_972 rfl (lv_at hl 3 rfl) ?_
  refine lw_sc (i9 := i9) (j9 := 1) hx hb hXs hbl hLL hS (by omega) (lv_at hl 1 rfl) (lv_at hl 5 rfl) dL_law_973 dL_law_974 dL_law_976 dL_law_977 dL_law_978 ?_
  refine lw_b hx hb dL_law_979 dL_law_982 dL_law_983 dL_law_986 ?_
  refine lw_sc (i9 := i9) (j9 := 2) hx hb hXs hbl hLL hS (by omega) (lv_at hl 1 rfl) (lv_at hl 5 rfl) dL_law_987 dL_law_988 dL_law_990 dL_law_991 dL_law_992 ?_
  refine lw_sc (i9 := i9) (j9 := 3) hx hb hXs hbl hLL hS (by omega) (lv_at hl 1 rfl) (lv_at hl 5 rfl) dL_law_993 dL_law_994 dL_law_996 dL_law_997 dL_law_998 ?_
  refine lw_ri (As := [.int (nI (zB1 (xs (i9 + 1)))), .int (xs (i9 + 2)), .int (xs (i9 + 3))]) (rest := []) X S (c_Mo_compare l D cA Tm X.hM k C L O c0 okm (b1 := zB1 (xs (i9 + 1))) (hb1 := zB1_lt _) (x2 := xs (i9 + 2)) (x3 := xs (i9 + 3))) kL_130 ⟨rfl, rfl, (Nat.le_of_ble_eq_true rfl), (Nat.le_of_ble_eq_true rfl)⟩ hc hH hS rfl hl.1 rfl (Nat.le_of_ble_eq_true rfl) dL_law_999 (fun r H locs hr1 hH hS => ?_)
  refine lv_istore (lv' := (6, .int r) :: (5, .int (nI (kPl2 (xs (i9 + 2)) (xs (i9 + 3))))) :: lwL b9 T Tm bo i9) hx hb dL_law_1002 hl (by decide) rfl (fun ls hl => ?_)
  refine lv_aload_n hx hb dL_law_1004 rfl (lv_at hl 4 rfl) ?_
  refine lw_t X S ⟨(Nat.le_of_ble_eq_true rfl), (Nat.le_of_ble_eq_true rfl)⟩ hc hH hl.1 (Nat.le_of_ble_eq_true rfl) dL_law_1005 ?_
  refine lv_iload hx hb dL_law_1008 (lv_at hl 1 rfl) ?_
  refine lv_icmp_eq (tgt := 1015) hx hb dL_law_1010 (by decide) (fun _ => ?_) (fun c1 => absurd (congrArg nI (rfl)).symm c1)
  refine lv_iload hx hb dL_law_1015 (lv_at hl 1 rfl) ?_
  refine lv_if_ne (tgt := 1032) hx hb dL_law_1017 (by decide) (fun _ => ?_) (fun c2 => ?_)
  · refine lv_goto (tgt := 1274) hx hb dL_law_1032 (by decide) ?_
    exact kk _ _ _ ⟨n, g, C, L, O, c0, _, f1, ok, okm, hRel, hH, hS⟩ (lv_sub hl [2, 3, 4, 5, 6] rfl)
  · have h0 : kPl2 (xs (i9 + 2)) (xs (i9 + 3)) = 0 := k01 (fun q => Or.inl (kPl2_in q)) c2
    refine lv_aload_n hx hb dL_law_1020 rfl (lv_at hl 5 rfl) ?_
    refine lv_iconst (v := 0) hx hb dL_law_1021 (by decide) ?_
    refine va_lald hx hb X.hK hH.2.1 0 2 rfl rfl (vp_in_nI (n := 0) (N := 1) (by decide) (by decide)) dL_law_1022 ?_
    refine lv_iload hx hb dL_law_1023 (lv_at hl 0 rfl) ?_
    have hv := hr1 h0
    have hw := hO h0
    have hE : f1 0 = r.toInt64 := by
      rw [hw, hv]
      exact congrArg Int32.toInt64 (by rw [hRel.len (k0_pl2 h0).1, hRel.len (k0_pl2 h0).2, g_compare _ (hRel.e (k0_pl2 h0).1) (hRel.e (k0_pl2 h0).2)])
    refine lv_i2l hx hb dL_law_1025 rfl ?_
    refine W.lcmp hx hb dL_law_1026 ?_
    refine lv_if_eq (tgt := 1032) hx hb dL_law_1027 (by decide) (fun _ => ?_) (fun c3 => absurd (lg_cmp_of hE) c3)
    refine lv_goto (tgt := 1274) hx hb dL_law_1032 (by decide) ?_
    exact kk _ _ _ ⟨n, g, C, L, O, c0, _, f1, ok, okm, hRel, hH, hS⟩ (lv_sub hl [2, 3, 4, 5, 6] rfl)
set_option maxHeartbeats 4000000 in
set_option maxRecDepth 100000 in
theorem law_same {p : Program} {e : Env} {s : State} {m : MethodId} {args : Array Value} {below : List Frame} {meth : Method} {c : Code} {Q : State → Prop} {D : va_G} {cA cW cJ : ClassId} {T Tm : Nat → Nat} {bo b9 LL : Nat} {xs : Nat → Int32} {H : Heap} {locs : List Loc} {cells slots : Nat} {ls : Array Slot} (l : Launch) (hfl : l.flags = pinnedFlags ++ [noTraceFlag]) (X : lwX D cA cW cJ T Tm bo s) (S : CallFix p m c bL_law 8 s args nzG RL) (hXs : va_X b9 LL xs s s.heap) (hbl : b9 < s.heap.size) (hLL : LL ≤ 3072) (i9 : Nat) (hi : i9 + 6 ≤ LL) (hG : lwG D cA cW cJ T Tm bo s H locs) (hc : cells + 1 ≤ 601024 ∧ slots + 6 ≤ 7293034) (hl : lv_has ls 8 (lwL b9 T Tm bo i9)) (kk : ∀ (H : Heap) (locs : List Loc) (ls : Array Slot), lwG D cA cW cJ T Tm bo s H locs → lv_has ls 8 (lwL b9 T Tm bo i9) → W p l e room_1 s m args below meth c H locs (cells + 1) (slots + 6) Q (F0 m 1274 ls [])) : W p l e room_1 s m args below meth c H locs cells slots Q (F0 m 1035 ls []) := by
  have hx := S.1
  have hb := S.2.1
  obtain ⟨n, g, C, L, O, c0, k, f, ok, okm, hRel, hH, hS⟩ := hG
  refine lv_aload_n hx hb dL_law_1035 rfl (lv_at hl 1 rfl) ?_
  refine lw_sc (i9 := i9) (j9 := 1) hx hb hXs hbl hLL hS (by omega) (lv_at hl 0 rfl) (lv_at hl 4 rfl) dL_law_1036 dL_law_1037 dL_law_1039 dL_law_1040 dL_law_1041 ?_
  refine lw_b hx hb dL_law_1042 dL_law_1045 dL_law_1046 dL_law_1049 ?_
  refine lw_sc (i9 := i9) (j9 := 2) hx hb hXs hbl hLL hS (by omega) (lv_at hl 0 rfl) (lv_at hl 4 rfl) dL_law_1050 dL_law_1051 dL_law_1053 dL_law_1054 dL_law_1055 ?_
  refine lw_sc (i9 := i9) (j9 := 3) hx hb hXs hbl hLL hS (by omega) (lv_at hl 0 rfl) (lv_at hl 4 rfl) dL_law_1056 dL_law_1057 dL_law_1059 dL_law_1060 dL_law_1061 ?_
  refine lv_aload_n hx hb dL_law_1062 rfl (lv_at hl 3 rfl) ?_
  refine lw_o (As := [.int (nI (zB1 (xs (i9 + 1)))), .int (xs (i9 + 2)), .int (xs (i9 + 3)), .ref bo]) (rest := []) X S (cL_same l hfl D cA cW T X.hT n g ok cJ bo f (b1 := zB1 (xs (i9 + 1))) (hb1 := zB1_lt _) (x2 := xs (i9 + 2)) (x3 := xs (i9 + 3))) kLs_same ⟨rfl, rfl, (Nat.le_of_ble_eq_true rfl), (Nat.le_of_ble_eq_true rfl)⟩ hc hH hS rfl hl.1 rfl (Nat.le_of_ble_eq_true rfl) dL_law_1063 (fun f1 H locs hO hH hS => ?_)
  refine lv_istore (lv' := (5, .int (nI (kPl2 (xs (i9 + 2)) (xs (i9 + 3))))) :: lwL b9 T Tm bo i9) hx hb dL_law_1066 hl (by decide) rfl (fun ls hl => ?_)
  refine lv_aload_n hx hb dL_law_1068 rfl (lv_at hl 3 rfl) ?_
  refine lw_sc (i9 := i9) (j9 := 1) hx hb hXs hbl hLL hS (by omega) (lv_at hl 1 rfl) (lv_at hl 5 rfl) dL_law_1069 dL_law_1070 dL_law_1072 dL_law_1073 dL_law_1074 ?_
  refine lw_b hx hb dL_law_1075 dL_law_1078 dL_law_1079 dL_law_1082 ?_
  refine lw_sc (i9 := i9) (j9 := 2) hx hb hXs hbl hLL hS (by omega) (lv_at hl 1 rfl) (lv_at hl 5 rfl) dL_law_1083 dL_law_1084 dL_law_1086 dL_law_1087 dL_law_1088 ?_
  refine lw_sc (i9 := i9) (j9 := 3) hx hb hXs hbl hLL hS (by omega) (lv_at hl 1 rfl) (lv_at hl 5 rfl) dL_law_1089 dL_law_1090 dL_law_1092 dL_law_1093 dL_law_1094 ?_
  refine lw_ri (As := [.int (nI (zB1 (xs (i9 + 1)))), .int (xs (i9 + 2)), .int (xs (i9 + 3))]) (rest := []) X S (c_Mo_same l D cA Tm X.hM k C L O c0 okm (b1 := zB1 (xs (i9 + 1))) (hb1 := zB1_lt _) (x2 := xs (i9 + 2)) (x3 := xs (i9 + 3))) kL_133 ⟨rfl, rfl, (Nat.le_of_ble_eq_true rfl), (Nat.le_of_ble_eq_true rfl)⟩ hc hH hS rfl hl.1 rfl (Nat.le_of_ble_eq_true rfl) dL_law_1095 (fun r H locs hr1 hH hS => ?_)
  refine lv_istore (lv' := (6, .int r) :: (5, .int (nI (kPl2 (xs (i9 + 2)) (xs (i9 + 3))))) :: lwL b9 T Tm bo i9) hx hb dL_law_1098 hl (by decide) rfl (fun ls hl => ?_)
  refine lv_aload_n hx hb dL_law_1100 rfl (lv_at hl 4 rfl) ?_
  refine lw_t X S ⟨(Nat.le_of_ble_eq_true rfl), (Nat.le_of_ble_eq_true rfl)⟩ hc hH hl.1 (Nat.le_of_ble_eq_true rfl) dL_law_1101 ?_
  refine lv_iload hx hb dL_law_1104 (lv_at hl 1 rfl) ?_
  refine lv_icmp_eq (tgt := 1111) hx hb dL_law_1106 (by decide) (fun _ => ?_) (fun c1 => absurd (congrArg nI (rfl)).symm c1)
  refine lv_iload hx hb dL_law_1111 (lv_at hl 1 rfl) ?_
  refine lv_if_ne (tgt := 1135) hx hb dL_law_1113 (by decide) (fun _ => ?_) (fun c2 => ?_)
  · refine lv_goto (tgt := 1274) hx hb dL_law_1135 (by decide) ?_
    exact kk _ _ _ ⟨n, g, C, L, O, c0, _, f1, ok, okm, hRel, hH, hS⟩ (lv_sub hl [2, 3, 4, 5, 6] rfl)
  · have h0 : kPl2 (xs (i9 + 2)) (xs (i9 + 3)) = 0 := k01 (fun q => Or.inl (kPl2_in q)) c2
    refine lv_aload_n hx hb dL_law_1116 rfl (lv_at hl 5 rfl) ?_
    refine lv_iconst (v := 0) hx hb dL_law_1117 (by decide) ?_
    refine va_lald hx hb X.hK hH.2.1 0 2 rfl rfl (vp_in_nI (n := 0) (N := 1) (by decide) (by decide)) dL_law_1118 ?_
    refine lv_iload hx hb dL_law_1119 (lv_at hl 0 rfl) ?_
    have hv := hr1 h0
    have hw := hO h0
    have hE : f1 0 = r.toInt64 := by
      rw [hw, hv]
      exact congrArg Int32.toInt64 (by rw [hRel.len (k0_pl2 h0).1, hRel.len (k0_pl2 h0).2, g_same _ (hRel.e (k0_pl2 h0).1) (hRel.e (k0_pl2 h0).2)])
    refine lw_bl hx hb dL_law_1121 dL_law_1124 dL_law_1125 dL_law_1128 ?_
    have hz : (nI (zB1 r)).toInt64 = r.toInt64 := by rw [hv, zB1_same]
    rw [hz]
    refine W.lcmp hx hb dL_law_1129 ?_
    refine lv_if_eq (tgt := 1135) hx hb dL_law_1130 (by decide) (fun _ => ?_) (fun c3 => absurd (lg_cmp_of hE) c3)
    refine lv_goto (tgt := 1274) hx hb dL_law_1135 (by decide) ?_
    exact kk _ _ _ ⟨n, g, C, L, O, c0, _, f1, ok, okm, hRel, hH, hS⟩ (lv_sub hl [2, 3, 4, 5, 6] rfl)
set_option maxHeartbeats 4000000 in
set_option maxRecDepth 100000 in
theorem law_all {p : Program} {e : Env} {s : State} {m : MethodId} {args : Array Value} {below : List Frame} {meth : Method} {c : Code} {Q : State → Prop} {D : va_G} {cA cW cJ : ClassId} {T Tm : Nat → Nat} {bo b9 LL : Nat} {xs : Nat → Int32} {H : Heap} {locs : List Loc} {cells slots : Nat} {ls : Array Slot} (l : Launch) (hfl : l.flags = pinnedFlags ++ [noTraceFlag]) (X : lwX D cA cW cJ T Tm bo s) (S : CallFix p m c bL_law 8 s args nzG RL) (hXs : va_X b9 LL xs s s.heap) (hbl : b9 < s.heap.size) (hLL : LL ≤ 3072) (i9 : Nat) (hi : i9 + 6 ≤ LL) (hG : lwG D cA cW cJ T Tm bo s H locs) (hc : cells + 1 ≤ 601024 ∧ slots + 6 ≤ 7293034) (hl : lv_has ls 8 (lwL b9 T Tm bo i9)) (kk : ∀ (H : Heap) (locs : List Loc) (ls : Array Slot), lwG D cA cW cJ T Tm bo s H locs → lv_has ls 8 (lwL b9 T Tm bo i9) → W p l e room_1 s m args below meth c H locs (cells + 1) (slots + 6) Q (F0 m 1274 ls [])) : W p l e room_1 s m args below meth c H locs cells slots Q (F0 m 1138 ls []) := by
  have hx := S.1
  have hb := S.2.1
  obtain ⟨n, g, C, L, O, c0, k, f, ok, okm, hRel, hH, hS⟩ := hG
  refine lv_aload_n hx hb dL_law_1138 rfl (lv_at hl 1 rfl) ?_
  refine lw_sc (i9 := i9) (j9 := 1) hx hb hXs hbl hLL hS (by omega) (lv_at hl 0 rfl) (lv_at hl 4 rfl) dL_law_1139 dL_law_1140 dL_law_1142 dL_law_1143 dL_law_1144 ?_
  refine lw_sc (i9 := i9) (j9 := 2) hx hb hXs hbl hLL hS (by omega) (lv_at hl 0 rfl) (lv_at hl 4 rfl) dL_law_1145 dL_law_1146 dL_law_1148 dL_law_1149 dL_law_1150 ?_
  refine lv_aload_n hx hb dL_law_1151 rfl (lv_at hl 3 rfl) ?_
  refine lw_o (As := [.int (xs (i9 + 1)), .int (xs (i9 + 2)), .ref bo]) (rest := []) X S (cL_all l hfl D cA cW T X.hT n g ok cJ bo f (x1 := xs (i9 + 1)) (x2 := xs (i9 + 2))) kLs_all ⟨rfl, rfl, (Nat.le_of_ble_eq_true rfl), (Nat.le_of_ble_eq_true rfl)⟩ hc hH hS rfl hl.1 rfl (Nat.le_of_ble_eq_true rfl) dL_law_1152 (fun f1 H locs hO hH hS => ?_)
  refine lv_istore (lv' := (5, .int (nI (kAll (xs (i9 + 1)) (xs (i9 + 2))))) :: lwL b9 T Tm bo i9) hx hb dL_law_1155 hl (by decide) rfl (fun ls hl => ?_)
  refine lv_aload_n hx hb dL_law_1157 rfl (lv_at hl 3 rfl) ?_
  refine lw_sc (i9 := i9) (j9 := 1) hx hb hXs hbl hLL hS (by omega) (lv_at hl 1 rfl) (lv_at hl 5 rfl) dL_law_1158 dL_law_1159 dL_law_1161 dL_law_1162 dL_law_1163 ?_
  refine lw_sc (i9 := i9) (j9 := 2) hx hb hXs hbl hLL hS (by omega) (lv_at hl 1 rfl) (lv_at hl 5 rfl) dL_law_1164 dL_law_1165 dL_law_1167 dL_law_1168 dL_law_1169 ?_
  refine lw_ri (As := [.int (xs (i9 + 1)), .int (xs (i9 + 2))]) (rest := []) X S (c_Mo_all l D cA Tm X.hM k C L O c0 okm (x1 := xs (i9 + 1)) (x2 := xs (i9 + 2))) kL_136 ⟨rfl, rfl, (Nat.le_of_ble_eq_true rfl), (Nat.le_of_ble_eq_true rfl)⟩ hc hH hS rfl hl.1 rfl (Nat.le_of_ble_eq_true rfl) dL_law_1170 (fun r H locs hr1 hH hS => ?_)
  refine lv_istore (lv' := (6, .int r) :: (5, .int (nI (kAll (xs (i9 + 1)) (xs (i9 + 2))))) :: lwL b9 T Tm bo i9) hx hb dL_law_1173 hl (by decide) rfl (fun ls hl => ?_)
  refine lv_aload_n hx hb dL_law_1175 rfl (lv_at hl 4 rfl) ?_
  refine lw_t X S ⟨(Nat.le_of_ble_eq_true rfl), (Nat.le_of_ble_eq_true rfl)⟩ hc hH hl.1 (Nat.le_of_ble_eq_true rfl) dL_law_1176 ?_
  refine lv_iload hx hb dL_law_1179 (lv_at hl 1 rfl) ?_
  refine lv_icmp_eq (tgt := 1186) hx hb dL_law_1181 (by decide) (fun _ => ?_) (fun c1 => absurd (congrArg nI (rfl)).symm c1)
  refine lv_iload hx hb dL_law_1186 (lv_at hl 1 rfl) ?_
  refine lv_if_ne (tgt := 1203) hx hb dL_law_1188 (by decide) (fun _ => ?_) (fun c2 => ?_)
  · refine lv_goto (tgt := 1274) hx hb dL_law_1203 (by decide) ?_
    exact kk _ _ _ ⟨n, g, C, L, O, c0, _, f1, ok, okm, hRel, hH, hS⟩ (lv_sub hl [2, 3, 4, 5, 6] rfl)
  · have h0 : kAll (xs (i9 + 1)) (xs (i9 + 2)) = 0 := k01 (kAll_in) c2
    refine lv_aload_n hx hb dL_law_1191 rfl (lv_at hl 5 rfl) ?_
    refine lv_iconst (v := 0) hx hb dL_law_1192 (by decide) ?_
    refine va_lald hx hb X.hK hH.2.1 0 2 rfl rfl (vp_in_nI (n := 0) (N := 1) (by decide) (by decide)) dL_law_1193 ?_
    refine lv_iload hx hb dL_law_1194 (lv_at hl 0 rfl) ?_
    have hv := hr1 h0
    have hw := hO h0
    have hE : f1 0 = r.toInt64 := by
      rw [hw, hv]
      exact congrArg Int32.toInt64 (by rw [hRel.len (k0_all h0), g_allOf _ (hRel.e (k0_all h0))])
    refine lv_i2l hx hb dL_law_1196 rfl ?_
    refine W.lcmp hx hb dL_law_1197 ?_
    refine lv_if_eq (tgt := 1203) hx hb dL_law_1198 (by decide) (fun _ => ?_) (fun c3 => absurd (lg_cmp_of hE) c3)
    refine lv_goto (tgt := 1274) hx hb dL_law_1203 (by decide) ?_
    exact kk _ _ _ ⟨n, g, C, L, O, c0, _, f1, ok, okm, hRel, hH, hS⟩ (lv_sub hl [2, 3, 4, 5, 6] rfl)
set_option maxHeartbeats 4000000 in
set_option maxRecDepth 100000 in
theorem law_edge {p : Program} {e : Env} {s : State} {m : MethodId} {args : Array Value} {below : List Frame} {meth : Method} {c : Code} {Q : State → Prop} {D : va_G} {cA cW cJ : ClassId} {T Tm : Nat → Nat} {bo b9 LL : Nat} {xs : Nat → Int32} {H : Heap} {locs : List Loc} {cells slots : Nat} {ls : Array Slot} (l : Launch) (hfl : l.flags = pinnedFlags ++ [noTraceFlag]) (X : lwX D cA cW cJ T Tm bo s) (S : CallFix p m c bL_law 8 s args nzG RL) (hXs : va_X b9 LL xs s s.heap) (hbl : b9 < s.heap.size) (hLL : LL ≤ 3072) (i9 : Nat) (hi : i9 + 6 ≤ LL) (hG : lwG D cA cW cJ T Tm bo s H locs) (hc : cells + 1 ≤ 601024 ∧ slots + 6 ≤ 7293034) (hl : lv_has ls 8 (lwL b9 T Tm bo i9)) (kk : ∀ (H : Heap) (locs : List Loc) (ls : Array Slot), lwG D cA cW cJ T Tm bo s H locs → lv_has ls 8 (lwL b9 T Tm bo i9) → W p l e room_1 s m args below meth c H locs (cells + 1) (slots + 6) Q (F0 m 1274 ls [])) : W p l e room_1 s m args below meth c H locs cells slots Q (F0 m 1206 ls []) := by
  have hx := S.1
  have hb := S.2.1
  obtain ⟨n, g, C, L, O, c0, k, f, ok, okm, hRel, hH, hS⟩ := hG
  refine lv_aload_n hx hb dL_law_1206 rfl (lv_at hl 1 rfl) ?_
  refine lw_sc (i9 := i9) (j9 := 1) hx hb hXs hbl hLL hS (by omega) (lv_at hl 0 rfl) (lv_at hl 4 rfl) dL_law_1207 dL_law_1208 dL_law_1210 dL_law_1211 dL_law_1212 ?_
  refine lw_sc (i9 := i9) (j9 := 2) hx hb hXs hbl hLL hS (by omega) (lv_at hl 0 rfl) (lv_at hl 4 rfl) dL_law_1213 dL_law_1214 dL_law_1216 dL_law_1217 dL_law_1218 ?_
  refine lv_aload_n hx hb dL_law_1219 rfl (lv_at hl 3 rfl) ?_
  refine lw_o (As := [.int (xs (i9 + 1)), .int (xs (i9 + 2)), .ref bo]) (rest := []) X S (cL_edge l hfl D cA cW T X.hT n g ok cJ bo f (x1 := xs (i9 + 1)) (x2 := xs (i9 + 2))) kLs_edge ⟨rfl, rfl, (Nat.le_of_ble_eq_true rfl), (Nat.le_of_ble_eq_true rfl)⟩ hc hH hS rfl hl.1 rfl (Nat.le_of_ble_eq_true rfl) dL_law_1220 (fun f1 H locs hO hH hS => ?_)
  refine lv_istore (lv' := (5, .int (nI (kEdge (xs (i9 + 1)) (xs (i9 + 2))))) :: lwL b9 T Tm bo i9) hx hb dL_law_1223 hl (by decide) rfl (fun ls hl => ?_)
  refine lv_aload_n hx hb dL_law_1225 rfl (lv_at hl 3 rfl) ?_
  refine lw_sc (i9 := i9) (j9 := 1) hx hb hXs hbl hLL hS (by omega) (lv_at hl 1 rfl) (lv_at hl 5 rfl) dL_law_1226 dL_law_1227 dL_law_1229 dL_law_1230 dL_law_1231 ?_
  refine lw_sc (i9 := i9) (j9 := 2) hx hb hXs hbl hLL hS (by omega) (lv_at hl 1 rfl) (lv_at hl 5 rfl) dL_law_1232 dL_law_1233 dL_law_1235 dL_law_1236 dL_law_1237 ?_
  refine lw_ri (As := [.int (xs (i9 + 1)), .int (xs (i9 + 2))]) (rest := []) X S (c_Mo_edge l D cA Tm X.hM k C L O c0 okm (x1 := xs (i9 + 1)) (x2 := xs (i9 + 2))) kL_139 ⟨rfl, rfl, (Nat.le_of_ble_eq_true rfl), (Nat.le_of_ble_eq_true rfl)⟩ hc hH hS rfl hl.1 rfl (Nat.le_of_ble_eq_true rfl) dL_law_1238 (fun r H locs hr1 hH hS => ?_)
  refine lv_istore (lv' := (6, .int r) :: (5, .int (nI (kEdge (xs (i9 + 1)) (xs (i9 + 2))))) :: lwL b9 T Tm bo i9) hx hb dL_law_1241 hl (by decide) rfl (fun ls hl => ?_)
  refine lv_aload_n hx hb dL_law_1243 rfl (lv_at hl 4 rfl) ?_
  refine lw_t X S ⟨(Nat.le_of_ble_eq_true rfl), (Nat.le_of_ble_eq_true rfl)⟩ hc hH hl.1 (Nat.le_of_ble_eq_true rfl) dL_law_1244 ?_
  refine lv_iload hx hb dL_law_1247 (lv_at hl 1 rfl) ?_
  refine lv_icmp_eq (tgt := 1254) hx hb dL_law_1249 (by decide) (fun _ => ?_) (fun c1 => absurd (congrArg nI (rfl)).symm c1)
  refine lv_iload hx hb dL_law_1254 (lv_at hl 1 rfl) ?_
  refine lv_if_ne (tgt := 1271) hx hb dL_law_1256 (by decide) (fun _ => ?_) (fun c2 => ?_)
  · refine lv_goto (tgt := 1274) hx hb dL_law_1271 (by decide) ?_
    exact kk _ _ _ ⟨n, g, C, L, O, c0, _, f1, ok, okm, hRel, hH, hS⟩ (lv_sub hl [2, 3, 4, 5, 6] rfl)
  · have h0 : kEdge (xs (i9 + 1)) (xs (i9 + 2)) = 0 := k01 (fun q => Or.inl (kEdge_in q)) c2
    refine lv_aload_n hx hb dL_law_1259 rfl (lv_at hl 5 rfl) ?_
    refine lv_iconst (v := 0) hx hb dL_law_1260 (by decide) ?_
    refine va_lald hx hb X.hK hH.2.1 0 2 rfl rfl (vp_in_nI (n := 0) (N := 1) (by decide) (by decide)) dL_law_1261 ?_
    refine lv_iload hx hb dL_law_1262 (lv_at hl 0 rfl) ?_
    have hv := hr1 h0
    have hw := hO h0
    have hE : f1 0 = r.toInt64 := by
      rw [hw, hv]
    refine lv_i2l hx hb dL_law_1264 rfl ?_
    refine W.lcmp hx hb dL_law_1265 ?_
    refine lv_if_eq (tgt := 1271) hx hb dL_law_1266 (by decide) (fun _ => ?_) (fun c3 => absurd (lg_cmp_of hE) c3)
    refine lv_goto (tgt := 1274) hx hb dL_law_1271 (by decide) ?_
    exact kk _ _ _ ⟨n, g, C, L, O, c0, _, f1, ok, okm, hRel, hH, hS⟩ (lv_sub hl [2, 3, 4, 5, 6] rfl)
