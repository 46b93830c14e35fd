/-! THE LAW 2: its arms -/
set_option maxHeartbeats 4000000 in
set_option maxRecDepth 100000 in
theorem arm_request {p : Program} {l : Launch} {e : Env} {s : State} {m : MethodId} {below : List Frame} {meth : Method} {c : Code} {D : va_G} {cI cZ : ClassId} {A : Nat → Prop} {H : Heap} {locs : List Loc} {ls : Array Slot} {ret0 : Option FieldType} {b L : Nat} {xs : Nat → Int32} {Q : State → Prop} {q0 q1 : Nat} {u w : Nat → Nat} {S Z T U : Nat → Nat → Int32} {k0 k1 : Int32} {st be so sv : Nat → Int32} {i : Nat} (X : Cx p s m #[Value.ref b] meth c D cI cZ cL_law 4 ret0 wsL_law RL A) (hX : va_X b L xs s s.heap) (hbl : b < s.heap.size) (hbA : ¬ A b) (hL : L ≤ 3072) (hi : i + 6 ≤ L) (hV : INV S k0 T k1 U st so sv) (hP : va_P D vwCl (LW cI cZ q0 u q1 w S Z k0 T k1 U st be so sv) H) (hD : va_D A (LW cI cZ q0 u q1 w S Z k0 T k1 U st be so sv)) (hS : va_S A s.heap H locs) (hl : lv_has ls 4 [(0, .ref b), (1, .ref q0), (2, .ref q1), (3, .int (nI i))])
    (kk : ∀ (S Z T U : Nat → Nat → Int32) (k0 k1 : Int32) (st be so sv : Nat → Int32) (H : Heap) (locs : List Loc), INV S k0 T k1 U st so sv → va_P D vwCl (LW cI cZ q0 u q1 w S Z k0 T k1 U st be so sv) H → va_D A (LW cI cZ q0 u q1 w S Z k0 T k1 U st be so sv) → va_S A s.heap H locs → W p l e room_1 s m #[Value.ref b] below meth c H locs 60 1186 Q (F0 m 1013 ls [])) : W p l e room_1 s m #[Value.ref b] below meth c H locs 60 1186 Q (F0 m 698 ls []) := by
  obtain ⟨⟨n, hR⟩, h0, h1⟩ := id hV
  have hx := X.1.1
  have hb := X.1.2.1
  obtain ⟨r, e1, e2⟩ := P_request hR (xs (i + 1))
  refine lv_aload_n hx hb dL_law_698 rfl (lv_at hl 1 rfl) ?_
  refine sarg hx hb hX hbl hbA hS hl (k := 1) (by omega) hL ic_1 dL_law_699 dL_law_700 dL_law_701 dL_law_702 dL_law_703 ?_
  refine callVIq X (k_X5_request l D cI cZ q0 (u 0) (u 13) (u 26) (u 40) (u 1) (u 6) (u 7) (u 8) (u 9) (u 10) (u 11) (u 12) (S 0 0) (S 6 0) (S 7 0) (S 8 0) (S 9 0) (S 10 0) (S 11 0) (S 12 0) (S 13 0) (S 14 0) (S 15 0) (S 17) (S 18) (S 19) (xs (i + 1)) r e1) (cwV 1 X.1.2.2.2.2 gL_law_X5_request rfl rfl rfl kd_X5_request ⟨Nat.le_of_ble_eq_true rfl, Nat.le_of_ble_eq_true rfl⟩) hP hD hS hl.1 0 5 rfl rfl [0, 1, 7, 8, 10, 11, 12] (by decide) rfl rfl (rest := []) rfl (Nat.le_of_ble_eq_true rfl) dL_law_704 ⟨Nat.le_of_ble_eq_true rfl, Nat.le_of_ble_eq_true rfl⟩ (fun H locs hP hD hS => ?_)
  refine lv_aload_n hx hb dL_law_707 rfl (lv_at hl 2 rfl) ?_
  refine sarg hx hb hX hbl hbA hS hl (k := 1) (by omega) hL ic_1 dL_law_708 dL_law_709 dL_law_710 dL_law_711 dL_law_712 ?_
  refine callVIq X (k_X6_request l D cI cZ q1 (w 0) (w 1) (w 2) (w 3) st (xs (i + 1)) r e2) (cwV 1 X.1.2.2.2.2 gL_law_X6_request rfl rfl rfl kd_X6_request ⟨Nat.le_of_ble_eq_true rfl, Nat.le_of_ble_eq_true rfl⟩) hP hD hS hl.1 55 6 rfl rfl [55, 56] (by decide) rfl rfl (rest := [.int r]) rfl (Nat.le_of_ble_eq_true rfl) dL_law_713 ⟨Nat.le_of_ble_eq_true rfl, Nat.le_of_ble_eq_true rfl⟩ (fun H locs hP hD hS => ?_)
  exact lv_icmp_eq (tgt := 1013) hx hb dL_law_716 (by decide) (fun _ => kk _ _ _ _ _ _ _ _ _ _ _ _ hV hP hD hS) (fun hc => absurd rfl hc)

set_option maxHeartbeats 4000000 in
set_option maxRecDepth 100000 in
theorem arm_switchOf {p : Program} {l : Launch} {e : Env} {s : State} {m : MethodId} {below : List Frame} {meth : Method} {c : Code} {D : va_G} {cI cZ : ClassId} {A : Nat → Prop} {H : Heap} {locs : List Loc} {ls : Array Slot} {ret0 : Option FieldType} {b L : Nat} {xs : Nat → Int32} {Q : State → Prop} {q0 q1 : Nat} {u w : Nat → Nat} {S Z T U : Nat → Nat → Int32} {k0 k1 : Int32} {st be so sv : Nat → Int32} {i : Nat} (X : Cx p s m #[Value.ref b] meth c D cI cZ cL_law 4 ret0 wsL_law RL A) (hX : va_X b L xs s s.heap) (hbl : b < s.heap.size) (hbA : ¬ A b) (hL : L ≤ 3072) (hi : i + 6 ≤ L) (hV : INV S k0 T k1 U st so sv) (hP : va_P D vwCl (LW cI cZ q0 u q1 w S Z k0 T k1 U st be so sv) H) (hD : va_D A (LW cI cZ q0 u q1 w S Z k0 T k1 U st be so sv)) (hS : va_S A s.heap H locs) (hl : lv_has ls 4 [(0, .ref b), (1, .ref q0), (2, .ref q1), (3, .int (nI i))])
    (kk : ∀ (S Z T U : Nat → Nat → Int32) (k0 k1 : Int32) (st be so sv : Nat → Int32) (H : Heap) (locs : List Loc), INV S k0 T k1 U st so sv → va_P D vwCl (LW cI cZ q0 u q1 w S Z k0 T k1 U st be so sv) H → va_D A (LW cI cZ q0 u q1 w S Z k0 T k1 U st be so sv) → va_S A s.heap H locs → W p l e room_1 s m #[Value.ref b] below meth c H locs 60 1186 Q (F0 m 1013 ls [])) : W p l e room_1 s m #[Value.ref b] below meth c H locs 60 1186 Q (F0 m 721 ls []) := by
  obtain ⟨⟨n, hR⟩, h0, h1⟩ := id hV
  have hx := X.1.1
  have hb := X.1.2.1
  obtain ⟨r, e1, e2⟩ := P_switchOf hR (xs (i + 1))
  refine lv_aload_n hx hb dL_law_721 rfl (lv_at hl 1 rfl) ?_
  refine sarg hx hb hX hbl hbA hS hl (k := 1) (by omega) hL ic_1 dL_law_722 dL_law_723 dL_law_724 dL_law_725 dL_law_726 ?_
  refine callVIq X (k_X5_switchOf l D cI cZ q0 (u 0) (u 13) (u 26) (u 40) (u 1) (u 6) (u 7) (u 8) (u 9) (u 10) (u 11) (u 12) (S 0 0) (S 6 0) (S 7 0) (S 8 0) (S 9 0) (S 10 0) (S 11 0) (S 12 0) (S 13 0) (S 14 0) (S 15 0) (xs (i + 1)) r e1) (cwV 1 X.1.2.2.2.2 gL_law_X5_switchOf rfl rfl rfl kd_X5_switchOf ⟨Nat.le_of_ble_eq_true rfl, Nat.le_of_ble_eq_true rfl⟩) hP hD hS hl.1 0 5 rfl rfl [0, 1, 7, 8] (by decide) rfl rfl (rest := []) rfl (Nat.le_of_ble_eq_true rfl) dL_law_727 ⟨Nat.le_of_ble_eq_true rfl, Nat.le_of_ble_eq_true rfl⟩ (fun H locs hP hD hS => ?_)
  refine lv_aload_n hx hb dL_law_730 rfl (lv_at hl 2 rfl) ?_
  refine sarg hx hb hX hbl hbA hS hl (k := 1) (by omega) hL ic_1 dL_law_731 dL_law_732 dL_law_733 dL_law_734 dL_law_735 ?_
  refine callVIq X (k_X6_switchOf l D cI cZ q1 (w 0) (w 1) (w 2) (w 3) st (xs (i + 1)) r e2) (cwV 1 X.1.2.2.2.2 gL_law_X6_switchOf rfl rfl rfl kd_X6_switchOf ⟨Nat.le_of_ble_eq_true rfl, Nat.le_of_ble_eq_true rfl⟩) hP hD hS hl.1 55 6 rfl rfl [55, 56] (by decide) rfl rfl (rest := [.int r]) rfl (Nat.le_of_ble_eq_true rfl) dL_law_736 ⟨Nat.le_of_ble_eq_true rfl, Nat.le_of_ble_eq_true rfl⟩ (fun H locs hP hD hS => ?_)
  exact lv_icmp_eq (tgt := 1013) hx hb dL_law_739 (by decide) (fun _ => kk _ _ _ _ _ _ _ _ _ _ _ _ hV hP hD hS) (fun hc => absurd rfl hc)

set_option maxHeartbeats 4000000 in
set_option maxRecDepth 100000 in
theorem arm_restoreTimer {p : Program} {l : Launch} {e : Env} {s : State} {m : MethodId} {below : List Frame} {meth : Method} {c : Code} {D : va_G} {cI cZ : ClassId} {A : Nat → Prop} {H : Heap} {locs : List Loc} {ls : Array Slot} {ret0 : Option FieldType} {b L : Nat} {xs : Nat → Int32} {Q : State → Prop} {q0 q1 : Nat} {u w : Nat → Nat} {S Z T U : Nat → Nat → Int32} {k0 k1 : Int32} {st be so sv : Nat → Int32} {i : Nat} (X : Cx p s m #[Value.ref b] meth c D cI cZ cL_law 4 ret0 wsL_law RL A) (hX : va_X b L xs s s.heap) (hbl : b < s.heap.size) (hbA : ¬ A b) (hL : L ≤ 3072) (hi : i + 6 ≤ L) (hV : INV S k0 T k1 U st so sv) (hP : va_P D vwCl (LW cI cZ q0 u q1 w S Z k0 T k1 U st be so sv) H) (hD : va_D A (LW cI cZ q0 u q1 w S Z k0 T k1 U st be so sv)) (hS : va_S A s.heap H locs) (hl : lv_has ls 4 [(0, .ref b), (1, .ref q0), (2, .ref q1), (3, .int (nI i))])
    (kk : ∀ (S Z T U : Nat → Nat → Int32) (k0 k1 : Int32) (st be so sv : Nat → Int32) (H : Heap) (locs : List Loc), INV S k0 T k1 U st so sv → va_P D vwCl (LW cI cZ q0 u q1 w S Z k0 T k1 U st be so sv) H → va_D A (LW cI cZ q0 u q1 w S Z k0 T k1 U st be so sv) → va_S A s.heap H locs → W p l e room_1 s m #[Value.ref b] below meth c H locs 60 1186 Q (F0 m 1013 ls [])) : W p l e room_1 s m #[Value.ref b] below meth c H locs 60 1186 Q (F0 m 744 ls []) := by
  obtain ⟨⟨n, hR⟩, h0, h1⟩ := id hV
  have hx := X.1.1
  have hb := X.1.2.1
  obtain ⟨r, e1, e2⟩ := P_restoreTimer hR (xs (i + 1))
  refine lv_aload_n hx hb dL_law_744 rfl (lv_at hl 1 rfl) ?_
  refine sarg hx hb hX hbl hbA hS hl (k := 1) (by omega) hL ic_1 dL_law_745 dL_law_746 dL_law_747 dL_law_748 dL_law_749 ?_
  refine callVIq X (k_X5_restoreTimer l D cI cZ q0 (u 0) (u 13) (u 26) (u 40) (u 1) (u 6) (u 7) (u 8) (u 9) (u 10) (u 11) (u 12) (S 0 0) (S 6 0) (S 7 0) (S 8 0) (S 9 0) (S 10 0) (S 11 0) (S 12 0) (S 13 0) (S 14 0) (S 15 0) (S 17) (xs (i + 1)) r e1) (cwV 1 X.1.2.2.2.2 gL_law_X5_restoreTimer rfl rfl rfl kd_X5_restoreTimer ⟨Nat.le_of_ble_eq_true rfl, Nat.le_of_ble_eq_true rfl⟩) hP hD hS hl.1 0 5 rfl rfl [0, 1, 7, 8, 10] (by decide) rfl rfl (rest := []) rfl (Nat.le_of_ble_eq_true rfl) dL_law_750 ⟨Nat.le_of_ble_eq_true rfl, Nat.le_of_ble_eq_true rfl⟩ (fun H locs hP hD hS => ?_)
  refine lv_aload_n hx hb dL_law_753 rfl (lv_at hl 2 rfl) ?_
  refine sarg hx hb hX hbl hbA hS hl (k := 1) (by omega) hL ic_1 dL_law_754 dL_law_755 dL_law_756 dL_law_757 dL_law_758 ?_
  refine callVIq X (k_X6_restoreTimer l D cI cZ q1 (w 0) (w 1) (w 2) (w 3) st (xs (i + 1)) r e2) (cwV 1 X.1.2.2.2.2 gL_law_X6_restoreTimer rfl rfl rfl kd_X6_restoreTimer ⟨Nat.le_of_ble_eq_true rfl, Nat.le_of_ble_eq_true rfl⟩) hP hD hS hl.1 55 6 rfl rfl [55, 56] (by decide) rfl rfl (rest := [.int r]) rfl (Nat.le_of_ble_eq_true rfl) dL_law_759 ⟨Nat.le_of_ble_eq_true rfl, Nat.le_of_ble_eq_true rfl⟩ (fun H locs hP hD hS => ?_)
  exact lv_icmp_eq (tgt := 1013) hx hb dL_law_762 (by decide) (fun _ => kk _ _ _ _ _ _ _ _ _ _ _ _ hV hP hD hS) (fun hc => absurd rfl hc)

set_option maxHeartbeats 4000000 in
set_option maxRecDepth 100000 in
theorem arm_segment {p : Program} {l : Launch} {e : Env} {s : State} {m : MethodId} {below : List Frame} {meth : Method} {c : Code} {D : va_G} {cI cZ : ClassId} {A : Nat → Prop} {H : Heap} {locs : List Loc} {ls : Array Slot} {ret0 : Option FieldType} {b L : Nat} {xs : Nat → Int32} {Q : State → Prop} {q0 q1 : Nat} {u w : Nat → Nat} {S Z T U : Nat → Nat → Int32} {k0 k1 : Int32} {st be so sv : Nat → Int32} {i : Nat} (X : Cx p s m #[Value.ref b] meth c D cI cZ cL_law 4 ret0 wsL_law RL A) (hX : va_X b L xs s s.heap) (hbl : b < s.heap.size) (hbA : ¬ A b) (hL : L ≤ 3072) (hi : i + 6 ≤ L) (hV : INV S k0 T k1 U st so sv) (hP : va_P D vwCl (LW cI cZ q0 u q1 w S Z k0 T k1 U st be so sv) H) (hD : va_D A (LW cI cZ q0 u q1 w S Z k0 T k1 U st be so sv)) (hS : va_S A s.heap H locs) (hl : lv_has ls 4 [(0, .ref b), (1, .ref q0), (2, .ref q1), (3, .int (nI i))])
    (kk : ∀ (S Z T U : Nat → Nat → Int32) (k0 k1 : Int32) (st be so sv : Nat → Int32) (H : Heap) (locs : List Loc), INV S k0 T k1 U st so sv → va_P D vwCl (LW cI cZ q0 u q1 w S Z k0 T k1 U st be so sv) H → va_D A (LW cI cZ q0 u q1 w S Z k0 T k1 U st be so sv) → va_S A s.heap H locs → W p l e room_1 s m #[Value.ref b] below meth c H locs 60 1186 Q (F0 m 1013 ls [])) : W p l e room_1 s m #[Value.ref b] below meth c H locs 60 1186 Q (F0 m 767 ls []) := by
  obtain ⟨⟨n, hR⟩, h0, h1⟩ := id hV
  have hx := X.1.1
  have hb := X.1.2.1
  obtain ⟨r, e1, e2⟩ := P_segment hR (xs (i + 1))
  refine lv_aload_n hx hb dL_law_767 rfl (lv_at hl 1 rfl) ?_
  refine sarg hx hb hX hbl hbA hS hl (k := 1) (by omega) hL ic_1 dL_law_768 dL_law_769 dL_law_770 dL_law_771 dL_law_772 ?_
  refine callVIq X (k_X5_segment l D cI cZ q0 (u 0) (u 13) (u 26) (u 40) (u 1) (u 6) (u 7) (u 8) (u 9) (u 10) (u 11) (u 12) (S 0 0) (S 6 0) (S 7 0) (S 8 0) (S 9 0) (S 10 0) (S 11 0) (S 12 0) (S 13 0) (S 14 0) (S 15 0) (S 20) (xs (i + 1)) r e1) (cwV 1 X.1.2.2.2.2 gL_law_X5_segment rfl rfl rfl kd_X5_segment ⟨Nat.le_of_ble_eq_true rfl, Nat.le_of_ble_eq_true rfl⟩) hP hD hS hl.1 0 5 rfl rfl [0, 1, 7, 8, 13] (by decide) rfl rfl (rest := []) rfl (Nat.le_of_ble_eq_true rfl) dL_law_773 ⟨Nat.le_of_ble_eq_true rfl, Nat.le_of_ble_eq_true rfl⟩ (fun H locs hP hD hS => ?_)
  refine lv_aload_n hx hb dL_law_776 rfl (lv_at hl 2 rfl) ?_
  refine sarg hx hb hX hbl hbA hS hl (k := 1) (by omega) hL ic_1 dL_law_777 dL_law_778 dL_law_779 dL_law_780 dL_law_781 ?_
  refine callVIq X (k_X6_segment l D cI cZ q1 (w 0) (w 1) (w 2) (w 3) st (xs (i + 1)) r e2) (cwV 1 X.1.2.2.2.2 gL_law_X6_segment rfl rfl rfl kd_X6_segment ⟨Nat.le_of_ble_eq_true rfl, Nat.le_of_ble_eq_true rfl⟩) hP hD hS hl.1 55 6 rfl rfl [55, 56] (by decide) rfl rfl (rest := [.int r]) rfl (Nat.le_of_ble_eq_true rfl) dL_law_782 ⟨Nat.le_of_ble_eq_true rfl, Nat.le_of_ble_eq_true rfl⟩ (fun H locs hP hD hS => ?_)
  exact lv_icmp_eq (tgt := 1013) hx hb dL_law_785 (by decide) (fun _ => kk _ _ _ _ _ _ _ _ _ _ _ _ hV hP hD hS) (fun hc => absurd rfl hc)

set_option maxHeartbeats 4000000 in
set_option maxRecDepth 100000 in
theorem arm_state {p : Program} {l : Launch} {e : Env} {s : State} {m : MethodId} {below : List Frame} {meth : Method} {c : Code} {D : va_G} {cI cZ : ClassId} {A : Nat → Prop} {H : Heap} {locs : List Loc} {ls : Array Slot} {ret0 : Option FieldType} {b L : Nat} {xs : Nat → Int32} {Q : State → Prop} {q0 q1 : Nat} {u w : Nat → Nat} {S Z T U : Nat → Nat → Int32} {k0 k1 : Int32} {st be so sv : Nat → Int32} {i : Nat} (X : Cx p s m #[Value.ref b] meth c D cI cZ cL_law 4 ret0 wsL_law RL A) (hX : va_X b L xs s s.heap) (hbl : b < s.heap.size) (hbA : ¬ A b) (hL : L ≤ 3072) (hi : i + 6 ≤ L) (hV : INV S k0 T k1 U st so sv) (hP : va_P D vwCl (LW cI cZ q0 u q1 w S Z k0 T k1 U st be so sv) H) (hD : va_D A (LW cI cZ q0 u q1 w S Z k0 T k1 U st be so sv)) (hS : va_S A s.heap H locs) (hl : lv_has ls 4 [(0, .ref b), (1, .ref q0), (2, .ref q1), (3, .int (nI i))])
    (kk : ∀ (S Z T U : Nat → Nat → Int32) (k0 k1 : Int32) (st be so sv : Nat → Int32) (H : Heap) (locs : List Loc), INV S k0 T k1 U st so sv → va_P D vwCl (LW cI cZ q0 u q1 w S Z k0 T k1 U st be so sv) H → va_D A (LW cI cZ q0 u q1 w S Z k0 T k1 U st be so sv) → va_S A s.heap H locs → W p l e room_1 s m #[Value.ref b] below meth c H locs 60 1186 Q (F0 m 1013 ls [])) : W p l e room_1 s m #[Value.ref b] below meth c H locs 60 1186 Q (F0 m 790 ls []) := by
  obtain ⟨⟨n, hR⟩, h0, h1⟩ := id hV
  have hx := X.1.1
  have hb := X.1.2.1
  obtain ⟨r, e1, e2⟩ := P_state hR (xs (i + 1))
  refine lv_aload_n hx hb dL_law_790 rfl (lv_at hl 1 rfl) ?_
  refine sarg hx hb hX hbl hbA hS hl (k := 1) (by omega) hL ic_1 dL_law_791 dL_law_792 dL_law_793 dL_law_794 dL_law_795 ?_
  refine callVIq X (k_X5_state l D cI cZ q0 (u 0) (u 13) (u 26) (u 40) (u 1) (u 6) (u 7) (u 2) (u 3) (u 4) (u 5) (u 8) (u 9) (u 10) (u 11) (u 12) (S 0 0) (S 1 0) (S 2) (S 3) (S 4) (S 6 0) (S 7 0) (S 8 0) (S 9 0) (S 10 0) (S 11 0) (S 12 0) (S 13 0) (S 14 0) (S 15 0) (S 20) (xs (i + 1)) r e1) (cwV 1 X.1.2.2.2.2 gL_law_X5_state rfl rfl rfl kd_X5_state ⟨Nat.le_of_ble_eq_true rfl, Nat.le_of_ble_eq_true rfl⟩) hP hD hS hl.1 0 5 rfl rfl [0, 1, 2, 3, 4, 5, 7, 8, 13] (by decide) rfl rfl (rest := []) rfl (Nat.le_of_ble_eq_true rfl) dL_law_796 ⟨Nat.le_of_ble_eq_true rfl, Nat.le_of_ble_eq_true rfl⟩ (fun H locs hP hD hS => ?_)
  refine lv_aload_n hx hb dL_law_799 rfl (lv_at hl 2 rfl) ?_
  refine sarg hx hb hX hbl hbA hS hl (k := 1) (by omega) hL ic_1 dL_law_800 dL_law_801 dL_law_802 dL_law_803 dL_law_804 ?_
  refine callVIq X (k_X6_state l D cI cZ q1 (w 0) (w 1) (w 2) (w 3) st (xs (i + 1)) r e2) (cwV 1 X.1.2.2.2.2 gL_law_X6_state rfl rfl rfl kd_X6_state ⟨Nat.le_of_ble_eq_true rfl, Nat.le_of_ble_eq_true rfl⟩) hP hD hS hl.1 55 6 rfl rfl [55, 56] (by decide) rfl rfl (rest := [.int r]) rfl (Nat.le_of_ble_eq_true rfl) dL_law_805 ⟨Nat.le_of_ble_eq_true rfl, Nat.le_of_ble_eq_true rfl⟩ (fun H locs hP hD hS => ?_)
  exact lv_icmp_eq (tgt := 1013) hx hb dL_law_808 (by decide) (fun _ => kk _ _ _ _ _ _ _ _ _ _ _ _ hV hP hD hS) (fun hc => absurd rfl hc)

set_option maxHeartbeats 4000000 in
set_option maxRecDepth 100000 in
theorem arm_circuitsIn {p : Program} {l : Launch} {e : Env} {s : State} {m : MethodId} {below : List Frame} {meth : Method} {c : Code} {D : va_G} {cI cZ : ClassId} {A : Nat → Prop} {H : Heap} {locs : List Loc} {ls : Array Slot} {ret0 : Option FieldType} {b L : Nat} {xs : Nat → Int32} {Q : State → Prop} {q0 q1 : Nat} {u w : Nat → Nat} {S Z T U : Nat → Nat → Int32} {k0 k1 : Int32} {st be so sv : Nat → Int32} {i : Nat} (X : Cx p s m #[Value.ref b] meth c D cI cZ cL_law 4 ret0 wsL_law RL A) (hX : va_X b L xs s s.heap) (hbl : b < s.heap.size) (hbA : ¬ A b) (hL : L ≤ 3072) (hi : i + 6 ≤ L) (hV : INV S k0 T k1 U st so sv) (hP : va_P D vwCl (LW cI cZ q0 u q1 w S Z k0 T k1 U st be so sv) H) (hD : va_D A (LW cI cZ q0 u q1 w S Z k0 T k1 U st be so sv)) (hS : va_S A s.heap H locs) (hl : lv_has ls 4 [(0, .ref b), (1, .ref q0), (2, .ref q1), (3, .int (nI i))])
    (kk : ∀ (S Z T U : Nat → Nat → Int32) (k0 k1 : Int32) (st be so sv : Nat → Int32) (H : Heap) (locs : List Loc), INV S k0 T k1 U st so sv → va_P D vwCl (LW cI cZ q0 u q1 w S Z k0 T k1 U st be so sv) H → va_D A (LW cI cZ q0 u q1 w S Z k0 T k1 U st be so sv) → va_S A s.heap H locs → W p l e room_1 s m #[Value.ref b] below meth c H locs 60 1186 Q (F0 m 1013 ls [])) : W p l e room_1 s m #[Value.ref b] below meth c H locs 60 1186 Q (F0 m 813 ls []) := by
  obtain ⟨⟨n, hR⟩, h0, h1⟩ := id hV
  have hx := X.1.1
  have hb := X.1.2.1
  obtain ⟨r, e1, e2⟩ := P_circuitsIn hR (xs (i + 1))
  refine lv_aload_n hx hb dL_law_813 rfl (lv_at hl 1 rfl) ?_
  refine sarg hx hb hX hbl hbA hS hl (k := 1) (by omega) hL ic_1 dL_law_814 dL_law_815 dL_law_816 dL_law_817 dL_law_818 ?_
  refine callVIq X (k_X5_circuitsIn l D cI cZ q0 (u 0) (u 13) (u 26) (u 40) (u 1) (u 6) (u 7) (u 2) (u 3) (u 4) (u 5) (u 8) (u 9) (u 10) (u 11) (u 12) (S 0 0) (S 1 0) (S 2) (S 3) (S 4) (S 6 0) (S 7 0) (S 8 0) (S 9 0) (S 10 0) (S 11 0) (S 12 0) (S 13 0) (S 14 0) (S 15 0) (S 20) (xs (i + 1)) r e1) (cwV 1 X.1.2.2.2.2 gL_law_X5_circuitsIn rfl rfl rfl kd_X5_circuitsIn ⟨Nat.le_of_ble_eq_true rfl, Nat.le_of_ble_eq_true rfl⟩) hP hD hS hl.1 0 5 rfl rfl [0, 1, 2, 3, 4, 5, 7, 8, 13] (by decide) rfl rfl (rest := []) rfl (Nat.le_of_ble_eq_true rfl) dL_law_819 ⟨Nat.le_of_ble_eq_true rfl, Nat.le_of_ble_eq_true rfl⟩ (fun H locs hP hD hS => ?_)
  refine lv_aload_n hx hb dL_law_822 rfl (lv_at hl 2 rfl) ?_
  refine sarg hx hb hX hbl hbA hS hl (k := 1) (by omega) hL ic_1 dL_law_823 dL_law_824 dL_law_825 dL_law_826 dL_law_827 ?_
  refine callVIq X (k_X6_circuitsIn l D cI cZ q1 (w 0) (w 1) (w 2) (w 3) st (xs (i + 1)) r e2) (cwV 1 X.1.2.2.2.2 gL_law_X6_circuitsIn rfl rfl rfl kd_X6_circuitsIn ⟨Nat.le_of_ble_eq_true rfl, Nat.le_of_ble_eq_true rfl⟩) hP hD hS hl.1 55 6 rfl rfl [55, 56] (by decide) rfl rfl (rest := [.int r]) rfl (Nat.le_of_ble_eq_true rfl) dL_law_828 ⟨Nat.le_of_ble_eq_true rfl, Nat.le_of_ble_eq_true rfl⟩ (fun H locs hP hD hS => ?_)
  exact lv_icmp_eq (tgt := 1013) hx hb dL_law_831 (by decide) (fun _ => kk _ _ _ _ _ _ _ _ _ _ _ _ hV hP hD hS) (fun hc => absurd rfl hc)
