/-! THE LAW 2: its arms -/
set_option maxHeartbeats 4000000 in
set_option maxRecDepth 100000 in
theorem arm_deliveredCount {p : Program} {l : Launch} {e : Env} {s : State} {m : MethodId} {below : List Frame} {meth : Method} {c : Code} {D : va_G} {cI cZ : ClassId} {A : Nat → Prop} {H : Heap} {locs : List Loc} {ls : Array Slot} {ret0 : Option FieldType} {b L : Nat} {xs : Nat → Int32} {Q : State → Prop} {q0 q1 : Nat} {u w : Nat → Nat} {S Z T U : Nat → Nat → Int32} {k0 k1 : Int32} {st be so sv : Nat → Int32} {i : Nat} (X : Cx p s m #[Value.ref b] meth c D cI cZ cL_law 4 ret0 wsL_law RL A) (hX : va_X b L xs s s.heap) (hbl : b < s.heap.size) (hbA : ¬ A b) (hL : L ≤ 3072) (hi : i + 6 ≤ L) (hV : INV S k0 T k1 U st so sv) (hP : va_P D vwCl (LW cI cZ q0 u q1 w S Z k0 T k1 U st be so sv) H) (hD : va_D A (LW cI cZ q0 u q1 w S Z k0 T k1 U st be so sv)) (hS : va_S A s.heap H locs) (hl : lv_has ls 4 [(0, .ref b), (1, .ref q0), (2, .ref q1), (3, .int (nI i))])
    (kk : ∀ (S Z T U : Nat → Nat → Int32) (k0 k1 : Int32) (st be so sv : Nat → Int32) (H : Heap) (locs : List Loc), INV S k0 T k1 U st so sv → va_P D vwCl (LW cI cZ q0 u q1 w S Z k0 T k1 U st be so sv) H → va_D A (LW cI cZ q0 u q1 w S Z k0 T k1 U st be so sv) → va_S A s.heap H locs → W p l e room_1 s m #[Value.ref b] below meth c H locs 60 1186 Q (F0 m 1013 ls [])) : W p l e room_1 s m #[Value.ref b] below meth c H locs 60 1186 Q (F0 m 836 ls []) := by
  obtain ⟨⟨n, hR⟩, h0, h1⟩ := id hV
  have hx := X.1.1
  have hb := X.1.2.1
  obtain ⟨r, e1, e2⟩ := P_deliveredCount hR
  refine lv_aload_n hx hb dL_law_836 rfl (lv_at hl 1 rfl) ?_
  refine callVIq X (k_X5_deliveredCount l D cI cZ q0 (u 0) (u 13) (u 26) (u 40) (u 1) (u 6) (u 7) (u 2) (u 3) (u 4) (u 5) (u 8) (u 9) (u 10) (u 11) (u 12) (S 0 0) (S 1 0) (S 2) (S 3) (S 4) (S 6 0) (S 7 0) (S 8 0) (S 9 0) (S 10 0) (S 11 0) (S 12 0) (S 13 0) (S 14 0) (S 15 0) (S 20) r e1) (cwV 0 X.1.2.2.2.2 gL_law_X5_deliveredCount rfl rfl rfl kd_X5_deliveredCount ⟨Nat.le_of_ble_eq_true rfl, Nat.le_of_ble_eq_true rfl⟩) hP hD hS hl.1 0 5 rfl rfl [0, 1, 2, 3, 4, 5, 7, 8, 13] (by decide) rfl rfl (rest := []) rfl (Nat.le_of_ble_eq_true rfl) dL_law_837 ⟨Nat.le_of_ble_eq_true rfl, Nat.le_of_ble_eq_true rfl⟩ (fun H locs hP hD hS => ?_)
  refine lv_aload_n hx hb dL_law_840 rfl (lv_at hl 2 rfl) ?_
  refine callVIq X (k_X6_deliveredCount l D cI cZ q1 (w 0) (w 1) (w 2) (w 3) st  r e2) (cwV 0 X.1.2.2.2.2 gL_law_X6_deliveredCount rfl rfl rfl kd_X6_deliveredCount ⟨Nat.le_of_ble_eq_true rfl, Nat.le_of_ble_eq_true rfl⟩) hP hD hS hl.1 55 6 rfl rfl [55, 56] (by decide) rfl rfl (rest := [.int r]) rfl (Nat.le_of_ble_eq_true rfl) dL_law_841 ⟨Nat.le_of_ble_eq_true rfl, Nat.le_of_ble_eq_true rfl⟩ (fun H locs hP hD hS => ?_)
  exact lv_icmp_eq (tgt := 1013) hx hb dL_law_844 (by decide) (fun _ => kk _ _ _ _ _ _ _ _ _ _ _ _ hV hP hD hS) (fun hc => absurd rfl hc)

set_option maxHeartbeats 4000000 in
set_option maxRecDepth 100000 in
theorem arm_hops {p : Program} {l : Launch} {e : Env} {s : State} {m : MethodId} {below : List Frame} {meth : Method} {c : Code} {D : va_G} {cI cZ : ClassId} {A : Nat → Prop} {H : Heap} {locs : List Loc} {ls : Array Slot} {ret0 : Option FieldType} {b L : Nat} {xs : Nat → Int32} {Q : State → Prop} {q0 q1 : Nat} {u w : Nat → Nat} {S Z T U : Nat → Nat → Int32} {k0 k1 : Int32} {st be so sv : Nat → Int32} {i : Nat} (X : Cx p s m #[Value.ref b] meth c D cI cZ cL_law 4 ret0 wsL_law RL A) (hX : va_X b L xs s s.heap) (hbl : b < s.heap.size) (hbA : ¬ A b) (hL : L ≤ 3072) (hi : i + 6 ≤ L) (hV : INV S k0 T k1 U st so sv) (hP : va_P D vwCl (LW cI cZ q0 u q1 w S Z k0 T k1 U st be so sv) H) (hD : va_D A (LW cI cZ q0 u q1 w S Z k0 T k1 U st be so sv)) (hS : va_S A s.heap H locs) (hl : lv_has ls 4 [(0, .ref b), (1, .ref q0), (2, .ref q1), (3, .int (nI i))])
    (kk : ∀ (S Z T U : Nat → Nat → Int32) (k0 k1 : Int32) (st be so sv : Nat → Int32) (H : Heap) (locs : List Loc), INV S k0 T k1 U st so sv → va_P D vwCl (LW cI cZ q0 u q1 w S Z k0 T k1 U st be so sv) H → va_D A (LW cI cZ q0 u q1 w S Z k0 T k1 U st be so sv) → va_S A s.heap H locs → W p l e room_1 s m #[Value.ref b] below meth c H locs 60 1186 Q (F0 m 1013 ls [])) : W p l e room_1 s m #[Value.ref b] below meth c H locs 60 1186 Q (F0 m 849 ls []) := by
  obtain ⟨⟨n, hR⟩, h0, h1⟩ := id hV
  have hx := X.1.1
  have hb := X.1.2.1
  obtain ⟨r, e1, e2⟩ := P_hops hR (xs (i + 1))
  refine lv_aload_n hx hb dL_law_849 rfl (lv_at hl 1 rfl) ?_
  refine sarg hx hb hX hbl hbA hS hl (k := 1) (by omega) hL ic_1 dL_law_850 dL_law_851 dL_law_852 dL_law_853 dL_law_854 ?_
  refine callVIq X (k_X5_hops l D cI cZ q0 (u 0) (u 13) (u 26) (u 40) (u 1) (u 6) (u 7) (u 2) (u 3) (u 4) (u 5) (u 8) (u 9) (u 10) (u 11) (u 12) (S 0 0) (S 1 0) (S 2) (S 3) (S 4) (S 6 0) (S 7 0) (S 8 0) (S 9 0) (S 10 0) (S 11 0) (S 12 0) (S 13 0) (S 14 0) (S 15 0) (S 20) (xs (i + 1)) r e1) (cwV 1 X.1.2.2.2.2 gL_law_X5_hops rfl rfl rfl kd_X5_hops ⟨Nat.le_of_ble_eq_true rfl, Nat.le_of_ble_eq_true rfl⟩) hP hD hS hl.1 0 5 rfl rfl [0, 1, 2, 3, 4, 5, 7, 8, 13] (by decide) rfl rfl (rest := []) rfl (Nat.le_of_ble_eq_true rfl) dL_law_855 ⟨Nat.le_of_ble_eq_true rfl, Nat.le_of_ble_eq_true rfl⟩ (fun H locs hP hD hS => ?_)
  refine lv_aload_n hx hb dL_law_858 rfl (lv_at hl 2 rfl) ?_
  refine sarg hx hb hX hbl hbA hS hl (k := 1) (by omega) hL ic_1 dL_law_859 dL_law_860 dL_law_861 dL_law_862 dL_law_863 ?_
  refine callVIq X (k_X6_hops l D cI cZ q1 (w 0) (w 1) (w 2) (w 3) st (xs (i + 1)) r e2) (cwV 1 X.1.2.2.2.2 gL_law_X6_hops rfl rfl rfl kd_X6_hops ⟨Nat.le_of_ble_eq_true rfl, Nat.le_of_ble_eq_true rfl⟩) hP hD hS hl.1 55 6 rfl rfl [55, 56] (by decide) rfl rfl (rest := [.int r]) rfl (Nat.le_of_ble_eq_true rfl) dL_law_864 ⟨Nat.le_of_ble_eq_true rfl, Nat.le_of_ble_eq_true rfl⟩ (fun H locs hP hD hS => ?_)
  exact lv_icmp_eq (tgt := 1013) hx hb dL_law_867 (by decide) (fun _ => kk _ _ _ _ _ _ _ _ _ _ _ _ hV hP hD hS) (fun hc => absurd rfl hc)

set_option maxHeartbeats 4000000 in
set_option maxRecDepth 100000 in
theorem arm_averageHops {p : Program} {l : Launch} {e : Env} {s : State} {m : MethodId} {below : List Frame} {meth : Method} {c : Code} {D : va_G} {cI cZ : ClassId} {A : Nat → Prop} {H : Heap} {locs : List Loc} {ls : Array Slot} {ret0 : Option FieldType} {b L : Nat} {xs : Nat → Int32} {Q : State → Prop} {q0 q1 : Nat} {u w : Nat → Nat} {S Z T U : Nat → Nat → Int32} {k0 k1 : Int32} {st be so sv : Nat → Int32} {i : Nat} (X : Cx p s m #[Value.ref b] meth c D cI cZ cL_law 4 ret0 wsL_law RL A) (hX : va_X b L xs s s.heap) (hbl : b < s.heap.size) (hbA : ¬ A b) (hL : L ≤ 3072) (hi : i + 6 ≤ L) (hV : INV S k0 T k1 U st so sv) (hP : va_P D vwCl (LW cI cZ q0 u q1 w S Z k0 T k1 U st be so sv) H) (hD : va_D A (LW cI cZ q0 u q1 w S Z k0 T k1 U st be so sv)) (hS : va_S A s.heap H locs) (hl : lv_has ls 4 [(0, .ref b), (1, .ref q0), (2, .ref q1), (3, .int (nI i))])
    (kk : ∀ (S Z T U : Nat → Nat → Int32) (k0 k1 : Int32) (st be so sv : Nat → Int32) (H : Heap) (locs : List Loc), INV S k0 T k1 U st so sv → va_P D vwCl (LW cI cZ q0 u q1 w S Z k0 T k1 U st be so sv) H → va_D A (LW cI cZ q0 u q1 w S Z k0 T k1 U st be so sv) → va_S A s.heap H locs → W p l e room_1 s m #[Value.ref b] below meth c H locs 60 1186 Q (F0 m 1013 ls [])) : W p l e room_1 s m #[Value.ref b] below meth c H locs 60 1186 Q (F0 m 872 ls []) := by
  obtain ⟨⟨n, hR⟩, h0, h1⟩ := id hV
  have hx := X.1.1
  have hb := X.1.2.1
  obtain ⟨r, e1, e2⟩ := P_averageHops hR
  refine lv_aload_n hx hb dL_law_872 rfl (lv_at hl 1 rfl) ?_
  refine callVIq X (k_X5_averageHops l D cI cZ q0 (u 0) (u 13) (u 26) (u 40) (u 1) (u 6) (u 7) (u 2) (u 3) (u 4) (u 5) (u 8) (u 9) (u 10) (u 11) (u 12) (S 0 0) (S 1 0) (S 2) (S 3) (S 4) (S 6 0) (S 7 0) (S 8 0) (S 9 0) (S 10 0) (S 11 0) (S 12 0) (S 13 0) (S 14 0) (S 15 0) (S 20) r e1) (cwV 0 X.1.2.2.2.2 gL_law_X5_averageHops rfl rfl rfl kd_X5_averageHops ⟨Nat.le_of_ble_eq_true rfl, Nat.le_of_ble_eq_true rfl⟩) hP hD hS hl.1 0 5 rfl rfl [0, 1, 2, 3, 4, 5, 7, 8, 13] (by decide) rfl rfl (rest := []) rfl (Nat.le_of_ble_eq_true rfl) dL_law_873 ⟨Nat.le_of_ble_eq_true rfl, Nat.le_of_ble_eq_true rfl⟩ (fun H locs hP hD hS => ?_)
  refine lv_aload_n hx hb dL_law_876 rfl (lv_at hl 2 rfl) ?_
  refine callVIq X (k_X6_averageHops l D cI cZ q1 (w 0) (w 1) (w 2) (w 3) st  r e2) (cwV 0 X.1.2.2.2.2 gL_law_X6_averageHops rfl rfl rfl kd_X6_averageHops ⟨Nat.le_of_ble_eq_true rfl, Nat.le_of_ble_eq_true rfl⟩) hP hD hS hl.1 55 6 rfl rfl [55, 56] (by decide) rfl rfl (rest := [.int r]) rfl (Nat.le_of_ble_eq_true rfl) dL_law_877 ⟨Nat.le_of_ble_eq_true rfl, Nat.le_of_ble_eq_true rfl⟩ (fun H locs hP hD hS => ?_)
  exact lv_icmp_eq (tgt := 1013) hx hb dL_law_880 (by decide) (fun _ => kk _ _ _ _ _ _ _ _ _ _ _ _ hV hP hD hS) (fun hc => absurd rfl hc)

set_option maxHeartbeats 4000000 in
set_option maxRecDepth 100000 in
theorem arm_squelchedAt {p : Program} {l : Launch} {e : Env} {s : State} {m : MethodId} {below : List Frame} {meth : Method} {c : Code} {D : va_G} {cI cZ : ClassId} {A : Nat → Prop} {H : Heap} {locs : List Loc} {ls : Array Slot} {ret0 : Option FieldType} {b L : Nat} {xs : Nat → Int32} {Q : State → Prop} {q0 q1 : Nat} {u w : Nat → Nat} {S Z T U : Nat → Nat → Int32} {k0 k1 : Int32} {st be so sv : Nat → Int32} {i : Nat} (X : Cx p s m #[Value.ref b] meth c D cI cZ cL_law 4 ret0 wsL_law RL A) (hX : va_X b L xs s s.heap) (hbl : b < s.heap.size) (hbA : ¬ A b) (hL : L ≤ 3072) (hi : i + 6 ≤ L) (hV : INV S k0 T k1 U st so sv) (hP : va_P D vwCl (LW cI cZ q0 u q1 w S Z k0 T k1 U st be so sv) H) (hD : va_D A (LW cI cZ q0 u q1 w S Z k0 T k1 U st be so sv)) (hS : va_S A s.heap H locs) (hl : lv_has ls 4 [(0, .ref b), (1, .ref q0), (2, .ref q1), (3, .int (nI i))])
    (kk : ∀ (S Z T U : Nat → Nat → Int32) (k0 k1 : Int32) (st be so sv : Nat → Int32) (H : Heap) (locs : List Loc), INV S k0 T k1 U st so sv → va_P D vwCl (LW cI cZ q0 u q1 w S Z k0 T k1 U st be so sv) H → va_D A (LW cI cZ q0 u q1 w S Z k0 T k1 U st be so sv) → va_S A s.heap H locs → W p l e room_1 s m #[Value.ref b] below meth c H locs 60 1186 Q (F0 m 1013 ls [])) : W p l e room_1 s m #[Value.ref b] below meth c H locs 60 1186 Q (F0 m 885 ls []) := by
  obtain ⟨⟨n, hR⟩, h0, h1⟩ := id hV
  have hx := X.1.1
  have hb := X.1.2.1
  obtain ⟨r, e1, e2⟩ := P_squelchedAt hR (xs (i + 1))
  refine lv_aload_n hx hb dL_law_885 rfl (lv_at hl 1 rfl) ?_
  refine sarg hx hb hX hbl hbA hS hl (k := 1) (by omega) hL ic_1 dL_law_886 dL_law_887 dL_law_888 dL_law_889 dL_law_890 ?_
  refine callVIq X (k_X5_squelchedAt l D cI cZ q0 (u 0) (u 13) (u 26) (u 40) (u 1) (u 6) (u 7) (u 2) (u 3) (u 4) (u 5) (u 8) (u 9) (u 10) (u 11) (u 12) (S 0 0) (S 1 0) (S 2) (S 3) (S 4) (S 6 0) (S 7 0) (S 8 0) (S 9 0) (S 10 0) (S 11 0) (S 12 0) (S 13 0) (S 14 0) (S 15 0) (S 20) (xs (i + 1)) r e1) (cwV 1 X.1.2.2.2.2 gL_law_X5_squelchedAt rfl rfl rfl kd_X5_squelchedAt ⟨Nat.le_of_ble_eq_true rfl, Nat.le_of_ble_eq_true rfl⟩) hP hD hS hl.1 0 5 rfl rfl [0, 1, 2, 3, 4, 5, 7, 8, 13] (by decide) rfl rfl (rest := []) rfl (Nat.le_of_ble_eq_true rfl) dL_law_891 ⟨Nat.le_of_ble_eq_true rfl, Nat.le_of_ble_eq_true rfl⟩ (fun H locs hP hD hS => ?_)
  refine lv_aload_n hx hb dL_law_894 rfl (lv_at hl 2 rfl) ?_
  refine sarg hx hb hX hbl hbA hS hl (k := 1) (by omega) hL ic_1 dL_law_895 dL_law_896 dL_law_897 dL_law_898 dL_law_899 ?_
  refine callVIq X (k_X6_squelchedAt l D cI cZ q1 (w 0) (w 1) (w 2) (w 3) st (xs (i + 1)) r e2) (cwV 1 X.1.2.2.2.2 gL_law_X6_squelchedAt rfl rfl rfl kd_X6_squelchedAt ⟨Nat.le_of_ble_eq_true rfl, Nat.le_of_ble_eq_true rfl⟩) hP hD hS hl.1 55 6 rfl rfl [55, 56] (by decide) rfl rfl (rest := [.int r]) rfl (Nat.le_of_ble_eq_true rfl) dL_law_900 ⟨Nat.le_of_ble_eq_true rfl, Nat.le_of_ble_eq_true rfl⟩ (fun H locs hP hD hS => ?_)
  exact lv_icmp_eq (tgt := 1013) hx hb dL_law_903 (by decide) (fun _ => kk _ _ _ _ _ _ _ _ _ _ _ _ hV hP hD hS) (fun hc => absurd rfl hc)
