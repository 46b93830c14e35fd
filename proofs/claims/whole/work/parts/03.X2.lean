abbrev wo_X2_hasNode (cI cZ : ClassId) (a_t : Nat) (v_t_nd : Int32) (v_t_sn : Int32) : va_W := [(a_t, oX2 v_t_nd v_t_sn)]
def fX2_hasNode (v_t_nd : Int32) (p1 : Int32) : Option (Bool) := (if p1 < 0 then (some false) else (if v_t_nd ≤ p1 then (some false) else (some true)))
theorem kd_X2_hasNode : yX2_hasNode.cls = RX2 ∧ yX2_hasNode.cls ≠ "java/lang/invoke/MethodHandle" ∧ yX2_hasNode.cls ≠ "java/lang/invoke/VarHandle" ∧ (parseMethodDescriptor yX2_hasNode.desc).map (fun d => d.parameters.length) = some 1 := by decide +kernel
def rm_X2_hasNode : Room := { frames := 0, cells := 0, slots := 0, locals := 0 }
set_option maxHeartbeats 4000000 in
set_option maxRecDepth 100000 in
theorem k_X2_hasNode (l : Launch) (D : va_G) (cI cZ : ClassId) (a_t : Nat) (v_t_nd : Int32) (v_t_sn : Int32) (p1 : Int32) (q : Bool) (hf : fX2_hasNode v_t_nd p1 = some q) : CI l D cI cZ yX2_hasNode wsX2_hasNode rm_X2_hasNode [.ref a_t, .int p1] (wo_X2_hasNode cI cZ a_t v_t_nd v_t_sn) (wo_X2_hasNode cI cZ a_t v_t_nd v_t_sn) (b2i q) := by
  refine CI.mk (cc := cX2_hasNode) (maxL := 2) (by decide) rfl (by decide) ?_
  intro p e s m below meth c ls A X hP hD hl hS
  have hx := X.1.1
  have hb := X.1.2.1
  have hl : lv_has ls 2 [(0, .ref a_t), (1, .int p1)] := hl
  have inX2 : ∀ w ∈ u_ws RX2 TX2 2, w ∈ wsX2_hasNode := fun _ h => List.mem_cons_of_mem _ (List.mem_append_right _ h)
  unfold fX2_hasNode at hf
  refine lv_iload_n hx hb dX2_hasNode_0 rfl (lv_at hl 1 rfl) ?_
  refine lv_if_lt (tgt := 16) hx hb dX2_hasNode_1 (by decide) (fun hc => ?_) (fun hc => ?_)
  · replace hf := ifp hc hf
    refine lv_iconst hx hb dX2_hasNode_16 ic_0 ?_
    obtain rfl := Option.some.inj hf
    exact retB X hS hP rfl rfl dX2_hasNode_17
  · replace hf := ifn hc hf
    refine lv_iload_n hx hb dX2_hasNode_4 rfl (lv_at hl 1 rfl) ?_
    refine lv_aload_n hx hb dX2_hasNode_5 rfl (lv_at hl 0 rfl) ?_
    refine getO X hP inX2 0 rfl rfl 0 (by decide) (List.mem_of_getElem? (i := 1) rfl) rfl dX2_hasNode_6 ?_
    refine lv_icmp_ge (tgt := 16) hx hb dX2_hasNode_9 (by decide) (fun hc => ?_) (fun hc => ?_)
    · replace hf := ifp hc hf
      refine lv_iconst hx hb dX2_hasNode_16 ic_0 ?_
      obtain rfl := Option.some.inj hf
      exact retB X hS hP rfl rfl dX2_hasNode_17
    · replace hf := ifn hc hf
      refine lv_iconst hx hb dX2_hasNode_12 ic_1 ?_
      refine lv_goto (tgt := 17) hx hb dX2_hasNode_13 (by decide) ?_
      obtain rfl := Option.some.inj hf
      exact retB X hS hP rfl rfl dX2_hasNode_17
abbrev wo_X2_hasSpan (cI cZ : ClassId) (a_t : Nat) (v_t_nd : Int32) (v_t_sn : Int32) : va_W := [(a_t, oX2 v_t_nd v_t_sn)]
def fX2_hasSpan (v_t_nd : Int32) (p1 : Int32) : Option (Bool) := (if p1 < 0 then (some false) else (if v_t_nd ≤ p1 then (some false) else (some true)))
theorem kd_X2_hasSpan : yX2_hasSpan.cls = RX2 ∧ yX2_hasSpan.cls ≠ "java/lang/invoke/MethodHandle" ∧ yX2_hasSpan.cls ≠ "java/lang/invoke/VarHandle" ∧ (parseMethodDescriptor yX2_hasSpan.desc).map (fun d => d.parameters.length) = some 1 := by decide +kernel
def rm_X2_hasSpan : Room := { frames := 0, cells := 0, slots := 0, locals := 0 }
set_option maxHeartbeats 4000000 in
set_option maxRecDepth 100000 in
theorem k_X2_hasSpan (l : Launch) (D : va_G) (cI cZ : ClassId) (a_t : Nat) (v_t_nd : Int32) (v_t_sn : Int32) (p1 : Int32) (q : Bool) (hf : fX2_hasSpan v_t_nd p1 = some q) : CI l D cI cZ yX2_hasSpan wsX2_hasSpan rm_X2_hasSpan [.ref a_t, .int p1] (wo_X2_hasSpan cI cZ a_t v_t_nd v_t_sn) (wo_X2_hasSpan cI cZ a_t v_t_nd v_t_sn) (b2i q) := by
  refine CI.mk (cc := cX2_hasSpan) (maxL := 2) (by decide) rfl (by decide) ?_
  intro p e s m below meth c ls A X hP hD hl hS
  have hx := X.1.1
  have hb := X.1.2.1
  have hl : lv_has ls 2 [(0, .ref a_t), (1, .int p1)] := hl
  have inX2 : ∀ w ∈ u_ws RX2 TX2 2, w ∈ wsX2_hasSpan := fun _ h => List.mem_cons_of_mem _ (List.mem_append_right _ h)
  unfold fX2_hasSpan at hf
  refine lv_iload_n hx hb dX2_hasSpan_0 rfl (lv_at hl 1 rfl) ?_
  refine lv_if_lt (tgt := 16) hx hb dX2_hasSpan_1 (by decide) (fun hc => ?_) (fun hc => ?_)
  · replace hf := ifp hc hf
    refine lv_iconst hx hb dX2_hasSpan_16 ic_0 ?_
    obtain rfl := Option.some.inj hf
    exact retB X hS hP rfl rfl dX2_hasSpan_17
  · replace hf := ifn hc hf
    refine lv_iload_n hx hb dX2_hasSpan_4 rfl (lv_at hl 1 rfl) ?_
    refine lv_aload_n hx hb dX2_hasSpan_5 rfl (lv_at hl 0 rfl) ?_
    refine getO X hP inX2 0 rfl rfl 0 (by decide) (List.mem_of_getElem? (i := 1) rfl) rfl dX2_hasSpan_6 ?_
    refine lv_icmp_ge (tgt := 16) hx hb dX2_hasSpan_9 (by decide) (fun hc => ?_) (fun hc => ?_)
    · replace hf := ifp hc hf
      refine lv_iconst hx hb dX2_hasSpan_16 ic_0 ?_
      obtain rfl := Option.some.inj hf
      exact retB X hS hP rfl rfl dX2_hasSpan_17
    · replace hf := ifn hc hf
      refine lv_iconst hx hb dX2_hasSpan_12 ic_1 ?_
      refine lv_goto (tgt := 17) hx hb dX2_hasSpan_13 (by decide) ?_
      obtain rfl := Option.some.inj hf
      exact retB X hS hP rfl rfl dX2_hasSpan_17
abbrev wo_X2_nodeAfter (cI cZ : ClassId) (a_t : Nat) (v_t_nd : Int32) (v_t_sn : Int32) : va_W := [(a_t, oX2 v_t_nd v_t_sn)]
def fX2_nodeAfter (v_t_nd : Int32) (p1 : Int32) : Option (Int32) := (if v_t_nd ≤ (p1 + (nI 1)) then (some 0) else (some (p1 + (nI 1))))
theorem kd_X2_nodeAfter : yX2_nodeAfter.cls = RX2 ∧ yX2_nodeAfter.cls ≠ "java/lang/invoke/MethodHandle" ∧ yX2_nodeAfter.cls ≠ "java/lang/invoke/VarHandle" ∧ (parseMethodDescriptor yX2_nodeAfter.desc).map (fun d => d.parameters.length) = some 1 := by decide +kernel
def rm_X2_nodeAfter : Room := { frames := 0, cells := 0, slots := 0, locals := 0 }
set_option maxHeartbeats 4000000 in
set_option maxRecDepth 100000 in
theorem k_X2_nodeAfter (l : Launch) (D : va_G) (cI cZ : ClassId) (a_t : Nat) (v_t_nd : Int32) (v_t_sn : Int32) (p1 : Int32) (q : Int32) (hf : fX2_nodeAfter v_t_nd p1 = some q) : CI l D cI cZ yX2_nodeAfter wsX2_nodeAfter rm_X2_nodeAfter [.ref a_t, .int p1] (wo_X2_nodeAfter cI cZ a_t v_t_nd v_t_sn) (wo_X2_nodeAfter cI cZ a_t v_t_nd v_t_sn) q := by
  refine CI.mk (cc := cX2_nodeAfter) (maxL := 2) (by decide) rfl (by decide) ?_
  intro p e s m below meth c ls A X hP hD hl hS
  have hx := X.1.1
  have hb := X.1.2.1
  have hl : lv_has ls 2 [(0, .ref a_t), (1, .int p1)] := hl
  have inX2 : ∀ w ∈ u_ws RX2 TX2 2, w ∈ wsX2_nodeAfter := fun _ h => List.mem_cons_of_mem _ (List.mem_append_right _ h)
  unfold fX2_nodeAfter at hf
  refine lv_iload_n hx hb dX2_nodeAfter_0 rfl (lv_at hl 1 rfl) ?_
  refine lv_iconst hx hb dX2_nodeAfter_1 ic_1 ?_
  refine lv_iadd hx hb dX2_nodeAfter_2 ?_
  refine lv_aload_n hx hb dX2_nodeAfter_3 rfl (lv_at hl 0 rfl) ?_
  refine getO X hP inX2 0 rfl rfl 0 (by decide) (List.mem_of_getElem? (i := 1) rfl) rfl dX2_nodeAfter_4 ?_
  refine lv_icmp_ge (tgt := 16) hx hb dX2_nodeAfter_7 (by decide) (fun hc => ?_) (fun hc => ?_)
  · replace hf := ifp hc hf
    refine lv_iconst hx hb dX2_nodeAfter_16 ic_0 ?_
    obtain rfl := Option.some.inj hf
    exact retI X hS hP rfl dX2_nodeAfter_17
  · replace hf := ifn hc hf
    refine lv_iload_n hx hb dX2_nodeAfter_10 rfl (lv_at hl 1 rfl) ?_
    refine lv_iconst hx hb dX2_nodeAfter_11 ic_1 ?_
    refine lv_iadd hx hb dX2_nodeAfter_12 ?_
    refine lv_goto (tgt := 17) hx hb dX2_nodeAfter_13 (by decide) ?_
    obtain rfl := Option.some.inj hf
    exact retI X hS hP rfl dX2_nodeAfter_17
abbrev wo_X2_spansAt (cI cZ : ClassId) (a_t : Nat) (v_t_nd : Int32) (v_t_sn : Int32) : va_W := [(a_t, oX2 v_t_nd v_t_sn)]
def fX2_spansAt (v_t_nd : Int32) (p1 : Int32) : Option (Int32) := ((if p1 ≤ 0 then (some (v_t_nd - (nI 1))) else (some (p1 - (nI 1)))).bind (fun ph16 => (some (((nI 1) <<< (p1 &&& 31)) ||| ((nI 1) <<< (ph16 &&& 31))))))
theorem kd_X2_spansAt : yX2_spansAt.cls = RX2 ∧ yX2_spansAt.cls ≠ "java/lang/invoke/MethodHandle" ∧ yX2_spansAt.cls ≠ "java/lang/invoke/VarHandle" ∧ (parseMethodDescriptor yX2_spansAt.desc).map (fun d => d.parameters.length) = some 1 := by decide +kernel
def rm_X2_spansAt : Room := { frames := 0, cells := 0, slots := 0, locals := 0 }
set_option maxHeartbeats 4000000 in
set_option maxRecDepth 100000 in
theorem k_X2_spansAt (l : Launch) (D : va_G) (cI cZ : ClassId) (a_t : Nat) (v_t_nd : Int32) (v_t_sn : Int32) (p1 : Int32) (q : Int32) (hf : fX2_spansAt v_t_nd p1 = some q) : CI l D cI cZ yX2_spansAt wsX2_spansAt rm_X2_spansAt [.ref a_t, .int p1] (wo_X2_spansAt cI cZ a_t v_t_nd v_t_sn) (wo_X2_spansAt cI cZ a_t v_t_nd v_t_sn) q := by
  refine CI.mk (cc := cX2_spansAt) (maxL := 3) (by decide) rfl (by decide) ?_
  intro p e s m below meth c ls A X hP hD hl hS
  have hx := X.1.1
  have hb := X.1.2.1
  have hl : lv_has ls 3 [(0, .ref a_t), (1, .int p1)] := hl
  have inX2 : ∀ w ∈ u_ws RX2 TX2 2, w ∈ wsX2_spansAt := fun _ h => List.mem_cons_of_mem _ (List.mem_append_right _ h)
  unfold fX2_spansAt at hf
  refine lv_iload_n hx hb dX2_spansAt_0 rfl (lv_at hl 1 rfl) ?_
  obtain ⟨ph16, hg, hf⟩ := bnd hf
  have J16 : ∀ (H : Heap) (locs : List Loc) (ls : Array Slot), va_P D vwCl (wo_X2_spansAt cI cZ a_t v_t_nd v_t_sn) H → va_D A (wo_X2_spansAt cI cZ a_t v_t_nd v_t_sn) → va_S A s.heap H locs → lv_has ls 3 [(1, .int p1)] → W p l e rm_X2_spansAt s m ([.ref a_t, .int p1] : List Value).toArray below meth c H locs 0 0 (MQ below (QI D (wo_X2_spansAt cI cZ a_t v_t_nd v_t_sn) q A) ([.ref a_t, .int p1] : List Value).toArray s 0 0 A) (F0 m 16 ls [.int ph16]) := by
    clear hg hP hD hS hl
    intro H locs ls hP hD hS hl
    refine lv_istore_n (lv' := [(2, .int ph16), (1, .int p1)]) hx hb dX2_spansAt_16 rfl hl (by decide) rfl (fun ls hl => ?_)
    refine lv_iconst hx hb dX2_spansAt_17 ic_1 ?_
    refine lv_iload_n hx hb dX2_spansAt_18 rfl (lv_at hl 1 rfl) ?_
    refine lv_ishl hx hb dX2_spansAt_19 ?_
    refine lv_iconst hx hb dX2_spansAt_20 ic_1 ?_
    refine lv_iload_n hx hb dX2_spansAt_21 rfl (lv_at hl 0 rfl) ?_
    refine lv_ishl hx hb dX2_spansAt_22 ?_
    refine lv_ior hx hb dX2_spansAt_23 ?_
    obtain rfl := Option.some.inj hf
    exact retI X hS hP rfl dX2_spansAt_24
  replace hf := hg
  clear hg
  refine lv_if_le (tgt := 10) hx hb dX2_spansAt_1 (by decide) (fun hc => ?_) (fun hc => ?_)
  · replace hf := ifp hc hf
    refine lv_aload_n hx hb dX2_spansAt_10 rfl (lv_at hl 0 rfl) ?_
    refine getO X hP inX2 0 rfl rfl 0 (by decide) (List.mem_of_getElem? (i := 1) rfl) rfl dX2_spansAt_11 ?_
    refine lv_iconst hx hb dX2_spansAt_14 ic_1 ?_
    refine lv_isub hx hb dX2_spansAt_15 ?_
    obtain rfl := Option.some.inj hf
    exact J16 _ _ ls hP hD hS (lv_sub hl [1] rfl)
  · replace hf := ifn hc hf
    refine lv_iload_n hx hb dX2_spansAt_4 rfl (lv_at hl 1 rfl) ?_
    refine lv_iconst hx hb dX2_spansAt_5 ic_1 ?_
    refine lv_isub hx hb dX2_spansAt_6 ?_
    refine lv_goto (tgt := 16) hx hb dX2_spansAt_7 (by decide) ?_
    obtain rfl := Option.some.inj hf
    exact J16 _ _ ls hP hD hS (lv_sub hl [1] rfl)
abbrev wo_X2_route (cI cZ : ClassId) (a_t : Nat) (v_t_nd : Int32) (v_t_sn : Int32) : va_W := [(a_t, oX2 v_t_nd v_t_sn)]
def fX2_route_L9 (v_t_nd : Int32) (p1 : Int32) (p2 : Int32) (p3 : Int32) (K : Int32 → Int32 → Int32 → Option (Int32)) : Nat → Int32 → Int32 → Int32 → Option (Int32)
  | 0, _, _, _ => none
  | k + 1, x4_9, x5_9, x6_9 => (if v_t_nd ≤ x6_9 then (K x4_9 x5_9 x6_9) else (if x5_9 = p2 then (K x4_9 x5_9 x6_9) else ((fX2_nodeAfter v_t_nd x5_9).bind (fun q36 => (fX2_route_L9 v_t_nd p1 p2 p3 K k (x4_9 ||| ((nI 1) <<< (x5_9 &&& 31))) q36 (x6_9 + nI 1))))))
def fX2_route (v_t_nd : Int32) (p1 : Int32) (p2 : Int32) (p3 : Int32) : Option (Int32) := (fX2_route_L9 v_t_nd p1 p2 p3 (fun x4_9 x5_9 x6_9 => (if p3 = 0 then (some ((((nI 1) <<< (v_t_nd &&& 31)) - (nI 1)) &&& (x4_9 ^^^ (-1)))) else (some x4_9))) FU 0 p1 0)
theorem kd_X2_route : yX2_route.cls = RX2 ∧ yX2_route.cls ≠ "java/lang/invoke/MethodHandle" ∧ yX2_route.cls ≠ "java/lang/invoke/VarHandle" ∧ (parseMethodDescriptor yX2_route.desc).map (fun d => d.parameters.length) = some 3 := by decide +kernel
def rm_X2_route : Room := { frames := 1, cells := 0, slots := 0, locals := 21 }
set_option maxHeartbeats 4000000 in
set_option maxRecDepth 100000 in
theorem k_X2_route (l : Launch) (D : va_G) (cI cZ : ClassId) (a_t : Nat) (v_t_nd : Int32) (v_t_sn : Int32) (p1 : Int32) (p2 : Int32) (p3 : Int32) (q : Int32) (hf : fX2_route v_t_nd p1 p2 p3 = some q) : CI l D cI cZ yX2_route wsX2_route rm_X2_route [.ref a_t, .int p1, .int p2, .int p3] (wo_X2_route cI cZ a_t v_t_nd v_t_sn) (wo_X2_route cI cZ a_t v_t_nd v_t_sn) q := by
  refine CI.mk (cc := cX2_route) (maxL := 7) (by decide) rfl (by decide) ?_
  intro p e s m below meth c ls A X hP hD hl hS
  have hx := X.1.1
  have hb := X.1.2.1
  have hl : lv_has ls 7 [(0, .ref a_t), (1, .int p1), (2, .int p2), (3, .int p3)] := hl
  have inX2 : ∀ w ∈ u_ws RX2 TX2 2, w ∈ wsX2_route := fun _ h => List.mem_cons_of_mem _ (List.mem_append_right _ h)
  have L9 : ∀ (K : Int32 → Int32 → Int32 → Option (Int32)) (hKK : ∀ (x4_9 : Int32) (x5_9 : Int32) (x6_9 : Int32) (H : Heap) (locs : List Loc) (ls : Array Slot), K x4_9 x5_9 x6_9 = some q → va_P D vwCl (wo_X2_route cI cZ a_t v_t_nd v_t_sn) H → va_D A (wo_X2_route cI cZ a_t v_t_nd v_t_sn) → va_S A s.heap H locs → lv_has ls 7 [(0, .ref a_t), (3, .int p3), (4, .int x4_9)] → W p l e rm_X2_route s m ([.ref a_t, .int p1, .int p2, .int p3] : List Value).toArray below meth c H locs 0 0 (MQ below (QI D (wo_X2_route cI cZ a_t v_t_nd v_t_sn) q A) ([.ref a_t, .int p1, .int p2, .int p3] : List Value).toArray s 0 0 A) (F0 m 47 ls [])) (k : Nat) (x4_9 : Int32) (x5_9 : Int32) (x6_9 : Int32) (H : Heap) (locs : List Loc) (ls : Array Slot), fX2_route_L9 v_t_nd p1 p2 p3 K k x4_9 x5_9 x6_9 = some q → va_P D vwCl (wo_X2_route cI cZ a_t v_t_nd v_t_sn) H → va_D A (wo_X2_route cI cZ a_t v_t_nd v_t_sn) → va_S A s.heap H locs → lv_has ls 7 [(0, .ref a_t), (2, .int p2), (3, .int p3), (4, .int x4_9), (5, .int x5_9), (6, .int x6_9)] → W p l e rm_X2_route s m ([.ref a_t, .int p1, .int p2, .int p3] : List Value).toArray below meth c H locs 0 0 (MQ below (QI D (wo_X2_route cI cZ a_t v_t_nd v_t_sn) q A) ([.ref a_t, .int p1, .int p2, .int p3] : List Value).toArray s 0 0 A) (F0 m 9 ls []) := by
    intro K hKK k
    induction k with
    | zero => intro x4_9 x5_9 x6_9 H locs ls hf; rw [fX2_route_L9] at hf; cases hf
    | succ k ih =>
      intro x4_9 x5_9 x6_9 H locs ls hf hP hD hS hl
      rw [fX2_route_L9] at hf
      refine lv_iload hx hb dX2_route_9 (lv_at hl 5 rfl) ?_
      refine lv_aload_n hx hb dX2_route_11 rfl (lv_at hl 0 rfl) ?_
      refine getO X hP inX2 0 rfl rfl 0 (by decide) (List.mem_of_getElem? (i := 1) rfl) rfl dX2_route_12 ?_
      refine lv_icmp_ge (tgt := 47) hx hb dX2_route_15 (by decide) (fun hc => ?_) (fun hc => ?_)
      · replace hf := ifp hc hf
        exact hKK _ _ _ _ _ ls hf hP hD hS (lv_sub hl [0, 2, 3] rfl)
      · replace hf := ifn hc hf
        refine lv_iload hx hb dX2_route_18 (lv_at hl 4 rfl) ?_
        refine lv_iload_n hx hb dX2_route_20 rfl (lv_at hl 1 rfl) ?_
        refine lv_icmp_eq (tgt := 47) hx hb dX2_route_21 (by decide) (fun hc => ?_) (fun hc => ?_)
        · replace hf := ifp hc hf
          exact hKK _ _ _ _ _ ls hf hP hD hS (lv_sub hl [0, 2, 3] rfl)
        · replace hf := ifn hc hf
          refine lv_iload hx hb dX2_route_24 (lv_at hl 3 rfl) ?_
          refine lv_iconst hx hb dX2_route_26 ic_1 ?_
          refine lv_iload hx hb dX2_route_27 (lv_at hl 4 rfl) ?_
          refine lv_ishl hx hb dX2_route_29 ?_
          refine lv_ior hx hb dX2_route_30 ?_
          refine lv_istore (lv' := [(4, .int (x4_9 ||| ((nI 1) <<< (x5_9 &&& 31)))), (0, .ref a_t), (2, .int p2), (3, .int p3), (5, .int x5_9), (6, .int x6_9)]) hx hb dX2_route_31 hl (by decide) rfl (fun ls hl => ?_)
          refine lv_aload_n hx hb dX2_route_33 rfl (lv_at hl 1 rfl) ?_
          refine lv_iload hx hb dX2_route_34 (lv_at hl 4 rfl) ?_
          obtain ⟨q36, e36, hf⟩ := bnd hf
          refine callVI X (k_X2_nodeAfter l D cI cZ a_t  v_t_nd v_t_sn x5_9 q36 e36) (cwV 1 X.1.2.2.2.2 gX2_route_X2_nodeAfter rfl rfl rfl kd_X2_nodeAfter ⟨Nat.le_of_ble_eq_true rfl, Nat.le_of_ble_eq_true rfl⟩) hP hD hS hl.1 0 2 rfl rfl [0] (by decide) (wo_X2_route cI cZ a_t v_t_nd v_t_sn) rfl rfl rfl rfl rfl (rest := []) rfl (Nat.le_of_ble_eq_true rfl) dX2_route_36 ⟨Nat.zero_le _, Nat.zero_le _⟩ (fun H locs hP hD hS => ?_)
          refine lv_istore (lv' := [(5, .int q36), (4, .int (x4_9 ||| ((nI 1) <<< (x5_9 &&& 31)))), (0, .ref a_t), (2, .int p2), (3, .int p3), (6, .int x6_9)]) hx hb dX2_route_39 hl (by decide) rfl (fun ls hl => ?_)
          refine lv_iinc (v := (x6_9 + nI 1)) (lv' := [(6, .int (x6_9 + nI 1)), (5, .int q36), (4, .int (x4_9 ||| ((nI 1) <<< (x5_9 &&& 31)))), (0, .ref a_t), (2, .int p2), (3, .int p3)]) hx hb dX2_route_41 hl (k := 5) rfl (inc_1 _) (by decide) rfl (fun ls hl => ?_)
          refine lv_goto (tgt := 9) hx hb dX2_route_44 (by decide) ?_
          exact ih _ _ _ _ _ ls hf hP hD hS (lv_sub hl [3, 4, 5, 2, 1, 0] rfl)
  unfold fX2_route at hf
  refine lv_iconst hx hb dX2_route_0 ic_0 ?_
  refine lv_istore (lv' := [(4, .int 0), (0, .ref a_t), (1, .int p1), (2, .int p2), (3, .int p3)]) hx hb dX2_route_1 hl (by decide) rfl (fun ls hl => ?_)
  refine lv_iload_n hx hb dX2_route_3 rfl (lv_at hl 2 rfl) ?_
  refine lv_istore (lv' := [(5, .int p1), (4, .int 0), (0, .ref a_t), (1, .int p1), (2, .int p2), (3, .int p3)]) hx hb dX2_route_4 hl (by decide) rfl (fun ls hl => ?_)
  refine lv_iconst hx hb dX2_route_6 ic_0 ?_
  refine lv_istore (lv' := [(6, .int 0), (5, .int p1), (4, .int 0), (0, .ref a_t), (1, .int p1), (2, .int p2), (3, .int p3)]) hx hb dX2_route_7 hl (by decide) rfl (fun ls hl => ?_)
  refine L9 _ (fun x4_9 x5_9 x6_9 H locs ls hf hP hD hS hl => ?_) FU _ _ _ _ _ ls hf hP hD hS (lv_sub hl [3, 5, 6, 2, 1, 0] rfl)
  refine lv_iconst hx hb dX2_route_47 ic_1 ?_
  refine lv_aload_n hx hb dX2_route_48 rfl (lv_at hl 0 rfl) ?_
  refine getO X hP inX2 0 rfl rfl 0 (by decide) (List.mem_of_getElem? (i := 1) rfl) rfl dX2_route_49 ?_
  refine lv_ishl hx hb dX2_route_52 ?_
  refine lv_iconst hx hb dX2_route_53 ic_1 ?_
  refine lv_isub hx hb dX2_route_54 ?_
  refine lv_istore (lv' := [(6, .int (((nI 1) <<< (v_t_nd &&& 31)) - (nI 1))), (0, .ref a_t), (3, .int p3), (4, .int x4_9)]) hx hb dX2_route_55 hl (by decide) rfl (fun ls hl => ?_)
  refine lv_iload_n hx hb dX2_route_57 rfl (lv_at hl 2 rfl) ?_
  refine lv_if_eq (tgt := 66) hx hb dX2_route_58 (by decide) (fun hc => ?_) (fun hc => ?_)
  · replace hf := ifp hc hf
    refine lv_iload hx hb dX2_route_66 (lv_at hl 0 rfl) ?_
    refine lv_iload hx hb dX2_route_68 (lv_at hl 3 rfl) ?_
    refine lv_iconst hx hb dX2_route_70 ic_m1 ?_
    refine lv_ixor hx hb dX2_route_71 ?_
    refine lv_iand hx hb dX2_route_72 ?_
    obtain rfl := Option.some.inj hf
    exact retI X hS hP rfl dX2_route_73
  · replace hf := ifn hc hf
    refine lv_iload hx hb dX2_route_61 (lv_at hl 3 rfl) ?_
    refine lv_goto (tgt := 73) hx hb dX2_route_63 (by decide) ?_
    obtain rfl := Option.some.inj hf
    exact retI X hS hP rfl dX2_route_73
