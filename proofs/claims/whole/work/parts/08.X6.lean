abbrev wo_X6_in (cI cZ : ClassId) : va_W := []
def fX6_in (p0 : Int32) (p1 : Int32) (p2 : Int32) : Option (Bool) := (if p0 < p1 then (some false) else (if p2 < p0 then (some false) else (some true)))
theorem kd_X6_in : yX6_in.cls ≠ "java/lang/invoke/MethodHandle" ∧ yX6_in.cls ≠ "java/lang/invoke/VarHandle" ∧ (parseMethodDescriptor yX6_in.desc).map (fun d => d.parameters.length) = some 3 := by decide +kernel
def rm_X6_in : Room := { frames := 0, cells := 0, slots := 0, locals := 0 }
set_option maxHeartbeats 4000000 in
set_option maxRecDepth 100000 in
theorem k_X6_in (l : Launch) (D : va_G) (cI cZ : ClassId) (p0 : Int32) (p1 : Int32) (p2 : Int32) (q : Bool) (hf : fX6_in p0 p1 p2 = some q) : CI l D cI cZ yX6_in wsX6_in rm_X6_in [.int p0, .int p1, .int p2] (wo_X6_in cI cZ) (wo_X6_in cI cZ) (b2i q) := by
  refine CI.mk (cc := cX6_in) (maxL := 3) (by decide) rfl (Nat.le_of_ble_eq_true rfl) ?_
  intro p e s m below meth c ls A X hP hD hl hS
  have hx := X.1.1
  have hb := X.1.2.1
  have hl : lv_has ls 3 [(0, .int p0), (1, .int p1), (2, .int p2)] := hl
  unfold fX6_in at hf
  refine lv_iload_n hx hb dX6_in_0 rfl (lv_at hl 0 rfl) ?_
  refine lv_iload_n hx hb dX6_in_1 rfl (lv_at hl 1 rfl) ?_
  refine lv_icmp_lt (tgt := 14) hx hb dX6_in_2 (by decide) (fun hc => ?_) (fun hc => ?_)
  · replace hf := ifp hc hf
    refine lv_iconst hx hb dX6_in_14 ic_0 ?_
    obtain rfl := Option.some.inj hf
    exact retB X hS hP rfl rfl dX6_in_15
  · replace hf := ifn hc hf
    refine lv_iload_n hx hb dX6_in_5 rfl (lv_at hl 0 rfl) ?_
    refine lv_iload_n hx hb dX6_in_6 rfl (lv_at hl 2 rfl) ?_
    refine lv_icmp_gt (tgt := 14) hx hb dX6_in_7 (by decide) (fun hc => ?_) (fun hc => ?_)
    · replace hf := ifp hc hf
      refine lv_iconst hx hb dX6_in_14 ic_0 ?_
      obtain rfl := Option.some.inj hf
      exact retB X hS hP rfl rfl dX6_in_15
    · replace hf := ifn hc hf
      refine lv_iconst hx hb dX6_in_10 ic_1 ?_
      refine lv_goto (tgt := 15) hx hb dX6_in_11 (by decide) ?_
      obtain rfl := Option.some.inj hf
      exact retB X hS hP rfl rfl dX6_in_15

abbrev wo_X6_isNode (cI cZ : ClassId) (a_t a_t_st a_t_be a_t_so a_t_sv : Nat) (v_t_st : Nat → Int32) : va_W := [(a_t, oX6 a_t_st a_t_be a_t_so a_t_sv), (a_t_st, rI cI 164 v_t_st)]
def fX6_isNode (v_t_st : Nat → Int32) (p1 : Int32) : Option (Bool) := ((fX6_in p1 0 ((v_t_st 0) - (nI 1))).bind (fun q10 => (some q10)))
theorem kd_X6_isNode : yX6_isNode.cls = RX6 ∧ yX6_isNode.cls ≠ "java/lang/invoke/MethodHandle" ∧ yX6_isNode.cls ≠ "java/lang/invoke/VarHandle" ∧ (parseMethodDescriptor yX6_isNode.desc).map (fun d => d.parameters.length) = some 1 := by decide +kernel
def rm_X6_isNode : Room := { frames := 1, cells := 0, slots := 0, locals := 22 }
set_option maxHeartbeats 4000000 in
set_option maxRecDepth 100000 in
theorem k_X6_isNode (l : Launch) (D : va_G) (cI cZ : ClassId) (a_t a_t_st a_t_be a_t_so a_t_sv : Nat) (v_t_st : Nat → Int32) (p1 : Int32) (q : Bool) (hf : fX6_isNode v_t_st p1 = some q) : CI l D cI cZ yX6_isNode wsX6_isNode rm_X6_isNode [.ref a_t, .int p1] (wo_X6_isNode cI cZ a_t a_t_st a_t_be a_t_so a_t_sv v_t_st) (wo_X6_isNode cI cZ a_t a_t_st a_t_be a_t_so a_t_sv v_t_st) (b2i q) := by
  refine CI.mk (cc := cX6_isNode) (maxL := 2) (by decide) rfl (Nat.le_of_ble_eq_true rfl) ?_
  intro p e s m below meth c ls A X hP hD hl hS
  have hx := X.1.1
  have hb := X.1.2.1
  have hl : lv_has ls 2 [(0, .ref a_t), (1, .int p1)] := hl
  have inX6 : ∀ w ∈ u_ws RX6 TX6 4, w ∈ wsX6_isNode := fun _ h => List.mem_cons_of_mem _ (List.mem_append_right _ h)
  unfold fX6_isNode at hf
  refine lv_iload_n hx hb dX6_isNode_0 rfl (lv_at hl 1 rfl) ?_
  refine lv_iconst hx hb dX6_isNode_1 ic_0 ?_
  refine lv_aload_n hx hb dX6_isNode_2 rfl (lv_at hl 0 rfl) ?_
  refine getO X hP inX6 0 rfl rfl 0 (by decide) (List.mem_of_getElem? (i := 1) rfl) rfl dX6_isNode_3 ?_
  refine lv_iconst hx hb dX6_isNode_6 ic_0 ?_
  refine aldI X hP 1 rfl (vin0 (by decide) (by decide)) (j := 0) sb_cl0 dX6_isNode_7 ?_
  refine lv_iconst hx hb dX6_isNode_8 ic_1 ?_
  refine lv_isub hx hb dX6_isNode_9 ?_
  obtain ⟨q10, e10, hf⟩ := bnd hf
  refine callSI X (k_X6_in l D cI cZ    p1 0 ((v_t_st 0) - (nI 1)) q10 e10) (va_cwS 3 X.1.2.2.2.2 gX6_isNode_X6_in rfl rfl rfl kd_X6_in ⟨Nat.le_of_ble_eq_true rfl, Nat.le_of_ble_eq_true rfl⟩) hP hD hS hl.1 [] (by decide) (wo_X6_isNode cI cZ a_t a_t_st a_t_be a_t_so a_t_sv v_t_st) rfl rfl rfl rfl rfl (rest := []) rfl (Nat.le_of_ble_eq_true rfl) dX6_isNode_10 ⟨Nat.zero_le _, Nat.zero_le _⟩ (fun H locs hP hD hS => ?_)
  obtain rfl := Option.some.inj hf
  exact retB X hS hP (b2i_nar _) rfl dX6_isNode_13

abbrev wo_X6_isSpan (cI cZ : ClassId) (a_t a_t_st a_t_be a_t_so a_t_sv : Nat) (v_t_st : Nat → Int32) : va_W := [(a_t, oX6 a_t_st a_t_be a_t_so a_t_sv), (a_t_st, rI cI 164 v_t_st)]
def fX6_isSpan (v_t_st : Nat → Int32) (p1 : Int32) : Option (Bool) := ((fX6_in p1 0 ((v_t_st 0) - (nI 1))).bind (fun q10 => (some q10)))
theorem kd_X6_isSpan : yX6_isSpan.cls = RX6 ∧ yX6_isSpan.cls ≠ "java/lang/invoke/MethodHandle" ∧ yX6_isSpan.cls ≠ "java/lang/invoke/VarHandle" ∧ (parseMethodDescriptor yX6_isSpan.desc).map (fun d => d.parameters.length) = some 1 := by decide +kernel
def rm_X6_isSpan : Room := { frames := 1, cells := 0, slots := 0, locals := 22 }
set_option maxHeartbeats 4000000 in
set_option maxRecDepth 100000 in
theorem k_X6_isSpan (l : Launch) (D : va_G) (cI cZ : ClassId) (a_t a_t_st a_t_be a_t_so a_t_sv : Nat) (v_t_st : Nat → Int32) (p1 : Int32) (q : Bool) (hf : fX6_isSpan v_t_st p1 = some q) : CI l D cI cZ yX6_isSpan wsX6_isSpan rm_X6_isSpan [.ref a_t, .int p1] (wo_X6_isSpan cI cZ a_t a_t_st a_t_be a_t_so a_t_sv v_t_st) (wo_X6_isSpan cI cZ a_t a_t_st a_t_be a_t_so a_t_sv v_t_st) (b2i q) := by
  refine CI.mk (cc := cX6_isSpan) (maxL := 2) (by decide) rfl (Nat.le_of_ble_eq_true rfl) ?_
  intro p e s m below meth c ls A X hP hD hl hS
  have hx := X.1.1
  have hb := X.1.2.1
  have hl : lv_has ls 2 [(0, .ref a_t), (1, .int p1)] := hl
  have inX6 : ∀ w ∈ u_ws RX6 TX6 4, w ∈ wsX6_isSpan := fun _ h => List.mem_cons_of_mem _ (List.mem_append_right _ h)
  unfold fX6_isSpan at hf
  refine lv_iload_n hx hb dX6_isSpan_0 rfl (lv_at hl 1 rfl) ?_
  refine lv_iconst hx hb dX6_isSpan_1 ic_0 ?_
  refine lv_aload_n hx hb dX6_isSpan_2 rfl (lv_at hl 0 rfl) ?_
  refine getO X hP inX6 0 rfl rfl 0 (by decide) (List.mem_of_getElem? (i := 1) rfl) rfl dX6_isSpan_3 ?_
  refine lv_iconst hx hb dX6_isSpan_6 ic_0 ?_
  refine aldI X hP 1 rfl (vin0 (by decide) (by decide)) (j := 0) sb_cl0 dX6_isSpan_7 ?_
  refine lv_iconst hx hb dX6_isSpan_8 ic_1 ?_
  refine lv_isub hx hb dX6_isSpan_9 ?_
  obtain ⟨q10, e10, hf⟩ := bnd hf
  refine callSI X (k_X6_in l D cI cZ    p1 0 ((v_t_st 0) - (nI 1)) q10 e10) (va_cwS 3 X.1.2.2.2.2 gX6_isSpan_X6_in rfl rfl rfl kd_X6_in ⟨Nat.le_of_ble_eq_true rfl, Nat.le_of_ble_eq_true rfl⟩) hP hD hS hl.1 [] (by decide) (wo_X6_isSpan cI cZ a_t a_t_st a_t_be a_t_so a_t_sv v_t_st) rfl rfl rfl rfl rfl (rest := []) rfl (Nat.le_of_ble_eq_true rfl) dX6_isSpan_10 ⟨Nat.zero_le _, Nat.zero_le _⟩ (fun H locs hP hD hS => ?_)
  obtain rfl := Option.some.inj hf
  exact retB X hS hP (b2i_nar _) rfl dX6_isSpan_13

abbrev wo_X6_next (cI cZ : ClassId) (a_t a_t_st a_t_be a_t_so a_t_sv : Nat) (v_t_st : Nat → Int32) : va_W := [(a_t, oX6 a_t_st a_t_be a_t_so a_t_sv), (a_t_st, rI cI 164 v_t_st)]
def fX6_next (v_t_st : Nat → Int32) (p1 : Int32) : Option (Int32) := (if (v_t_st 0) = 0 then none else (some ((p1 + (nI 1)) - (p1 + (nI 1)) / (v_t_st 0) * (v_t_st 0))))
theorem kd_X6_next : yX6_next.cls = RX6 ∧ yX6_next.cls ≠ "java/lang/invoke/MethodHandle" ∧ yX6_next.cls ≠ "java/lang/invoke/VarHandle" ∧ (parseMethodDescriptor yX6_next.desc).map (fun d => d.parameters.length) = some 1 := by decide +kernel
def rm_X6_next : Room := { frames := 0, cells := 0, slots := 0, locals := 0 }
set_option maxHeartbeats 4000000 in
set_option maxRecDepth 100000 in
theorem k_X6_next (l : Launch) (D : va_G) (cI cZ : ClassId) (a_t a_t_st a_t_be a_t_so a_t_sv : Nat) (v_t_st : Nat → Int32) (p1 : Int32) (q : Int32) (hf : fX6_next v_t_st p1 = some q) : CI l D cI cZ yX6_next wsX6_next rm_X6_next [.ref a_t, .int p1] (wo_X6_next cI cZ a_t a_t_st a_t_be a_t_so a_t_sv v_t_st) (wo_X6_next cI cZ a_t a_t_st a_t_be a_t_so a_t_sv v_t_st) q := by
  refine CI.mk (cc := cX6_next) (maxL := 2) (by decide) rfl (Nat.le_of_ble_eq_true rfl) ?_
  intro p e s m below meth c ls A X hP hD hl hS
  have hx := X.1.1
  have hb := X.1.2.1
  have hl : lv_has ls 2 [(0, .ref a_t), (1, .int p1)] := hl
  have inX6 : ∀ w ∈ u_ws RX6 TX6 4, w ∈ wsX6_next := fun _ h => List.mem_cons_of_mem _ (List.mem_append_right _ h)
  unfold fX6_next at hf
  refine lv_iload_n hx hb dX6_next_0 rfl (lv_at hl 1 rfl) ?_
  refine lv_iconst hx hb dX6_next_1 ic_1 ?_
  refine lv_iadd hx hb dX6_next_2 ?_
  refine lv_aload_n hx hb dX6_next_3 rfl (lv_at hl 0 rfl) ?_
  refine getO X hP inX6 0 rfl rfl 0 (by decide) (List.mem_of_getElem? (i := 1) rfl) rfl dX6_next_4 ?_
  refine lv_iconst hx hb dX6_next_7 ic_0 ?_
  refine aldI X hP 1 rfl (vin0 (by decide) (by decide)) (j := 0) sb_cl0 dX6_next_8 ?_
  obtain ⟨g9, hf⟩ := grd hf
  refine lv_irem hx hb dX6_next_9 g9 ?_
  obtain rfl := Option.some.inj hf
  exact retI X hS hP rfl dX6_next_10

abbrev wo_X6_at (cI cZ : ClassId) : va_W := []
def fX6_at (p0 : Int32) (p1 : Int32) : Option (Int32) := (some (((nI 12) + ((nI 7) * p0)) + p1))
theorem kd_X6_at : yX6_at.cls ≠ "java/lang/invoke/MethodHandle" ∧ yX6_at.cls ≠ "java/lang/invoke/VarHandle" ∧ (parseMethodDescriptor yX6_at.desc).map (fun d => d.parameters.length) = some 2 := by decide +kernel
def rm_X6_at : Room := { frames := 0, cells := 0, slots := 0, locals := 0 }
set_option maxHeartbeats 4000000 in
set_option maxRecDepth 100000 in
theorem k_X6_at (l : Launch) (D : va_G) (cI cZ : ClassId) (p0 : Int32) (p1 : Int32) (q : Int32) (hf : fX6_at p0 p1 = some q) : CI l D cI cZ yX6_at wsX6_at rm_X6_at [.int p0, .int p1] (wo_X6_at cI cZ) (wo_X6_at cI cZ) q := by
  refine CI.mk (cc := cX6_at) (maxL := 2) (by decide) rfl (Nat.le_of_ble_eq_true rfl) ?_
  intro p e s m below meth c ls A X hP hD hl hS
  have hx := X.1.1
  have hb := X.1.2.1
  have hl : lv_has ls 2 [(0, .int p0), (1, .int p1)] := hl
  unfold fX6_at at hf
  refine lv_bipush hx hb dX6_at_0 bp_12 ?_
  refine lv_bipush hx hb dX6_at_2 bp_7 ?_
  refine lv_iload_n hx hb dX6_at_4 rfl (lv_at hl 0 rfl) ?_
  refine lv_imul hx hb dX6_at_5 ?_
  refine lv_iadd hx hb dX6_at_6 ?_
  refine lv_iload_n hx hb dX6_at_7 rfl (lv_at hl 1 rfl) ?_
  refine lv_iadd hx hb dX6_at_8 ?_
  obtain rfl := Option.some.inj hf
  exact retI X hS hP rfl dX6_at_9

abbrev wo_X6_of (cI cZ : ClassId) (a_t a_t_st a_t_be a_t_so a_t_sv : Nat) (v_t_st : Nat → Int32) : va_W := [(a_t, oX6 a_t_st a_t_be a_t_so a_t_sv), (a_t_st, rI cI 164 v_t_st)]
def fX6_of (v_t_st : Nat → Int32) (p1 : Int32) (p2 : Int32) : Option (Int32) := ((fX6_at p1 p2).bind (fun q6 => (if (q6 < 0 ∨ 164 ≤ (q6).toNatClampNeg) then none else (some (v_t_st (q6).toNatClampNeg)))))
theorem kd_X6_of : yX6_of.cls = RX6 ∧ yX6_of.cls ≠ "java/lang/invoke/MethodHandle" ∧ yX6_of.cls ≠ "java/lang/invoke/VarHandle" ∧ (parseMethodDescriptor yX6_of.desc).map (fun d => d.parameters.length) = some 2 := by decide +kernel
def rm_X6_of : Room := { frames := 1, cells := 0, slots := 0, locals := 21 }
set_option maxHeartbeats 4000000 in
set_option maxRecDepth 100000 in
theorem k_X6_of (l : Launch) (D : va_G) (cI cZ : ClassId) (a_t a_t_st a_t_be a_t_so a_t_sv : Nat) (v_t_st : Nat → Int32) (p1 : Int32) (p2 : Int32) (q : Int32) (hf : fX6_of v_t_st p1 p2 = some q) : CI l D cI cZ yX6_of wsX6_of rm_X6_of [.ref a_t, .int p1, .int p2] (wo_X6_of cI cZ a_t a_t_st a_t_be a_t_so a_t_sv v_t_st) (wo_X6_of cI cZ a_t a_t_st a_t_be a_t_so a_t_sv v_t_st) q := by
  refine CI.mk (cc := cX6_of) (maxL := 3) (by decide) rfl (Nat.le_of_ble_eq_true rfl) ?_
  intro p e s m below meth c ls A X hP hD hl hS
  have hx := X.1.1
  have hb := X.1.2.1
  have hl : lv_has ls 3 [(0, .ref a_t), (1, .int p1), (2, .int p2)] := hl
  have inX6 : ∀ w ∈ u_ws RX6 TX6 4, w ∈ wsX6_of := fun _ h => List.mem_cons_of_mem _ (List.mem_append_right _ h)
  unfold fX6_of at hf
  refine lv_aload_n hx hb dX6_of_0 rfl (lv_at hl 0 rfl) ?_
  refine getO X hP inX6 0 rfl rfl 0 (by decide) (List.mem_of_getElem? (i := 1) rfl) rfl dX6_of_1 ?_
  refine lv_iload_n hx hb dX6_of_4 rfl (lv_at hl 1 rfl) ?_
  refine lv_iload_n hx hb dX6_of_5 rfl (lv_at hl 2 rfl) ?_
  obtain ⟨q6, e6, hf⟩ := bnd hf
  refine callSI X (k_X6_at l D cI cZ    p1 p2 q6 e6) (va_cwS 2 X.1.2.2.2.2 gX6_of_X6_at rfl rfl rfl kd_X6_at ⟨Nat.le_of_ble_eq_true rfl, Nat.le_of_ble_eq_true rfl⟩) hP hD hS hl.1 [] (by decide) (wo_X6_of cI cZ a_t a_t_st a_t_be a_t_so a_t_sv v_t_st) rfl rfl rfl rfl rfl (rest := [.ref a_t_st]) rfl (Nat.le_of_ble_eq_true rfl) dX6_of_6 ⟨Nat.zero_le _, Nat.zero_le _⟩ (fun H locs hP hD hS => ?_)
  obtain ⟨g9, hf⟩ := grd hf
  refine aldI X hP 1 rfl g9 rfl dX6_of_9 ?_
  obtain rfl := Option.some.inj hf
  exact retI X hS hP rfl dX6_of_10

abbrev wo_X6_ofCircuit (cI cZ : ClassId) (a_t a_t_st a_t_be a_t_so a_t_sv : Nat) (v_t_st : Nat → Int32) : va_W := [(a_t, oX6 a_t_st a_t_be a_t_so a_t_sv), (a_t_st, rI cI 164 v_t_st)]
def fX6_ofCircuit (v_t_st : Nat → Int32) (p1 : Int32) (p2 : Int32) : Option (Int32) := (if ((((nI 68) + ((nI 6) * p1)) + p2) < 0 ∨ 164 ≤ ((((nI 68) + ((nI 6) * p1)) + p2)).toNatClampNeg) then none else (some (v_t_st ((((nI 68) + ((nI 6) * p1)) + p2)).toNatClampNeg)))
theorem kd_X6_ofCircuit : yX6_ofCircuit.cls = RX6 ∧ yX6_ofCircuit.cls ≠ "java/lang/invoke/MethodHandle" ∧ yX6_ofCircuit.cls ≠ "java/lang/invoke/VarHandle" ∧ (parseMethodDescriptor yX6_ofCircuit.desc).map (fun d => d.parameters.length) = some 2 := by decide +kernel
def rm_X6_ofCircuit : Room := { frames := 0, cells := 0, slots := 0, locals := 0 }
set_option maxHeartbeats 4000000 in
set_option maxRecDepth 100000 in
theorem k_X6_ofCircuit (l : Launch) (D : va_G) (cI cZ : ClassId) (a_t a_t_st a_t_be a_t_so a_t_sv : Nat) (v_t_st : Nat → Int32) (p1 : Int32) (p2 : Int32) (q : Int32) (hf : fX6_ofCircuit v_t_st p1 p2 = some q) : CI l D cI cZ yX6_ofCircuit wsX6_ofCircuit rm_X6_ofCircuit [.ref a_t, .int p1, .int p2] (wo_X6_ofCircuit cI cZ a_t a_t_st a_t_be a_t_so a_t_sv v_t_st) (wo_X6_ofCircuit cI cZ a_t a_t_st a_t_be a_t_so a_t_sv v_t_st) q := by
  refine CI.mk (cc := cX6_ofCircuit) (maxL := 3) (by decide) rfl (Nat.le_of_ble_eq_true rfl) ?_
  intro p e s m below meth c ls A X hP hD hl hS
  have hx := X.1.1
  have hb := X.1.2.1
  have hl : lv_has ls 3 [(0, .ref a_t), (1, .int p1), (2, .int p2)] := hl
  have inX6 : ∀ w ∈ u_ws RX6 TX6 4, w ∈ wsX6_ofCircuit := fun _ h => List.mem_cons_of_mem _ (List.mem_append_right _ h)
  unfold fX6_ofCircuit at hf
  refine lv_aload_n hx hb dX6_ofCircuit_0 rfl (lv_at hl 0 rfl) ?_
  refine getO X hP inX6 0 rfl rfl 0 (by decide) (List.mem_of_getElem? (i := 1) rfl) rfl dX6_ofCircuit_1 ?_
  refine lv_bipush hx hb dX6_ofCircuit_4 bp_68 ?_
  refine lv_bipush hx hb dX6_ofCircuit_6 bp_6 ?_
  refine lv_iload_n hx hb dX6_ofCircuit_8 rfl (lv_at hl 1 rfl) ?_
  refine lv_imul hx hb dX6_ofCircuit_9 ?_
  refine lv_iadd hx hb dX6_ofCircuit_10 ?_
  refine lv_iload_n hx hb dX6_ofCircuit_11 rfl (lv_at hl 2 rfl) ?_
  refine lv_iadd hx hb dX6_ofCircuit_12 ?_
  obtain ⟨g13, hf⟩ := grd hf
  refine aldI X hP 1 rfl g13 rfl dX6_ofCircuit_13 ?_
  obtain rfl := Option.some.inj hf
  exact retI X hS hP rfl dX6_ofCircuit_14

abbrev wo_X6_isCircuit (cI cZ : ClassId) (a_t a_t_st a_t_be a_t_so a_t_sv : Nat) (v_t_st : Nat → Int32) : va_W := [(a_t, oX6 a_t_st a_t_be a_t_so a_t_sv), (a_t_st, rI cI 164 v_t_st)]
def fX6_isCircuit (v_t_st : Nat → Int32) (p1 : Int32) : Option (Bool) := ((fX6_in p1 0 (nI 15)).bind (fun q4 => (if q4 = true then ((fX6_ofCircuit v_t_st p1 0).bind (fun q13 => (if q13 = (nI 1) then (some true) else (some false)))) else (some false))))
theorem kd_X6_isCircuit : yX6_isCircuit.cls = RX6 ∧ yX6_isCircuit.cls ≠ "java/lang/invoke/MethodHandle" ∧ yX6_isCircuit.cls ≠ "java/lang/invoke/VarHandle" ∧ (parseMethodDescriptor yX6_isCircuit.desc).map (fun d => d.parameters.length) = some 1 := by decide +kernel
def rm_X6_isCircuit : Room := { frames := 1, cells := 0, slots := 0, locals := 22 }
set_option maxHeartbeats 4000000 in
set_option maxRecDepth 100000 in
theorem k_X6_isCircuit (l : Launch) (D : va_G) (cI cZ : ClassId) (a_t a_t_st a_t_be a_t_so a_t_sv : Nat) (v_t_st : Nat → Int32) (p1 : Int32) (q : Bool) (hf : fX6_isCircuit v_t_st p1 = some q) : CI l D cI cZ yX6_isCircuit wsX6_isCircuit rm_X6_isCircuit [.ref a_t, .int p1] (wo_X6_isCircuit cI cZ a_t a_t_st a_t_be a_t_so a_t_sv v_t_st) (wo_X6_isCircuit cI cZ a_t a_t_st a_t_be a_t_so a_t_sv v_t_st) (b2i q) := by
  refine CI.mk (cc := cX6_isCircuit) (maxL := 2) (by decide) rfl (Nat.le_of_ble_eq_true rfl) ?_
  intro p e s m below meth c ls A X hP hD hl hS
  have hx := X.1.1
  have hb := X.1.2.1
  have hl : lv_has ls 2 [(0, .ref a_t), (1, .int p1)] := hl
  unfold fX6_isCircuit at hf
  refine lv_iload_n hx hb dX6_isCircuit_0 rfl (lv_at hl 1 rfl) ?_
  refine lv_iconst hx hb dX6_isCircuit_1 ic_0 ?_
  refine lv_bipush hx hb dX6_isCircuit_2 bp_15 ?_
  obtain ⟨q4, e4, hf⟩ := bnd hf
  refine callSI X (k_X6_in l D cI cZ    p1 0 (nI 15) q4 e4) (va_cwS 3 X.1.2.2.2.2 gX6_isCircuit_X6_in rfl rfl rfl kd_X6_in ⟨Nat.le_of_ble_eq_true rfl, Nat.le_of_ble_eq_true rfl⟩) hP hD hS hl.1 [] (by decide) (wo_X6_isCircuit cI cZ a_t a_t_st a_t_be a_t_so a_t_sv v_t_st) rfl rfl rfl rfl rfl (rest := []) rfl (Nat.le_of_ble_eq_true rfl) dX6_isCircuit_4 ⟨Nat.zero_le _, Nat.zero_le _⟩ (fun H locs hP hD hS => ?_)
  refine lv_if_eq (tgt := 24) hx hb dX6_isCircuit_7 (by decide) (fun hc => ?_) (fun hc => ?_)
  · replace hf := ifn (b2i_z hc) hf
    refine lv_iconst hx hb dX6_isCircuit_24 ic_0 ?_
    obtain rfl := Option.some.inj hf
    exact retB X hS hP rfl rfl dX6_isCircuit_25
  · replace hf := ifp (b2i_nz hc) hf
    refine lv_aload_n hx hb dX6_isCircuit_10 rfl (lv_at hl 0 rfl) ?_
    refine lv_iload_n hx hb dX6_isCircuit_11 rfl (lv_at hl 1 rfl) ?_
    refine lv_iconst hx hb dX6_isCircuit_12 ic_0 ?_
    obtain ⟨q13, e13, hf⟩ := bnd hf
    refine callVI X (k_X6_ofCircuit l D cI cZ a_t a_t_st a_t_be a_t_so a_t_sv  v_t_st p1 0 q13 e13) (cwV 2 X.1.2.2.2.2 gX6_isCircuit_X6_ofCircuit rfl rfl rfl kd_X6_ofCircuit ⟨Nat.le_of_ble_eq_true rfl, Nat.le_of_ble_eq_true rfl⟩) hP hD hS hl.1 0 6 rfl rfl [0, 1] (by decide) (wo_X6_isCircuit cI cZ a_t a_t_st a_t_be a_t_so a_t_sv v_t_st) rfl rfl rfl rfl rfl (rest := []) rfl (Nat.le_of_ble_eq_true rfl) dX6_isCircuit_13 ⟨Nat.zero_le _, Nat.zero_le _⟩ (fun H locs hP hD hS => ?_)
    refine lv_iconst hx hb dX6_isCircuit_16 ic_1 ?_
    refine lv_icmp_ne (tgt := 24) hx hb dX6_isCircuit_17 (by decide) (fun hc => ?_) (fun hc => ?_)
    · replace hf := ifn hc hf
      refine lv_iconst hx hb dX6_isCircuit_24 ic_0 ?_
      obtain rfl := Option.some.inj hf
      exact retB X hS hP rfl rfl dX6_isCircuit_25
    · replace hf := ifp hc hf
      refine lv_iconst hx hb dX6_isCircuit_20 ic_1 ?_
      refine lv_goto (tgt := 25) hx hb dX6_isCircuit_21 (by decide) ?_
      obtain rfl := Option.some.inj hf
      exact retB X hS hP rfl rfl dX6_isCircuit_25

abbrev wo_X6_set (cI cZ : ClassId) (a_t a_t_st a_t_be a_t_so a_t_sv : Nat) (v_t_st : Nat → Int32) : va_W := [(a_t, oX6 a_t_st a_t_be a_t_so a_t_sv), (a_t_st, rI cI 164 v_t_st)]
def fX6_set (v_t_st : Nat → Int32) (p1 : Int32) (p2 : Int32) : Option (Int32 × (Nat → Int32)) := (if (p1 < 0 ∨ 164 ≤ (p1).toNatClampNeg) then none else (if (p1 < 0 ∨ 164 ≤ (p1).toNatClampNeg) then none else (some ((v_t_st (p1).toNatClampNeg), (upd v_t_st (p1).toNatClampNeg p2)))))
theorem kd_X6_set : yX6_set.cls = RX6 ∧ yX6_set.cls ≠ "java/lang/invoke/MethodHandle" ∧ yX6_set.cls ≠ "java/lang/invoke/VarHandle" ∧ (parseMethodDescriptor yX6_set.desc).map (fun d => d.parameters.length) = some 2 := by decide +kernel
def rm_X6_set : Room := { frames := 0, cells := 0, slots := 0, locals := 0 }
set_option maxHeartbeats 4000000 in
set_option maxRecDepth 100000 in
theorem k_X6_set (l : Launch) (D : va_G) (cI cZ : ClassId) (a_t a_t_st a_t_be a_t_so a_t_sv : Nat) (v_t_st : Nat → Int32) (p1 : Int32) (p2 : Int32) (q : Int32 × (Nat → Int32)) (hf : fX6_set v_t_st p1 p2 = some q) : CI l D cI cZ yX6_set wsX6_set rm_X6_set [.ref a_t, .int p1, .int p2] (wo_X6_set cI cZ a_t a_t_st a_t_be a_t_so a_t_sv v_t_st) (wo_X6_set cI cZ a_t a_t_st a_t_be a_t_so a_t_sv q.2) q.1 := by
  refine CI.mk (cc := cX6_set) (maxL := 4) (by decide) rfl (Nat.le_of_ble_eq_true rfl) ?_
  intro p e s m below meth c ls A X hP hD hl hS
  have hx := X.1.1
  have hb := X.1.2.1
  have hl : lv_has ls 4 [(0, .ref a_t), (1, .int p1), (2, .int p2)] := hl
  have inX6 : ∀ w ∈ u_ws RX6 TX6 4, w ∈ wsX6_set := fun _ h => List.mem_cons_of_mem _ (List.mem_append_right _ h)
  unfold fX6_set at hf
  refine lv_aload_n hx hb dX6_set_0 rfl (lv_at hl 0 rfl) ?_
  refine getO X hP inX6 0 rfl rfl 0 (by decide) (List.mem_of_getElem? (i := 1) rfl) rfl dX6_set_1 ?_
  refine lv_iload_n hx hb dX6_set_4 rfl (lv_at hl 1 rfl) ?_
  obtain ⟨g5, hf⟩ := grd hf
  refine aldI X hP 1 rfl g5 rfl dX6_set_5 ?_
  refine lv_istore_n (lv' := [(3, .int (v_t_st (p1).toNatClampNeg)), (0, .ref a_t), (1, .int p1), (2, .int p2)]) hx hb dX6_set_6 rfl hl (by decide) rfl (fun ls hl => ?_)
  refine lv_aload_n hx hb dX6_set_7 rfl (lv_at hl 1 rfl) ?_
  refine getO X hP inX6 0 rfl rfl 0 (by decide) (List.mem_of_getElem? (i := 1) rfl) rfl dX6_set_8 ?_
  refine lv_iload_n hx hb dX6_set_11 rfl (lv_at hl 2 rfl) ?_
  refine lv_iload_n hx hb dX6_set_12 rfl (lv_at hl 3 rfl) ?_
  obtain ⟨g13, hf⟩ := grd hf
  refine astI X hP hD hS 1 rfl g13 rfl dX6_set_13 (wo_X6_set cI cZ a_t a_t_st a_t_be a_t_so a_t_sv (upd v_t_st (p1).toNatClampNeg p2)) rfl (fun H locs hP hD hS => ?_)
  refine lv_iload_n hx hb dX6_set_14 rfl (lv_at hl 0 rfl) ?_
  obtain rfl := Option.some.inj hf
  exact retI X hS hP rfl dX6_set_15

abbrev wo_X6_reset (cI cZ : ClassId) (a_t a_t_st a_t_be a_t_so a_t_sv : Nat) (v_t_st : Nat → Int32) : va_W := [(a_t, oX6 a_t_st a_t_be a_t_so a_t_sv), (a_t_st, rI cI 164 v_t_st)]
def fX6_reset_L40 (p1 : Int32) (p2 : Int32) (K : Int32 → Int32 → Int32 → (Nat → Int32) → Option (Int32 × (Nat → Int32))) : Nat → Int32 → Int32 → Int32 → (Nat → Int32) → Option (Int32 × (Nat → Int32))
  | 0, _, _, _, _ => none
  | k + 1, x3_40, x4_40, x5_40, v_t_st_40 => (if (nI 164) ≤ x5_40 then (K x3_40 x4_40 x5_40 v_t_st_40) else (if (x5_40 < 0 ∨ 164 ≤ (x5_40).toNatClampNeg) then none else (fX6_reset_L40 p1 p2 K k x3_40 x4_40 (x5_40 + nI 1) (upd v_t_st_40 (x5_40).toNatClampNeg 0))))
def fX6_reset (v_t_st : Nat → Int32) (p1 : Int32) (p2 : Int32) : Option (Int32 × (Nat → Int32)) := ((fX6_in p1 (nI 3) (nI 8)).bind (fun q4 => (if q4 = true then ((fX6_in p2 (nI 1) (nI 4)).bind (fun q13 => (if q13 = true then (fX6_reset_L40 p1 p2 (fun x3_40 x4_40 x5_40 v_t_st_40 => (some (x3_40, (upd (upd (upd v_t_st_40 0 p1) 1 p2) 2 x4_40)))) FU (v_t_st 0) (v_t_st 2) 0 v_t_st) else (some ((-4), v_t_st))))) else (some ((-4), v_t_st)))))
theorem kd_X6_reset : yX6_reset.cls = RX6 ∧ yX6_reset.cls ≠ "java/lang/invoke/MethodHandle" ∧ yX6_reset.cls ≠ "java/lang/invoke/VarHandle" ∧ (parseMethodDescriptor yX6_reset.desc).map (fun d => d.parameters.length) = some 2 := by decide +kernel
def rm_X6_reset : Room := { frames := 1, cells := 0, slots := 0, locals := 22 }
set_option maxHeartbeats 4000000 in
set_option maxRecDepth 100000 in
theorem k_X6_reset (l : Launch) (D : va_G) (cI cZ : ClassId) (a_t a_t_st a_t_be a_t_so a_t_sv : Nat) (v_t_st : Nat → Int32) (p1 : Int32) (p2 : Int32) (q : Int32 × (Nat → Int32)) (hf : fX6_reset v_t_st p1 p2 = some q) : CI l D cI cZ yX6_reset wsX6_reset rm_X6_reset [.ref a_t, .int p1, .int p2] (wo_X6_reset cI cZ a_t a_t_st a_t_be a_t_so a_t_sv v_t_st) (wo_X6_reset cI cZ a_t a_t_st a_t_be a_t_so a_t_sv q.2) q.1 := by
  refine CI.mk (cc := cX6_reset) (maxL := 6) (by decide) rfl (Nat.le_of_ble_eq_true rfl) ?_
  intro p e s m below meth c ls A X hP hD hl hS
  have hx := X.1.1
  have hb := X.1.2.1
  have hl : lv_has ls 6 [(0, .ref a_t), (1, .int p1), (2, .int p2)] := hl
  have inX6 : ∀ w ∈ u_ws RX6 TX6 4, w ∈ wsX6_reset := fun _ h => List.mem_cons_of_mem _ (List.mem_append_right _ h)
  have L40 : ∀ (K : Int32 → Int32 → Int32 → (Nat → Int32) → Option (Int32 × (Nat → Int32))) (hKK : ∀ (x3_40 : Int32) (x4_40 : Int32) (x5_40 : Int32) (v_t_st_40 : Nat → Int32) (H : Heap) (locs : List Loc) (ls : Array Slot), K x3_40 x4_40 x5_40 v_t_st_40 = some q → va_P D vwCl (wo_X6_reset cI cZ a_t a_t_st a_t_be a_t_so a_t_sv v_t_st_40) H → va_D A (wo_X6_reset cI cZ a_t a_t_st a_t_be a_t_so a_t_sv v_t_st_40) → va_S A s.heap H locs → lv_has ls 6 [(0, .ref a_t), (1, .int p1), (2, .int p2), (3, .int x3_40), (4, .int x4_40)] → W p l e rm_X6_reset s m ([.ref a_t, .int p1, .int p2] : List Value).toArray below meth c H locs 0 0 (MQ below (QI D (wo_X6_reset cI cZ a_t a_t_st a_t_be a_t_so a_t_sv q.2) q.1 A) ([.ref a_t, .int p1, .int p2] : List Value).toArray s 0 0 A) (F0 m 62 ls [])) (k : Nat) (x3_40 : Int32) (x4_40 : Int32) (x5_40 : Int32) (v_t_st_40 : Nat → Int32) (H : Heap) (locs : List Loc) (ls : Array Slot), fX6_reset_L40 p1 p2 K k x3_40 x4_40 x5_40 v_t_st_40 = some q → va_P D vwCl (wo_X6_reset cI cZ a_t a_t_st a_t_be a_t_so a_t_sv v_t_st_40) H → va_D A (wo_X6_reset cI cZ a_t a_t_st a_t_be a_t_so a_t_sv v_t_st_40) → va_S A s.heap H locs → lv_has ls 6 [(0, .ref a_t), (1, .int p1), (2, .int p2), (3, .int x3_40), (4, .int x4_40), (5, .int x5_40)] → W p l e rm_X6_reset s m ([.ref a_t, .int p1, .int p2] : List Value).toArray below meth c H locs 0 0 (MQ below (QI D (wo_X6_reset cI cZ a_t a_t_st a_t_be a_t_so a_t_sv q.2) q.1 A) ([.ref a_t, .int p1, .int p2] : List Value).toArray s 0 0 A) (F0 m 40 ls []) := by
    intro K hKK k
    induction k with
    | zero => intro x3_40 x4_40 x5_40 v_t_st_40 H locs ls hf; rw [fX6_reset_L40] at hf; cases hf
    | succ k ih =>
      intro x3_40 x4_40 x5_40 v_t_st_40 H locs ls hf hP hD hS hl
      rw [fX6_reset_L40] at hf
      refine lv_iload hx hb dX6_reset_40 (lv_at hl 5 rfl) ?_
      refine lv_sipush hx hb dX6_reset_42 sp_164 ?_
      refine lv_icmp_ge (tgt := 62) hx hb dX6_reset_45 (by decide) (fun hc => ?_) (fun hc => ?_)
      · replace hf := ifp hc hf
        exact hKK _ _ _ _ _ _ ls hf hP hD hS (lv_sub hl [0, 1, 2, 3, 4] rfl)
      · replace hf := ifn hc hf
        refine lv_aload_n hx hb dX6_reset_48 rfl (lv_at hl 0 rfl) ?_
        refine getO X hP inX6 0 rfl rfl 0 (by decide) (List.mem_of_getElem? (i := 1) rfl) rfl dX6_reset_49 ?_
        refine lv_iload hx hb dX6_reset_52 (lv_at hl 5 rfl) ?_
        refine lv_iconst hx hb dX6_reset_54 ic_0 ?_
        obtain ⟨g55, hf⟩ := grd hf
        refine astI X hP hD hS 1 rfl g55 rfl dX6_reset_55 (wo_X6_reset cI cZ a_t a_t_st a_t_be a_t_so a_t_sv (upd v_t_st_40 (x5_40).toNatClampNeg 0)) rfl (fun H locs hP hD hS => ?_)
        refine lv_iinc (v := (x5_40 + nI 1)) (lv' := [(5, .int (x5_40 + nI 1)), (0, .ref a_t), (1, .int p1), (2, .int p2), (3, .int x3_40), (4, .int x4_40)]) hx hb dX6_reset_56 hl (k := 5) rfl (inc_1 _) (by decide) rfl (fun ls hl => ?_)
        refine lv_goto (tgt := 40) hx hb dX6_reset_59 (by decide) ?_
        exact ih _ _ _ _ _ _ ls hf hP hD hS (lv_sub hl [1, 2, 3, 4, 5, 0] rfl)
  unfold fX6_reset at hf
  refine lv_iload_n hx hb dX6_reset_0 rfl (lv_at hl 1 rfl) ?_
  refine lv_iconst hx hb dX6_reset_1 ic_3 ?_
  refine lv_bipush hx hb dX6_reset_2 bp_8 ?_
  obtain ⟨q4, e4, hf⟩ := bnd hf
  refine callSI X (k_X6_in l D cI cZ    p1 (nI 3) (nI 8) q4 e4) (va_cwS 3 X.1.2.2.2.2 gX6_reset_X6_in rfl rfl rfl kd_X6_in ⟨Nat.le_of_ble_eq_true rfl, Nat.le_of_ble_eq_true rfl⟩) hP hD hS hl.1 [] (by decide) (wo_X6_reset cI cZ a_t a_t_st a_t_be a_t_so a_t_sv v_t_st) rfl rfl rfl rfl rfl (rest := []) rfl (Nat.le_of_ble_eq_true rfl) dX6_reset_4 ⟨Nat.zero_le _, Nat.zero_le _⟩ (fun H locs hP hD hS => ?_)
  refine lv_if_eq (tgt := 19) hx hb dX6_reset_7 (by decide) (fun hc => ?_) (fun hc => ?_)
  · replace hf := ifn (b2i_z hc) hf
    refine lv_bipush hx hb dX6_reset_19 bp_m4 ?_
    obtain rfl := Option.some.inj hf
    exact retI X hS hP rfl dX6_reset_21
  · replace hf := ifp (b2i_nz hc) hf
    refine lv_iload_n hx hb dX6_reset_10 rfl (lv_at hl 2 rfl) ?_
    refine lv_iconst hx hb dX6_reset_11 ic_1 ?_
    refine lv_iconst hx hb dX6_reset_12 ic_4 ?_
    obtain ⟨q13, e13, hf⟩ := bnd hf
    refine callSI X (k_X6_in l D cI cZ    p2 (nI 1) (nI 4) q13 e13) (va_cwS 3 X.1.2.2.2.2 gX6_reset_X6_in rfl rfl rfl kd_X6_in ⟨Nat.le_of_ble_eq_true rfl, Nat.le_of_ble_eq_true rfl⟩) hP hD hS hl.1 [] (by decide) (wo_X6_reset cI cZ a_t a_t_st a_t_be a_t_so a_t_sv v_t_st) rfl rfl rfl rfl rfl (rest := []) rfl (Nat.le_of_ble_eq_true rfl) dX6_reset_13 ⟨Nat.zero_le _, Nat.zero_le _⟩ (fun H locs hP hD hS => ?_)
    refine lv_if_ne (tgt := 22) hx hb dX6_reset_16 (by decide) (fun hc => ?_) (fun hc => ?_)
    · replace hf := ifp (b2i_nz hc) hf
      refine lv_aload_n hx hb dX6_reset_22 rfl (lv_at hl 0 rfl) ?_
      refine getO X hP inX6 0 rfl rfl 0 (by decide) (List.mem_of_getElem? (i := 1) rfl) rfl dX6_reset_23 ?_
      refine lv_iconst hx hb dX6_reset_26 ic_0 ?_
      refine aldI X hP 1 rfl (vin0 (by decide) (by decide)) (j := 0) sb_cl0 dX6_reset_27 ?_
      refine lv_istore_n (lv' := [(3, .int (v_t_st 0)), (0, .ref a_t), (1, .int p1), (2, .int p2)]) hx hb dX6_reset_28 rfl hl (by decide) rfl (fun ls hl => ?_)
      refine lv_aload_n hx hb dX6_reset_29 rfl (lv_at hl 1 rfl) ?_
      refine getO X hP inX6 0 rfl rfl 0 (by decide) (List.mem_of_getElem? (i := 1) rfl) rfl dX6_reset_30 ?_
      refine lv_iconst hx hb dX6_reset_33 ic_2 ?_
      refine aldI X hP 1 rfl (vp_in_nI (by decide) (by decide)) (j := 2) (nI_clamp (by decide)) dX6_reset_34 ?_
      refine lv_istore (lv' := [(4, .int (v_t_st 2)), (3, .int (v_t_st 0)), (0, .ref a_t), (1, .int p1), (2, .int p2)]) hx hb dX6_reset_35 hl (by decide) rfl (fun ls hl => ?_)
      refine lv_iconst hx hb dX6_reset_37 ic_0 ?_
      refine lv_istore (lv' := [(5, .int 0), (4, .int (v_t_st 2)), (3, .int (v_t_st 0)), (0, .ref a_t), (1, .int p1), (2, .int p2)]) hx hb dX6_reset_38 hl (by decide) rfl (fun ls hl => ?_)
      refine L40 _ (fun x3_40 x4_40 x5_40 v_t_st_40 H locs ls hf hP hD hS hl => ?_) FU _ _ _ _ _ _ ls hf hP hD hS (lv_sub hl [3, 4, 5, 2, 1, 0] rfl)
      refine lv_aload_n hx hb dX6_reset_62 rfl (lv_at hl 0 rfl) ?_
      refine getO X hP inX6 0 rfl rfl 0 (by decide) (List.mem_of_getElem? (i := 1) rfl) rfl dX6_reset_63 ?_
      refine lv_iconst hx hb dX6_reset_66 ic_0 ?_
      refine lv_iload_n hx hb dX6_reset_67 rfl (lv_at hl 1 rfl) ?_
      refine astI X hP hD hS 1 rfl (vin0 (by decide) (by decide)) (j := 0) sb_cl0 dX6_reset_68 (wo_X6_reset cI cZ a_t a_t_st a_t_be a_t_so a_t_sv (upd v_t_st_40 0 p1)) rfl (fun H locs hP hD hS => ?_)
      refine lv_aload_n hx hb dX6_reset_69 rfl (lv_at hl 0 rfl) ?_
      refine getO X hP inX6 0 rfl rfl 0 (by decide) (List.mem_of_getElem? (i := 1) rfl) rfl dX6_reset_70 ?_
      refine lv_iconst hx hb dX6_reset_73 ic_1 ?_
      refine lv_iload_n hx hb dX6_reset_74 rfl (lv_at hl 2 rfl) ?_
      refine astI X hP hD hS 1 rfl (vp_in_nI (by decide) (by decide)) (j := 1) (nI_clamp (by decide)) dX6_reset_75 (wo_X6_reset cI cZ a_t a_t_st a_t_be a_t_so a_t_sv (upd (upd v_t_st_40 0 p1) 1 p2)) rfl (fun H locs hP hD hS => ?_)
      refine lv_aload_n hx hb dX6_reset_76 rfl (lv_at hl 0 rfl) ?_
      refine getO X hP inX6 0 rfl rfl 0 (by decide) (List.mem_of_getElem? (i := 1) rfl) rfl dX6_reset_77 ?_
      refine lv_iconst hx hb dX6_reset_80 ic_2 ?_
      refine lv_iload hx hb dX6_reset_81 (lv_at hl 4 rfl) ?_
      refine astI X hP hD hS 1 rfl (vp_in_nI (by decide) (by decide)) (j := 2) (nI_clamp (by decide)) dX6_reset_83 (wo_X6_reset cI cZ a_t a_t_st a_t_be a_t_so a_t_sv (upd (upd (upd v_t_st_40 0 p1) 1 p2) 2 x4_40)) rfl (fun H locs hP hD hS => ?_)
      refine lv_iload_n hx hb dX6_reset_84 rfl (lv_at hl 3 rfl) ?_
      obtain rfl := Option.some.inj hf
      exact retI X hS hP rfl dX6_reset_85
    · replace hf := ifn (b2i_z hc) hf
      refine lv_bipush hx hb dX6_reset_19 bp_m4 ?_
      obtain rfl := Option.some.inj hf
      exact retI X hS hP rfl dX6_reset_21

abbrev wo_X6_passes (cI cZ : ClassId) (a_t a_t_st a_t_be a_t_so a_t_sv : Nat) (v_t_st : Nat → Int32) : va_W := [(a_t, oX6 a_t_st a_t_be a_t_so a_t_sv), (a_t_st, rI cI 164 v_t_st)]
def fX6_passes (v_t_st : Nat → Int32) (p1 : Int32) (p2 : Int32) (p3 : Int32) (p4 : Int32) : Option (Bool) := (if (v_t_st 0) = 0 then none else (if (v_t_st 0) = 0 then none else ((if (((p2 - p1) + (v_t_st 0)) - ((p2 - p1) + (v_t_st 0)) / (v_t_st 0) * (v_t_st 0)) ≤ (((p4 - p1) + (v_t_st 0)) - ((p4 - p1) + (v_t_st 0)) / (v_t_st 0) * (v_t_st 0)) then (some 0) else (some (nI 1))).bind (fun ph39 => (if ph39 = p3 then (some true) else (some false))))))
theorem kd_X6_passes : yX6_passes.cls = RX6 ∧ yX6_passes.cls ≠ "java/lang/invoke/MethodHandle" ∧ yX6_passes.cls ≠ "java/lang/invoke/VarHandle" ∧ (parseMethodDescriptor yX6_passes.desc).map (fun d => d.parameters.length) = some 4 := by decide +kernel
def rm_X6_passes : Room := { frames := 0, cells := 0, slots := 0, locals := 0 }
set_option maxHeartbeats 4000000 in
set_option maxRecDepth 100000 in
theorem k_X6_passes (l : Launch) (D : va_G) (cI cZ : ClassId) (a_t a_t_st a_t_be a_t_so a_t_sv : Nat) (v_t_st : Nat → Int32) (p1 : Int32) (p2 : Int32) (p3 : Int32) (p4 : Int32) (q : Bool) (hf : fX6_passes v_t_st p1 p2 p3 p4 = some q) : CI l D cI cZ yX6_passes wsX6_passes rm_X6_passes [.ref a_t, .int p1, .int p2, .int p3, .int p4] (wo_X6_passes cI cZ a_t a_t_st a_t_be a_t_so a_t_sv v_t_st) (wo_X6_passes cI cZ a_t a_t_st a_t_be a_t_so a_t_sv v_t_st) (b2i q) := by
  refine CI.mk (cc := cX6_passes) (maxL := 8) (by decide) rfl (Nat.le_of_ble_eq_true rfl) ?_
  intro p e s m below meth c ls A X hP hD hl hS
  have hx := X.1.1
  have hb := X.1.2.1
  have hl : lv_has ls 8 [(0, .ref a_t), (1, .int p1), (2, .int p2), (3, .int p3), (4, .int p4)] := hl
  have inX6 : ∀ w ∈ u_ws RX6 TX6 4, w ∈ wsX6_passes := fun _ h => List.mem_cons_of_mem _ (List.mem_append_right _ h)
  unfold fX6_passes at hf
  refine lv_aload_n hx hb dX6_passes_0 rfl (lv_at hl 0 rfl) ?_
  refine getO X hP inX6 0 rfl rfl 0 (by decide) (List.mem_of_getElem? (i := 1) rfl) rfl dX6_passes_1 ?_
  refine lv_iconst hx hb dX6_passes_4 ic_0 ?_
  refine aldI X hP 1 rfl (vin0 (by decide) (by decide)) (j := 0) sb_cl0 dX6_passes_5 ?_
  refine lv_istore (lv' := [(5, .int (v_t_st 0)), (0, .ref a_t), (1, .int p1), (2, .int p2), (3, .int p3), (4, .int p4)]) hx hb dX6_passes_6 hl (by decide) rfl (fun ls hl => ?_)
  refine lv_iload_n hx hb dX6_passes_8 rfl (lv_at hl 3 rfl) ?_
  refine lv_iload_n hx hb dX6_passes_9 rfl (lv_at hl 2 rfl) ?_
  refine lv_isub hx hb dX6_passes_10 ?_
  refine lv_iload hx hb dX6_passes_11 (lv_at hl 0 rfl) ?_
  refine lv_iadd hx hb dX6_passes_13 ?_
  refine lv_iload hx hb dX6_passes_14 (lv_at hl 0 rfl) ?_
  obtain ⟨g16, hf⟩ := grd hf
  refine lv_irem hx hb dX6_passes_16 g16 ?_
  refine lv_istore (lv' := [(6, .int (((p2 - p1) + (v_t_st 0)) - ((p2 - p1) + (v_t_st 0)) / (v_t_st 0) * (v_t_st 0))), (5, .int (v_t_st 0)), (0, .ref a_t), (1, .int p1), (2, .int p2), (3, .int p3), (4, .int p4)]) hx hb dX6_passes_17 hl (by decide) rfl (fun ls hl => ?_)
  refine lv_iload hx hb dX6_passes_19 (lv_at hl 6 rfl) ?_
  refine lv_iload_n hx hb dX6_passes_21 rfl (lv_at hl 3 rfl) ?_
  refine lv_isub hx hb dX6_passes_22 ?_
  refine lv_iload hx hb dX6_passes_23 (lv_at hl 1 rfl) ?_
  refine lv_iadd hx hb dX6_passes_25 ?_
  refine lv_iload hx hb dX6_passes_26 (lv_at hl 1 rfl) ?_
  obtain ⟨g28, hf⟩ := grd hf
  refine lv_irem hx hb dX6_passes_28 g28 ?_
  refine lv_iload hx hb dX6_passes_29 (lv_at hl 0 rfl) ?_
  obtain ⟨ph39, hg, hf⟩ := bnd hf
  have J39 : ∀ (H : Heap) (locs : List Loc) (ls : Array Slot), va_P D vwCl (wo_X6_passes cI cZ a_t a_t_st a_t_be a_t_so a_t_sv v_t_st) H → va_D A (wo_X6_passes cI cZ a_t a_t_st a_t_be a_t_so a_t_sv v_t_st) → va_S A s.heap H locs → lv_has ls 8 [(3, .int p3)] → W p l e rm_X6_passes s m ([.ref a_t, .int p1, .int p2, .int p3, .int p4] : List Value).toArray below meth c H locs 0 0 (MQ below (QI D (wo_X6_passes cI cZ a_t a_t_st a_t_be a_t_so a_t_sv v_t_st) (b2i q) A) ([.ref a_t, .int p1, .int p2, .int p3, .int p4] : List Value).toArray s 0 0 A) (F0 m 39 ls [.int ph39]) := by
    clear hg hP hD hS hl
    intro H locs ls hP hD hS hl
    refine lv_istore (lv' := [(7, .int ph39), (3, .int p3)]) hx hb dX6_passes_39 hl (by decide) rfl (fun ls hl => ?_)
    refine lv_iload hx hb dX6_passes_41 (lv_at hl 0 rfl) ?_
    refine lv_iload_n hx hb dX6_passes_43 rfl (lv_at hl 1 rfl) ?_
    refine lv_icmp_ne (tgt := 51) hx hb dX6_passes_44 (by decide) (fun hc => ?_) (fun hc => ?_)
    · replace hf := ifn hc hf
      refine lv_iconst hx hb dX6_passes_51 ic_0 ?_
      obtain rfl := Option.some.inj hf
      exact retB X hS hP rfl rfl dX6_passes_52
    · replace hf := ifp hc hf
      refine lv_iconst hx hb dX6_passes_47 ic_1 ?_
      refine lv_goto (tgt := 52) hx hb dX6_passes_48 (by decide) ?_
      obtain rfl := Option.some.inj hf
      exact retB X hS hP rfl rfl dX6_passes_52
  replace hf := hg
  clear hg
  refine lv_icmp_ge (tgt := 38) hx hb dX6_passes_31 (by decide) (fun hc => ?_) (fun hc => ?_)
  · replace hf := ifp hc hf
    refine lv_iconst hx hb dX6_passes_38 ic_0 ?_
    obtain rfl := Option.some.inj hf
    exact J39 _ _ ls hP hD hS (lv_sub hl [5] rfl)
  · replace hf := ifn hc hf
    refine lv_iconst hx hb dX6_passes_34 ic_1 ?_
    refine lv_goto (tgt := 39) hx hb dX6_passes_35 (by decide) ?_
    obtain rfl := Option.some.inj hf
    exact J39 _ _ ls hP hD hS (lv_sub hl [5] rfl)

abbrev wo_X6_isOn (cI cZ : ClassId) (a_t a_t_st a_t_be a_t_so a_t_sv : Nat) (v_t_st : Nat → Int32) : va_W := [(a_t, oX6 a_t_st a_t_be a_t_so a_t_sv), (a_t_st, rI cI 164 v_t_st)]
def fX6_isOn (v_t_st : Nat → Int32) (p1 : Int32) (p2 : Int32) : Option (Bool) := ((fX6_ofCircuit v_t_st p1 (nI 1)).bind (fun q4 => ((fX6_ofCircuit v_t_st p1 (nI 2)).bind (fun q10 => ((fX6_ofCircuit v_t_st p1 (nI 3)).bind (fun q16 => (if q16 = (nI 1) then ((fX6_passes v_t_st q4 q10 (nI 1) p2).bind (fun q29 => (some q29))) else ((fX6_passes v_t_st q4 q10 0 p2).bind (fun q29 => (some q29))))))))))
theorem kd_X6_isOn : yX6_isOn.cls = RX6 ∧ yX6_isOn.cls ≠ "java/lang/invoke/MethodHandle" ∧ yX6_isOn.cls ≠ "java/lang/invoke/VarHandle" ∧ (parseMethodDescriptor yX6_isOn.desc).map (fun d => d.parameters.length) = some 2 := by decide +kernel
def rm_X6_isOn : Room := { frames := 1, cells := 0, slots := 0, locals := 27 }
set_option maxHeartbeats 4000000 in
set_option maxRecDepth 100000 in
theorem k_X6_isOn (l : Launch) (D : va_G) (cI cZ : ClassId) (a_t a_t_st a_t_be a_t_so a_t_sv : Nat) (v_t_st : Nat → Int32) (p1 : Int32) (p2 : Int32) (q : Bool) (hf : fX6_isOn v_t_st p1 p2 = some q) : CI l D cI cZ yX6_isOn wsX6_isOn rm_X6_isOn [.ref a_t, .int p1, .int p2] (wo_X6_isOn cI cZ a_t a_t_st a_t_be a_t_so a_t_sv v_t_st) (wo_X6_isOn cI cZ a_t a_t_st a_t_be a_t_so a_t_sv v_t_st) (b2i q) := by
  refine CI.mk (cc := cX6_isOn) (maxL := 3) (by decide) rfl (Nat.le_of_ble_eq_true rfl) ?_
  intro p e s m below meth c ls A X hP hD hl hS
  have hx := X.1.1
  have hb := X.1.2.1
  have hl : lv_has ls 3 [(0, .ref a_t), (1, .int p1), (2, .int p2)] := hl
  unfold fX6_isOn at hf
  refine lv_aload_n hx hb dX6_isOn_0 rfl (lv_at hl 0 rfl) ?_
  refine lv_aload_n hx hb dX6_isOn_1 rfl (lv_at hl 0 rfl) ?_
  refine lv_iload_n hx hb dX6_isOn_2 rfl (lv_at hl 1 rfl) ?_
  refine lv_iconst hx hb dX6_isOn_3 ic_1 ?_
  obtain ⟨q4, e4, hf⟩ := bnd hf
  refine callVI X (k_X6_ofCircuit l D cI cZ a_t a_t_st a_t_be a_t_so a_t_sv  v_t_st p1 (nI 1) q4 e4) (cwV 2 X.1.2.2.2.2 gX6_isOn_X6_ofCircuit rfl rfl rfl kd_X6_ofCircuit ⟨Nat.le_of_ble_eq_true rfl, Nat.le_of_ble_eq_true rfl⟩) hP hD hS hl.1 0 6 rfl rfl [0, 1] (by decide) (wo_X6_isOn cI cZ a_t a_t_st a_t_be a_t_so a_t_sv v_t_st) rfl rfl rfl rfl rfl (rest := [.ref a_t]) rfl (Nat.le_of_ble_eq_true rfl) dX6_isOn_4 ⟨Nat.zero_le _, Nat.zero_le _⟩ (fun H locs hP hD hS => ?_)
  refine lv_aload_n hx hb dX6_isOn_7 rfl (lv_at hl 0 rfl) ?_
  refine lv_iload_n hx hb dX6_isOn_8 rfl (lv_at hl 1 rfl) ?_
  refine lv_iconst hx hb dX6_isOn_9 ic_2 ?_
  obtain ⟨q10, e10, hf⟩ := bnd hf
  refine callVI X (k_X6_ofCircuit l D cI cZ a_t a_t_st a_t_be a_t_so a_t_sv  v_t_st p1 (nI 2) q10 e10) (cwV 2 X.1.2.2.2.2 gX6_isOn_X6_ofCircuit rfl rfl rfl kd_X6_ofCircuit ⟨Nat.le_of_ble_eq_true rfl, Nat.le_of_ble_eq_true rfl⟩) hP hD hS hl.1 0 6 rfl rfl [0, 1] (by decide) (wo_X6_isOn cI cZ a_t a_t_st a_t_be a_t_so a_t_sv v_t_st) rfl rfl rfl rfl rfl (rest := [.int q4, .ref a_t]) rfl (Nat.le_of_ble_eq_true rfl) dX6_isOn_10 ⟨Nat.zero_le _, Nat.zero_le _⟩ (fun H locs hP hD hS => ?_)
  refine lv_aload_n hx hb dX6_isOn_13 rfl (lv_at hl 0 rfl) ?_
  refine lv_iload_n hx hb dX6_isOn_14 rfl (lv_at hl 1 rfl) ?_
  refine lv_iconst hx hb dX6_isOn_15 ic_3 ?_
  obtain ⟨q16, e16, hf⟩ := bnd hf
  refine callVI X (k_X6_ofCircuit l D cI cZ a_t a_t_st a_t_be a_t_so a_t_sv  v_t_st p1 (nI 3) q16 e16) (cwV 2 X.1.2.2.2.2 gX6_isOn_X6_ofCircuit rfl rfl rfl kd_X6_ofCircuit ⟨Nat.le_of_ble_eq_true rfl, Nat.le_of_ble_eq_true rfl⟩) hP hD hS hl.1 0 6 rfl rfl [0, 1] (by decide) (wo_X6_isOn cI cZ a_t a_t_st a_t_be a_t_so a_t_sv v_t_st) rfl rfl rfl rfl rfl (rest := [.int q10, .int q4, .ref a_t]) rfl (Nat.le_of_ble_eq_true rfl) dX6_isOn_16 ⟨Nat.zero_le _, Nat.zero_le _⟩ (fun H locs hP hD hS => ?_)
  refine lv_iconst hx hb dX6_isOn_19 ic_1 ?_
  refine lv_icmp_ne (tgt := 27) hx hb dX6_isOn_20 (by decide) (fun hc => ?_) (fun hc => ?_)
  · replace hf := ifn hc hf
    refine lv_iconst hx hb dX6_isOn_27 ic_0 ?_
    refine lv_iload_n hx hb dX6_isOn_28 rfl (lv_at hl 2 rfl) ?_
    obtain ⟨q29, e29, hf⟩ := bnd hf
    refine callVI X (k_X6_passes l D cI cZ a_t a_t_st a_t_be a_t_so a_t_sv  v_t_st q4 q10 0 p2 q29 e29) (cwV 4 X.1.2.2.2.2 gX6_isOn_X6_passes rfl rfl rfl kd_X6_passes ⟨Nat.le_of_ble_eq_true rfl, Nat.le_of_ble_eq_true rfl⟩) hP hD hS hl.1 0 6 rfl rfl [0, 1] (by decide) (wo_X6_isOn cI cZ a_t a_t_st a_t_be a_t_so a_t_sv v_t_st) rfl rfl rfl rfl rfl (rest := []) rfl (Nat.le_of_ble_eq_true rfl) dX6_isOn_29 ⟨Nat.zero_le _, Nat.zero_le _⟩ (fun H locs hP hD hS => ?_)
    obtain rfl := Option.some.inj hf
    exact retB X hS hP (b2i_nar _) rfl dX6_isOn_32
  · replace hf := ifp hc hf
    refine lv_iconst hx hb dX6_isOn_23 ic_1 ?_
    refine lv_goto (tgt := 28) hx hb dX6_isOn_24 (by decide) ?_
    refine lv_iload_n hx hb dX6_isOn_28 rfl (lv_at hl 2 rfl) ?_
    obtain ⟨q29, e29, hf⟩ := bnd hf
    refine callVI X (k_X6_passes l D cI cZ a_t a_t_st a_t_be a_t_so a_t_sv  v_t_st q4 q10 (nI 1) p2 q29 e29) (cwV 4 X.1.2.2.2.2 gX6_isOn_X6_passes rfl rfl rfl kd_X6_passes ⟨Nat.le_of_ble_eq_true rfl, Nat.le_of_ble_eq_true rfl⟩) hP hD hS hl.1 0 6 rfl rfl [0, 1] (by decide) (wo_X6_isOn cI cZ a_t a_t_st a_t_be a_t_so a_t_sv v_t_st) rfl rfl rfl rfl rfl (rest := []) rfl (Nat.le_of_ble_eq_true rfl) dX6_isOn_29 ⟨Nat.zero_le _, Nat.zero_le _⟩ (fun H locs hP hD hS => ?_)
    obtain rfl := Option.some.inj hf
    exact retB X hS hP (b2i_nar _) rfl dX6_isOn_32

abbrev wo_X6_isSlotFree (cI cZ : ClassId) (a_t a_t_st a_t_be a_t_so a_t_sv : Nat) (v_t_st : Nat → Int32) : va_W := [(a_t, oX6 a_t_st a_t_be a_t_so a_t_sv), (a_t_st, rI cI 164 v_t_st)]
def fX6_isSlotFree_L61 (v_t_st : Nat → Int32) (p1 : Int32) (p2 : Int32) (p3 : Int32) (p4 : Int32) (p5 : Int32) (K : Int32 → Int32 → Int32 → Option (Bool)) : Nat → Int32 → Int32 → Int32 → Option (Bool)
  | 0, _, _, _ => none
  | k + 1, x6_61, x7_61, x8_61 => (if (v_t_st 0) ≤ x8_61 then (K x6_61 x7_61 x8_61) else (if x7_61 = 0 then (K x6_61 x7_61 x8_61) else ((fX6_isOn v_t_st x6_61 x8_61).bind (fun q82 => (if q82 = true then ((fX6_passes v_t_st p1 p2 p3 x8_61).bind (fun q94 => (if q94 = true then (some false) else (fX6_isSlotFree_L61 v_t_st p1 p2 p3 p4 p5 K k x6_61 x7_61 (x8_61 + nI 1))))) else (fX6_isSlotFree_L61 v_t_st p1 p2 p3 p4 p5 K k x6_61 x7_61 (x8_61 + nI 1)))))))
def fX6_isSlotFree_L3 (v_t_st : Nat → Int32) (p1 : Int32) (p2 : Int32) (p3 : Int32) (p4 : Int32) (p5 : Int32) (K : Int32 → Option (Bool)) : Nat → Int32 → Option (Bool)
  | 0, _ => none
  | k + 1, x6_3 => (if (nI 16) ≤ x6_3 then (K x6_3) else ((fX6_isCircuit v_t_st x6_3).bind (fun q13 => ((if q13 = true then ((fX6_ofCircuit v_t_st x6_3 (nI 4)).bind (fun q23 => (if q23 = p4 then ((fX6_ofCircuit v_t_st x6_3 (nI 5)).bind (fun q35 => ((if p5 = 0 then (some 0) else (some (nI 1))).bind (fun ph48 => (if q35 = ph48 then (some (nI 1)) else (some 0)))))) else (some 0)))) else (some 0)).bind (fun ph56 => (fX6_isSlotFree_L61 v_t_st p1 p2 p3 p4 p5 (fun x6_61 x7_61 x8_61 => (fX6_isSlotFree_L3 v_t_st p1 p2 p3 p4 p5 K k (x6_61 + nI 1))) FU x6_3 ph56 0))))))
def fX6_isSlotFree (v_t_st : Nat → Int32) (p1 : Int32) (p2 : Int32) (p3 : Int32) (p4 : Int32) (p5 : Int32) : Option (Bool) := (fX6_isSlotFree_L3 v_t_st p1 p2 p3 p4 p5 (fun x6_3 => (some true)) FU 0)
theorem kd_X6_isSlotFree : yX6_isSlotFree.cls = RX6 ∧ yX6_isSlotFree.cls ≠ "java/lang/invoke/MethodHandle" ∧ yX6_isSlotFree.cls ≠ "java/lang/invoke/VarHandle" ∧ (parseMethodDescriptor yX6_isSlotFree.desc).map (fun d => d.parameters.length) = some 5 := by decide +kernel
def rm_X6_isSlotFree : Room := { frames := 2, cells := 0, slots := 0, locals := 49 }
set_option maxHeartbeats 4000000 in
set_option maxRecDepth 100000 in
theorem k_X6_isSlotFree (l : Launch) (D : va_G) (cI cZ : ClassId) (a_t a_t_st a_t_be a_t_so a_t_sv : Nat) (v_t_st : Nat → Int32) (p1 : Int32) (p2 : Int32) (p3 : Int32) (p4 : Int32) (p5 : Int32) (q : Bool) (hf : fX6_isSlotFree v_t_st p1 p2 p3 p4 p5 = some q) : CI l D cI cZ yX6_isSlotFree wsX6_isSlotFree rm_X6_isSlotFree [.ref a_t, .int p1, .int p2, .int p3, .int p4, .int p5] (wo_X6_isSlotFree cI cZ a_t a_t_st a_t_be a_t_so a_t_sv v_t_st) (wo_X6_isSlotFree cI cZ a_t a_t_st a_t_be a_t_so a_t_sv v_t_st) (b2i q) := by
  refine CI.mk (cc := cX6_isSlotFree) (maxL := 9) (by decide) rfl (Nat.le_of_ble_eq_true rfl) ?_
  intro p e s m below meth c ls A X hP hD hl hS
  have hx := X.1.1
  have hb := X.1.2.1
  have hl : lv_has ls 9 [(0, .ref a_t), (1, .int p1), (2, .int p2), (3, .int p3), (4, .int p4), (5, .int p5)] := hl
  have inX6 : ∀ w ∈ u_ws RX6 TX6 4, w ∈ wsX6_isSlotFree := fun _ h => List.mem_cons_of_mem _ (List.mem_append_right _ h)
  have L61 : ∀ (K : Int32 → Int32 → Int32 → Option (Bool)) (hKK : ∀ (x6_61 : Int32) (x7_61 : Int32) (x8_61 : Int32) (H : Heap) (locs : List Loc) (ls : Array Slot), K x6_61 x7_61 x8_61 = some q → va_P D vwCl (wo_X6_isSlotFree cI cZ a_t a_t_st a_t_be a_t_so a_t_sv v_t_st) H → va_D A (wo_X6_isSlotFree cI cZ a_t a_t_st a_t_be a_t_so a_t_sv v_t_st) → va_S A s.heap H locs → lv_has ls 9 [(0, .ref a_t), (1, .int p1), (2, .int p2), (3, .int p3), (4, .int p4), (5, .int p5), (6, .int x6_61)] → W p l e rm_X6_isSlotFree s m ([.ref a_t, .int p1, .int p2, .int p3, .int p4, .int p5] : List Value).toArray below meth c H locs 0 0 (MQ below (QI D (wo_X6_isSlotFree cI cZ a_t a_t_st a_t_be a_t_so a_t_sv v_t_st) (b2i q) A) ([.ref a_t, .int p1, .int p2, .int p3, .int p4, .int p5] : List Value).toArray s 0 0 A) (F0 m 108 ls [])) (k : Nat) (x6_61 : Int32) (x7_61 : Int32) (x8_61 : Int32) (H : Heap) (locs : List Loc) (ls : Array Slot), fX6_isSlotFree_L61 v_t_st p1 p2 p3 p4 p5 K k x6_61 x7_61 x8_61 = some q → va_P D vwCl (wo_X6_isSlotFree cI cZ a_t a_t_st a_t_be a_t_so a_t_sv v_t_st) H → va_D A (wo_X6_isSlotFree cI cZ a_t a_t_st a_t_be a_t_so a_t_sv v_t_st) → va_S A s.heap H locs → lv_has ls 9 [(0, .ref a_t), (1, .int p1), (2, .int p2), (3, .int p3), (4, .int p4), (5, .int p5), (6, .int x6_61), (7, .int x7_61), (8, .int x8_61)] → W p l e rm_X6_isSlotFree s m ([.ref a_t, .int p1, .int p2, .int p3, .int p4, .int p5] : List Value).toArray below meth c H locs 0 0 (MQ below (QI D (wo_X6_isSlotFree cI cZ a_t a_t_st a_t_be a_t_so a_t_sv v_t_st) (b2i q) A) ([.ref a_t, .int p1, .int p2, .int p3, .int p4, .int p5] : List Value).toArray s 0 0 A) (F0 m 61 ls []) := by
    intro K hKK k
    induction k with
    | zero => intro x6_61 x7_61 x8_61 H locs ls hf; rw [fX6_isSlotFree_L61] at hf; cases hf
    | succ k ih =>
      intro x6_61 x7_61 x8_61 H locs ls hf hP hD hS hl
      rw [fX6_isSlotFree_L61] at hf
      refine lv_iload hx hb dX6_isSlotFree_61 (lv_at hl 8 rfl) ?_
      refine lv_aload_n hx hb dX6_isSlotFree_63 rfl (lv_at hl 0 rfl) ?_
      refine getO X hP inX6 0 rfl rfl 0 (by decide) (List.mem_of_getElem? (i := 1) rfl) rfl dX6_isSlotFree_64 ?_
      refine lv_iconst hx hb dX6_isSlotFree_67 ic_0 ?_
      refine aldI X hP 1 rfl (vin0 (by decide) (by decide)) (j := 0) sb_cl0 dX6_isSlotFree_68 ?_
      refine lv_icmp_ge (tgt := 108) hx hb dX6_isSlotFree_69 (by decide) (fun hc => ?_) (fun hc => ?_)
      · replace hf := ifp hc hf
        exact hKK _ _ _ _ _ ls hf hP hD hS (lv_sub hl [0, 1, 2, 3, 4, 5, 6] rfl)
      · replace hf := ifn hc hf
        refine lv_iload hx hb dX6_isSlotFree_72 (lv_at hl 7 rfl) ?_
        refine lv_if_eq (tgt := 108) hx hb dX6_isSlotFree_74 (by decide) (fun hc => ?_) (fun hc => ?_)
        · replace hf := ifp hc hf
          exact hKK _ _ _ _ _ ls hf hP hD hS (lv_sub hl [0, 1, 2, 3, 4, 5, 6] rfl)
        · replace hf := ifn hc hf
          refine lv_aload_n hx hb dX6_isSlotFree_77 rfl (lv_at hl 0 rfl) ?_
          refine lv_iload hx hb dX6_isSlotFree_78 (lv_at hl 6 rfl) ?_
          refine lv_iload hx hb dX6_isSlotFree_80 (lv_at hl 8 rfl) ?_
          obtain ⟨q82, e82, hf⟩ := bnd hf
          refine callVI X (k_X6_isOn l D cI cZ a_t a_t_st a_t_be a_t_so a_t_sv  v_t_st x6_61 x8_61 q82 e82) (cwV 2 X.1.2.2.2.2 gX6_isSlotFree_X6_isOn rfl rfl rfl kd_X6_isOn ⟨Nat.le_of_ble_eq_true rfl, Nat.le_of_ble_eq_true rfl⟩) hP hD hS hl.1 0 6 rfl rfl [0, 1] (by decide) (wo_X6_isSlotFree cI cZ a_t a_t_st a_t_be a_t_so a_t_sv v_t_st) rfl rfl rfl rfl rfl (rest := []) rfl (Nat.le_of_ble_eq_true rfl) dX6_isSlotFree_82 ⟨Nat.zero_le _, Nat.zero_le _⟩ (fun H locs hP hD hS => ?_)
          refine lv_if_eq (tgt := 102) hx hb dX6_isSlotFree_85 (by decide) (fun hc => ?_) (fun hc => ?_)
          · replace hf := ifn (b2i_z hc) hf
            refine lv_iinc (v := (x8_61 + nI 1)) (lv' := [(8, .int (x8_61 + nI 1)), (0, .ref a_t), (1, .int p1), (2, .int p2), (3, .int p3), (4, .int p4), (5, .int p5), (6, .int x6_61), (7, .int x7_61)]) hx hb dX6_isSlotFree_102 hl (k := 8) rfl (inc_1 _) (by decide) rfl (fun ls hl => ?_)
            refine lv_goto (tgt := 61) hx hb dX6_isSlotFree_105 (by decide) ?_
            exact ih _ _ _ _ _ ls hf hP hD hS (lv_sub hl [1, 2, 3, 4, 5, 6, 7, 8, 0] rfl)
          · replace hf := ifp (b2i_nz hc) hf
            refine lv_aload_n hx hb dX6_isSlotFree_88 rfl (lv_at hl 0 rfl) ?_
            refine lv_iload_n hx hb dX6_isSlotFree_89 rfl (lv_at hl 1 rfl) ?_
            refine lv_iload_n hx hb dX6_isSlotFree_90 rfl (lv_at hl 2 rfl) ?_
            refine lv_iload_n hx hb dX6_isSlotFree_91 rfl (lv_at hl 3 rfl) ?_
            refine lv_iload hx hb dX6_isSlotFree_92 (lv_at hl 8 rfl) ?_
            obtain ⟨q94, e94, hf⟩ := bnd hf
            refine callVI X (k_X6_passes l D cI cZ a_t a_t_st a_t_be a_t_so a_t_sv  v_t_st p1 p2 p3 x8_61 q94 e94) (cwV 4 X.1.2.2.2.2 gX6_isSlotFree_X6_passes rfl rfl rfl kd_X6_passes ⟨Nat.le_of_ble_eq_true rfl, Nat.le_of_ble_eq_true rfl⟩) hP hD hS hl.1 0 6 rfl rfl [0, 1] (by decide) (wo_X6_isSlotFree cI cZ a_t a_t_st a_t_be a_t_so a_t_sv v_t_st) rfl rfl rfl rfl rfl (rest := []) rfl (Nat.le_of_ble_eq_true rfl) dX6_isSlotFree_94 ⟨Nat.zero_le _, Nat.zero_le _⟩ (fun H locs hP hD hS => ?_)
            refine lv_if_eq (tgt := 102) hx hb dX6_isSlotFree_97 (by decide) (fun hc => ?_) (fun hc => ?_)
            · replace hf := ifn (b2i_z hc) hf
              refine lv_iinc (v := (x8_61 + nI 1)) (lv' := [(8, .int (x8_61 + nI 1)), (0, .ref a_t), (1, .int p1), (2, .int p2), (3, .int p3), (4, .int p4), (5, .int p5), (6, .int x6_61), (7, .int x7_61)]) hx hb dX6_isSlotFree_102 hl (k := 8) rfl (inc_1 _) (by decide) rfl (fun ls hl => ?_)
              refine lv_goto (tgt := 61) hx hb dX6_isSlotFree_105 (by decide) ?_
              exact ih _ _ _ _ _ ls hf hP hD hS (lv_sub hl [1, 2, 3, 4, 5, 6, 7, 8, 0] rfl)
            · replace hf := ifp (b2i_nz hc) hf
              refine lv_iconst hx hb dX6_isSlotFree_100 ic_0 ?_
              obtain rfl := Option.some.inj hf
              exact retB X hS hP rfl rfl dX6_isSlotFree_101
  have L3 : ∀ (K : Int32 → Option (Bool)) (hKK : ∀ (x6_3 : Int32) (H : Heap) (locs : List Loc) (ls : Array Slot), K x6_3 = some q → va_P D vwCl (wo_X6_isSlotFree cI cZ a_t a_t_st a_t_be a_t_so a_t_sv v_t_st) H → va_D A (wo_X6_isSlotFree cI cZ a_t a_t_st a_t_be a_t_so a_t_sv v_t_st) → va_S A s.heap H locs → lv_has ls 9 [] → W p l e rm_X6_isSlotFree s m ([.ref a_t, .int p1, .int p2, .int p3, .int p4, .int p5] : List Value).toArray below meth c H locs 0 0 (MQ below (QI D (wo_X6_isSlotFree cI cZ a_t a_t_st a_t_be a_t_so a_t_sv v_t_st) (b2i q) A) ([.ref a_t, .int p1, .int p2, .int p3, .int p4, .int p5] : List Value).toArray s 0 0 A) (F0 m 114 ls [])) (k : Nat) (x6_3 : Int32) (H : Heap) (locs : List Loc) (ls : Array Slot), fX6_isSlotFree_L3 v_t_st p1 p2 p3 p4 p5 K k x6_3 = some q → va_P D vwCl (wo_X6_isSlotFree cI cZ a_t a_t_st a_t_be a_t_so a_t_sv v_t_st) H → va_D A (wo_X6_isSlotFree cI cZ a_t a_t_st a_t_be a_t_so a_t_sv v_t_st) → va_S A s.heap H locs → lv_has ls 9 [(0, .ref a_t), (1, .int p1), (2, .int p2), (3, .int p3), (4, .int p4), (5, .int p5), (6, .int x6_3)] → W p l e rm_X6_isSlotFree s m ([.ref a_t, .int p1, .int p2, .int p3, .int p4, .int p5] : List Value).toArray below meth c H locs 0 0 (MQ below (QI D (wo_X6_isSlotFree cI cZ a_t a_t_st a_t_be a_t_so a_t_sv v_t_st) (b2i q) A) ([.ref a_t, .int p1, .int p2, .int p3, .int p4, .int p5] : List Value).toArray s 0 0 A) (F0 m 3 ls []) := by
    intro K hKK k
    induction k with
    | zero => intro x6_3 H locs ls hf; rw [fX6_isSlotFree_L3] at hf; cases hf
    | succ k ih =>
      intro x6_3 H locs ls hf hP hD hS hl
      rw [fX6_isSlotFree_L3] at hf
      refine lv_iload hx hb dX6_isSlotFree_3 (lv_at hl 6 rfl) ?_
      refine lv_bipush hx hb dX6_isSlotFree_5 bp_16 ?_
      refine lv_icmp_ge (tgt := 114) hx hb dX6_isSlotFree_7 (by decide) (fun hc => ?_) (fun hc => ?_)
      · replace hf := ifp hc hf
        exact hKK _ _ _ ls hf hP hD hS (lv_sub hl [] rfl)
      · replace hf := ifn hc hf
        refine lv_aload_n hx hb dX6_isSlotFree_10 rfl (lv_at hl 0 rfl) ?_
        refine lv_iload hx hb dX6_isSlotFree_11 (lv_at hl 6 rfl) ?_
        obtain ⟨q13, e13, hf⟩ := bnd hf
        refine callVI X (k_X6_isCircuit l D cI cZ a_t a_t_st a_t_be a_t_so a_t_sv  v_t_st x6_3 q13 e13) (cwV 1 X.1.2.2.2.2 gX6_isSlotFree_X6_isCircuit rfl rfl rfl kd_X6_isCircuit ⟨Nat.le_of_ble_eq_true rfl, Nat.le_of_ble_eq_true rfl⟩) hP hD hS hl.1 0 6 rfl rfl [0, 1] (by decide) (wo_X6_isSlotFree cI cZ a_t a_t_st a_t_be a_t_so a_t_sv v_t_st) rfl rfl rfl rfl rfl (rest := []) rfl (Nat.le_of_ble_eq_true rfl) dX6_isSlotFree_13 ⟨Nat.zero_le _, Nat.zero_le _⟩ (fun H locs hP hD hS => ?_)
        obtain ⟨ph56, hg, hf⟩ := bnd hf
        have J56 : ∀ (H : Heap) (locs : List Loc) (ls : Array Slot), va_P D vwCl (wo_X6_isSlotFree cI cZ a_t a_t_st a_t_be a_t_so a_t_sv v_t_st) H → va_D A (wo_X6_isSlotFree cI cZ a_t a_t_st a_t_be a_t_so a_t_sv v_t_st) → va_S A s.heap H locs → lv_has ls 9 [(0, .ref a_t), (1, .int p1), (2, .int p2), (3, .int p3), (4, .int p4), (5, .int p5), (6, .int x6_3)] → W p l e rm_X6_isSlotFree s m ([.ref a_t, .int p1, .int p2, .int p3, .int p4, .int p5] : List Value).toArray below meth c H locs 0 0 (MQ below (QI D (wo_X6_isSlotFree cI cZ a_t a_t_st a_t_be a_t_so a_t_sv v_t_st) (b2i q) A) ([.ref a_t, .int p1, .int p2, .int p3, .int p4, .int p5] : List Value).toArray s 0 0 A) (F0 m 56 ls [.int ph56]) := by
          clear hg hP hD hS hl
          intro H locs ls hP hD hS hl
          refine lv_istore (lv' := [(7, .int ph56), (0, .ref a_t), (1, .int p1), (2, .int p2), (3, .int p3), (4, .int p4), (5, .int p5), (6, .int x6_3)]) hx hb dX6_isSlotFree_56 hl (by decide) rfl (fun ls hl => ?_)
          refine lv_iconst hx hb dX6_isSlotFree_58 ic_0 ?_
          refine lv_istore (lv' := [(8, .int 0), (7, .int ph56), (0, .ref a_t), (1, .int p1), (2, .int p2), (3, .int p3), (4, .int p4), (5, .int p5), (6, .int x6_3)]) hx hb dX6_isSlotFree_59 hl (by decide) rfl (fun ls hl => ?_)
          refine L61 _ (fun x6_61 x7_61 x8_61 H locs ls hf hP hD hS hl => ?_) FU _ _ _ _ _ ls hf hP hD hS (lv_sub hl [2, 3, 4, 5, 6, 7, 8, 1, 0] rfl)
          refine lv_iinc (v := (x6_61 + nI 1)) (lv' := [(6, .int (x6_61 + nI 1)), (0, .ref a_t), (1, .int p1), (2, .int p2), (3, .int p3), (4, .int p4), (5, .int p5)]) hx hb dX6_isSlotFree_108 hl (k := 6) rfl (inc_1 _) (by decide) rfl (fun ls hl => ?_)
          refine lv_goto (tgt := 3) hx hb dX6_isSlotFree_111 (by decide) ?_
          exact ih _ _ _ ls hf hP hD hS (lv_sub hl [1, 2, 3, 4, 5, 6, 0] rfl)
        replace hf := hg
        clear hg
        refine lv_if_eq (tgt := 55) hx hb dX6_isSlotFree_16 (by decide) (fun hc => ?_) (fun hc => ?_)
        · replace hf := ifn (b2i_z hc) hf
          refine lv_iconst hx hb dX6_isSlotFree_55 ic_0 ?_
          obtain rfl := Option.some.inj hf
          exact J56 _ _ ls hP hD hS (lv_sub hl [0, 1, 2, 3, 4, 5, 6] rfl)
        · replace hf := ifp (b2i_nz hc) hf
          refine lv_aload_n hx hb dX6_isSlotFree_19 rfl (lv_at hl 0 rfl) ?_
          refine lv_iload hx hb dX6_isSlotFree_20 (lv_at hl 6 rfl) ?_
          refine lv_iconst hx hb dX6_isSlotFree_22 ic_4 ?_
          obtain ⟨q23, e23, hf⟩ := bnd hf
          refine callVI X (k_X6_ofCircuit l D cI cZ a_t a_t_st a_t_be a_t_so a_t_sv  v_t_st x6_3 (nI 4) q23 e23) (cwV 2 X.1.2.2.2.2 gX6_isSlotFree_X6_ofCircuit rfl rfl rfl kd_X6_ofCircuit ⟨Nat.le_of_ble_eq_true rfl, Nat.le_of_ble_eq_true rfl⟩) hP hD hS hl.1 0 6 rfl rfl [0, 1] (by decide) (wo_X6_isSlotFree cI cZ a_t a_t_st a_t_be a_t_so a_t_sv v_t_st) rfl rfl rfl rfl rfl (rest := []) rfl (Nat.le_of_ble_eq_true rfl) dX6_isSlotFree_23 ⟨Nat.zero_le _, Nat.zero_le _⟩ (fun H locs hP hD hS => ?_)
          refine lv_iload hx hb dX6_isSlotFree_26 (lv_at hl 4 rfl) ?_
          refine lv_icmp_ne (tgt := 55) hx hb dX6_isSlotFree_28 (by decide) (fun hc => ?_) (fun hc => ?_)
          · replace hf := ifn hc hf
            refine lv_iconst hx hb dX6_isSlotFree_55 ic_0 ?_
            obtain rfl := Option.some.inj hf
            exact J56 _ _ ls hP hD hS (lv_sub hl [0, 1, 2, 3, 4, 5, 6] rfl)
          · replace hf := ifp hc hf
            refine lv_aload_n hx hb dX6_isSlotFree_31 rfl (lv_at hl 0 rfl) ?_
            refine lv_iload hx hb dX6_isSlotFree_32 (lv_at hl 6 rfl) ?_
            refine lv_iconst hx hb dX6_isSlotFree_34 ic_5 ?_
            obtain ⟨q35, e35, hf⟩ := bnd hf
            refine callVI X (k_X6_ofCircuit l D cI cZ a_t a_t_st a_t_be a_t_so a_t_sv  v_t_st x6_3 (nI 5) q35 e35) (cwV 2 X.1.2.2.2.2 gX6_isSlotFree_X6_ofCircuit rfl rfl rfl kd_X6_ofCircuit ⟨Nat.le_of_ble_eq_true rfl, Nat.le_of_ble_eq_true rfl⟩) hP hD hS hl.1 0 6 rfl rfl [0, 1] (by decide) (wo_X6_isSlotFree cI cZ a_t a_t_st a_t_be a_t_so a_t_sv v_t_st) rfl rfl rfl rfl rfl (rest := []) rfl (Nat.le_of_ble_eq_true rfl) dX6_isSlotFree_35 ⟨Nat.zero_le _, Nat.zero_le _⟩ (fun H locs hP hD hS => ?_)
            refine lv_iload hx hb dX6_isSlotFree_38 (lv_at hl 5 rfl) ?_
            obtain ⟨ph48, hg, hf⟩ := bnd hf
            have J48 : ∀ (H : Heap) (locs : List Loc) (ls : Array Slot), va_P D vwCl (wo_X6_isSlotFree cI cZ a_t a_t_st a_t_be a_t_so a_t_sv v_t_st) H → va_D A (wo_X6_isSlotFree cI cZ a_t a_t_st a_t_be a_t_so a_t_sv v_t_st) → va_S A s.heap H locs → lv_has ls 9 [(0, .ref a_t), (1, .int p1), (2, .int p2), (3, .int p3), (4, .int p4), (5, .int p5), (6, .int x6_3)] → W p l e rm_X6_isSlotFree s m ([.ref a_t, .int p1, .int p2, .int p3, .int p4, .int p5] : List Value).toArray below meth c H locs 0 0 (MQ below (QI D (wo_X6_isSlotFree cI cZ a_t a_t_st a_t_be a_t_so a_t_sv v_t_st) (b2i q) A) ([.ref a_t, .int p1, .int p2, .int p3, .int p4, .int p5] : List Value).toArray s 0 0 A) (F0 m 48 ls [.int ph48, .int q35]) := by
              clear hg hP hD hS hl
              intro H locs ls hP hD hS hl
              refine lv_icmp_ne (tgt := 55) hx hb dX6_isSlotFree_48 (by decide) (fun hc => ?_) (fun hc => ?_)
              · replace hf := ifn hc hf
                refine lv_iconst hx hb dX6_isSlotFree_55 ic_0 ?_
                obtain rfl := Option.some.inj hf
                exact J56 _ _ ls hP hD hS (lv_sub hl [0, 1, 2, 3, 4, 5, 6] rfl)
              · replace hf := ifp hc hf
                refine lv_iconst hx hb dX6_isSlotFree_51 ic_1 ?_
                refine lv_goto (tgt := 56) hx hb dX6_isSlotFree_52 (by decide) ?_
                obtain rfl := Option.some.inj hf
                exact J56 _ _ ls hP hD hS (lv_sub hl [0, 1, 2, 3, 4, 5, 6] rfl)
            replace hf := hg
            clear hg
            refine lv_if_eq (tgt := 47) hx hb dX6_isSlotFree_40 (by decide) (fun hc => ?_) (fun hc => ?_)
            · replace hf := ifp hc hf
              refine lv_iconst hx hb dX6_isSlotFree_47 ic_0 ?_
              obtain rfl := Option.some.inj hf
              exact J48 _ _ ls hP hD hS (lv_sub hl [0, 1, 2, 3, 4, 5, 6] rfl)
            · replace hf := ifn hc hf
              refine lv_iconst hx hb dX6_isSlotFree_43 ic_1 ?_
              refine lv_goto (tgt := 48) hx hb dX6_isSlotFree_44 (by decide) ?_
              obtain rfl := Option.some.inj hf
              exact J48 _ _ ls hP hD hS (lv_sub hl [0, 1, 2, 3, 4, 5, 6] rfl)
  unfold fX6_isSlotFree at hf
  refine lv_iconst hx hb dX6_isSlotFree_0 ic_0 ?_
  refine lv_istore (lv' := [(6, .int 0), (0, .ref a_t), (1, .int p1), (2, .int p2), (3, .int p3), (4, .int p4), (5, .int p5)]) hx hb dX6_isSlotFree_1 hl (by decide) rfl (fun ls hl => ?_)
  refine L3 _ (fun x6_3 H locs ls hf hP hD hS hl => ?_) FU _ _ _ ls hf hP hD hS (lv_sub hl [1, 2, 3, 4, 5, 6, 0] rfl)
  refine lv_iconst hx hb dX6_isSlotFree_114 ic_1 ?_
  obtain rfl := Option.some.inj hf
  exact retB X hS hP rfl rfl dX6_isSlotFree_115

abbrev wo_X6_freeNumber (cI cZ : ClassId) (a_t a_t_st a_t_be a_t_so a_t_sv : Nat) (v_t_st : Nat → Int32) : va_W := [(a_t, oX6 a_t_st a_t_be a_t_so a_t_sv), (a_t_st, rI cI 164 v_t_st)]
def fX6_freeNumber_L2 (v_t_st : Nat → Int32) (K : Int32 → Option (Int32)) : Nat → Int32 → Option (Int32)
  | 0, _ => none
  | k + 1, x1_2 => (if (nI 16) ≤ x1_2 then (K x1_2) else ((fX6_isCircuit v_t_st x1_2).bind (fun q10 => (if q10 = true then (fX6_freeNumber_L2 v_t_st K k (x1_2 + nI 1)) else (some x1_2)))))
def fX6_freeNumber (v_t_st : Nat → Int32) : Option (Int32) := (fX6_freeNumber_L2 v_t_st (fun x1_2 => (some (-9))) FU 0)
theorem kd_X6_freeNumber : yX6_freeNumber.cls = RX6 ∧ yX6_freeNumber.cls ≠ "java/lang/invoke/MethodHandle" ∧ yX6_freeNumber.cls ≠ "java/lang/invoke/VarHandle" ∧ (parseMethodDescriptor yX6_freeNumber.desc).map (fun d => d.parameters.length) = some 0 := by decide +kernel
def rm_X6_freeNumber : Room := { frames := 2, cells := 0, slots := 0, locals := 43 }
set_option maxHeartbeats 4000000 in
set_option maxRecDepth 100000 in
theorem k_X6_freeNumber (l : Launch) (D : va_G) (cI cZ : ClassId) (a_t a_t_st a_t_be a_t_so a_t_sv : Nat) (v_t_st : Nat → Int32) (q : Int32) (hf : fX6_freeNumber v_t_st = some q) : CI l D cI cZ yX6_freeNumber wsX6_freeNumber rm_X6_freeNumber [.ref a_t] (wo_X6_freeNumber cI cZ a_t a_t_st a_t_be a_t_so a_t_sv v_t_st) (wo_X6_freeNumber cI cZ a_t a_t_st a_t_be a_t_so a_t_sv v_t_st) q := by
  refine CI.mk (cc := cX6_freeNumber) (maxL := 2) (by decide) rfl (Nat.le_of_ble_eq_true rfl) ?_
  intro p e s m below meth c ls A X hP hD hl hS
  have hx := X.1.1
  have hb := X.1.2.1
  have hl : lv_has ls 2 [(0, .ref a_t)] := hl
  have L2 : ∀ (K : Int32 → Option (Int32)) (hKK : ∀ (x1_2 : Int32) (H : Heap) (locs : List Loc) (ls : Array Slot), K x1_2 = some q → va_P D vwCl (wo_X6_freeNumber cI cZ a_t a_t_st a_t_be a_t_so a_t_sv v_t_st) H → va_D A (wo_X6_freeNumber cI cZ a_t a_t_st a_t_be a_t_so a_t_sv v_t_st) → va_S A s.heap H locs → lv_has ls 2 [] → W p l e rm_X6_freeNumber s m ([.ref a_t] : List Value).toArray below meth c H locs 0 0 (MQ below (QI D (wo_X6_freeNumber cI cZ a_t a_t_st a_t_be a_t_so a_t_sv v_t_st) q A) ([.ref a_t] : List Value).toArray s 0 0 A) (F0 m 24 ls [])) (k : Nat) (x1_2 : Int32) (H : Heap) (locs : List Loc) (ls : Array Slot), fX6_freeNumber_L2 v_t_st K k x1_2 = some q → va_P D vwCl (wo_X6_freeNumber cI cZ a_t a_t_st a_t_be a_t_so a_t_sv v_t_st) H → va_D A (wo_X6_freeNumber cI cZ a_t a_t_st a_t_be a_t_so a_t_sv v_t_st) → va_S A s.heap H locs → lv_has ls 2 [(0, .ref a_t), (1, .int x1_2)] → W p l e rm_X6_freeNumber s m ([.ref a_t] : List Value).toArray below meth c H locs 0 0 (MQ below (QI D (wo_X6_freeNumber cI cZ a_t a_t_st a_t_be a_t_so a_t_sv v_t_st) q A) ([.ref a_t] : List Value).toArray s 0 0 A) (F0 m 2 ls []) := by
    intro K hKK k
    induction k with
    | zero => intro x1_2 H locs ls hf; rw [fX6_freeNumber_L2] at hf; cases hf
    | succ k ih =>
      intro x1_2 H locs ls hf hP hD hS hl
      rw [fX6_freeNumber_L2] at hf
      refine lv_iload_n hx hb dX6_freeNumber_2 rfl (lv_at hl 1 rfl) ?_
      refine lv_bipush hx hb dX6_freeNumber_3 bp_16 ?_
      refine lv_icmp_ge (tgt := 24) hx hb dX6_freeNumber_5 (by decide) (fun hc => ?_) (fun hc => ?_)
      · replace hf := ifp hc hf
        exact hKK _ _ _ ls hf hP hD hS (lv_sub hl [] rfl)
      · replace hf := ifn hc hf
        refine lv_aload_n hx hb dX6_freeNumber_8 rfl (lv_at hl 0 rfl) ?_
        refine lv_iload_n hx hb dX6_freeNumber_9 rfl (lv_at hl 1 rfl) ?_
        obtain ⟨q10, e10, hf⟩ := bnd hf
        refine callVI X (k_X6_isCircuit l D cI cZ a_t a_t_st a_t_be a_t_so a_t_sv  v_t_st x1_2 q10 e10) (cwV 1 X.1.2.2.2.2 gX6_freeNumber_X6_isCircuit rfl rfl rfl kd_X6_isCircuit ⟨Nat.le_of_ble_eq_true rfl, Nat.le_of_ble_eq_true rfl⟩) hP hD hS hl.1 0 6 rfl rfl [0, 1] (by decide) (wo_X6_freeNumber cI cZ a_t a_t_st a_t_be a_t_so a_t_sv v_t_st) rfl rfl rfl rfl rfl (rest := []) rfl (Nat.le_of_ble_eq_true rfl) dX6_freeNumber_10 ⟨Nat.zero_le _, Nat.zero_le _⟩ (fun H locs hP hD hS => ?_)
        refine lv_if_ne (tgt := 18) hx hb dX6_freeNumber_13 (by decide) (fun hc => ?_) (fun hc => ?_)
        · replace hf := ifp (b2i_nz hc) hf
          refine lv_iinc (v := (x1_2 + nI 1)) (lv' := [(1, .int (x1_2 + nI 1)), (0, .ref a_t)]) hx hb dX6_freeNumber_18 hl (k := 1) rfl (inc_1 _) (by decide) rfl (fun ls hl => ?_)
          refine lv_goto (tgt := 2) hx hb dX6_freeNumber_21 (by decide) ?_
          exact ih _ _ _ ls hf hP hD hS (lv_sub hl [1, 0] rfl)
        · replace hf := ifn (b2i_z hc) hf
          refine lv_iload_n hx hb dX6_freeNumber_16 rfl (lv_at hl 1 rfl) ?_
          obtain rfl := Option.some.inj hf
          exact retI X hS hP rfl dX6_freeNumber_17
  unfold fX6_freeNumber at hf
  refine lv_iconst hx hb dX6_freeNumber_0 ic_0 ?_
  refine lv_istore_n (lv' := [(1, .int 0), (0, .ref a_t)]) hx hb dX6_freeNumber_1 rfl hl (by decide) rfl (fun ls hl => ?_)
  refine L2 _ (fun x1_2 H locs ls hf hP hD hS hl => ?_) FU _ _ _ ls hf hP hD hS (lv_sub hl [1, 0] rfl)
  refine lv_bipush hx hb dX6_freeNumber_24 bp_m9 ?_
  obtain rfl := Option.some.inj hf
  exact retI X hS hP rfl dX6_freeNumber_26

abbrev wo_X6_addCircuit (cI cZ : ClassId) (a_t a_t_st a_t_be a_t_so a_t_sv : Nat) (v_t_st : Nat → Int32) : va_W := [(a_t, oX6 a_t_st a_t_be a_t_so a_t_sv), (a_t_st, rI cI 164 v_t_st)]
def fX6_addCircuit (v_t_st : Nat → Int32) (p1 : Int32) (p2 : Int32) (p3 : Int32) (p4 : Int32) (p5 : Int32) : Option (Int32 × (Nat → Int32)) := ((fX6_isNode v_t_st p1).bind (fun q2 => (if q2 = true then ((fX6_isNode v_t_st p2).bind (fun q10 => (if q10 = true then (if p1 = p2 then (some ((-5), v_t_st)) else ((fX6_in p4 0 ((v_t_st 1) - (nI 1))).bind (fun q37 => (if q37 = true then ((fX6_freeNumber v_t_st).bind (fun q47 => (if 0 ≤ q47 then ((fX6_isSlotFree v_t_st p1 p2 p3 p4 p5).bind (fun q68 => (if q68 = true then (if ((((nI 68) + ((nI 6) * q47)) + 0) < 0 ∨ 164 ≤ ((((nI 68) + ((nI 6) * q47)) + 0)).toNatClampNeg) then none else (if ((((nI 68) + ((nI 6) * q47)) + (nI 1)) < 0 ∨ 164 ≤ ((((nI 68) + ((nI 6) * q47)) + (nI 1))).toNatClampNeg) then none else (if ((((nI 68) + ((nI 6) * q47)) + (nI 2)) < 0 ∨ 164 ≤ ((((nI 68) + ((nI 6) * q47)) + (nI 2))).toNatClampNeg) then none else ((if p3 = 0 then (some 0) else (some (nI 1))).bind (fun ph134 => (if ((((nI 68) + ((nI 6) * q47)) + (nI 3)) < 0 ∨ 164 ≤ ((((nI 68) + ((nI 6) * q47)) + (nI 3))).toNatClampNeg) then none else (if ((((nI 68) + ((nI 6) * q47)) + (nI 4)) < 0 ∨ 164 ≤ ((((nI 68) + ((nI 6) * q47)) + (nI 4))).toNatClampNeg) then none else (if p5 = 0 then (if ((((nI 68) + ((nI 6) * q47)) + (nI 5)) < 0 ∨ 164 ≤ ((((nI 68) + ((nI 6) * q47)) + (nI 5))).toNatClampNeg) then none else (some (q47, (upd (upd (upd (upd (upd (upd v_t_st ((((nI 68) + ((nI 6) * q47)) + 0)).toNatClampNeg (nI 1)) ((((nI 68) + ((nI 6) * q47)) + (nI 1))).toNatClampNeg p1) ((((nI 68) + ((nI 6) * q47)) + (nI 2))).toNatClampNeg p2) ((((nI 68) + ((nI 6) * q47)) + (nI 3))).toNatClampNeg ph134) ((((nI 68) + ((nI 6) * q47)) + (nI 4))).toNatClampNeg p4) ((((nI 68) + ((nI 6) * q47)) + (nI 5))).toNatClampNeg 0)))) else (if ((((nI 68) + ((nI 6) * q47)) + (nI 5)) < 0 ∨ 164 ≤ ((((nI 68) + ((nI 6) * q47)) + (nI 5))).toNatClampNeg) then none else (some (q47, (upd (upd (upd (upd (upd (upd v_t_st ((((nI 68) + ((nI 6) * q47)) + 0)).toNatClampNeg (nI 1)) ((((nI 68) + ((nI 6) * q47)) + (nI 1))).toNatClampNeg p1) ((((nI 68) + ((nI 6) * q47)) + (nI 2))).toNatClampNeg p2) ((((nI 68) + ((nI 6) * q47)) + (nI 3))).toNatClampNeg ph134) ((((nI 68) + ((nI 6) * q47)) + (nI 4))).toNatClampNeg p4) ((((nI 68) + ((nI 6) * q47)) + (nI 5))).toNatClampNeg (nI 1))))))))))))) else (some ((-6), v_t_st))))) else (some ((-7), v_t_st))))) else (some ((-4), v_t_st)))))) else (some ((-1), v_t_st))))) else (some ((-1), v_t_st)))))
theorem kd_X6_addCircuit : yX6_addCircuit.cls = RX6 ∧ yX6_addCircuit.cls ≠ "java/lang/invoke/MethodHandle" ∧ yX6_addCircuit.cls ≠ "java/lang/invoke/VarHandle" ∧ (parseMethodDescriptor yX6_addCircuit.desc).map (fun d => d.parameters.length) = some 5 := by decide +kernel
def rm_X6_addCircuit : Room := { frames := 3, cells := 0, slots := 0, locals := 77 }
set_option maxHeartbeats 4000000 in
set_option maxRecDepth 100000 in
theorem k_X6_addCircuit (l : Launch) (D : va_G) (cI cZ : ClassId) (a_t a_t_st a_t_be a_t_so a_t_sv : Nat) (v_t_st : Nat → Int32) (p1 : Int32) (p2 : Int32) (p3 : Int32) (p4 : Int32) (p5 : Int32) (q : Int32 × (Nat → Int32)) (hf : fX6_addCircuit v_t_st p1 p2 p3 p4 p5 = some q) : CI l D cI cZ yX6_addCircuit wsX6_addCircuit rm_X6_addCircuit [.ref a_t, .int p1, .int p2, .int p3, .int p4, .int p5] (wo_X6_addCircuit cI cZ a_t a_t_st a_t_be a_t_so a_t_sv v_t_st) (wo_X6_addCircuit cI cZ a_t a_t_st a_t_be a_t_so a_t_sv q.2) q.1 := by
  refine CI.mk (cc := cX6_addCircuit) (maxL := 8) (by decide) rfl (Nat.le_of_ble_eq_true rfl) ?_
  intro p e s m below meth c ls A X hP hD hl hS
  have hx := X.1.1
  have hb := X.1.2.1
  have hl : lv_has ls 8 [(0, .ref a_t), (1, .int p1), (2, .int p2), (3, .int p3), (4, .int p4), (5, .int p5)] := hl
  have inX6 : ∀ w ∈ u_ws RX6 TX6 4, w ∈ wsX6_addCircuit := fun _ h => List.mem_cons_of_mem _ (List.mem_append_right _ h)
  unfold fX6_addCircuit at hf
  refine lv_aload_n hx hb dX6_addCircuit_0 rfl (lv_at hl 0 rfl) ?_
  refine lv_iload_n hx hb dX6_addCircuit_1 rfl (lv_at hl 1 rfl) ?_
  obtain ⟨q2, e2, hf⟩ := bnd hf
  refine callVI X (k_X6_isNode l D cI cZ a_t a_t_st a_t_be a_t_so a_t_sv  v_t_st p1 q2 e2) (cwV 1 X.1.2.2.2.2 gX6_addCircuit_X6_isNode rfl rfl rfl kd_X6_isNode ⟨Nat.le_of_ble_eq_true rfl, Nat.le_of_ble_eq_true rfl⟩) hP hD hS hl.1 0 6 rfl rfl [0, 1] (by decide) (wo_X6_addCircuit cI cZ a_t a_t_st a_t_be a_t_so a_t_sv v_t_st) rfl rfl rfl rfl rfl (rest := []) rfl (Nat.le_of_ble_eq_true rfl) dX6_addCircuit_2 ⟨Nat.zero_le _, Nat.zero_le _⟩ (fun H locs hP hD hS => ?_)
  refine lv_if_eq (tgt := 16) hx hb dX6_addCircuit_5 (by decide) (fun hc => ?_) (fun hc => ?_)
  · replace hf := ifn (b2i_z hc) hf
    refine lv_iconst hx hb dX6_addCircuit_16 ic_m1 ?_
    obtain rfl := Option.some.inj hf
    exact retI X hS hP rfl dX6_addCircuit_17
  · replace hf := ifp (b2i_nz hc) hf
    refine lv_aload_n hx hb dX6_addCircuit_8 rfl (lv_at hl 0 rfl) ?_
    refine lv_iload_n hx hb dX6_addCircuit_9 rfl (lv_at hl 2 rfl) ?_
    obtain ⟨q10, e10, hf⟩ := bnd hf
    refine callVI X (k_X6_isNode l D cI cZ a_t a_t_st a_t_be a_t_so a_t_sv  v_t_st p2 q10 e10) (cwV 1 X.1.2.2.2.2 gX6_addCircuit_X6_isNode rfl rfl rfl kd_X6_isNode ⟨Nat.le_of_ble_eq_true rfl, Nat.le_of_ble_eq_true rfl⟩) hP hD hS hl.1 0 6 rfl rfl [0, 1] (by decide) (wo_X6_addCircuit cI cZ a_t a_t_st a_t_be a_t_so a_t_sv v_t_st) rfl rfl rfl rfl rfl (rest := []) rfl (Nat.le_of_ble_eq_true rfl) dX6_addCircuit_10 ⟨Nat.zero_le _, Nat.zero_le _⟩ (fun H locs hP hD hS => ?_)
    refine lv_if_ne (tgt := 18) hx hb dX6_addCircuit_13 (by decide) (fun hc => ?_) (fun hc => ?_)
    · replace hf := ifp (b2i_nz hc) hf
      refine lv_iload_n hx hb dX6_addCircuit_18 rfl (lv_at hl 1 rfl) ?_
      refine lv_iload_n hx hb dX6_addCircuit_19 rfl (lv_at hl 2 rfl) ?_
      refine lv_icmp_ne (tgt := 26) hx hb dX6_addCircuit_20 (by decide) (fun hc => ?_) (fun hc => ?_)
      · replace hf := ifn hc hf
        refine lv_iload hx hb dX6_addCircuit_26 (lv_at hl 4 rfl) ?_
        refine lv_iconst hx hb dX6_addCircuit_28 ic_0 ?_
        refine lv_aload_n hx hb dX6_addCircuit_29 rfl (lv_at hl 0 rfl) ?_
        refine getO X hP inX6 0 rfl rfl 0 (by decide) (List.mem_of_getElem? (i := 1) rfl) rfl dX6_addCircuit_30 ?_
        refine lv_iconst hx hb dX6_addCircuit_33 ic_1 ?_
        refine aldI X hP 1 rfl (vp_in_nI (by decide) (by decide)) (j := 1) (nI_clamp (by decide)) dX6_addCircuit_34 ?_
        refine lv_iconst hx hb dX6_addCircuit_35 ic_1 ?_
        refine lv_isub hx hb dX6_addCircuit_36 ?_
        obtain ⟨q37, e37, hf⟩ := bnd hf
        refine callSI X (k_X6_in l D cI cZ    p4 0 ((v_t_st 1) - (nI 1)) q37 e37) (va_cwS 3 X.1.2.2.2.2 gX6_addCircuit_X6_in rfl rfl rfl kd_X6_in ⟨Nat.le_of_ble_eq_true rfl, Nat.le_of_ble_eq_true rfl⟩) hP hD hS hl.1 [] (by decide) (wo_X6_addCircuit cI cZ a_t a_t_st a_t_be a_t_so a_t_sv v_t_st) rfl rfl rfl rfl rfl (rest := []) rfl (Nat.le_of_ble_eq_true rfl) dX6_addCircuit_37 ⟨Nat.zero_le _, Nat.zero_le _⟩ (fun H locs hP hD hS => ?_)
        refine lv_if_ne (tgt := 46) hx hb dX6_addCircuit_40 (by decide) (fun hc => ?_) (fun hc => ?_)
        · replace hf := ifp (b2i_nz hc) hf
          refine lv_aload_n hx hb dX6_addCircuit_46 rfl (lv_at hl 0 rfl) ?_
          obtain ⟨q47, e47, hf⟩ := bnd hf
          refine callVI X (k_X6_freeNumber l D cI cZ a_t a_t_st a_t_be a_t_so a_t_sv  v_t_st  q47 e47) (cwV 0 X.1.2.2.2.2 gX6_addCircuit_X6_freeNumber rfl rfl rfl kd_X6_freeNumber ⟨Nat.le_of_ble_eq_true rfl, Nat.le_of_ble_eq_true rfl⟩) hP hD hS hl.1 0 6 rfl rfl [0, 1] (by decide) (wo_X6_addCircuit cI cZ a_t a_t_st a_t_be a_t_so a_t_sv v_t_st) rfl rfl rfl rfl rfl (rest := []) rfl (Nat.le_of_ble_eq_true rfl) dX6_addCircuit_47 ⟨Nat.zero_le _, Nat.zero_le _⟩ (fun H locs hP hD hS => ?_)
          refine lv_istore (lv' := [(6, .int q47), (0, .ref a_t), (1, .int p1), (2, .int p2), (3, .int p3), (4, .int p4), (5, .int p5)]) hx hb dX6_addCircuit_50 hl (by decide) rfl (fun ls hl => ?_)
          refine lv_iload hx hb dX6_addCircuit_52 (lv_at hl 0 rfl) ?_
          refine lv_if_ge (tgt := 60) hx hb dX6_addCircuit_54 (by decide) (fun hc => ?_) (fun hc => ?_)
          · replace hf := ifp hc hf
            refine lv_aload_n hx hb dX6_addCircuit_60 rfl (lv_at hl 1 rfl) ?_
            refine lv_iload_n hx hb dX6_addCircuit_61 rfl (lv_at hl 2 rfl) ?_
            refine lv_iload_n hx hb dX6_addCircuit_62 rfl (lv_at hl 3 rfl) ?_
            refine lv_iload_n hx hb dX6_addCircuit_63 rfl (lv_at hl 4 rfl) ?_
            refine lv_iload hx hb dX6_addCircuit_64 (lv_at hl 5 rfl) ?_
            refine lv_iload hx hb dX6_addCircuit_66 (lv_at hl 6 rfl) ?_
            obtain ⟨q68, e68, hf⟩ := bnd hf
            refine callVI X (k_X6_isSlotFree l D cI cZ a_t a_t_st a_t_be a_t_so a_t_sv  v_t_st p1 p2 p3 p4 p5 q68 e68) (cwV 5 X.1.2.2.2.2 gX6_addCircuit_X6_isSlotFree rfl rfl rfl kd_X6_isSlotFree ⟨Nat.le_of_ble_eq_true rfl, Nat.le_of_ble_eq_true rfl⟩) hP hD hS hl.1 0 6 rfl rfl [0, 1] (by decide) (wo_X6_addCircuit cI cZ a_t a_t_st a_t_be a_t_so a_t_sv v_t_st) rfl rfl rfl rfl rfl (rest := []) rfl (Nat.le_of_ble_eq_true rfl) dX6_addCircuit_68 ⟨Nat.zero_le _, Nat.zero_le _⟩ (fun H locs hP hD hS => ?_)
            refine lv_if_ne (tgt := 77) hx hb dX6_addCircuit_71 (by decide) (fun hc => ?_) (fun hc => ?_)
            · replace hf := ifp (b2i_nz hc) hf
              refine lv_bipush hx hb dX6_addCircuit_77 bp_68 ?_
              refine lv_bipush hx hb dX6_addCircuit_79 bp_6 ?_
              refine lv_iload hx hb dX6_addCircuit_81 (lv_at hl 0 rfl) ?_
              refine lv_imul hx hb dX6_addCircuit_83 ?_
              refine lv_iadd hx hb dX6_addCircuit_84 ?_
              refine lv_istore (lv' := [(7, .int ((nI 68) + ((nI 6) * q47))), (6, .int q47), (0, .ref a_t), (1, .int p1), (2, .int p2), (3, .int p3), (4, .int p4), (5, .int p5)]) hx hb dX6_addCircuit_85 hl (by decide) rfl (fun ls hl => ?_)
              refine lv_aload_n hx hb dX6_addCircuit_87 rfl (lv_at hl 2 rfl) ?_
              refine getO X hP inX6 0 rfl rfl 0 (by decide) (List.mem_of_getElem? (i := 1) rfl) rfl dX6_addCircuit_88 ?_
              refine lv_iload hx hb dX6_addCircuit_91 (lv_at hl 0 rfl) ?_
              refine lv_iconst hx hb dX6_addCircuit_93 ic_0 ?_
              refine lv_iadd hx hb dX6_addCircuit_94 ?_
              refine lv_iconst hx hb dX6_addCircuit_95 ic_1 ?_
              obtain ⟨g96, hf⟩ := grd hf
              refine astI X hP hD hS 1 rfl g96 rfl dX6_addCircuit_96 (wo_X6_addCircuit cI cZ a_t a_t_st a_t_be a_t_so a_t_sv (upd v_t_st ((((nI 68) + ((nI 6) * q47)) + 0)).toNatClampNeg (nI 1))) rfl (fun H locs hP hD hS => ?_)
              refine lv_aload_n hx hb dX6_addCircuit_97 rfl (lv_at hl 2 rfl) ?_
              refine getO X hP inX6 0 rfl rfl 0 (by decide) (List.mem_of_getElem? (i := 1) rfl) rfl dX6_addCircuit_98 ?_
              refine lv_iload hx hb dX6_addCircuit_101 (lv_at hl 0 rfl) ?_
              refine lv_iconst hx hb dX6_addCircuit_103 ic_1 ?_
              refine lv_iadd hx hb dX6_addCircuit_104 ?_
              refine lv_iload_n hx hb dX6_addCircuit_105 rfl (lv_at hl 3 rfl) ?_
              obtain ⟨g106, hf⟩ := grd hf
              refine astI X hP hD hS 1 rfl g106 rfl dX6_addCircuit_106 (wo_X6_addCircuit cI cZ a_t a_t_st a_t_be a_t_so a_t_sv (upd (upd v_t_st ((((nI 68) + ((nI 6) * q47)) + 0)).toNatClampNeg (nI 1)) ((((nI 68) + ((nI 6) * q47)) + (nI 1))).toNatClampNeg p1)) rfl (fun H locs hP hD hS => ?_)
              refine lv_aload_n hx hb dX6_addCircuit_107 rfl (lv_at hl 2 rfl) ?_
              refine getO X hP inX6 0 rfl rfl 0 (by decide) (List.mem_of_getElem? (i := 1) rfl) rfl dX6_addCircuit_108 ?_
              refine lv_iload hx hb dX6_addCircuit_111 (lv_at hl 0 rfl) ?_
              refine lv_iconst hx hb dX6_addCircuit_113 ic_2 ?_
              refine lv_iadd hx hb dX6_addCircuit_114 ?_
              refine lv_iload_n hx hb dX6_addCircuit_115 rfl (lv_at hl 4 rfl) ?_
              obtain ⟨g116, hf⟩ := grd hf
              refine astI X hP hD hS 1 rfl g116 rfl dX6_addCircuit_116 (wo_X6_addCircuit cI cZ a_t a_t_st a_t_be a_t_so a_t_sv (upd (upd (upd v_t_st ((((nI 68) + ((nI 6) * q47)) + 0)).toNatClampNeg (nI 1)) ((((nI 68) + ((nI 6) * q47)) + (nI 1))).toNatClampNeg p1) ((((nI 68) + ((nI 6) * q47)) + (nI 2))).toNatClampNeg p2)) rfl (fun H locs hP hD hS => ?_)
              refine lv_aload_n hx hb dX6_addCircuit_117 rfl (lv_at hl 2 rfl) ?_
              refine getO X hP inX6 0 rfl rfl 0 (by decide) (List.mem_of_getElem? (i := 1) rfl) rfl dX6_addCircuit_118 ?_
              refine lv_iload hx hb dX6_addCircuit_121 (lv_at hl 0 rfl) ?_
              refine lv_iconst hx hb dX6_addCircuit_123 ic_3 ?_
              refine lv_iadd hx hb dX6_addCircuit_124 ?_
              refine lv_iload_n hx hb dX6_addCircuit_125 rfl (lv_at hl 5 rfl) ?_
              obtain ⟨ph134, hg, hf⟩ := bnd hf
              have J134 : ∀ (H : Heap) (locs : List Loc) (ls : Array Slot), va_P D vwCl (wo_X6_addCircuit cI cZ a_t a_t_st a_t_be a_t_so a_t_sv (upd (upd (upd v_t_st ((((nI 68) + ((nI 6) * q47)) + 0)).toNatClampNeg (nI 1)) ((((nI 68) + ((nI 6) * q47)) + (nI 1))).toNatClampNeg p1) ((((nI 68) + ((nI 6) * q47)) + (nI 2))).toNatClampNeg p2)) H → va_D A (wo_X6_addCircuit cI cZ a_t a_t_st a_t_be a_t_so a_t_sv (upd (upd (upd v_t_st ((((nI 68) + ((nI 6) * q47)) + 0)).toNatClampNeg (nI 1)) ((((nI 68) + ((nI 6) * q47)) + (nI 1))).toNatClampNeg p1) ((((nI 68) + ((nI 6) * q47)) + (nI 2))).toNatClampNeg p2)) → va_S A s.heap H locs → lv_has ls 8 [(0, .ref a_t), (4, .int p4), (5, .int p5), (6, .int q47), (7, .int ((nI 68) + ((nI 6) * q47)))] → W p l e rm_X6_addCircuit s m ([.ref a_t, .int p1, .int p2, .int p3, .int p4, .int p5] : List Value).toArray below meth c H locs 0 0 (MQ below (QI D (wo_X6_addCircuit cI cZ a_t a_t_st a_t_be a_t_so a_t_sv q.2) q.1 A) ([.ref a_t, .int p1, .int p2, .int p3, .int p4, .int p5] : List Value).toArray s 0 0 A) (F0 m 134 ls [.int ph134, .int (((nI 68) + ((nI 6) * q47)) + (nI 3)), .ref a_t_st]) := by
                clear hg hP hD hS hl
                intro H locs ls hP hD hS hl
                obtain ⟨g134, hf⟩ := grd hf
                refine astI X hP hD hS 1 rfl g134 rfl dX6_addCircuit_134 (wo_X6_addCircuit cI cZ a_t a_t_st a_t_be a_t_so a_t_sv (upd (upd (upd (upd v_t_st ((((nI 68) + ((nI 6) * q47)) + 0)).toNatClampNeg (nI 1)) ((((nI 68) + ((nI 6) * q47)) + (nI 1))).toNatClampNeg p1) ((((nI 68) + ((nI 6) * q47)) + (nI 2))).toNatClampNeg p2) ((((nI 68) + ((nI 6) * q47)) + (nI 3))).toNatClampNeg ph134)) rfl (fun H locs hP hD hS => ?_)
                refine lv_aload_n hx hb dX6_addCircuit_135 rfl (lv_at hl 0 rfl) ?_
                refine getO X hP inX6 0 rfl rfl 0 (by decide) (List.mem_of_getElem? (i := 1) rfl) rfl dX6_addCircuit_136 ?_
                refine lv_iload hx hb dX6_addCircuit_139 (lv_at hl 4 rfl) ?_
                refine lv_iconst hx hb dX6_addCircuit_141 ic_4 ?_
                refine lv_iadd hx hb dX6_addCircuit_142 ?_
                refine lv_iload hx hb dX6_addCircuit_143 (lv_at hl 1 rfl) ?_
                obtain ⟨g145, hf⟩ := grd hf
                refine astI X hP hD hS 1 rfl g145 rfl dX6_addCircuit_145 (wo_X6_addCircuit cI cZ a_t a_t_st a_t_be a_t_so a_t_sv (upd (upd (upd (upd (upd v_t_st ((((nI 68) + ((nI 6) * q47)) + 0)).toNatClampNeg (nI 1)) ((((nI 68) + ((nI 6) * q47)) + (nI 1))).toNatClampNeg p1) ((((nI 68) + ((nI 6) * q47)) + (nI 2))).toNatClampNeg p2) ((((nI 68) + ((nI 6) * q47)) + (nI 3))).toNatClampNeg ph134) ((((nI 68) + ((nI 6) * q47)) + (nI 4))).toNatClampNeg p4)) rfl (fun H locs hP hD hS => ?_)
                refine lv_aload_n hx hb dX6_addCircuit_146 rfl (lv_at hl 0 rfl) ?_
                refine getO X hP inX6 0 rfl rfl 0 (by decide) (List.mem_of_getElem? (i := 1) rfl) rfl dX6_addCircuit_147 ?_
                refine lv_iload hx hb dX6_addCircuit_150 (lv_at hl 4 rfl) ?_
                refine lv_iconst hx hb dX6_addCircuit_152 ic_5 ?_
                refine lv_iadd hx hb dX6_addCircuit_153 ?_
                refine lv_iload hx hb dX6_addCircuit_154 (lv_at hl 2 rfl) ?_
                refine lv_if_eq (tgt := 163) hx hb dX6_addCircuit_156 (by decide) (fun hc => ?_) (fun hc => ?_)
                · replace hf := ifp hc hf
                  refine lv_iconst hx hb dX6_addCircuit_163 ic_0 ?_
                  obtain ⟨g164, hf⟩ := grd hf
                  refine astI X hP hD hS 1 rfl g164 rfl dX6_addCircuit_164 (wo_X6_addCircuit cI cZ a_t a_t_st a_t_be a_t_so a_t_sv (upd (upd (upd (upd (upd (upd v_t_st ((((nI 68) + ((nI 6) * q47)) + 0)).toNatClampNeg (nI 1)) ((((nI 68) + ((nI 6) * q47)) + (nI 1))).toNatClampNeg p1) ((((nI 68) + ((nI 6) * q47)) + (nI 2))).toNatClampNeg p2) ((((nI 68) + ((nI 6) * q47)) + (nI 3))).toNatClampNeg ph134) ((((nI 68) + ((nI 6) * q47)) + (nI 4))).toNatClampNeg p4) ((((nI 68) + ((nI 6) * q47)) + (nI 5))).toNatClampNeg 0)) rfl (fun H locs hP hD hS => ?_)
                  refine lv_iload hx hb dX6_addCircuit_165 (lv_at hl 3 rfl) ?_
                  obtain rfl := Option.some.inj hf
                  exact retI X hS hP rfl dX6_addCircuit_167
                · replace hf := ifn hc hf
                  refine lv_iconst hx hb dX6_addCircuit_159 ic_1 ?_
                  refine lv_goto (tgt := 164) hx hb dX6_addCircuit_160 (by decide) ?_
                  obtain ⟨g164, hf⟩ := grd hf
                  refine astI X hP hD hS 1 rfl g164 rfl dX6_addCircuit_164 (wo_X6_addCircuit cI cZ a_t a_t_st a_t_be a_t_so a_t_sv (upd (upd (upd (upd (upd (upd v_t_st ((((nI 68) + ((nI 6) * q47)) + 0)).toNatClampNeg (nI 1)) ((((nI 68) + ((nI 6) * q47)) + (nI 1))).toNatClampNeg p1) ((((nI 68) + ((nI 6) * q47)) + (nI 2))).toNatClampNeg p2) ((((nI 68) + ((nI 6) * q47)) + (nI 3))).toNatClampNeg ph134) ((((nI 68) + ((nI 6) * q47)) + (nI 4))).toNatClampNeg p4) ((((nI 68) + ((nI 6) * q47)) + (nI 5))).toNatClampNeg (nI 1))) rfl (fun H locs hP hD hS => ?_)
                  refine lv_iload hx hb dX6_addCircuit_165 (lv_at hl 3 rfl) ?_
                  obtain rfl := Option.some.inj hf
                  exact retI X hS hP rfl dX6_addCircuit_167
              replace hf := hg
              clear hg
              refine lv_if_eq (tgt := 133) hx hb dX6_addCircuit_126 (by decide) (fun hc => ?_) (fun hc => ?_)
              · replace hf := ifp hc hf
                refine lv_iconst hx hb dX6_addCircuit_133 ic_0 ?_
                obtain rfl := Option.some.inj hf
                exact J134 _ _ ls hP hD hS (lv_sub hl [2, 6, 7, 1, 0] rfl)
              · replace hf := ifn hc hf
                refine lv_iconst hx hb dX6_addCircuit_129 ic_1 ?_
                refine lv_goto (tgt := 134) hx hb dX6_addCircuit_130 (by decide) ?_
                obtain rfl := Option.some.inj hf
                exact J134 _ _ ls hP hD hS (lv_sub hl [2, 6, 7, 1, 0] rfl)
            · replace hf := ifn (b2i_z hc) hf
              refine lv_bipush hx hb dX6_addCircuit_74 bp_m6 ?_
              obtain rfl := Option.some.inj hf
              exact retI X hS hP rfl dX6_addCircuit_76
          · replace hf := ifn hc hf
            refine lv_bipush hx hb dX6_addCircuit_57 bp_m7 ?_
            obtain rfl := Option.some.inj hf
            exact retI X hS hP rfl dX6_addCircuit_59
        · replace hf := ifn (b2i_z hc) hf
          refine lv_bipush hx hb dX6_addCircuit_43 bp_m4 ?_
          obtain rfl := Option.some.inj hf
          exact retI X hS hP rfl dX6_addCircuit_45
      · replace hf := ifp hc hf
        refine lv_bipush hx hb dX6_addCircuit_23 bp_m5 ?_
        obtain rfl := Option.some.inj hf
        exact retI X hS hP rfl dX6_addCircuit_25
    · replace hf := ifn (b2i_z hc) hf
      refine lv_iconst hx hb dX6_addCircuit_16 ic_m1 ?_
      obtain rfl := Option.some.inj hf
      exact retI X hS hP rfl dX6_addCircuit_17

abbrev wo_X6_circuitCount (cI cZ : ClassId) (a_t a_t_st a_t_be a_t_so a_t_sv : Nat) (v_t_st : Nat → Int32) : va_W := [(a_t, oX6 a_t_st a_t_be a_t_so a_t_sv), (a_t_st, rI cI 164 v_t_st)]
def fX6_circuitCount_L4 (v_t_st : Nat → Int32) (K : Int32 → Int32 → Option (Int32)) : Nat → Int32 → Int32 → Option (Int32)
  | 0, _, _ => none
  | k + 1, x1_4, x2_4 => (if (nI 16) ≤ x2_4 then (K x1_4 x2_4) else ((fX6_ofCircuit v_t_st x2_4 0).bind (fun q14 => (fX6_circuitCount_L4 v_t_st K k (x1_4 + q14) (x2_4 + nI 1)))))
def fX6_circuitCount (v_t_st : Nat → Int32) : Option (Int32) := (fX6_circuitCount_L4 v_t_st (fun x1_4 x2_4 => (some x1_4)) FU 0 0)
theorem kd_X6_circuitCount : yX6_circuitCount.cls = RX6 ∧ yX6_circuitCount.cls ≠ "java/lang/invoke/MethodHandle" ∧ yX6_circuitCount.cls ≠ "java/lang/invoke/VarHandle" ∧ (parseMethodDescriptor yX6_circuitCount.desc).map (fun d => d.parameters.length) = some 0 := by decide +kernel
def rm_X6_circuitCount : Room := { frames := 1, cells := 0, slots := 0, locals := 22 }
set_option maxHeartbeats 4000000 in
set_option maxRecDepth 100000 in
theorem k_X6_circuitCount (l : Launch) (D : va_G) (cI cZ : ClassId) (a_t a_t_st a_t_be a_t_so a_t_sv : Nat) (v_t_st : Nat → Int32) (q : Int32) (hf : fX6_circuitCount v_t_st = some q) : CI l D cI cZ yX6_circuitCount wsX6_circuitCount rm_X6_circuitCount [.ref a_t] (wo_X6_circuitCount cI cZ a_t a_t_st a_t_be a_t_so a_t_sv v_t_st) (wo_X6_circuitCount cI cZ a_t a_t_st a_t_be a_t_so a_t_sv v_t_st) q := by
  refine CI.mk (cc := cX6_circuitCount) (maxL := 3) (by decide) rfl (Nat.le_of_ble_eq_true rfl) ?_
  intro p e s m below meth c ls A X hP hD hl hS
  have hx := X.1.1
  have hb := X.1.2.1
  have hl : lv_has ls 3 [(0, .ref a_t)] := hl
  have L4 : ∀ (K : Int32 → Int32 → Option (Int32)) (hKK : ∀ (x1_4 : Int32) (x2_4 : Int32) (H : Heap) (locs : List Loc) (ls : Array Slot), K x1_4 x2_4 = some q → va_P D vwCl (wo_X6_circuitCount cI cZ a_t a_t_st a_t_be a_t_so a_t_sv v_t_st) H → va_D A (wo_X6_circuitCount cI cZ a_t a_t_st a_t_be a_t_so a_t_sv v_t_st) → va_S A s.heap H locs → lv_has ls 3 [(1, .int x1_4)] → W p l e rm_X6_circuitCount s m ([.ref a_t] : List Value).toArray below meth c H locs 0 0 (MQ below (QI D (wo_X6_circuitCount cI cZ a_t a_t_st a_t_be a_t_so a_t_sv v_t_st) q A) ([.ref a_t] : List Value).toArray s 0 0 A) (F0 m 25 ls [])) (k : Nat) (x1_4 : Int32) (x2_4 : Int32) (H : Heap) (locs : List Loc) (ls : Array Slot), fX6_circuitCount_L4 v_t_st K k x1_4 x2_4 = some q → va_P D vwCl (wo_X6_circuitCount cI cZ a_t a_t_st a_t_be a_t_so a_t_sv v_t_st) H → va_D A (wo_X6_circuitCount cI cZ a_t a_t_st a_t_be a_t_so a_t_sv v_t_st) → va_S A s.heap H locs → lv_has ls 3 [(0, .ref a_t), (1, .int x1_4), (2, .int x2_4)] → W p l e rm_X6_circuitCount s m ([.ref a_t] : List Value).toArray below meth c H locs 0 0 (MQ below (QI D (wo_X6_circuitCount cI cZ a_t a_t_st a_t_be a_t_so a_t_sv v_t_st) q A) ([.ref a_t] : List Value).toArray s 0 0 A) (F0 m 4 ls []) := by
    intro K hKK k
    induction k with
    | zero => intro x1_4 x2_4 H locs ls hf; rw [fX6_circuitCount_L4] at hf; cases hf
    | succ k ih =>
      intro x1_4 x2_4 H locs ls hf hP hD hS hl
      rw [fX6_circuitCount_L4] at hf
      refine lv_iload_n hx hb dX6_circuitCount_4 rfl (lv_at hl 2 rfl) ?_
      refine lv_bipush hx hb dX6_circuitCount_5 bp_16 ?_
      refine lv_icmp_ge (tgt := 25) hx hb dX6_circuitCount_7 (by decide) (fun hc => ?_) (fun hc => ?_)
      · replace hf := ifp hc hf
        exact hKK _ _ _ _ ls hf hP hD hS (lv_sub hl [1] rfl)
      · replace hf := ifn hc hf
        refine lv_iload_n hx hb dX6_circuitCount_10 rfl (lv_at hl 1 rfl) ?_
        refine lv_aload_n hx hb dX6_circuitCount_11 rfl (lv_at hl 0 rfl) ?_
        refine lv_iload_n hx hb dX6_circuitCount_12 rfl (lv_at hl 2 rfl) ?_
        refine lv_iconst hx hb dX6_circuitCount_13 ic_0 ?_
        obtain ⟨q14, e14, hf⟩ := bnd hf
        refine callVI X (k_X6_ofCircuit l D cI cZ a_t a_t_st a_t_be a_t_so a_t_sv  v_t_st x2_4 0 q14 e14) (cwV 2 X.1.2.2.2.2 gX6_circuitCount_X6_ofCircuit rfl rfl rfl kd_X6_ofCircuit ⟨Nat.le_of_ble_eq_true rfl, Nat.le_of_ble_eq_true rfl⟩) hP hD hS hl.1 0 6 rfl rfl [0, 1] (by decide) (wo_X6_circuitCount cI cZ a_t a_t_st a_t_be a_t_so a_t_sv v_t_st) rfl rfl rfl rfl rfl (rest := [.int x1_4]) rfl (Nat.le_of_ble_eq_true rfl) dX6_circuitCount_14 ⟨Nat.zero_le _, Nat.zero_le _⟩ (fun H locs hP hD hS => ?_)
        refine lv_iadd hx hb dX6_circuitCount_17 ?_
        refine lv_istore_n (lv' := [(1, .int (x1_4 + q14)), (0, .ref a_t), (2, .int x2_4)]) hx hb dX6_circuitCount_18 rfl hl (by decide) rfl (fun ls hl => ?_)
        refine lv_iinc (v := (x2_4 + nI 1)) (lv' := [(2, .int (x2_4 + nI 1)), (1, .int (x1_4 + q14)), (0, .ref a_t)]) hx hb dX6_circuitCount_19 hl (k := 2) rfl (inc_1 _) (by decide) rfl (fun ls hl => ?_)
        refine lv_goto (tgt := 4) hx hb dX6_circuitCount_22 (by decide) ?_
        exact ih _ _ _ _ ls hf hP hD hS (lv_sub hl [2, 1, 0] rfl)
  unfold fX6_circuitCount at hf
  refine lv_iconst hx hb dX6_circuitCount_0 ic_0 ?_
  refine lv_istore_n (lv' := [(1, .int 0), (0, .ref a_t)]) hx hb dX6_circuitCount_1 rfl hl (by decide) rfl (fun ls hl => ?_)
  refine lv_iconst hx hb dX6_circuitCount_2 ic_0 ?_
  refine lv_istore_n (lv' := [(2, .int 0), (1, .int 0), (0, .ref a_t)]) hx hb dX6_circuitCount_3 rfl hl (by decide) rfl (fun ls hl => ?_)
  refine L4 _ (fun x1_4 x2_4 H locs ls hf hP hD hS hl => ?_) FU _ _ _ _ ls hf hP hD hS (lv_sub hl [2, 1, 0] rfl)
  refine lv_iload_n hx hb dX6_circuitCount_25 rfl (lv_at hl 0 rfl) ?_
  obtain rfl := Option.some.inj hf
  exact retI X hS hP rfl dX6_circuitCount_26

abbrev wo_X6_removeCircuit (cI cZ : ClassId) (a_t a_t_st a_t_be a_t_so a_t_sv : Nat) (v_t_st : Nat → Int32) : va_W := [(a_t, oX6 a_t_st a_t_be a_t_so a_t_sv), (a_t_st, rI cI 164 v_t_st)]
def fX6_removeCircuit_L13 (p1 : Int32) (K : Int32 → (Nat → Int32) → Option (Int32 × (Nat → Int32))) : Nat → Int32 → (Nat → Int32) → Option (Int32 × (Nat → Int32))
  | 0, _, _ => none
  | k + 1, x2_13, v_t_st_13 => (if (nI 6) ≤ x2_13 then (K x2_13 v_t_st_13) else (if ((((nI 68) + ((nI 6) * p1)) + x2_13) < 0 ∨ 164 ≤ ((((nI 68) + ((nI 6) * p1)) + x2_13)).toNatClampNeg) then none else (fX6_removeCircuit_L13 p1 K k (x2_13 + nI 1) (upd v_t_st_13 ((((nI 68) + ((nI 6) * p1)) + x2_13)).toNatClampNeg 0))))
def fX6_removeCircuit (v_t_st : Nat → Int32) (p1 : Int32) : Option (Int32 × (Nat → Int32)) := ((fX6_isCircuit v_t_st p1).bind (fun q2 => (if q2 = true then (fX6_removeCircuit_L13 p1 (fun x2_13 v_t_st_13 => ((fX6_circuitCount v_t_st_13).bind (fun q41 => (some (q41, v_t_st_13))))) FU 0 v_t_st) else (some ((-3), v_t_st)))))
theorem kd_X6_removeCircuit : yX6_removeCircuit.cls = RX6 ∧ yX6_removeCircuit.cls ≠ "java/lang/invoke/MethodHandle" ∧ yX6_removeCircuit.cls ≠ "java/lang/invoke/VarHandle" ∧ (parseMethodDescriptor yX6_removeCircuit.desc).map (fun d => d.parameters.length) = some 1 := by decide +kernel
def rm_X6_removeCircuit : Room := { frames := 2, cells := 0, slots := 0, locals := 44 }
set_option maxHeartbeats 4000000 in
set_option maxRecDepth 100000 in
theorem k_X6_removeCircuit (l : Launch) (D : va_G) (cI cZ : ClassId) (a_t a_t_st a_t_be a_t_so a_t_sv : Nat) (v_t_st : Nat → Int32) (p1 : Int32) (q : Int32 × (Nat → Int32)) (hf : fX6_removeCircuit v_t_st p1 = some q) : CI l D cI cZ yX6_removeCircuit wsX6_removeCircuit rm_X6_removeCircuit [.ref a_t, .int p1] (wo_X6_removeCircuit cI cZ a_t a_t_st a_t_be a_t_so a_t_sv v_t_st) (wo_X6_removeCircuit cI cZ a_t a_t_st a_t_be a_t_so a_t_sv q.2) q.1 := by
  refine CI.mk (cc := cX6_removeCircuit) (maxL := 3) (by decide) rfl (Nat.le_of_ble_eq_true rfl) ?_
  intro p e s m below meth c ls A X hP hD hl hS
  have hx := X.1.1
  have hb := X.1.2.1
  have hl : lv_has ls 3 [(0, .ref a_t), (1, .int p1)] := hl
  have inX6 : ∀ w ∈ u_ws RX6 TX6 4, w ∈ wsX6_removeCircuit := fun _ h => List.mem_cons_of_mem _ (List.mem_append_right _ h)
  have L13 : ∀ (K : Int32 → (Nat → Int32) → Option (Int32 × (Nat → Int32))) (hKK : ∀ (x2_13 : Int32) (v_t_st_13 : Nat → Int32) (H : Heap) (locs : List Loc) (ls : Array Slot), K x2_13 v_t_st_13 = some q → va_P D vwCl (wo_X6_removeCircuit cI cZ a_t a_t_st a_t_be a_t_so a_t_sv v_t_st_13) H → va_D A (wo_X6_removeCircuit cI cZ a_t a_t_st a_t_be a_t_so a_t_sv v_t_st_13) → va_S A s.heap H locs → lv_has ls 3 [(0, .ref a_t)] → W p l e rm_X6_removeCircuit s m ([.ref a_t, .int p1] : List Value).toArray below meth c H locs 0 0 (MQ below (QI D (wo_X6_removeCircuit cI cZ a_t a_t_st a_t_be a_t_so a_t_sv q.2) q.1 A) ([.ref a_t, .int p1] : List Value).toArray s 0 0 A) (F0 m 40 ls [])) (k : Nat) (x2_13 : Int32) (v_t_st_13 : Nat → Int32) (H : Heap) (locs : List Loc) (ls : Array Slot), fX6_removeCircuit_L13 p1 K k x2_13 v_t_st_13 = some q → va_P D vwCl (wo_X6_removeCircuit cI cZ a_t a_t_st a_t_be a_t_so a_t_sv v_t_st_13) H → va_D A (wo_X6_removeCircuit cI cZ a_t a_t_st a_t_be a_t_so a_t_sv v_t_st_13) → va_S A s.heap H locs → lv_has ls 3 [(0, .ref a_t), (1, .int p1), (2, .int x2_13)] → W p l e rm_X6_removeCircuit s m ([.ref a_t, .int p1] : List Value).toArray below meth c H locs 0 0 (MQ below (QI D (wo_X6_removeCircuit cI cZ a_t a_t_st a_t_be a_t_so a_t_sv q.2) q.1 A) ([.ref a_t, .int p1] : List Value).toArray s 0 0 A) (F0 m 13 ls []) := by
    intro K hKK k
    induction k with
    | zero => intro x2_13 v_t_st_13 H locs ls hf; rw [fX6_removeCircuit_L13] at hf; cases hf
    | succ k ih =>
      intro x2_13 v_t_st_13 H locs ls hf hP hD hS hl
      rw [fX6_removeCircuit_L13] at hf
      refine lv_iload_n hx hb dX6_removeCircuit_13 rfl (lv_at hl 2 rfl) ?_
      refine lv_bipush hx hb dX6_removeCircuit_14 bp_6 ?_
      refine lv_icmp_ge (tgt := 40) hx hb dX6_removeCircuit_16 (by decide) (fun hc => ?_) (fun hc => ?_)
      · replace hf := ifp hc hf
        exact hKK _ _ _ _ ls hf hP hD hS (lv_sub hl [0] rfl)
      · replace hf := ifn hc hf
        refine lv_aload_n hx hb dX6_removeCircuit_19 rfl (lv_at hl 0 rfl) ?_
        refine getO X hP inX6 0 rfl rfl 0 (by decide) (List.mem_of_getElem? (i := 1) rfl) rfl dX6_removeCircuit_20 ?_
        refine lv_bipush hx hb dX6_removeCircuit_23 bp_68 ?_
        refine lv_bipush hx hb dX6_removeCircuit_25 bp_6 ?_
        refine lv_iload_n hx hb dX6_removeCircuit_27 rfl (lv_at hl 1 rfl) ?_
        refine lv_imul hx hb dX6_removeCircuit_28 ?_
        refine lv_iadd hx hb dX6_removeCircuit_29 ?_
        refine lv_iload_n hx hb dX6_removeCircuit_30 rfl (lv_at hl 2 rfl) ?_
        refine lv_iadd hx hb dX6_removeCircuit_31 ?_
        refine lv_iconst hx hb dX6_removeCircuit_32 ic_0 ?_
        obtain ⟨g33, hf⟩ := grd hf
        refine astI X hP hD hS 1 rfl g33 rfl dX6_removeCircuit_33 (wo_X6_removeCircuit cI cZ a_t a_t_st a_t_be a_t_so a_t_sv (upd v_t_st_13 ((((nI 68) + ((nI 6) * p1)) + x2_13)).toNatClampNeg 0)) rfl (fun H locs hP hD hS => ?_)
        refine lv_iinc (v := (x2_13 + nI 1)) (lv' := [(2, .int (x2_13 + nI 1)), (0, .ref a_t), (1, .int p1)]) hx hb dX6_removeCircuit_34 hl (k := 2) rfl (inc_1 _) (by decide) rfl (fun ls hl => ?_)
        refine lv_goto (tgt := 13) hx hb dX6_removeCircuit_37 (by decide) ?_
        exact ih _ _ _ _ ls hf hP hD hS (lv_sub hl [1, 2, 0] rfl)
  unfold fX6_removeCircuit at hf
  refine lv_aload_n hx hb dX6_removeCircuit_0 rfl (lv_at hl 0 rfl) ?_
  refine lv_iload_n hx hb dX6_removeCircuit_1 rfl (lv_at hl 1 rfl) ?_
  obtain ⟨q2, e2, hf⟩ := bnd hf
  refine callVI X (k_X6_isCircuit l D cI cZ a_t a_t_st a_t_be a_t_so a_t_sv  v_t_st p1 q2 e2) (cwV 1 X.1.2.2.2.2 gX6_removeCircuit_X6_isCircuit rfl rfl rfl kd_X6_isCircuit ⟨Nat.le_of_ble_eq_true rfl, Nat.le_of_ble_eq_true rfl⟩) hP hD hS hl.1 0 6 rfl rfl [0, 1] (by decide) (wo_X6_removeCircuit cI cZ a_t a_t_st a_t_be a_t_so a_t_sv v_t_st) rfl rfl rfl rfl rfl (rest := []) rfl (Nat.le_of_ble_eq_true rfl) dX6_removeCircuit_2 ⟨Nat.zero_le _, Nat.zero_le _⟩ (fun H locs hP hD hS => ?_)
  refine lv_if_ne (tgt := 11) hx hb dX6_removeCircuit_5 (by decide) (fun hc => ?_) (fun hc => ?_)
  · replace hf := ifp (b2i_nz hc) hf
    refine lv_iconst hx hb dX6_removeCircuit_11 ic_0 ?_
    refine lv_istore_n (lv' := [(2, .int 0), (0, .ref a_t), (1, .int p1)]) hx hb dX6_removeCircuit_12 rfl hl (by decide) rfl (fun ls hl => ?_)
    refine L13 _ (fun x2_13 v_t_st_13 H locs ls hf hP hD hS hl => ?_) FU _ _ _ _ ls hf hP hD hS (lv_sub hl [1, 2, 0] rfl)
    refine lv_aload_n hx hb dX6_removeCircuit_40 rfl (lv_at hl 0 rfl) ?_
    obtain ⟨q41, e41, hf⟩ := bnd hf
    refine callVI X (k_X6_circuitCount l D cI cZ a_t a_t_st a_t_be a_t_so a_t_sv  v_t_st_13  q41 e41) (cwV 0 X.1.2.2.2.2 gX6_removeCircuit_X6_circuitCount rfl rfl rfl kd_X6_circuitCount ⟨Nat.le_of_ble_eq_true rfl, Nat.le_of_ble_eq_true rfl⟩) hP hD hS hl.1 0 6 rfl rfl [0, 1] (by decide) (wo_X6_removeCircuit cI cZ a_t a_t_st a_t_be a_t_so a_t_sv v_t_st_13) rfl rfl rfl rfl rfl (rest := []) rfl (Nat.le_of_ble_eq_true rfl) dX6_removeCircuit_41 ⟨Nat.zero_le _, Nat.zero_le _⟩ (fun H locs hP hD hS => ?_)
    obtain rfl := Option.some.inj hf
    exact retI X hS hP rfl dX6_removeCircuit_44
  · replace hf := ifn (b2i_z hc) hf
    refine lv_bipush hx hb dX6_removeCircuit_8 bp_m3 ?_
    obtain rfl := Option.some.inj hf
    exact retI X hS hP rfl dX6_removeCircuit_10

abbrev wo_X6_freeSlot (cI cZ : ClassId) (a_t a_t_st a_t_be a_t_so a_t_sv : Nat) (v_t_st : Nat → Int32) : va_W := [(a_t, oX6 a_t_st a_t_be a_t_so a_t_sv), (a_t_st, rI cI 164 v_t_st)]
def fX6_freeSlot_L29 (v_t_st : Nat → Int32) (p1 : Int32) (p2 : Int32) (p3 : Int32) (p4 : Int32) (K : Int32 → Option (Int32)) : Nat → Int32 → Option (Int32)
  | 0, _ => none
  | k + 1, x5_29 => (if (v_t_st 1) ≤ x5_29 then (K x5_29) else ((fX6_isSlotFree v_t_st p1 p2 p3 x5_29 p4).bind (fun q48 => (if q48 = true then (some x5_29) else (fX6_freeSlot_L29 v_t_st p1 p2 p3 p4 K k (x5_29 + nI 1))))))
def fX6_freeSlot (v_t_st : Nat → Int32) (p1 : Int32) (p2 : Int32) (p3 : Int32) (p4 : Int32) : Option (Int32) := ((fX6_isNode v_t_st p1).bind (fun q2 => (if q2 = true then ((fX6_isNode v_t_st p2).bind (fun q10 => (if q10 = true then (if p1 = p2 then (some (-5)) else (fX6_freeSlot_L29 v_t_st p1 p2 p3 p4 (fun x5_29 => (some (-9))) FU 0)) else (some (-1))))) else (some (-1)))))
theorem kd_X6_freeSlot : yX6_freeSlot.cls = RX6 ∧ yX6_freeSlot.cls ≠ "java/lang/invoke/MethodHandle" ∧ yX6_freeSlot.cls ≠ "java/lang/invoke/VarHandle" ∧ (parseMethodDescriptor yX6_freeSlot.desc).map (fun d => d.parameters.length) = some 4 := by decide +kernel
def rm_X6_freeSlot : Room := { frames := 3, cells := 0, slots := 0, locals := 77 }
set_option maxHeartbeats 4000000 in
set_option maxRecDepth 100000 in
theorem k_X6_freeSlot (l : Launch) (D : va_G) (cI cZ : ClassId) (a_t a_t_st a_t_be a_t_so a_t_sv : Nat) (v_t_st : Nat → Int32) (p1 : Int32) (p2 : Int32) (p3 : Int32) (p4 : Int32) (q : Int32) (hf : fX6_freeSlot v_t_st p1 p2 p3 p4 = some q) : CI l D cI cZ yX6_freeSlot wsX6_freeSlot rm_X6_freeSlot [.ref a_t, .int p1, .int p2, .int p3, .int p4] (wo_X6_freeSlot cI cZ a_t a_t_st a_t_be a_t_so a_t_sv v_t_st) (wo_X6_freeSlot cI cZ a_t a_t_st a_t_be a_t_so a_t_sv v_t_st) q := by
  refine CI.mk (cc := cX6_freeSlot) (maxL := 6) (by decide) rfl (Nat.le_of_ble_eq_true rfl) ?_
  intro p e s m below meth c ls A X hP hD hl hS
  have hx := X.1.1
  have hb := X.1.2.1
  have hl : lv_has ls 6 [(0, .ref a_t), (1, .int p1), (2, .int p2), (3, .int p3), (4, .int p4)] := hl
  have inX6 : ∀ w ∈ u_ws RX6 TX6 4, w ∈ wsX6_freeSlot := fun _ h => List.mem_cons_of_mem _ (List.mem_append_right _ h)
  have L29 : ∀ (K : Int32 → Option (Int32)) (hKK : ∀ (x5_29 : Int32) (H : Heap) (locs : List Loc) (ls : Array Slot), K x5_29 = some q → va_P D vwCl (wo_X6_freeSlot cI cZ a_t a_t_st a_t_be a_t_so a_t_sv v_t_st) H → va_D A (wo_X6_freeSlot cI cZ a_t a_t_st a_t_be a_t_so a_t_sv v_t_st) → va_S A s.heap H locs → lv_has ls 6 [] → W p l e rm_X6_freeSlot s m ([.ref a_t, .int p1, .int p2, .int p3, .int p4] : List Value).toArray below meth c H locs 0 0 (MQ below (QI D (wo_X6_freeSlot cI cZ a_t a_t_st a_t_be a_t_so a_t_sv v_t_st) q A) ([.ref a_t, .int p1, .int p2, .int p3, .int p4] : List Value).toArray s 0 0 A) (F0 m 63 ls [])) (k : Nat) (x5_29 : Int32) (H : Heap) (locs : List Loc) (ls : Array Slot), fX6_freeSlot_L29 v_t_st p1 p2 p3 p4 K k x5_29 = some q → va_P D vwCl (wo_X6_freeSlot cI cZ a_t a_t_st a_t_be a_t_so a_t_sv v_t_st) H → va_D A (wo_X6_freeSlot cI cZ a_t a_t_st a_t_be a_t_so a_t_sv v_t_st) → va_S A s.heap H locs → lv_has ls 6 [(0, .ref a_t), (1, .int p1), (2, .int p2), (3, .int p3), (4, .int p4), (5, .int x5_29)] → W p l e rm_X6_freeSlot s m ([.ref a_t, .int p1, .int p2, .int p3, .int p4] : List Value).toArray below meth c H locs 0 0 (MQ below (QI D (wo_X6_freeSlot cI cZ a_t a_t_st a_t_be a_t_so a_t_sv v_t_st) q A) ([.ref a_t, .int p1, .int p2, .int p3, .int p4] : List Value).toArray s 0 0 A) (F0 m 29 ls []) := by
    intro K hKK k
    induction k with
    | zero => intro x5_29 H locs ls hf; rw [fX6_freeSlot_L29] at hf; cases hf
    | succ k ih =>
      intro x5_29 H locs ls hf hP hD hS hl
      rw [fX6_freeSlot_L29] at hf
      refine lv_iload hx hb dX6_freeSlot_29 (lv_at hl 5 rfl) ?_
      refine lv_aload_n hx hb dX6_freeSlot_31 rfl (lv_at hl 0 rfl) ?_
      refine getO X hP inX6 0 rfl rfl 0 (by decide) (List.mem_of_getElem? (i := 1) rfl) rfl dX6_freeSlot_32 ?_
      refine lv_iconst hx hb dX6_freeSlot_35 ic_1 ?_
      refine aldI X hP 1 rfl (vp_in_nI (by decide) (by decide)) (j := 1) (nI_clamp (by decide)) dX6_freeSlot_36 ?_
      refine lv_icmp_ge (tgt := 63) hx hb dX6_freeSlot_37 (by decide) (fun hc => ?_) (fun hc => ?_)
      · replace hf := ifp hc hf
        exact hKK _ _ _ ls hf hP hD hS (lv_sub hl [] rfl)
      · replace hf := ifn hc hf
        refine lv_aload_n hx hb dX6_freeSlot_40 rfl (lv_at hl 0 rfl) ?_
        refine lv_iload_n hx hb dX6_freeSlot_41 rfl (lv_at hl 1 rfl) ?_
        refine lv_iload_n hx hb dX6_freeSlot_42 rfl (lv_at hl 2 rfl) ?_
        refine lv_iload_n hx hb dX6_freeSlot_43 rfl (lv_at hl 3 rfl) ?_
        refine lv_iload hx hb dX6_freeSlot_44 (lv_at hl 5 rfl) ?_
        refine lv_iload hx hb dX6_freeSlot_46 (lv_at hl 4 rfl) ?_
        obtain ⟨q48, e48, hf⟩ := bnd hf
        refine callVI X (k_X6_isSlotFree l D cI cZ a_t a_t_st a_t_be a_t_so a_t_sv  v_t_st p1 p2 p3 x5_29 p4 q48 e48) (cwV 5 X.1.2.2.2.2 gX6_freeSlot_X6_isSlotFree rfl rfl rfl kd_X6_isSlotFree ⟨Nat.le_of_ble_eq_true rfl, Nat.le_of_ble_eq_true rfl⟩) hP hD hS hl.1 0 6 rfl rfl [0, 1] (by decide) (wo_X6_freeSlot cI cZ a_t a_t_st a_t_be a_t_so a_t_sv v_t_st) rfl rfl rfl rfl rfl (rest := []) rfl (Nat.le_of_ble_eq_true rfl) dX6_freeSlot_48 ⟨Nat.zero_le _, Nat.zero_le _⟩ (fun H locs hP hD hS => ?_)
        refine lv_if_eq (tgt := 57) hx hb dX6_freeSlot_51 (by decide) (fun hc => ?_) (fun hc => ?_)
        · replace hf := ifn (b2i_z hc) hf
          refine lv_iinc (v := (x5_29 + nI 1)) (lv' := [(5, .int (x5_29 + nI 1)), (0, .ref a_t), (1, .int p1), (2, .int p2), (3, .int p3), (4, .int p4)]) hx hb dX6_freeSlot_57 hl (k := 5) rfl (inc_1 _) (by decide) rfl (fun ls hl => ?_)
          refine lv_goto (tgt := 29) hx hb dX6_freeSlot_60 (by decide) ?_
          exact ih _ _ _ ls hf hP hD hS (lv_sub hl [1, 2, 3, 4, 5, 0] rfl)
        · replace hf := ifp (b2i_nz hc) hf
          refine lv_iload hx hb dX6_freeSlot_54 (lv_at hl 5 rfl) ?_
          obtain rfl := Option.some.inj hf
          exact retI X hS hP rfl dX6_freeSlot_56
  unfold fX6_freeSlot at hf
  refine lv_aload_n hx hb dX6_freeSlot_0 rfl (lv_at hl 0 rfl) ?_
  refine lv_iload_n hx hb dX6_freeSlot_1 rfl (lv_at hl 1 rfl) ?_
  obtain ⟨q2, e2, hf⟩ := bnd hf
  refine callVI X (k_X6_isNode l D cI cZ a_t a_t_st a_t_be a_t_so a_t_sv  v_t_st p1 q2 e2) (cwV 1 X.1.2.2.2.2 gX6_freeSlot_X6_isNode rfl rfl rfl kd_X6_isNode ⟨Nat.le_of_ble_eq_true rfl, Nat.le_of_ble_eq_true rfl⟩) hP hD hS hl.1 0 6 rfl rfl [0, 1] (by decide) (wo_X6_freeSlot cI cZ a_t a_t_st a_t_be a_t_so a_t_sv v_t_st) rfl rfl rfl rfl rfl (rest := []) rfl (Nat.le_of_ble_eq_true rfl) dX6_freeSlot_2 ⟨Nat.zero_le _, Nat.zero_le _⟩ (fun H locs hP hD hS => ?_)
  refine lv_if_eq (tgt := 16) hx hb dX6_freeSlot_5 (by decide) (fun hc => ?_) (fun hc => ?_)
  · replace hf := ifn (b2i_z hc) hf
    refine lv_iconst hx hb dX6_freeSlot_16 ic_m1 ?_
    obtain rfl := Option.some.inj hf
    exact retI X hS hP rfl dX6_freeSlot_17
  · replace hf := ifp (b2i_nz hc) hf
    refine lv_aload_n hx hb dX6_freeSlot_8 rfl (lv_at hl 0 rfl) ?_
    refine lv_iload_n hx hb dX6_freeSlot_9 rfl (lv_at hl 2 rfl) ?_
    obtain ⟨q10, e10, hf⟩ := bnd hf
    refine callVI X (k_X6_isNode l D cI cZ a_t a_t_st a_t_be a_t_so a_t_sv  v_t_st p2 q10 e10) (cwV 1 X.1.2.2.2.2 gX6_freeSlot_X6_isNode rfl rfl rfl kd_X6_isNode ⟨Nat.le_of_ble_eq_true rfl, Nat.le_of_ble_eq_true rfl⟩) hP hD hS hl.1 0 6 rfl rfl [0, 1] (by decide) (wo_X6_freeSlot cI cZ a_t a_t_st a_t_be a_t_so a_t_sv v_t_st) rfl rfl rfl rfl rfl (rest := []) rfl (Nat.le_of_ble_eq_true rfl) dX6_freeSlot_10 ⟨Nat.zero_le _, Nat.zero_le _⟩ (fun H locs hP hD hS => ?_)
    refine lv_if_ne (tgt := 18) hx hb dX6_freeSlot_13 (by decide) (fun hc => ?_) (fun hc => ?_)
    · replace hf := ifp (b2i_nz hc) hf
      refine lv_iload_n hx hb dX6_freeSlot_18 rfl (lv_at hl 1 rfl) ?_
      refine lv_iload_n hx hb dX6_freeSlot_19 rfl (lv_at hl 2 rfl) ?_
      refine lv_icmp_ne (tgt := 26) hx hb dX6_freeSlot_20 (by decide) (fun hc => ?_) (fun hc => ?_)
      · replace hf := ifn hc hf
        refine lv_iconst hx hb dX6_freeSlot_26 ic_0 ?_
        refine lv_istore (lv' := [(5, .int 0), (0, .ref a_t), (1, .int p1), (2, .int p2), (3, .int p3), (4, .int p4)]) hx hb dX6_freeSlot_27 hl (by decide) rfl (fun ls hl => ?_)
        refine L29 _ (fun x5_29 H locs ls hf hP hD hS hl => ?_) FU _ _ _ ls hf hP hD hS (lv_sub hl [1, 2, 3, 4, 5, 0] rfl)
        refine lv_bipush hx hb dX6_freeSlot_63 bp_m9 ?_
        obtain rfl := Option.some.inj hf
        exact retI X hS hP rfl dX6_freeSlot_65
      · replace hf := ifp hc hf
        refine lv_bipush hx hb dX6_freeSlot_23 bp_m5 ?_
        obtain rfl := Option.some.inj hf
        exact retI X hS hP rfl dX6_freeSlot_25
    · replace hf := ifn (b2i_z hc) hf
      refine lv_iconst hx hb dX6_freeSlot_16 ic_m1 ?_
      obtain rfl := Option.some.inj hf
      exact retI X hS hP rfl dX6_freeSlot_17

abbrev wo_X6_circuitsOn (cI cZ : ClassId) (a_t a_t_st a_t_be a_t_so a_t_sv : Nat) (v_t_st : Nat → Int32) : va_W := [(a_t, oX6 a_t_st a_t_be a_t_so a_t_sv), (a_t_st, rI cI 164 v_t_st)]
def fX6_circuitsOn_L15 (v_t_st : Nat → Int32) (p1 : Int32) (K : Int32 → Int32 → Option (Int32)) : Nat → Int32 → Int32 → Option (Int32)
  | 0, _, _ => none
  | k + 1, x2_15, x3_15 => (if (nI 16) ≤ x3_15 then (K x2_15 x3_15) else ((fX6_isCircuit v_t_st x3_15).bind (fun q24 => (if q24 = true then ((fX6_isOn v_t_st x3_15 p1).bind (fun q33 => (if q33 = true then (fX6_circuitsOn_L15 v_t_st p1 K k (x2_15 ||| ((nI 1) <<< (x3_15 &&& 31))) (x3_15 + nI 1)) else (fX6_circuitsOn_L15 v_t_st p1 K k (x2_15 ||| 0) (x3_15 + nI 1))))) else (fX6_circuitsOn_L15 v_t_st p1 K k (x2_15 ||| 0) (x3_15 + nI 1))))))
def fX6_circuitsOn (v_t_st : Nat → Int32) (p1 : Int32) : Option (Int32) := ((fX6_isSpan v_t_st p1).bind (fun q2 => (if q2 = true then (fX6_circuitsOn_L15 v_t_st p1 (fun x2_15 x3_15 => (some x2_15)) FU 0 0) else (some (-2)))))
theorem kd_X6_circuitsOn : yX6_circuitsOn.cls = RX6 ∧ yX6_circuitsOn.cls ≠ "java/lang/invoke/MethodHandle" ∧ yX6_circuitsOn.cls ≠ "java/lang/invoke/VarHandle" ∧ (parseMethodDescriptor yX6_circuitsOn.desc).map (fun d => d.parameters.length) = some 1 := by decide +kernel
def rm_X6_circuitsOn : Room := { frames := 2, cells := 0, slots := 0, locals := 49 }
set_option maxHeartbeats 4000000 in
set_option maxRecDepth 100000 in
theorem k_X6_circuitsOn (l : Launch) (D : va_G) (cI cZ : ClassId) (a_t a_t_st a_t_be a_t_so a_t_sv : Nat) (v_t_st : Nat → Int32) (p1 : Int32) (q : Int32) (hf : fX6_circuitsOn v_t_st p1 = some q) : CI l D cI cZ yX6_circuitsOn wsX6_circuitsOn rm_X6_circuitsOn [.ref a_t, .int p1] (wo_X6_circuitsOn cI cZ a_t a_t_st a_t_be a_t_so a_t_sv v_t_st) (wo_X6_circuitsOn cI cZ a_t a_t_st a_t_be a_t_so a_t_sv v_t_st) q := by
  refine CI.mk (cc := cX6_circuitsOn) (maxL := 4) (by decide) rfl (Nat.le_of_ble_eq_true rfl) ?_
  intro p e s m below meth c ls A X hP hD hl hS
  have hx := X.1.1
  have hb := X.1.2.1
  have hl : lv_has ls 4 [(0, .ref a_t), (1, .int p1)] := hl
  have L15 : ∀ (K : Int32 → Int32 → Option (Int32)) (hKK : ∀ (x2_15 : Int32) (x3_15 : Int32) (H : Heap) (locs : List Loc) (ls : Array Slot), K x2_15 x3_15 = some q → va_P D vwCl (wo_X6_circuitsOn cI cZ a_t a_t_st a_t_be a_t_so a_t_sv v_t_st) H → va_D A (wo_X6_circuitsOn cI cZ a_t a_t_st a_t_be a_t_so a_t_sv v_t_st) → va_S A s.heap H locs → lv_has ls 4 [(2, .int x2_15)] → W p l e rm_X6_circuitsOn s m ([.ref a_t, .int p1] : List Value).toArray below meth c H locs 0 0 (MQ below (QI D (wo_X6_circuitsOn cI cZ a_t a_t_st a_t_be a_t_so a_t_sv v_t_st) q A) ([.ref a_t, .int p1] : List Value).toArray s 0 0 A) (F0 m 54 ls [])) (k : Nat) (x2_15 : Int32) (x3_15 : Int32) (H : Heap) (locs : List Loc) (ls : Array Slot), fX6_circuitsOn_L15 v_t_st p1 K k x2_15 x3_15 = some q → va_P D vwCl (wo_X6_circuitsOn cI cZ a_t a_t_st a_t_be a_t_so a_t_sv v_t_st) H → va_D A (wo_X6_circuitsOn cI cZ a_t a_t_st a_t_be a_t_so a_t_sv v_t_st) → va_S A s.heap H locs → lv_has ls 4 [(0, .ref a_t), (1, .int p1), (2, .int x2_15), (3, .int x3_15)] → W p l e rm_X6_circuitsOn s m ([.ref a_t, .int p1] : List Value).toArray below meth c H locs 0 0 (MQ below (QI D (wo_X6_circuitsOn cI cZ a_t a_t_st a_t_be a_t_so a_t_sv v_t_st) q A) ([.ref a_t, .int p1] : List Value).toArray s 0 0 A) (F0 m 15 ls []) := by
    intro K hKK k
    induction k with
    | zero => intro x2_15 x3_15 H locs ls hf; rw [fX6_circuitsOn_L15] at hf; cases hf
    | succ k ih =>
      intro x2_15 x3_15 H locs ls hf hP hD hS hl
      rw [fX6_circuitsOn_L15] at hf
      refine lv_iload_n hx hb dX6_circuitsOn_15 rfl (lv_at hl 3 rfl) ?_
      refine lv_bipush hx hb dX6_circuitsOn_16 bp_16 ?_
      refine lv_icmp_ge (tgt := 54) hx hb dX6_circuitsOn_18 (by decide) (fun hc => ?_) (fun hc => ?_)
      · replace hf := ifp hc hf
        exact hKK _ _ _ _ ls hf hP hD hS (lv_sub hl [2] rfl)
      · replace hf := ifn hc hf
        refine lv_iload_n hx hb dX6_circuitsOn_21 rfl (lv_at hl 2 rfl) ?_
        refine lv_aload_n hx hb dX6_circuitsOn_22 rfl (lv_at hl 0 rfl) ?_
        refine lv_iload_n hx hb dX6_circuitsOn_23 rfl (lv_at hl 3 rfl) ?_
        obtain ⟨q24, e24, hf⟩ := bnd hf
        refine callVI X (k_X6_isCircuit l D cI cZ a_t a_t_st a_t_be a_t_so a_t_sv  v_t_st x3_15 q24 e24) (cwV 1 X.1.2.2.2.2 gX6_circuitsOn_X6_isCircuit rfl rfl rfl kd_X6_isCircuit ⟨Nat.le_of_ble_eq_true rfl, Nat.le_of_ble_eq_true rfl⟩) hP hD hS hl.1 0 6 rfl rfl [0, 1] (by decide) (wo_X6_circuitsOn cI cZ a_t a_t_st a_t_be a_t_so a_t_sv v_t_st) rfl rfl rfl rfl rfl (rest := [.int x2_15]) rfl (Nat.le_of_ble_eq_true rfl) dX6_circuitsOn_24 ⟨Nat.zero_le _, Nat.zero_le _⟩ (fun H locs hP hD hS => ?_)
        refine lv_if_eq (tgt := 45) hx hb dX6_circuitsOn_27 (by decide) (fun hc => ?_) (fun hc => ?_)
        · replace hf := ifn (b2i_z hc) hf
          refine lv_iconst hx hb dX6_circuitsOn_45 ic_0 ?_
          refine lv_ior hx hb dX6_circuitsOn_46 ?_
          refine lv_istore_n (lv' := [(2, .int (x2_15 ||| 0)), (0, .ref a_t), (1, .int p1), (3, .int x3_15)]) hx hb dX6_circuitsOn_47 rfl hl (by decide) rfl (fun ls hl => ?_)
          refine lv_iinc (v := (x3_15 + nI 1)) (lv' := [(3, .int (x3_15 + nI 1)), (2, .int (x2_15 ||| 0)), (0, .ref a_t), (1, .int p1)]) hx hb dX6_circuitsOn_48 hl (k := 3) rfl (inc_1 _) (by decide) rfl (fun ls hl => ?_)
          refine lv_goto (tgt := 15) hx hb dX6_circuitsOn_51 (by decide) ?_
          exact ih _ _ _ _ ls hf hP hD hS (lv_sub hl [2, 3, 1, 0] rfl)
        · replace hf := ifp (b2i_nz hc) hf
          refine lv_aload_n hx hb dX6_circuitsOn_30 rfl (lv_at hl 0 rfl) ?_
          refine lv_iload_n hx hb dX6_circuitsOn_31 rfl (lv_at hl 3 rfl) ?_
          refine lv_iload_n hx hb dX6_circuitsOn_32 rfl (lv_at hl 1 rfl) ?_
          obtain ⟨q33, e33, hf⟩ := bnd hf
          refine callVI X (k_X6_isOn l D cI cZ a_t a_t_st a_t_be a_t_so a_t_sv  v_t_st x3_15 p1 q33 e33) (cwV 2 X.1.2.2.2.2 gX6_circuitsOn_X6_isOn rfl rfl rfl kd_X6_isOn ⟨Nat.le_of_ble_eq_true rfl, Nat.le_of_ble_eq_true rfl⟩) hP hD hS hl.1 0 6 rfl rfl [0, 1] (by decide) (wo_X6_circuitsOn cI cZ a_t a_t_st a_t_be a_t_so a_t_sv v_t_st) rfl rfl rfl rfl rfl (rest := [.int x2_15]) rfl (Nat.le_of_ble_eq_true rfl) dX6_circuitsOn_33 ⟨Nat.zero_le _, Nat.zero_le _⟩ (fun H locs hP hD hS => ?_)
          refine lv_if_eq (tgt := 45) hx hb dX6_circuitsOn_36 (by decide) (fun hc => ?_) (fun hc => ?_)
          · replace hf := ifn (b2i_z hc) hf
            refine lv_iconst hx hb dX6_circuitsOn_45 ic_0 ?_
            refine lv_ior hx hb dX6_circuitsOn_46 ?_
            refine lv_istore_n (lv' := [(2, .int (x2_15 ||| 0)), (0, .ref a_t), (1, .int p1), (3, .int x3_15)]) hx hb dX6_circuitsOn_47 rfl hl (by decide) rfl (fun ls hl => ?_)
            refine lv_iinc (v := (x3_15 + nI 1)) (lv' := [(3, .int (x3_15 + nI 1)), (2, .int (x2_15 ||| 0)), (0, .ref a_t), (1, .int p1)]) hx hb dX6_circuitsOn_48 hl (k := 3) rfl (inc_1 _) (by decide) rfl (fun ls hl => ?_)
            refine lv_goto (tgt := 15) hx hb dX6_circuitsOn_51 (by decide) ?_
            exact ih _ _ _ _ ls hf hP hD hS (lv_sub hl [2, 3, 1, 0] rfl)
          · replace hf := ifp (b2i_nz hc) hf
            refine lv_iconst hx hb dX6_circuitsOn_39 ic_1 ?_
            refine lv_iload_n hx hb dX6_circuitsOn_40 rfl (lv_at hl 3 rfl) ?_
            refine lv_ishl hx hb dX6_circuitsOn_41 ?_
            refine lv_goto (tgt := 46) hx hb dX6_circuitsOn_42 (by decide) ?_
            refine lv_ior hx hb dX6_circuitsOn_46 ?_
            refine lv_istore_n (lv' := [(2, .int (x2_15 ||| ((nI 1) <<< (x3_15 &&& 31)))), (0, .ref a_t), (1, .int p1), (3, .int x3_15)]) hx hb dX6_circuitsOn_47 rfl hl (by decide) rfl (fun ls hl => ?_)
            refine lv_iinc (v := (x3_15 + nI 1)) (lv' := [(3, .int (x3_15 + nI 1)), (2, .int (x2_15 ||| ((nI 1) <<< (x3_15 &&& 31)))), (0, .ref a_t), (1, .int p1)]) hx hb dX6_circuitsOn_48 hl (k := 3) rfl (inc_1 _) (by decide) rfl (fun ls hl => ?_)
            refine lv_goto (tgt := 15) hx hb dX6_circuitsOn_51 (by decide) ?_
            exact ih _ _ _ _ ls hf hP hD hS (lv_sub hl [2, 3, 1, 0] rfl)
  unfold fX6_circuitsOn at hf
  refine lv_aload_n hx hb dX6_circuitsOn_0 rfl (lv_at hl 0 rfl) ?_
  refine lv_iload_n hx hb dX6_circuitsOn_1 rfl (lv_at hl 1 rfl) ?_
  obtain ⟨q2, e2, hf⟩ := bnd hf
  refine callVI X (k_X6_isSpan l D cI cZ a_t a_t_st a_t_be a_t_so a_t_sv  v_t_st p1 q2 e2) (cwV 1 X.1.2.2.2.2 gX6_circuitsOn_X6_isSpan rfl rfl rfl kd_X6_isSpan ⟨Nat.le_of_ble_eq_true rfl, Nat.le_of_ble_eq_true rfl⟩) hP hD hS hl.1 0 6 rfl rfl [0, 1] (by decide) (wo_X6_circuitsOn cI cZ a_t a_t_st a_t_be a_t_so a_t_sv v_t_st) rfl rfl rfl rfl rfl (rest := []) rfl (Nat.le_of_ble_eq_true rfl) dX6_circuitsOn_2 ⟨Nat.zero_le _, Nat.zero_le _⟩ (fun H locs hP hD hS => ?_)
  refine lv_if_ne (tgt := 11) hx hb dX6_circuitsOn_5 (by decide) (fun hc => ?_) (fun hc => ?_)
  · replace hf := ifp (b2i_nz hc) hf
    refine lv_iconst hx hb dX6_circuitsOn_11 ic_0 ?_
    refine lv_istore_n (lv' := [(2, .int 0), (0, .ref a_t), (1, .int p1)]) hx hb dX6_circuitsOn_12 rfl hl (by decide) rfl (fun ls hl => ?_)
    refine lv_iconst hx hb dX6_circuitsOn_13 ic_0 ?_
    refine lv_istore_n (lv' := [(3, .int 0), (2, .int 0), (0, .ref a_t), (1, .int p1)]) hx hb dX6_circuitsOn_14 rfl hl (by decide) rfl (fun ls hl => ?_)
    refine L15 _ (fun x2_15 x3_15 H locs ls hf hP hD hS hl => ?_) FU _ _ _ _ ls hf hP hD hS (lv_sub hl [2, 3, 1, 0] rfl)
    refine lv_iload_n hx hb dX6_circuitsOn_54 rfl (lv_at hl 0 rfl) ?_
    obtain rfl := Option.some.inj hf
    exact retI X hS hP rfl dX6_circuitsOn_55
  · replace hf := ifn (b2i_z hc) hf
    refine lv_bipush hx hb dX6_circuitsOn_8 bp_m2 ?_
    obtain rfl := Option.some.inj hf
    exact retI X hS hP rfl dX6_circuitsOn_10

abbrev wo_X6_lengthOf (cI cZ : ClassId) (a_t a_t_st a_t_be a_t_so a_t_sv : Nat) (v_t_st : Nat → Int32) : va_W := [(a_t, oX6 a_t_st a_t_be a_t_so a_t_sv), (a_t_st, rI cI 164 v_t_st)]
def fX6_lengthOf_L4 (v_t_st : Nat → Int32) (p1 : Int32) (K : Int32 → Int32 → Option (Int32)) : Nat → Int32 → Int32 → Option (Int32)
  | 0, _, _ => none
  | k + 1, x2_4, x3_4 => (if (v_t_st 0) ≤ x3_4 then (K x2_4 x3_4) else ((fX6_isOn v_t_st p1 x3_4).bind (fun q18 => (if q18 = true then (fX6_lengthOf_L4 v_t_st p1 K k (x2_4 + (nI 1)) (x3_4 + nI 1)) else (fX6_lengthOf_L4 v_t_st p1 K k (x2_4 + 0) (x3_4 + nI 1))))))
def fX6_lengthOf (v_t_st : Nat → Int32) (p1 : Int32) : Option (Int32) := (fX6_lengthOf_L4 v_t_st p1 (fun x2_4 x3_4 => (some x2_4)) FU 0 0)
theorem kd_X6_lengthOf : yX6_lengthOf.cls = RX6 ∧ yX6_lengthOf.cls ≠ "java/lang/invoke/MethodHandle" ∧ yX6_lengthOf.cls ≠ "java/lang/invoke/VarHandle" ∧ (parseMethodDescriptor yX6_lengthOf.desc).map (fun d => d.parameters.length) = some 1 := by decide +kernel
def rm_X6_lengthOf : Room := { frames := 2, cells := 0, slots := 0, locals := 49 }
set_option maxHeartbeats 4000000 in
set_option maxRecDepth 100000 in
theorem k_X6_lengthOf (l : Launch) (D : va_G) (cI cZ : ClassId) (a_t a_t_st a_t_be a_t_so a_t_sv : Nat) (v_t_st : Nat → Int32) (p1 : Int32) (q : Int32) (hf : fX6_lengthOf v_t_st p1 = some q) : CI l D cI cZ yX6_lengthOf wsX6_lengthOf rm_X6_lengthOf [.ref a_t, .int p1] (wo_X6_lengthOf cI cZ a_t a_t_st a_t_be a_t_so a_t_sv v_t_st) (wo_X6_lengthOf cI cZ a_t a_t_st a_t_be a_t_so a_t_sv v_t_st) q := by
  refine CI.mk (cc := cX6_lengthOf) (maxL := 4) (by decide) rfl (Nat.le_of_ble_eq_true rfl) ?_
  intro p e s m below meth c ls A X hP hD hl hS
  have hx := X.1.1
  have hb := X.1.2.1
  have hl : lv_has ls 4 [(0, .ref a_t), (1, .int p1)] := hl
  have inX6 : ∀ w ∈ u_ws RX6 TX6 4, w ∈ wsX6_lengthOf := fun _ h => List.mem_cons_of_mem _ (List.mem_append_right _ h)
  have L4 : ∀ (K : Int32 → Int32 → Option (Int32)) (hKK : ∀ (x2_4 : Int32) (x3_4 : Int32) (H : Heap) (locs : List Loc) (ls : Array Slot), K x2_4 x3_4 = some q → va_P D vwCl (wo_X6_lengthOf cI cZ a_t a_t_st a_t_be a_t_so a_t_sv v_t_st) H → va_D A (wo_X6_lengthOf cI cZ a_t a_t_st a_t_be a_t_so a_t_sv v_t_st) → va_S A s.heap H locs → lv_has ls 4 [(2, .int x2_4)] → W p l e rm_X6_lengthOf s m ([.ref a_t, .int p1] : List Value).toArray below meth c H locs 0 0 (MQ below (QI D (wo_X6_lengthOf cI cZ a_t a_t_st a_t_be a_t_so a_t_sv v_t_st) q A) ([.ref a_t, .int p1] : List Value).toArray s 0 0 A) (F0 m 37 ls [])) (k : Nat) (x2_4 : Int32) (x3_4 : Int32) (H : Heap) (locs : List Loc) (ls : Array Slot), fX6_lengthOf_L4 v_t_st p1 K k x2_4 x3_4 = some q → va_P D vwCl (wo_X6_lengthOf cI cZ a_t a_t_st a_t_be a_t_so a_t_sv v_t_st) H → va_D A (wo_X6_lengthOf cI cZ a_t a_t_st a_t_be a_t_so a_t_sv v_t_st) → va_S A s.heap H locs → lv_has ls 4 [(0, .ref a_t), (1, .int p1), (2, .int x2_4), (3, .int x3_4)] → W p l e rm_X6_lengthOf s m ([.ref a_t, .int p1] : List Value).toArray below meth c H locs 0 0 (MQ below (QI D (wo_X6_lengthOf cI cZ a_t a_t_st a_t_be a_t_so a_t_sv v_t_st) q A) ([.ref a_t, .int p1] : List Value).toArray s 0 0 A) (F0 m 4 ls []) := by
    intro K hKK k
    induction k with
    | zero => intro x2_4 x3_4 H locs ls hf; rw [fX6_lengthOf_L4] at hf; cases hf
    | succ k ih =>
      intro x2_4 x3_4 H locs ls hf hP hD hS hl
      rw [fX6_lengthOf_L4] at hf
      refine lv_iload_n hx hb dX6_lengthOf_4 rfl (lv_at hl 3 rfl) ?_
      refine lv_aload_n hx hb dX6_lengthOf_5 rfl (lv_at hl 0 rfl) ?_
      refine getO X hP inX6 0 rfl rfl 0 (by decide) (List.mem_of_getElem? (i := 1) rfl) rfl dX6_lengthOf_6 ?_
      refine lv_iconst hx hb dX6_lengthOf_9 ic_0 ?_
      refine aldI X hP 1 rfl (vin0 (by decide) (by decide)) (j := 0) sb_cl0 dX6_lengthOf_10 ?_
      refine lv_icmp_ge (tgt := 37) hx hb dX6_lengthOf_11 (by decide) (fun hc => ?_) (fun hc => ?_)
      · replace hf := ifp hc hf
        exact hKK _ _ _ _ ls hf hP hD hS (lv_sub hl [2] rfl)
      · replace hf := ifn hc hf
        refine lv_iload_n hx hb dX6_lengthOf_14 rfl (lv_at hl 2 rfl) ?_
        refine lv_aload_n hx hb dX6_lengthOf_15 rfl (lv_at hl 0 rfl) ?_
        refine lv_iload_n hx hb dX6_lengthOf_16 rfl (lv_at hl 1 rfl) ?_
        refine lv_iload_n hx hb dX6_lengthOf_17 rfl (lv_at hl 3 rfl) ?_
        obtain ⟨q18, e18, hf⟩ := bnd hf
        refine callVI X (k_X6_isOn l D cI cZ a_t a_t_st a_t_be a_t_so a_t_sv  v_t_st p1 x3_4 q18 e18) (cwV 2 X.1.2.2.2.2 gX6_lengthOf_X6_isOn rfl rfl rfl kd_X6_isOn ⟨Nat.le_of_ble_eq_true rfl, Nat.le_of_ble_eq_true rfl⟩) hP hD hS hl.1 0 6 rfl rfl [0, 1] (by decide) (wo_X6_lengthOf cI cZ a_t a_t_st a_t_be a_t_so a_t_sv v_t_st) rfl rfl rfl rfl rfl (rest := [.int x2_4]) rfl (Nat.le_of_ble_eq_true rfl) dX6_lengthOf_18 ⟨Nat.zero_le _, Nat.zero_le _⟩ (fun H locs hP hD hS => ?_)
        refine lv_if_eq (tgt := 28) hx hb dX6_lengthOf_21 (by decide) (fun hc => ?_) (fun hc => ?_)
        · replace hf := ifn (b2i_z hc) hf
          refine lv_iconst hx hb dX6_lengthOf_28 ic_0 ?_
          refine lv_iadd hx hb dX6_lengthOf_29 ?_
          refine lv_istore_n (lv' := [(2, .int (x2_4 + 0)), (0, .ref a_t), (1, .int p1), (3, .int x3_4)]) hx hb dX6_lengthOf_30 rfl hl (by decide) rfl (fun ls hl => ?_)
          refine lv_iinc (v := (x3_4 + nI 1)) (lv' := [(3, .int (x3_4 + nI 1)), (2, .int (x2_4 + 0)), (0, .ref a_t), (1, .int p1)]) hx hb dX6_lengthOf_31 hl (k := 3) rfl (inc_1 _) (by decide) rfl (fun ls hl => ?_)
          refine lv_goto (tgt := 4) hx hb dX6_lengthOf_34 (by decide) ?_
          exact ih _ _ _ _ ls hf hP hD hS (lv_sub hl [2, 3, 1, 0] rfl)
        · replace hf := ifp (b2i_nz hc) hf
          refine lv_iconst hx hb dX6_lengthOf_24 ic_1 ?_
          refine lv_goto (tgt := 29) hx hb dX6_lengthOf_25 (by decide) ?_
          refine lv_iadd hx hb dX6_lengthOf_29 ?_
          refine lv_istore_n (lv' := [(2, .int (x2_4 + (nI 1))), (0, .ref a_t), (1, .int p1), (3, .int x3_4)]) hx hb dX6_lengthOf_30 rfl hl (by decide) rfl (fun ls hl => ?_)
          refine lv_iinc (v := (x3_4 + nI 1)) (lv' := [(3, .int (x3_4 + nI 1)), (2, .int (x2_4 + (nI 1))), (0, .ref a_t), (1, .int p1)]) hx hb dX6_lengthOf_31 hl (k := 3) rfl (inc_1 _) (by decide) rfl (fun ls hl => ?_)
          refine lv_goto (tgt := 4) hx hb dX6_lengthOf_34 (by decide) ?_
          exact ih _ _ _ _ ls hf hP hD hS (lv_sub hl [2, 3, 1, 0] rfl)
  unfold fX6_lengthOf at hf
  refine lv_iconst hx hb dX6_lengthOf_0 ic_0 ?_
  refine lv_istore_n (lv' := [(2, .int 0), (0, .ref a_t), (1, .int p1)]) hx hb dX6_lengthOf_1 rfl hl (by decide) rfl (fun ls hl => ?_)
  refine lv_iconst hx hb dX6_lengthOf_2 ic_0 ?_
  refine lv_istore_n (lv' := [(3, .int 0), (2, .int 0), (0, .ref a_t), (1, .int p1)]) hx hb dX6_lengthOf_3 rfl hl (by decide) rfl (fun ls hl => ?_)
  refine L4 _ (fun x2_4 x3_4 H locs ls hf hP hD hS hl => ?_) FU _ _ _ _ ls hf hP hD hS (lv_sub hl [2, 3, 1, 0] rfl)
  refine lv_iload_n hx hb dX6_lengthOf_37 rfl (lv_at hl 0 rfl) ?_
  obtain rfl := Option.some.inj hf
  exact retI X hS hP rfl dX6_lengthOf_38

abbrev wo_X6_pathLength (cI cZ : ClassId) (a_t a_t_st a_t_be a_t_so a_t_sv : Nat) (v_t_st : Nat → Int32) : va_W := [(a_t, oX6 a_t_st a_t_be a_t_so a_t_sv), (a_t_st, rI cI 164 v_t_st)]
def fX6_pathLength (v_t_st : Nat → Int32) (p1 : Int32) : Option (Int32) := ((fX6_isCircuit v_t_st p1).bind (fun q2 => (if q2 = true then ((fX6_lengthOf v_t_st p1).bind (fun q10 => (some q10))) else (some (-3)))))
theorem kd_X6_pathLength : yX6_pathLength.cls = RX6 ∧ yX6_pathLength.cls ≠ "java/lang/invoke/MethodHandle" ∧ yX6_pathLength.cls ≠ "java/lang/invoke/VarHandle" ∧ (parseMethodDescriptor yX6_pathLength.desc).map (fun d => d.parameters.length) = some 1 := by decide +kernel
def rm_X6_pathLength : Room := { frames := 3, cells := 0, slots := 0, locals := 72 }
set_option maxHeartbeats 4000000 in
set_option maxRecDepth 100000 in
theorem k_X6_pathLength (l : Launch) (D : va_G) (cI cZ : ClassId) (a_t a_t_st a_t_be a_t_so a_t_sv : Nat) (v_t_st : Nat → Int32) (p1 : Int32) (q : Int32) (hf : fX6_pathLength v_t_st p1 = some q) : CI l D cI cZ yX6_pathLength wsX6_pathLength rm_X6_pathLength [.ref a_t, .int p1] (wo_X6_pathLength cI cZ a_t a_t_st a_t_be a_t_so a_t_sv v_t_st) (wo_X6_pathLength cI cZ a_t a_t_st a_t_be a_t_so a_t_sv v_t_st) q := by
  refine CI.mk (cc := cX6_pathLength) (maxL := 2) (by decide) rfl (Nat.le_of_ble_eq_true rfl) ?_
  intro p e s m below meth c ls A X hP hD hl hS
  have hx := X.1.1
  have hb := X.1.2.1
  have hl : lv_has ls 2 [(0, .ref a_t), (1, .int p1)] := hl
  unfold fX6_pathLength at hf
  refine lv_aload_n hx hb dX6_pathLength_0 rfl (lv_at hl 0 rfl) ?_
  refine lv_iload_n hx hb dX6_pathLength_1 rfl (lv_at hl 1 rfl) ?_
  obtain ⟨q2, e2, hf⟩ := bnd hf
  refine callVI X (k_X6_isCircuit l D cI cZ a_t a_t_st a_t_be a_t_so a_t_sv  v_t_st p1 q2 e2) (cwV 1 X.1.2.2.2.2 gX6_pathLength_X6_isCircuit rfl rfl rfl kd_X6_isCircuit ⟨Nat.le_of_ble_eq_true rfl, Nat.le_of_ble_eq_true rfl⟩) hP hD hS hl.1 0 6 rfl rfl [0, 1] (by decide) (wo_X6_pathLength cI cZ a_t a_t_st a_t_be a_t_so a_t_sv v_t_st) rfl rfl rfl rfl rfl (rest := []) rfl (Nat.le_of_ble_eq_true rfl) dX6_pathLength_2 ⟨Nat.zero_le _, Nat.zero_le _⟩ (fun H locs hP hD hS => ?_)
  refine lv_if_eq (tgt := 16) hx hb dX6_pathLength_5 (by decide) (fun hc => ?_) (fun hc => ?_)
  · replace hf := ifn (b2i_z hc) hf
    refine lv_bipush hx hb dX6_pathLength_16 bp_m3 ?_
    obtain rfl := Option.some.inj hf
    exact retI X hS hP rfl dX6_pathLength_18
  · replace hf := ifp (b2i_nz hc) hf
    refine lv_aload_n hx hb dX6_pathLength_8 rfl (lv_at hl 0 rfl) ?_
    refine lv_iload_n hx hb dX6_pathLength_9 rfl (lv_at hl 1 rfl) ?_
    obtain ⟨q10, e10, hf⟩ := bnd hf
    refine callVI X (k_X6_lengthOf l D cI cZ a_t a_t_st a_t_be a_t_so a_t_sv  v_t_st p1 q10 e10) (cwV 1 X.1.2.2.2.2 gX6_pathLength_X6_lengthOf rfl rfl rfl kd_X6_lengthOf ⟨Nat.le_of_ble_eq_true rfl, Nat.le_of_ble_eq_true rfl⟩) hP hD hS hl.1 0 6 rfl rfl [0, 1] (by decide) (wo_X6_pathLength cI cZ a_t a_t_st a_t_be a_t_so a_t_sv v_t_st) rfl rfl rfl rfl rfl (rest := []) rfl (Nat.le_of_ble_eq_true rfl) dX6_pathLength_10 ⟨Nat.zero_le _, Nat.zero_le _⟩ (fun H locs hP hD hS => ?_)
    refine lv_goto (tgt := 18) hx hb dX6_pathLength_13 (by decide) ?_
    obtain rfl := Option.some.inj hf
    exact retI X hS hP rfl dX6_pathLength_18

abbrev wo_X6_isDown (cI cZ : ClassId) (a_t a_t_st a_t_be a_t_so a_t_sv : Nat) (v_t_st : Nat → Int32) : va_W := [(a_t, oX6 a_t_st a_t_be a_t_so a_t_sv), (a_t_st, rI cI 164 v_t_st)]
def fX6_isDown (v_t_st : Nat → Int32) (p1 : Int32) (p2 : Int32) : Option (Bool) := ((fX6_of v_t_st p1 p2).bind (fun q3 => (if q3 = (nI 1) then (some true) else (if (((nI 4) + p1) < 0 ∨ 164 ≤ (((nI 4) + p1)).toNatClampNeg) then none else (if (v_t_st (((nI 4) + p1)).toNatClampNeg) = (nI 1) then (some true) else ((fX6_next v_t_st p1).bind (fun q29 => (if (((nI 4) + q29) < 0 ∨ 164 ≤ (((nI 4) + q29)).toNatClampNeg) then none else (if (v_t_st (((nI 4) + q29)).toNatClampNeg) = (nI 1) then (some true) else (some false))))))))))
theorem kd_X6_isDown : yX6_isDown.cls = RX6 ∧ yX6_isDown.cls ≠ "java/lang/invoke/MethodHandle" ∧ yX6_isDown.cls ≠ "java/lang/invoke/VarHandle" ∧ (parseMethodDescriptor yX6_isDown.desc).map (fun d => d.parameters.length) = some 2 := by decide +kernel
def rm_X6_isDown : Room := { frames := 2, cells := 0, slots := 0, locals := 43 }
set_option maxHeartbeats 4000000 in
set_option maxRecDepth 100000 in
theorem k_X6_isDown (l : Launch) (D : va_G) (cI cZ : ClassId) (a_t a_t_st a_t_be a_t_so a_t_sv : Nat) (v_t_st : Nat → Int32) (p1 : Int32) (p2 : Int32) (q : Bool) (hf : fX6_isDown v_t_st p1 p2 = some q) : CI l D cI cZ yX6_isDown wsX6_isDown rm_X6_isDown [.ref a_t, .int p1, .int p2] (wo_X6_isDown cI cZ a_t a_t_st a_t_be a_t_so a_t_sv v_t_st) (wo_X6_isDown cI cZ a_t a_t_st a_t_be a_t_so a_t_sv v_t_st) (b2i q) := by
  refine CI.mk (cc := cX6_isDown) (maxL := 3) (by decide) rfl (Nat.le_of_ble_eq_true rfl) ?_
  intro p e s m below meth c ls A X hP hD hl hS
  have hx := X.1.1
  have hb := X.1.2.1
  have hl : lv_has ls 3 [(0, .ref a_t), (1, .int p1), (2, .int p2)] := hl
  have inX6 : ∀ w ∈ u_ws RX6 TX6 4, w ∈ wsX6_isDown := fun _ h => List.mem_cons_of_mem _ (List.mem_append_right _ h)
  unfold fX6_isDown at hf
  refine lv_aload_n hx hb dX6_isDown_0 rfl (lv_at hl 0 rfl) ?_
  refine lv_iload_n hx hb dX6_isDown_1 rfl (lv_at hl 1 rfl) ?_
  refine lv_iload_n hx hb dX6_isDown_2 rfl (lv_at hl 2 rfl) ?_
  obtain ⟨q3, e3, hf⟩ := bnd hf
  refine callVI X (k_X6_of l D cI cZ a_t a_t_st a_t_be a_t_so a_t_sv  v_t_st p1 p2 q3 e3) (cwV 2 X.1.2.2.2.2 gX6_isDown_X6_of rfl rfl rfl kd_X6_of ⟨Nat.le_of_ble_eq_true rfl, Nat.le_of_ble_eq_true rfl⟩) hP hD hS hl.1 0 6 rfl rfl [0, 1] (by decide) (wo_X6_isDown cI cZ a_t a_t_st a_t_be a_t_so a_t_sv v_t_st) rfl rfl rfl rfl rfl (rest := []) rfl (Nat.le_of_ble_eq_true rfl) dX6_isDown_3 ⟨Nat.zero_le _, Nat.zero_le _⟩ (fun H locs hP hD hS => ?_)
  refine lv_iconst hx hb dX6_isDown_6 ic_1 ?_
  refine lv_icmp_eq (tgt := 38) hx hb dX6_isDown_7 (by decide) (fun hc => ?_) (fun hc => ?_)
  · replace hf := ifp hc hf
    refine lv_iconst hx hb dX6_isDown_38 ic_1 ?_
    refine lv_goto (tgt := 43) hx hb dX6_isDown_39 (by decide) ?_
    obtain rfl := Option.some.inj hf
    exact retB X hS hP rfl rfl dX6_isDown_43
  · replace hf := ifn hc hf
    refine lv_aload_n hx hb dX6_isDown_10 rfl (lv_at hl 0 rfl) ?_
    refine getO X hP inX6 0 rfl rfl 0 (by decide) (List.mem_of_getElem? (i := 1) rfl) rfl dX6_isDown_11 ?_
    refine lv_iconst hx hb dX6_isDown_14 ic_4 ?_
    refine lv_iload_n hx hb dX6_isDown_15 rfl (lv_at hl 1 rfl) ?_
    refine lv_iadd hx hb dX6_isDown_16 ?_
    obtain ⟨g17, hf⟩ := grd hf
    refine aldI X hP 1 rfl g17 rfl dX6_isDown_17 ?_
    refine lv_iconst hx hb dX6_isDown_18 ic_1 ?_
    refine lv_icmp_eq (tgt := 38) hx hb dX6_isDown_19 (by decide) (fun hc => ?_) (fun hc => ?_)
    · replace hf := ifp hc hf
      refine lv_iconst hx hb dX6_isDown_38 ic_1 ?_
      refine lv_goto (tgt := 43) hx hb dX6_isDown_39 (by decide) ?_
      obtain rfl := Option.some.inj hf
      exact retB X hS hP rfl rfl dX6_isDown_43
    · replace hf := ifn hc hf
      refine lv_aload_n hx hb dX6_isDown_22 rfl (lv_at hl 0 rfl) ?_
      refine getO X hP inX6 0 rfl rfl 0 (by decide) (List.mem_of_getElem? (i := 1) rfl) rfl dX6_isDown_23 ?_
      refine lv_iconst hx hb dX6_isDown_26 ic_4 ?_
      refine lv_aload_n hx hb dX6_isDown_27 rfl (lv_at hl 0 rfl) ?_
      refine lv_iload_n hx hb dX6_isDown_28 rfl (lv_at hl 1 rfl) ?_
      obtain ⟨q29, e29, hf⟩ := bnd hf
      refine callVI X (k_X6_next l D cI cZ a_t a_t_st a_t_be a_t_so a_t_sv  v_t_st p1 q29 e29) (cwV 1 X.1.2.2.2.2 gX6_isDown_X6_next rfl rfl rfl kd_X6_next ⟨Nat.le_of_ble_eq_true rfl, Nat.le_of_ble_eq_true rfl⟩) hP hD hS hl.1 0 6 rfl rfl [0, 1] (by decide) (wo_X6_isDown cI cZ a_t a_t_st a_t_be a_t_so a_t_sv v_t_st) rfl rfl rfl rfl rfl (rest := [.int (nI 4), .ref a_t_st]) rfl (Nat.le_of_ble_eq_true rfl) dX6_isDown_29 ⟨Nat.zero_le _, Nat.zero_le _⟩ (fun H locs hP hD hS => ?_)
      refine lv_iadd hx hb dX6_isDown_32 ?_
      obtain ⟨g33, hf⟩ := grd hf
      refine aldI X hP 1 rfl g33 rfl dX6_isDown_33 ?_
      refine lv_iconst hx hb dX6_isDown_34 ic_1 ?_
      refine lv_icmp_ne (tgt := 42) hx hb dX6_isDown_35 (by decide) (fun hc => ?_) (fun hc => ?_)
      · replace hf := ifn hc hf
        refine lv_iconst hx hb dX6_isDown_42 ic_0 ?_
        obtain rfl := Option.some.inj hf
        exact retB X hS hP rfl rfl dX6_isDown_43
      · replace hf := ifp hc hf
        refine lv_iconst hx hb dX6_isDown_38 ic_1 ?_
        refine lv_goto (tgt := 43) hx hb dX6_isDown_39 (by decide) ?_
        obtain rfl := Option.some.inj hf
        exact retB X hS hP rfl rfl dX6_isDown_43

abbrev wo_X6_directOf (cI cZ : ClassId) (a_t a_t_st a_t_be a_t_so a_t_sv : Nat) (v_t_st : Nat → Int32) : va_W := [(a_t, oX6 a_t_st a_t_be a_t_so a_t_sv), (a_t_st, rI cI 164 v_t_st)]
def fX6_directOf (v_t_st : Nat → Int32) (p1 : Int32) : Option (Int32) := ((fX6_isDown v_t_st p1 0).bind (fun q3 => ((fX6_isDown v_t_st p1 (nI 1)).bind (fun q10 => ((fX6_of v_t_st p1 (nI 2)).bind (fun q17 => ((if q17 = (nI 9) then (some (nI 9)) else (if q10 = true then (if q3 = true then (some 0) else (some (nI 9))) else (some 0))).bind (fun ph44 => ((if q17 = (nI 8) then (some (nI 1)) else (if q17 = (nI 4) then (some (nI 1)) else (if q17 = (nI 7) then (if q10 = true then (some 0) else (some (nI 1))) else (if q17 = (nI 3) then (if q10 = true then (some 0) else (some (nI 1))) else (some 0))))).bind (fun ph79 => ((if ph79 = 0 then (some ph44) else (if q17 ≤ ph44 then (some ph44) else (some q17))).bind (fun ph100 => ((if q3 = true then (if q10 = true then (some (nI 6)) else (if q3 = true then (some (nI 5)) else (some 0))) else (if q3 = true then (some (nI 5)) else (some 0))).bind (fun ph124 => (if ph124 ≤ ph100 then (some ph100) else (some ph124))))))))))))))))
theorem kd_X6_directOf : yX6_directOf.cls = RX6 ∧ yX6_directOf.cls ≠ "java/lang/invoke/MethodHandle" ∧ yX6_directOf.cls ≠ "java/lang/invoke/VarHandle" ∧ (parseMethodDescriptor yX6_directOf.desc).map (fun d => d.parameters.length) = some 1 := by decide +kernel
def rm_X6_directOf : Room := { frames := 3, cells := 0, slots := 0, locals := 65 }
set_option maxHeartbeats 4000000 in
set_option maxRecDepth 100000 in
theorem k_X6_directOf (l : Launch) (D : va_G) (cI cZ : ClassId) (a_t a_t_st a_t_be a_t_so a_t_sv : Nat) (v_t_st : Nat → Int32) (p1 : Int32) (q : Int32) (hf : fX6_directOf v_t_st p1 = some q) : CI l D cI cZ yX6_directOf wsX6_directOf rm_X6_directOf [.ref a_t, .int p1] (wo_X6_directOf cI cZ a_t a_t_st a_t_be a_t_so a_t_sv v_t_st) (wo_X6_directOf cI cZ a_t a_t_st a_t_be a_t_so a_t_sv v_t_st) q := by
  refine CI.mk (cc := cX6_directOf) (maxL := 8) (by decide) rfl (Nat.le_of_ble_eq_true rfl) ?_
  intro p e s m below meth c ls A X hP hD hl hS
  have hx := X.1.1
  have hb := X.1.2.1
  have hl : lv_has ls 8 [(0, .ref a_t), (1, .int p1)] := hl
  unfold fX6_directOf at hf
  refine lv_aload_n hx hb dX6_directOf_0 rfl (lv_at hl 0 rfl) ?_
  refine lv_iload_n hx hb dX6_directOf_1 rfl (lv_at hl 1 rfl) ?_
  refine lv_iconst hx hb dX6_directOf_2 ic_0 ?_
  obtain ⟨q3, e3, hf⟩ := bnd hf
  refine callVI X (k_X6_isDown l D cI cZ a_t a_t_st a_t_be a_t_so a_t_sv  v_t_st p1 0 q3 e3) (cwV 2 X.1.2.2.2.2 gX6_directOf_X6_isDown rfl rfl rfl kd_X6_isDown ⟨Nat.le_of_ble_eq_true rfl, Nat.le_of_ble_eq_true rfl⟩) hP hD hS hl.1 0 6 rfl rfl [0, 1] (by decide) (wo_X6_directOf cI cZ a_t a_t_st a_t_be a_t_so a_t_sv v_t_st) rfl rfl rfl rfl rfl (rest := []) rfl (Nat.le_of_ble_eq_true rfl) dX6_directOf_3 ⟨Nat.zero_le _, Nat.zero_le _⟩ (fun H locs hP hD hS => ?_)
  refine lv_istore_n (lv' := [(2, .int (b2i q3)), (0, .ref a_t), (1, .int p1)]) hx hb dX6_directOf_6 rfl hl (by decide) rfl (fun ls hl => ?_)
  refine lv_aload_n hx hb dX6_directOf_7 rfl (lv_at hl 1 rfl) ?_
  refine lv_iload_n hx hb dX6_directOf_8 rfl (lv_at hl 2 rfl) ?_
  refine lv_iconst hx hb dX6_directOf_9 ic_1 ?_
  obtain ⟨q10, e10, hf⟩ := bnd hf
  refine callVI X (k_X6_isDown l D cI cZ a_t a_t_st a_t_be a_t_so a_t_sv  v_t_st p1 (nI 1) q10 e10) (cwV 2 X.1.2.2.2.2 gX6_directOf_X6_isDown rfl rfl rfl kd_X6_isDown ⟨Nat.le_of_ble_eq_true rfl, Nat.le_of_ble_eq_true rfl⟩) hP hD hS hl.1 0 6 rfl rfl [0, 1] (by decide) (wo_X6_directOf cI cZ a_t a_t_st a_t_be a_t_so a_t_sv v_t_st) rfl rfl rfl rfl rfl (rest := []) rfl (Nat.le_of_ble_eq_true rfl) dX6_directOf_10 ⟨Nat.zero_le _, Nat.zero_le _⟩ (fun H locs hP hD hS => ?_)
  refine lv_istore_n (lv' := [(3, .int (b2i q10)), (2, .int (b2i q3)), (0, .ref a_t), (1, .int p1)]) hx hb dX6_directOf_13 rfl hl (by decide) rfl (fun ls hl => ?_)
  refine lv_aload_n hx hb dX6_directOf_14 rfl (lv_at hl 2 rfl) ?_
  refine lv_iload_n hx hb dX6_directOf_15 rfl (lv_at hl 3 rfl) ?_
  refine lv_iconst hx hb dX6_directOf_16 ic_2 ?_
  obtain ⟨q17, e17, hf⟩ := bnd hf
  refine callVI X (k_X6_of l D cI cZ a_t a_t_st a_t_be a_t_so a_t_sv  v_t_st p1 (nI 2) q17 e17) (cwV 2 X.1.2.2.2.2 gX6_directOf_X6_of rfl rfl rfl kd_X6_of ⟨Nat.le_of_ble_eq_true rfl, Nat.le_of_ble_eq_true rfl⟩) hP hD hS hl.1 0 6 rfl rfl [0, 1] (by decide) (wo_X6_directOf cI cZ a_t a_t_st a_t_be a_t_so a_t_sv v_t_st) rfl rfl rfl rfl rfl (rest := []) rfl (Nat.le_of_ble_eq_true rfl) dX6_directOf_17 ⟨Nat.zero_le _, Nat.zero_le _⟩ (fun H locs hP hD hS => ?_)
  refine lv_istore (lv' := [(4, .int q17), (3, .int (b2i q10)), (2, .int (b2i q3)), (0, .ref a_t), (1, .int p1)]) hx hb dX6_directOf_20 hl (by decide) rfl (fun ls hl => ?_)
  refine lv_iconst hx hb dX6_directOf_22 ic_0 ?_
  refine lv_istore (lv' := [(5, .int 0), (4, .int q17), (3, .int (b2i q10)), (2, .int (b2i q3)), (0, .ref a_t), (1, .int p1)]) hx hb dX6_directOf_23 hl (by decide) rfl (fun ls hl => ?_)
  refine lv_iload hx hb dX6_directOf_25 (lv_at hl 1 rfl) ?_
  refine lv_bipush hx hb dX6_directOf_27 bp_9 ?_
  obtain ⟨ph44, hg, hf⟩ := bnd hf
  have J44 : ∀ (H : Heap) (locs : List Loc) (ls : Array Slot), va_P D vwCl (wo_X6_directOf cI cZ a_t a_t_st a_t_be a_t_so a_t_sv v_t_st) H → va_D A (wo_X6_directOf cI cZ a_t a_t_st a_t_be a_t_so a_t_sv v_t_st) → va_S A s.heap H locs → lv_has ls 8 [(2, .int (b2i q3)), (3, .int (b2i q10)), (4, .int q17), (5, .int ph44)] → W p l e rm_X6_directOf s m ([.ref a_t, .int p1] : List Value).toArray below meth c H locs 0 0 (MQ below (QI D (wo_X6_directOf cI cZ a_t a_t_st a_t_be a_t_so a_t_sv v_t_st) q A) ([.ref a_t, .int p1] : List Value).toArray s 0 0 A) (F0 m 44 ls []) := by
    clear hg hP hD hS hl
    intro H locs ls hP hD hS hl
    refine lv_iload hx hb dX6_directOf_44 (lv_at hl 2 rfl) ?_
    refine lv_bipush hx hb dX6_directOf_46 bp_8 ?_
    obtain ⟨ph79, hg, hf⟩ := bnd hf
    have J79 : ∀ (H : Heap) (locs : List Loc) (ls : Array Slot), va_P D vwCl (wo_X6_directOf cI cZ a_t a_t_st a_t_be a_t_so a_t_sv v_t_st) H → va_D A (wo_X6_directOf cI cZ a_t a_t_st a_t_be a_t_so a_t_sv v_t_st) → va_S A s.heap H locs → lv_has ls 8 [(2, .int (b2i q3)), (3, .int (b2i q10)), (4, .int q17), (5, .int ph44)] → W p l e rm_X6_directOf s m ([.ref a_t, .int p1] : List Value).toArray below meth c H locs 0 0 (MQ below (QI D (wo_X6_directOf cI cZ a_t a_t_st a_t_be a_t_so a_t_sv v_t_st) q A) ([.ref a_t, .int p1] : List Value).toArray s 0 0 A) (F0 m 79 ls [.int ph79]) := by
      clear hg hP hD hS hl
      intro H locs ls hP hD hS hl
      refine lv_istore (lv' := [(6, .int ph79), (2, .int (b2i q3)), (3, .int (b2i q10)), (4, .int q17), (5, .int ph44)]) hx hb dX6_directOf_79 hl (by decide) rfl (fun ls hl => ?_)
      refine lv_iload hx hb dX6_directOf_81 (lv_at hl 0 rfl) ?_
      obtain ⟨ph100, hg, hf⟩ := bnd hf
      have J100 : ∀ (H : Heap) (locs : List Loc) (ls : Array Slot), va_P D vwCl (wo_X6_directOf cI cZ a_t a_t_st a_t_be a_t_so a_t_sv v_t_st) H → va_D A (wo_X6_directOf cI cZ a_t a_t_st a_t_be a_t_so a_t_sv v_t_st) → va_S A s.heap H locs → lv_has ls 8 [(2, .int (b2i q3)), (3, .int (b2i q10))] → W p l e rm_X6_directOf s m ([.ref a_t, .int p1] : List Value).toArray below meth c H locs 0 0 (MQ below (QI D (wo_X6_directOf cI cZ a_t a_t_st a_t_be a_t_so a_t_sv v_t_st) q A) ([.ref a_t, .int p1] : List Value).toArray s 0 0 A) (F0 m 100 ls [.int ph100]) := by
        clear hg hP hD hS hl
        intro H locs ls hP hD hS hl
        refine lv_istore (lv' := [(5, .int ph100), (2, .int (b2i q3)), (3, .int (b2i q10))]) hx hb dX6_directOf_100 hl (by decide) rfl (fun ls hl => ?_)
        refine lv_iload_n hx hb dX6_directOf_102 rfl (lv_at hl 1 rfl) ?_
        obtain ⟨ph124, hg, hf⟩ := bnd hf
        have J124 : ∀ (H : Heap) (locs : List Loc) (ls : Array Slot), va_P D vwCl (wo_X6_directOf cI cZ a_t a_t_st a_t_be a_t_so a_t_sv v_t_st) H → va_D A (wo_X6_directOf cI cZ a_t a_t_st a_t_be a_t_so a_t_sv v_t_st) → va_S A s.heap H locs → lv_has ls 8 [(5, .int ph100)] → W p l e rm_X6_directOf s m ([.ref a_t, .int p1] : List Value).toArray below meth c H locs 0 0 (MQ below (QI D (wo_X6_directOf cI cZ a_t a_t_st a_t_be a_t_so a_t_sv v_t_st) q A) ([.ref a_t, .int p1] : List Value).toArray s 0 0 A) (F0 m 124 ls [.int ph124]) := by
          clear hg hP hD hS hl
          intro H locs ls hP hD hS hl
          refine lv_istore (lv' := [(7, .int ph124), (5, .int ph100)]) hx hb dX6_directOf_124 hl (by decide) rfl (fun ls hl => ?_)
          refine lv_iload hx hb dX6_directOf_126 (lv_at hl 0 rfl) ?_
          refine lv_iload hx hb dX6_directOf_128 (lv_at hl 1 rfl) ?_
          refine lv_icmp_le (tgt := 138) hx hb dX6_directOf_130 (by decide) (fun hc => ?_) (fun hc => ?_)
          · replace hf := ifp hc hf
            refine lv_iload hx hb dX6_directOf_138 (lv_at hl 1 rfl) ?_
            obtain rfl := Option.some.inj hf
            exact retI X hS hP rfl dX6_directOf_140
          · replace hf := ifn hc hf
            refine lv_iload hx hb dX6_directOf_133 (lv_at hl 0 rfl) ?_
            refine lv_goto (tgt := 140) hx hb dX6_directOf_135 (by decide) ?_
            obtain rfl := Option.some.inj hf
            exact retI X hS hP rfl dX6_directOf_140
        replace hf := hg
        clear hg
        refine lv_if_eq (tgt := 115) hx hb dX6_directOf_103 (by decide) (fun hc => ?_) (fun hc => ?_)
        · replace hf := ifn (b2i_z hc) hf
          refine lv_iload_n hx hb dX6_directOf_115 rfl (lv_at hl 1 rfl) ?_
          refine lv_if_eq (tgt := 123) hx hb dX6_directOf_116 (by decide) (fun hc => ?_) (fun hc => ?_)
          · replace hf := ifn (b2i_z hc) hf
            refine lv_iconst hx hb dX6_directOf_123 ic_0 ?_
            obtain rfl := Option.some.inj hf
            exact J124 _ _ ls hP hD hS (lv_sub hl [0] rfl)
          · replace hf := ifp (b2i_nz hc) hf
            refine lv_iconst hx hb dX6_directOf_119 ic_5 ?_
            refine lv_goto (tgt := 124) hx hb dX6_directOf_120 (by decide) ?_
            obtain rfl := Option.some.inj hf
            exact J124 _ _ ls hP hD hS (lv_sub hl [0] rfl)
        · replace hf := ifp (b2i_nz hc) hf
          refine lv_iload_n hx hb dX6_directOf_106 rfl (lv_at hl 2 rfl) ?_
          refine lv_if_eq (tgt := 115) hx hb dX6_directOf_107 (by decide) (fun hc => ?_) (fun hc => ?_)
          · replace hf := ifn (b2i_z hc) hf
            refine lv_iload_n hx hb dX6_directOf_115 rfl (lv_at hl 1 rfl) ?_
            refine lv_if_eq (tgt := 123) hx hb dX6_directOf_116 (by decide) (fun hc => ?_) (fun hc => ?_)
            · replace hf := ifn (b2i_z hc) hf
              refine lv_iconst hx hb dX6_directOf_123 ic_0 ?_
              obtain rfl := Option.some.inj hf
              exact J124 _ _ ls hP hD hS (lv_sub hl [0] rfl)
            · replace hf := ifp (b2i_nz hc) hf
              refine lv_iconst hx hb dX6_directOf_119 ic_5 ?_
              refine lv_goto (tgt := 124) hx hb dX6_directOf_120 (by decide) ?_
              obtain rfl := Option.some.inj hf
              exact J124 _ _ ls hP hD hS (lv_sub hl [0] rfl)
          · replace hf := ifp (b2i_nz hc) hf
            refine lv_bipush hx hb dX6_directOf_110 bp_6 ?_
            refine lv_goto (tgt := 124) hx hb dX6_directOf_112 (by decide) ?_
            obtain rfl := Option.some.inj hf
            exact J124 _ _ ls hP hD hS (lv_sub hl [0] rfl)
      replace hf := hg
      clear hg
      refine lv_if_eq (tgt := 98) hx hb dX6_directOf_83 (by decide) (fun hc => ?_) (fun hc => ?_)
      · replace hf := ifp hc hf
        refine lv_iload hx hb dX6_directOf_98 (lv_at hl 4 rfl) ?_
        obtain rfl := Option.some.inj hf
        exact J100 _ _ ls hP hD hS (lv_sub hl [1, 2] rfl)
      · replace hf := ifn hc hf
        refine lv_iload hx hb dX6_directOf_86 (lv_at hl 3 rfl) ?_
        refine lv_iload hx hb dX6_directOf_88 (lv_at hl 4 rfl) ?_
        refine lv_icmp_le (tgt := 98) hx hb dX6_directOf_90 (by decide) (fun hc => ?_) (fun hc => ?_)
        · replace hf := ifp hc hf
          refine lv_iload hx hb dX6_directOf_98 (lv_at hl 4 rfl) ?_
          obtain rfl := Option.some.inj hf
          exact J100 _ _ ls hP hD hS (lv_sub hl [1, 2] rfl)
        · replace hf := ifn hc hf
          refine lv_iload hx hb dX6_directOf_93 (lv_at hl 3 rfl) ?_
          refine lv_goto (tgt := 100) hx hb dX6_directOf_95 (by decide) ?_
          obtain rfl := Option.some.inj hf
          exact J100 _ _ ls hP hD hS (lv_sub hl [1, 2] rfl)
    replace hf := hg
    clear hg
    refine lv_icmp_eq (tgt := 74) hx hb dX6_directOf_48 (by decide) (fun hc => ?_) (fun hc => ?_)
    · replace hf := ifp hc hf
      refine lv_iconst hx hb dX6_directOf_74 ic_1 ?_
      refine lv_goto (tgt := 79) hx hb dX6_directOf_75 (by decide) ?_
      obtain rfl := Option.some.inj hf
      exact J79 _ _ ls hP hD hS (lv_sub hl [0, 1, 2, 3] rfl)
    · replace hf := ifn hc hf
      refine lv_iload hx hb dX6_directOf_51 (lv_at hl 2 rfl) ?_
      refine lv_iconst hx hb dX6_directOf_53 ic_4 ?_
      refine lv_icmp_eq (tgt := 74) hx hb dX6_directOf_54 (by decide) (fun hc => ?_) (fun hc => ?_)
      · replace hf := ifp hc hf
        refine lv_iconst hx hb dX6_directOf_74 ic_1 ?_
        refine lv_goto (tgt := 79) hx hb dX6_directOf_75 (by decide) ?_
        obtain rfl := Option.some.inj hf
        exact J79 _ _ ls hP hD hS (lv_sub hl [0, 1, 2, 3] rfl)
      · replace hf := ifn hc hf
        refine lv_iload hx hb dX6_directOf_57 (lv_at hl 2 rfl) ?_
        refine lv_bipush hx hb dX6_directOf_59 bp_7 ?_
        refine lv_icmp_eq (tgt := 70) hx hb dX6_directOf_61 (by decide) (fun hc => ?_) (fun hc => ?_)
        · replace hf := ifp hc hf
          refine lv_iload_n hx hb dX6_directOf_70 rfl (lv_at hl 1 rfl) ?_
          refine lv_if_ne (tgt := 78) hx hb dX6_directOf_71 (by decide) (fun hc => ?_) (fun hc => ?_)
          · replace hf := ifp (b2i_nz hc) hf
            refine lv_iconst hx hb dX6_directOf_78 ic_0 ?_
            obtain rfl := Option.some.inj hf
            exact J79 _ _ ls hP hD hS (lv_sub hl [0, 1, 2, 3] rfl)
          · replace hf := ifn (b2i_z hc) hf
            refine lv_iconst hx hb dX6_directOf_74 ic_1 ?_
            refine lv_goto (tgt := 79) hx hb dX6_directOf_75 (by decide) ?_
            obtain rfl := Option.some.inj hf
            exact J79 _ _ ls hP hD hS (lv_sub hl [0, 1, 2, 3] rfl)
        · replace hf := ifn hc hf
          refine lv_iload hx hb dX6_directOf_64 (lv_at hl 2 rfl) ?_
          refine lv_iconst hx hb dX6_directOf_66 ic_3 ?_
          refine lv_icmp_ne (tgt := 78) hx hb dX6_directOf_67 (by decide) (fun hc => ?_) (fun hc => ?_)
          · replace hf := ifn hc hf
            refine lv_iconst hx hb dX6_directOf_78 ic_0 ?_
            obtain rfl := Option.some.inj hf
            exact J79 _ _ ls hP hD hS (lv_sub hl [0, 1, 2, 3] rfl)
          · replace hf := ifp hc hf
            refine lv_iload_n hx hb dX6_directOf_70 rfl (lv_at hl 1 rfl) ?_
            refine lv_if_ne (tgt := 78) hx hb dX6_directOf_71 (by decide) (fun hc => ?_) (fun hc => ?_)
            · replace hf := ifp (b2i_nz hc) hf
              refine lv_iconst hx hb dX6_directOf_78 ic_0 ?_
              obtain rfl := Option.some.inj hf
              exact J79 _ _ ls hP hD hS (lv_sub hl [0, 1, 2, 3] rfl)
            · replace hf := ifn (b2i_z hc) hf
              refine lv_iconst hx hb dX6_directOf_74 ic_1 ?_
              refine lv_goto (tgt := 79) hx hb dX6_directOf_75 (by decide) ?_
              obtain rfl := Option.some.inj hf
              exact J79 _ _ ls hP hD hS (lv_sub hl [0, 1, 2, 3] rfl)
  replace hf := hg
  clear hg
  refine lv_icmp_eq (tgt := 40) hx hb dX6_directOf_29 (by decide) (fun hc => ?_) (fun hc => ?_)
  · replace hf := ifp hc hf
    refine lv_bipush hx hb dX6_directOf_40 bp_9 ?_
    refine lv_istore (lv' := [(5, .int (nI 9)), (4, .int q17), (3, .int (b2i q10)), (2, .int (b2i q3)), (0, .ref a_t), (1, .int p1)]) hx hb dX6_directOf_42 hl (by decide) rfl (fun ls hl => ?_)
    obtain rfl := Option.some.inj hf
    exact J44 _ _ ls hP hD hS (lv_sub hl [3, 2, 1, 0] rfl)
  · replace hf := ifn hc hf
    refine lv_iload_n hx hb dX6_directOf_32 rfl (lv_at hl 2 rfl) ?_
    refine lv_if_eq (tgt := 44) hx hb dX6_directOf_33 (by decide) (fun hc => ?_) (fun hc => ?_)
    · replace hf := ifn (b2i_z hc) hf
      obtain rfl := Option.some.inj hf
      exact J44 _ _ ls hP hD hS (lv_sub hl [3, 2, 1, 0] rfl)
    · replace hf := ifp (b2i_nz hc) hf
      refine lv_iload_n hx hb dX6_directOf_36 rfl (lv_at hl 3 rfl) ?_
      refine lv_if_ne (tgt := 44) hx hb dX6_directOf_37 (by decide) (fun hc => ?_) (fun hc => ?_)
      · replace hf := ifp (b2i_nz hc) hf
        obtain rfl := Option.some.inj hf
        exact J44 _ _ ls hP hD hS (lv_sub hl [3, 2, 1, 0] rfl)
      · replace hf := ifn (b2i_z hc) hf
        refine lv_bipush hx hb dX6_directOf_40 bp_9 ?_
        refine lv_istore (lv' := [(5, .int (nI 9)), (4, .int q17), (3, .int (b2i q10)), (2, .int (b2i q3)), (0, .ref a_t), (1, .int p1)]) hx hb dX6_directOf_42 hl (by decide) rfl (fun ls hl => ?_)
        obtain rfl := Option.some.inj hf
        exact J44 _ _ ls hP hD hS (lv_sub hl [3, 2, 1, 0] rfl)

abbrev wo_X6_requestOf (cI cZ : ClassId) (a_t a_t_st a_t_be a_t_so a_t_sv : Nat) (v_t_st : Nat → Int32) : va_W := [(a_t, oX6 a_t_st a_t_be a_t_so a_t_sv), (a_t_st, rI cI 164 v_t_st)]
def fX6_requestOf (v_t_st : Nat → Int32) (p1 : Int32) : Option (Int32) := ((fX6_directOf v_t_st p1).bind (fun q2 => (if q2 = 0 then ((fX6_of v_t_st p1 (nI 3)).bind (fun q13 => (if q13 ≤ 0 then (some q2) else ((fX6_of v_t_st p1 (nI 4)).bind (fun q22 => (some q22)))))) else (some q2))))
theorem kd_X6_requestOf : yX6_requestOf.cls = RX6 ∧ yX6_requestOf.cls ≠ "java/lang/invoke/MethodHandle" ∧ yX6_requestOf.cls ≠ "java/lang/invoke/VarHandle" ∧ (parseMethodDescriptor yX6_requestOf.desc).map (fun d => d.parameters.length) = some 1 := by decide +kernel
def rm_X6_requestOf : Room := { frames := 4, cells := 0, slots := 0, locals := 92 }
set_option maxHeartbeats 4000000 in
set_option maxRecDepth 100000 in
theorem k_X6_requestOf (l : Launch) (D : va_G) (cI cZ : ClassId) (a_t a_t_st a_t_be a_t_so a_t_sv : Nat) (v_t_st : Nat → Int32) (p1 : Int32) (q : Int32) (hf : fX6_requestOf v_t_st p1 = some q) : CI l D cI cZ yX6_requestOf wsX6_requestOf rm_X6_requestOf [.ref a_t, .int p1] (wo_X6_requestOf cI cZ a_t a_t_st a_t_be a_t_so a_t_sv v_t_st) (wo_X6_requestOf cI cZ a_t a_t_st a_t_be a_t_so a_t_sv v_t_st) q := by
  refine CI.mk (cc := cX6_requestOf) (maxL := 3) (by decide) rfl (Nat.le_of_ble_eq_true rfl) ?_
  intro p e s m below meth c ls A X hP hD hl hS
  have hx := X.1.1
  have hb := X.1.2.1
  have hl : lv_has ls 3 [(0, .ref a_t), (1, .int p1)] := hl
  unfold fX6_requestOf at hf
  refine lv_aload_n hx hb dX6_requestOf_0 rfl (lv_at hl 0 rfl) ?_
  refine lv_iload_n hx hb dX6_requestOf_1 rfl (lv_at hl 1 rfl) ?_
  obtain ⟨q2, e2, hf⟩ := bnd hf
  refine callVI X (k_X6_directOf l D cI cZ a_t a_t_st a_t_be a_t_so a_t_sv  v_t_st p1 q2 e2) (cwV 1 X.1.2.2.2.2 gX6_requestOf_X6_directOf rfl rfl rfl kd_X6_directOf ⟨Nat.le_of_ble_eq_true rfl, Nat.le_of_ble_eq_true rfl⟩) hP hD hS hl.1 0 6 rfl rfl [0, 1] (by decide) (wo_X6_requestOf cI cZ a_t a_t_st a_t_be a_t_so a_t_sv v_t_st) rfl rfl rfl rfl rfl (rest := []) rfl (Nat.le_of_ble_eq_true rfl) dX6_requestOf_2 ⟨Nat.zero_le _, Nat.zero_le _⟩ (fun H locs hP hD hS => ?_)
  refine lv_istore_n (lv' := [(2, .int q2), (0, .ref a_t), (1, .int p1)]) hx hb dX6_requestOf_5 rfl hl (by decide) rfl (fun ls hl => ?_)
  refine lv_iload_n hx hb dX6_requestOf_6 rfl (lv_at hl 0 rfl) ?_
  refine lv_if_ne (tgt := 28) hx hb dX6_requestOf_7 (by decide) (fun hc => ?_) (fun hc => ?_)
  · replace hf := ifn hc hf
    refine lv_iload_n hx hb dX6_requestOf_28 rfl (lv_at hl 0 rfl) ?_
    obtain rfl := Option.some.inj hf
    exact retI X hS hP rfl dX6_requestOf_29
  · replace hf := ifp hc hf
    refine lv_aload_n hx hb dX6_requestOf_10 rfl (lv_at hl 1 rfl) ?_
    refine lv_iload_n hx hb dX6_requestOf_11 rfl (lv_at hl 2 rfl) ?_
    refine lv_iconst hx hb dX6_requestOf_12 ic_3 ?_
    obtain ⟨q13, e13, hf⟩ := bnd hf
    refine callVI X (k_X6_of l D cI cZ a_t a_t_st a_t_be a_t_so a_t_sv  v_t_st p1 (nI 3) q13 e13) (cwV 2 X.1.2.2.2.2 gX6_requestOf_X6_of rfl rfl rfl kd_X6_of ⟨Nat.le_of_ble_eq_true rfl, Nat.le_of_ble_eq_true rfl⟩) hP hD hS hl.1 0 6 rfl rfl [0, 1] (by decide) (wo_X6_requestOf cI cZ a_t a_t_st a_t_be a_t_so a_t_sv v_t_st) rfl rfl rfl rfl rfl (rest := []) rfl (Nat.le_of_ble_eq_true rfl) dX6_requestOf_13 ⟨Nat.zero_le _, Nat.zero_le _⟩ (fun H locs hP hD hS => ?_)
    refine lv_if_le (tgt := 28) hx hb dX6_requestOf_16 (by decide) (fun hc => ?_) (fun hc => ?_)
    · replace hf := ifp hc hf
      refine lv_iload_n hx hb dX6_requestOf_28 rfl (lv_at hl 0 rfl) ?_
      obtain rfl := Option.some.inj hf
      exact retI X hS hP rfl dX6_requestOf_29
    · replace hf := ifn hc hf
      refine lv_aload_n hx hb dX6_requestOf_19 rfl (lv_at hl 1 rfl) ?_
      refine lv_iload_n hx hb dX6_requestOf_20 rfl (lv_at hl 2 rfl) ?_
      refine lv_iconst hx hb dX6_requestOf_21 ic_4 ?_
      obtain ⟨q22, e22, hf⟩ := bnd hf
      refine callVI X (k_X6_of l D cI cZ a_t a_t_st a_t_be a_t_so a_t_sv  v_t_st p1 (nI 4) q22 e22) (cwV 2 X.1.2.2.2.2 gX6_requestOf_X6_of rfl rfl rfl kd_X6_of ⟨Nat.le_of_ble_eq_true rfl, Nat.le_of_ble_eq_true rfl⟩) hP hD hS hl.1 0 6 rfl rfl [0, 1] (by decide) (wo_X6_requestOf cI cZ a_t a_t_st a_t_be a_t_so a_t_sv v_t_st) rfl rfl rfl rfl rfl (rest := []) rfl (Nat.le_of_ble_eq_true rfl) dX6_requestOf_22 ⟨Nat.zero_le _, Nat.zero_le _⟩ (fun H locs hP hD hS => ?_)
      refine lv_goto (tgt := 29) hx hb dX6_requestOf_25 (by decide) ?_
      obtain rfl := Option.some.inj hf
      exact retI X hS hP rfl dX6_requestOf_29

abbrev wo_X6_compare (cI cZ : ClassId) (a_t a_t_st a_t_be a_t_so a_t_sv : Nat) (v_t_st : Nat → Int32) : va_W := [(a_t, oX6 a_t_st a_t_be a_t_so a_t_sv), (a_t_st, rI cI 164 v_t_st)]
def fX6_compare (v_t_st : Nat → Int32) (p1 : Int32) : Option ((Nat → Int32)) := ((fX6_of v_t_st p1 (nI 5)).bind (fun q3 => ((fX6_directOf v_t_st p1).bind (fun q9 => ((if q3 = (nI 5) then (some (nI 1)) else (if q3 = (nI 6) then (some (nI 1)) else (some 0))).bind (fun ph29 => ((if ph29 = 0 then (some v_t_st) else ((fX6_of v_t_st p1 (nI 6)).bind (fun q40 => (if q40 = 0 then (some v_t_st) else (if q9 = 0 then (if (v_t_st 2) ≤ 0 then (some v_t_st) else ((fX6_at p1 (nI 3)).bind (fun q65 => (if (q65 < 0 ∨ 164 ≤ (q65).toNatClampNeg) then none else ((fX6_at p1 (nI 4)).bind (fun q81 => ((fX6_of (upd v_t_st (q65).toNatClampNeg (v_t_st 2)) p1 (nI 6)).bind (fun q88 => ((if q88 = (nI 1) then (some (nI 1)) else (some (nI 2))).bind (fun ph100 => (if (q81 < 0 ∨ 164 ≤ (q81).toNatClampNeg) then none else (some (upd (upd v_t_st (q65).toNatClampNeg (v_t_st 2)) (q81).toNatClampNeg ph100))))))))))))) else (some v_t_st)))))).bind (fun ph101 => ((if q9 = 0 then (some ph101) else ((fX6_at p1 (nI 3)).bind (fun q111 => (if (q111 < 0 ∨ 164 ≤ (q111).toNatClampNeg) then none else (some (upd ph101 (q111).toNatClampNeg 0)))))).bind (fun ph116 => ((fX6_at p1 (nI 5)).bind (fun q122 => (if (q122 < 0 ∨ 164 ≤ (q122).toNatClampNeg) then none else (some (upd ph116 (q122).toNatClampNeg q9)))))))))))))))
theorem kd_X6_compare : yX6_compare.cls = RX6 ∧ yX6_compare.cls ≠ "java/lang/invoke/MethodHandle" ∧ yX6_compare.cls ≠ "java/lang/invoke/VarHandle" ∧ (parseMethodDescriptor yX6_compare.desc).map (fun d => d.parameters.length) = some 1 := by decide +kernel
def rm_X6_compare : Room := { frames := 4, cells := 0, slots := 0, locals := 92 }
set_option maxHeartbeats 4000000 in
set_option maxRecDepth 100000 in
theorem k_X6_compare (l : Launch) (D : va_G) (cI cZ : ClassId) (a_t a_t_st a_t_be a_t_so a_t_sv : Nat) (v_t_st : Nat → Int32) (p1 : Int32) (q : (Nat → Int32)) (hf : fX6_compare v_t_st p1 = some q) : CV l D cI cZ yX6_compare wsX6_compare rm_X6_compare [.ref a_t, .int p1] (wo_X6_compare cI cZ a_t a_t_st a_t_be a_t_so a_t_sv v_t_st) (wo_X6_compare cI cZ a_t a_t_st a_t_be a_t_so a_t_sv q) := by
  refine CV.mk (cc := cX6_compare) (maxL := 5) (by decide) rfl (Nat.le_of_ble_eq_true rfl) ?_
  intro p e s m below meth c ls A X hP hD hl hS
  have hx := X.1.1
  have hb := X.1.2.1
  have hl : lv_has ls 5 [(0, .ref a_t), (1, .int p1)] := hl
  have inX6 : ∀ w ∈ u_ws RX6 TX6 4, w ∈ wsX6_compare := fun _ h => List.mem_cons_of_mem _ (List.mem_append_right _ h)
  unfold fX6_compare at hf
  refine lv_aload_n hx hb dX6_compare_0 rfl (lv_at hl 0 rfl) ?_
  refine lv_iload_n hx hb dX6_compare_1 rfl (lv_at hl 1 rfl) ?_
  refine lv_iconst hx hb dX6_compare_2 ic_5 ?_
  obtain ⟨q3, e3, hf⟩ := bnd hf
  refine callVI X (k_X6_of l D cI cZ a_t a_t_st a_t_be a_t_so a_t_sv  v_t_st p1 (nI 5) q3 e3) (cwV 2 X.1.2.2.2.2 gX6_compare_X6_of rfl rfl rfl kd_X6_of ⟨Nat.le_of_ble_eq_true rfl, Nat.le_of_ble_eq_true rfl⟩) hP hD hS hl.1 0 6 rfl rfl [0, 1] (by decide) (wo_X6_compare cI cZ a_t a_t_st a_t_be a_t_so a_t_sv v_t_st) rfl rfl rfl rfl rfl (rest := []) rfl (Nat.le_of_ble_eq_true rfl) dX6_compare_3 ⟨Nat.zero_le _, Nat.zero_le _⟩ (fun H locs hP hD hS => ?_)
  refine lv_istore_n (lv' := [(2, .int q3), (0, .ref a_t), (1, .int p1)]) hx hb dX6_compare_6 rfl hl (by decide) rfl (fun ls hl => ?_)
  refine lv_aload_n hx hb dX6_compare_7 rfl (lv_at hl 1 rfl) ?_
  refine lv_iload_n hx hb dX6_compare_8 rfl (lv_at hl 2 rfl) ?_
  obtain ⟨q9, e9, hf⟩ := bnd hf
  refine callVI X (k_X6_directOf l D cI cZ a_t a_t_st a_t_be a_t_so a_t_sv  v_t_st p1 q9 e9) (cwV 1 X.1.2.2.2.2 gX6_compare_X6_directOf rfl rfl rfl kd_X6_directOf ⟨Nat.le_of_ble_eq_true rfl, Nat.le_of_ble_eq_true rfl⟩) hP hD hS hl.1 0 6 rfl rfl [0, 1] (by decide) (wo_X6_compare cI cZ a_t a_t_st a_t_be a_t_so a_t_sv v_t_st) rfl rfl rfl rfl rfl (rest := []) rfl (Nat.le_of_ble_eq_true rfl) dX6_compare_9 ⟨Nat.zero_le _, Nat.zero_le _⟩ (fun H locs hP hD hS => ?_)
  refine lv_istore_n (lv' := [(3, .int q9), (2, .int q3), (0, .ref a_t), (1, .int p1)]) hx hb dX6_compare_12 rfl hl (by decide) rfl (fun ls hl => ?_)
  refine lv_iload_n hx hb dX6_compare_13 rfl (lv_at hl 1 rfl) ?_
  refine lv_iconst hx hb dX6_compare_14 ic_5 ?_
  obtain ⟨ph29, hg, hf⟩ := bnd hf
  have J29 : ∀ (H : Heap) (locs : List Loc) (ls : Array Slot), va_P D vwCl (wo_X6_compare cI cZ a_t a_t_st a_t_be a_t_so a_t_sv v_t_st) H → va_D A (wo_X6_compare cI cZ a_t a_t_st a_t_be a_t_so a_t_sv v_t_st) → va_S A s.heap H locs → lv_has ls 5 [(0, .ref a_t), (1, .int p1), (3, .int q9)] → W p l e rm_X6_compare s m ([.ref a_t, .int p1] : List Value).toArray below meth c H locs 0 0 (MQ below (QV D (wo_X6_compare cI cZ a_t a_t_st a_t_be a_t_so a_t_sv q) A) ([.ref a_t, .int p1] : List Value).toArray s 0 0 A) (F0 m 29 ls [.int ph29]) := by
    clear hg hP hD hS hl
    intro H locs ls hP hD hS hl
    refine lv_istore (lv' := [(4, .int ph29), (0, .ref a_t), (1, .int p1), (3, .int q9)]) hx hb dX6_compare_29 hl (by decide) rfl (fun ls hl => ?_)
    refine lv_iload hx hb dX6_compare_31 (lv_at hl 0 rfl) ?_
    obtain ⟨ph101, hg, hf⟩ := bnd hf
    have J101 : ∀ (H : Heap) (locs : List Loc) (ls : Array Slot), va_P D vwCl (wo_X6_compare cI cZ a_t a_t_st a_t_be a_t_so a_t_sv ph101) H → va_D A (wo_X6_compare cI cZ a_t a_t_st a_t_be a_t_so a_t_sv ph101) → va_S A s.heap H locs → lv_has ls 5 [(0, .ref a_t), (1, .int p1), (3, .int q9)] → W p l e rm_X6_compare s m ([.ref a_t, .int p1] : List Value).toArray below meth c H locs 0 0 (MQ below (QV D (wo_X6_compare cI cZ a_t a_t_st a_t_be a_t_so a_t_sv q) A) ([.ref a_t, .int p1] : List Value).toArray s 0 0 A) (F0 m 101 ls []) := by
      clear hg hP hD hS hl
      intro H locs ls hP hD hS hl
      refine lv_iload_n hx hb dX6_compare_101 rfl (lv_at hl 2 rfl) ?_
      obtain ⟨ph116, hg, hf⟩ := bnd hf
      have J116 : ∀ (H : Heap) (locs : List Loc) (ls : Array Slot), va_P D vwCl (wo_X6_compare cI cZ a_t a_t_st a_t_be a_t_so a_t_sv ph116) H → va_D A (wo_X6_compare cI cZ a_t a_t_st a_t_be a_t_so a_t_sv ph116) → va_S A s.heap H locs → lv_has ls 5 [(0, .ref a_t), (1, .int p1), (3, .int q9)] → W p l e rm_X6_compare s m ([.ref a_t, .int p1] : List Value).toArray below meth c H locs 0 0 (MQ below (QV D (wo_X6_compare cI cZ a_t a_t_st a_t_be a_t_so a_t_sv q) A) ([.ref a_t, .int p1] : List Value).toArray s 0 0 A) (F0 m 116 ls []) := by
        clear hg hP hD hS hl
        intro H locs ls hP hD hS hl
        refine lv_aload_n hx hb dX6_compare_116 rfl (lv_at hl 0 rfl) ?_
        refine getO X hP inX6 0 rfl rfl 0 (by decide) (List.mem_of_getElem? (i := 1) rfl) rfl dX6_compare_117 ?_
        refine lv_iload_n hx hb dX6_compare_120 rfl (lv_at hl 1 rfl) ?_
        refine lv_iconst hx hb dX6_compare_121 ic_5 ?_
        obtain ⟨q122, e122, hf⟩ := bnd hf
        refine callSI X (k_X6_at l D cI cZ    p1 (nI 5) q122 e122) (va_cwS 2 X.1.2.2.2.2 gX6_compare_X6_at rfl rfl rfl kd_X6_at ⟨Nat.le_of_ble_eq_true rfl, Nat.le_of_ble_eq_true rfl⟩) hP hD hS hl.1 [] (by decide) (wo_X6_compare cI cZ a_t a_t_st a_t_be a_t_so a_t_sv ph116) rfl rfl rfl rfl rfl (rest := [.ref a_t_st]) rfl (Nat.le_of_ble_eq_true rfl) dX6_compare_122 ⟨Nat.zero_le _, Nat.zero_le _⟩ (fun H locs hP hD hS => ?_)
        refine lv_iload_n hx hb dX6_compare_125 rfl (lv_at hl 2 rfl) ?_
        obtain ⟨g126, hf⟩ := grd hf
        refine astI X hP hD hS 1 rfl g126 rfl dX6_compare_126 (wo_X6_compare cI cZ a_t a_t_st a_t_be a_t_so a_t_sv (upd ph116 (q122).toNatClampNeg q9)) rfl (fun H locs hP hD hS => ?_)
        obtain rfl := Option.some.inj hf
        exact retV X hS hP dX6_compare_127
      replace hf := hg
      clear hg
      refine lv_if_eq (tgt := 116) hx hb dX6_compare_102 (by decide) (fun hc => ?_) (fun hc => ?_)
      · replace hf := ifp hc hf
        obtain rfl := Option.some.inj hf
        exact J116 _ _ ls hP hD hS (lv_sub hl [0, 1, 2] rfl)
      · replace hf := ifn hc hf
        refine lv_aload_n hx hb dX6_compare_105 rfl (lv_at hl 0 rfl) ?_
        refine getO X hP inX6 0 rfl rfl 0 (by decide) (List.mem_of_getElem? (i := 1) rfl) rfl dX6_compare_106 ?_
        refine lv_iload_n hx hb dX6_compare_109 rfl (lv_at hl 1 rfl) ?_
        refine lv_iconst hx hb dX6_compare_110 ic_3 ?_
        obtain ⟨q111, e111, hf⟩ := bnd hf
        refine callSI X (k_X6_at l D cI cZ    p1 (nI 3) q111 e111) (va_cwS 2 X.1.2.2.2.2 gX6_compare_X6_at rfl rfl rfl kd_X6_at ⟨Nat.le_of_ble_eq_true rfl, Nat.le_of_ble_eq_true rfl⟩) hP hD hS hl.1 [] (by decide) (wo_X6_compare cI cZ a_t a_t_st a_t_be a_t_so a_t_sv ph101) rfl rfl rfl rfl rfl (rest := [.ref a_t_st]) rfl (Nat.le_of_ble_eq_true rfl) dX6_compare_111 ⟨Nat.zero_le _, Nat.zero_le _⟩ (fun H locs hP hD hS => ?_)
        refine lv_iconst hx hb dX6_compare_114 ic_0 ?_
        obtain ⟨g115, hf⟩ := grd hf
        refine astI X hP hD hS 1 rfl g115 rfl dX6_compare_115 (wo_X6_compare cI cZ a_t a_t_st a_t_be a_t_so a_t_sv (upd ph101 (q111).toNatClampNeg 0)) rfl (fun H locs hP hD hS => ?_)
        obtain rfl := Option.some.inj hf
        exact J116 _ _ ls hP hD hS (lv_sub hl [0, 1, 2] rfl)
    replace hf := hg
    clear hg
    refine lv_if_eq (tgt := 101) hx hb dX6_compare_33 (by decide) (fun hc => ?_) (fun hc => ?_)
    · replace hf := ifp hc hf
      obtain rfl := Option.some.inj hf
      exact J101 _ _ ls hP hD hS (lv_sub hl [1, 2, 3] rfl)
    · replace hf := ifn hc hf
      refine lv_aload_n hx hb dX6_compare_36 rfl (lv_at hl 1 rfl) ?_
      refine lv_iload_n hx hb dX6_compare_37 rfl (lv_at hl 2 rfl) ?_
      refine lv_bipush hx hb dX6_compare_38 bp_6 ?_
      obtain ⟨q40, e40, hf⟩ := bnd hf
      refine callVI X (k_X6_of l D cI cZ a_t a_t_st a_t_be a_t_so a_t_sv  v_t_st p1 (nI 6) q40 e40) (cwV 2 X.1.2.2.2.2 gX6_compare_X6_of rfl rfl rfl kd_X6_of ⟨Nat.le_of_ble_eq_true rfl, Nat.le_of_ble_eq_true rfl⟩) hP hD hS hl.1 0 6 rfl rfl [0, 1] (by decide) (wo_X6_compare cI cZ a_t a_t_st a_t_be a_t_so a_t_sv v_t_st) rfl rfl rfl rfl rfl (rest := []) rfl (Nat.le_of_ble_eq_true rfl) dX6_compare_40 ⟨Nat.zero_le _, Nat.zero_le _⟩ (fun H locs hP hD hS => ?_)
      refine lv_if_eq (tgt := 101) hx hb dX6_compare_43 (by decide) (fun hc => ?_) (fun hc => ?_)
      · replace hf := ifp hc hf
        obtain rfl := Option.some.inj hf
        exact J101 _ _ ls hP hD hS (lv_sub hl [1, 2, 3] rfl)
      · replace hf := ifn hc hf
        refine lv_iload_n hx hb dX6_compare_46 rfl (lv_at hl 3 rfl) ?_
        refine lv_if_ne (tgt := 101) hx hb dX6_compare_47 (by decide) (fun hc => ?_) (fun hc => ?_)
        · replace hf := ifn hc hf
          obtain rfl := Option.some.inj hf
          exact J101 _ _ ls hP hD hS (lv_sub hl [1, 2, 3] rfl)
        · replace hf := ifp hc hf
          refine lv_aload_n hx hb dX6_compare_50 rfl (lv_at hl 1 rfl) ?_
          refine getO X hP inX6 0 rfl rfl 0 (by decide) (List.mem_of_getElem? (i := 1) rfl) rfl dX6_compare_51 ?_
          refine lv_iconst hx hb dX6_compare_54 ic_2 ?_
          refine aldI X hP 1 rfl (vp_in_nI (by decide) (by decide)) (j := 2) (nI_clamp (by decide)) dX6_compare_55 ?_
          refine lv_if_le (tgt := 101) hx hb dX6_compare_56 (by decide) (fun hc => ?_) (fun hc => ?_)
          · replace hf := ifp hc hf
            obtain rfl := Option.some.inj hf
            exact J101 _ _ ls hP hD hS (lv_sub hl [1, 2, 3] rfl)
          · replace hf := ifn hc hf
            refine lv_aload_n hx hb dX6_compare_59 rfl (lv_at hl 1 rfl) ?_
            refine getO X hP inX6 0 rfl rfl 0 (by decide) (List.mem_of_getElem? (i := 1) rfl) rfl dX6_compare_60 ?_
            refine lv_iload_n hx hb dX6_compare_63 rfl (lv_at hl 2 rfl) ?_
            refine lv_iconst hx hb dX6_compare_64 ic_3 ?_
            obtain ⟨q65, e65, hf⟩ := bnd hf
            refine callSI X (k_X6_at l D cI cZ    p1 (nI 3) q65 e65) (va_cwS 2 X.1.2.2.2.2 gX6_compare_X6_at rfl rfl rfl kd_X6_at ⟨Nat.le_of_ble_eq_true rfl, Nat.le_of_ble_eq_true rfl⟩) hP hD hS hl.1 [] (by decide) (wo_X6_compare cI cZ a_t a_t_st a_t_be a_t_so a_t_sv v_t_st) rfl rfl rfl rfl rfl (rest := [.ref a_t_st]) rfl (Nat.le_of_ble_eq_true rfl) dX6_compare_65 ⟨Nat.zero_le _, Nat.zero_le _⟩ (fun H locs hP hD hS => ?_)
            refine lv_aload_n hx hb dX6_compare_68 rfl (lv_at hl 1 rfl) ?_
            refine getO X hP inX6 0 rfl rfl 0 (by decide) (List.mem_of_getElem? (i := 1) rfl) rfl dX6_compare_69 ?_
            refine lv_iconst hx hb dX6_compare_72 ic_2 ?_
            refine aldI X hP 1 rfl (vp_in_nI (by decide) (by decide)) (j := 2) (nI_clamp (by decide)) dX6_compare_73 ?_
            obtain ⟨g74, hf⟩ := grd hf
            refine astI X hP hD hS 1 rfl g74 rfl dX6_compare_74 (wo_X6_compare cI cZ a_t a_t_st a_t_be a_t_so a_t_sv (upd v_t_st (q65).toNatClampNeg (v_t_st 2))) rfl (fun H locs hP hD hS => ?_)
            refine lv_aload_n hx hb dX6_compare_75 rfl (lv_at hl 1 rfl) ?_
            refine getO X hP inX6 0 rfl rfl 0 (by decide) (List.mem_of_getElem? (i := 1) rfl) rfl dX6_compare_76 ?_
            refine lv_iload_n hx hb dX6_compare_79 rfl (lv_at hl 2 rfl) ?_
            refine lv_iconst hx hb dX6_compare_80 ic_4 ?_
            obtain ⟨q81, e81, hf⟩ := bnd hf
            refine callSI X (k_X6_at l D cI cZ    p1 (nI 4) q81 e81) (va_cwS 2 X.1.2.2.2.2 gX6_compare_X6_at rfl rfl rfl kd_X6_at ⟨Nat.le_of_ble_eq_true rfl, Nat.le_of_ble_eq_true rfl⟩) hP hD hS hl.1 [] (by decide) (wo_X6_compare cI cZ a_t a_t_st a_t_be a_t_so a_t_sv (upd v_t_st (q65).toNatClampNeg (v_t_st 2))) rfl rfl rfl rfl rfl (rest := [.ref a_t_st]) rfl (Nat.le_of_ble_eq_true rfl) dX6_compare_81 ⟨Nat.zero_le _, Nat.zero_le _⟩ (fun H locs hP hD hS => ?_)
            refine lv_aload_n hx hb dX6_compare_84 rfl (lv_at hl 1 rfl) ?_
            refine lv_iload_n hx hb dX6_compare_85 rfl (lv_at hl 2 rfl) ?_
            refine lv_bipush hx hb dX6_compare_86 bp_6 ?_
            obtain ⟨q88, e88, hf⟩ := bnd hf
            refine callVI X (k_X6_of l D cI cZ a_t a_t_st a_t_be a_t_so a_t_sv  (upd v_t_st (q65).toNatClampNeg (v_t_st 2)) p1 (nI 6) q88 e88) (cwV 2 X.1.2.2.2.2 gX6_compare_X6_of rfl rfl rfl kd_X6_of ⟨Nat.le_of_ble_eq_true rfl, Nat.le_of_ble_eq_true rfl⟩) hP hD hS hl.1 0 6 rfl rfl [0, 1] (by decide) (wo_X6_compare cI cZ a_t a_t_st a_t_be a_t_so a_t_sv (upd v_t_st (q65).toNatClampNeg (v_t_st 2))) rfl rfl rfl rfl rfl (rest := [.int q81, .ref a_t_st]) rfl (Nat.le_of_ble_eq_true rfl) dX6_compare_88 ⟨Nat.zero_le _, Nat.zero_le _⟩ (fun H locs hP hD hS => ?_)
            refine lv_iconst hx hb dX6_compare_91 ic_1 ?_
            obtain ⟨ph100, hg, hf⟩ := bnd hf
            have J100 : ∀ (H : Heap) (locs : List Loc) (ls : Array Slot), va_P D vwCl (wo_X6_compare cI cZ a_t a_t_st a_t_be a_t_so a_t_sv (upd v_t_st (q65).toNatClampNeg (v_t_st 2))) H → va_D A (wo_X6_compare cI cZ a_t a_t_st a_t_be a_t_so a_t_sv (upd v_t_st (q65).toNatClampNeg (v_t_st 2))) → va_S A s.heap H locs → lv_has ls 5 [(0, .ref a_t), (1, .int p1), (3, .int q9)] → W p l e rm_X6_compare s m ([.ref a_t, .int p1] : List Value).toArray below meth c H locs 0 0 (MQ below (QV D (wo_X6_compare cI cZ a_t a_t_st a_t_be a_t_so a_t_sv q) A) ([.ref a_t, .int p1] : List Value).toArray s 0 0 A) (F0 m 100 ls [.int ph100, .int q81, .ref a_t_st]) := by
              clear hg hP hD hS hl
              intro H locs ls hP hD hS hl
              obtain ⟨g100, hf⟩ := grd hf
              refine astI X hP hD hS 1 rfl g100 rfl dX6_compare_100 (wo_X6_compare cI cZ a_t a_t_st a_t_be a_t_so a_t_sv (upd (upd v_t_st (q65).toNatClampNeg (v_t_st 2)) (q81).toNatClampNeg ph100)) rfl (fun H locs hP hD hS => ?_)
              obtain rfl := Option.some.inj hf
              exact J101 _ _ ls hP hD hS (lv_sub hl [0, 1, 2] rfl)
            replace hf := hg
            clear hg
            refine lv_icmp_ne (tgt := 99) hx hb dX6_compare_92 (by decide) (fun hc => ?_) (fun hc => ?_)
            · replace hf := ifn hc hf
              refine lv_iconst hx hb dX6_compare_99 ic_2 ?_
              obtain rfl := Option.some.inj hf
              exact J100 _ _ ls hP hD hS (lv_sub hl [1, 2, 3] rfl)
            · replace hf := ifp hc hf
              refine lv_iconst hx hb dX6_compare_95 ic_1 ?_
              refine lv_goto (tgt := 100) hx hb dX6_compare_96 (by decide) ?_
              obtain rfl := Option.some.inj hf
              exact J100 _ _ ls hP hD hS (lv_sub hl [1, 2, 3] rfl)
  replace hf := hg
  clear hg
  refine lv_icmp_eq (tgt := 24) hx hb dX6_compare_15 (by decide) (fun hc => ?_) (fun hc => ?_)
  · replace hf := ifp hc hf
    refine lv_iconst hx hb dX6_compare_24 ic_1 ?_
    refine lv_goto (tgt := 29) hx hb dX6_compare_25 (by decide) ?_
    obtain rfl := Option.some.inj hf
    exact J29 _ _ ls hP hD hS (lv_sub hl [2, 3, 0] rfl)
  · replace hf := ifn hc hf
    refine lv_iload_n hx hb dX6_compare_18 rfl (lv_at hl 1 rfl) ?_
    refine lv_bipush hx hb dX6_compare_19 bp_6 ?_
    refine lv_icmp_ne (tgt := 28) hx hb dX6_compare_21 (by decide) (fun hc => ?_) (fun hc => ?_)
    · replace hf := ifn hc hf
      refine lv_iconst hx hb dX6_compare_28 ic_0 ?_
      obtain rfl := Option.some.inj hf
      exact J29 _ _ ls hP hD hS (lv_sub hl [2, 3, 0] rfl)
    · replace hf := ifp hc hf
      refine lv_iconst hx hb dX6_compare_24 ic_1 ?_
      refine lv_goto (tgt := 29) hx hb dX6_compare_25 (by decide) ?_
      obtain rfl := Option.some.inj hf
      exact J29 _ _ ls hP hD hS (lv_sub hl [2, 3, 0] rfl)

abbrev wo_X6_someRequest (cI cZ : ClassId) (a_t a_t_st a_t_be a_t_so a_t_sv : Nat) (v_t_st : Nat → Int32) : va_W := [(a_t, oX6 a_t_st a_t_be a_t_so a_t_sv), (a_t_st, rI cI 164 v_t_st)]
def fX6_someRequest_L4 (v_t_st : Nat → Int32) (p1 : Int32) (K : Int32 → Int32 → Option (Bool)) : Nat → Int32 → Int32 → Option (Bool)
  | 0, _, _ => none
  | k + 1, x2_4, x3_4 => (if (v_t_st 0) ≤ x3_4 then (K x2_4 x3_4) else (if x2_4 = 0 then ((fX6_requestOf v_t_st x3_4).bind (fun q20 => (if q20 = p1 then (fX6_someRequest_L4 v_t_st p1 K k (nI 1) (x3_4 + nI 1)) else (fX6_someRequest_L4 v_t_st p1 K k 0 (x3_4 + nI 1))))) else (fX6_someRequest_L4 v_t_st p1 K k (nI 1) (x3_4 + nI 1))))
def fX6_someRequest (v_t_st : Nat → Int32) (p1 : Int32) : Option (Bool) := (fX6_someRequest_L4 v_t_st p1 (fun x2_4 x3_4 => (retZ x2_4)) FU 0 0)
theorem kd_X6_someRequest : yX6_someRequest.cls = RX6 ∧ yX6_someRequest.cls ≠ "java/lang/invoke/MethodHandle" ∧ yX6_someRequest.cls ≠ "java/lang/invoke/VarHandle" ∧ (parseMethodDescriptor yX6_someRequest.desc).map (fun d => d.parameters.length) = some 1 := by decide +kernel
def rm_X6_someRequest : Room := { frames := 5, cells := 0, slots := 0, locals := 114 }
set_option maxHeartbeats 4000000 in
set_option maxRecDepth 100000 in
theorem k_X6_someRequest (l : Launch) (D : va_G) (cI cZ : ClassId) (a_t a_t_st a_t_be a_t_so a_t_sv : Nat) (v_t_st : Nat → Int32) (p1 : Int32) (q : Bool) (hf : fX6_someRequest v_t_st p1 = some q) : CI l D cI cZ yX6_someRequest wsX6_someRequest rm_X6_someRequest [.ref a_t, .int p1] (wo_X6_someRequest cI cZ a_t a_t_st a_t_be a_t_so a_t_sv v_t_st) (wo_X6_someRequest cI cZ a_t a_t_st a_t_be a_t_so a_t_sv v_t_st) (b2i q) := by
  refine CI.mk (cc := cX6_someRequest) (maxL := 4) (by decide) rfl (Nat.le_of_ble_eq_true rfl) ?_
  intro p e s m below meth c ls A X hP hD hl hS
  have hx := X.1.1
  have hb := X.1.2.1
  have hl : lv_has ls 4 [(0, .ref a_t), (1, .int p1)] := hl
  have inX6 : ∀ w ∈ u_ws RX6 TX6 4, w ∈ wsX6_someRequest := fun _ h => List.mem_cons_of_mem _ (List.mem_append_right _ h)
  have L4 : ∀ (K : Int32 → Int32 → Option (Bool)) (hKK : ∀ (x2_4 : Int32) (x3_4 : Int32) (H : Heap) (locs : List Loc) (ls : Array Slot), K x2_4 x3_4 = some q → va_P D vwCl (wo_X6_someRequest cI cZ a_t a_t_st a_t_be a_t_so a_t_sv v_t_st) H → va_D A (wo_X6_someRequest cI cZ a_t a_t_st a_t_be a_t_so a_t_sv v_t_st) → va_S A s.heap H locs → lv_has ls 4 [(2, .int x2_4)] → W p l e rm_X6_someRequest s m ([.ref a_t, .int p1] : List Value).toArray below meth c H locs 0 0 (MQ below (QI D (wo_X6_someRequest cI cZ a_t a_t_st a_t_be a_t_so a_t_sv v_t_st) (b2i q) A) ([.ref a_t, .int p1] : List Value).toArray s 0 0 A) (F0 m 39 ls [])) (k : Nat) (x2_4 : Int32) (x3_4 : Int32) (H : Heap) (locs : List Loc) (ls : Array Slot), fX6_someRequest_L4 v_t_st p1 K k x2_4 x3_4 = some q → va_P D vwCl (wo_X6_someRequest cI cZ a_t a_t_st a_t_be a_t_so a_t_sv v_t_st) H → va_D A (wo_X6_someRequest cI cZ a_t a_t_st a_t_be a_t_so a_t_sv v_t_st) → va_S A s.heap H locs → lv_has ls 4 [(0, .ref a_t), (1, .int p1), (2, .int x2_4), (3, .int x3_4)] → W p l e rm_X6_someRequest s m ([.ref a_t, .int p1] : List Value).toArray below meth c H locs 0 0 (MQ below (QI D (wo_X6_someRequest cI cZ a_t a_t_st a_t_be a_t_so a_t_sv v_t_st) (b2i q) A) ([.ref a_t, .int p1] : List Value).toArray s 0 0 A) (F0 m 4 ls []) := by
    intro K hKK k
    induction k with
    | zero => intro x2_4 x3_4 H locs ls hf; rw [fX6_someRequest_L4] at hf; cases hf
    | succ k ih =>
      intro x2_4 x3_4 H locs ls hf hP hD hS hl
      rw [fX6_someRequest_L4] at hf
      refine lv_iload_n hx hb dX6_someRequest_4 rfl (lv_at hl 3 rfl) ?_
      refine lv_aload_n hx hb dX6_someRequest_5 rfl (lv_at hl 0 rfl) ?_
      refine getO X hP inX6 0 rfl rfl 0 (by decide) (List.mem_of_getElem? (i := 1) rfl) rfl dX6_someRequest_6 ?_
      refine lv_iconst hx hb dX6_someRequest_9 ic_0 ?_
      refine aldI X hP 1 rfl (vin0 (by decide) (by decide)) (j := 0) sb_cl0 dX6_someRequest_10 ?_
      refine lv_icmp_ge (tgt := 39) hx hb dX6_someRequest_11 (by decide) (fun hc => ?_) (fun hc => ?_)
      · replace hf := ifp hc hf
        exact hKK _ _ _ _ ls hf hP hD hS (lv_sub hl [2] rfl)
      · replace hf := ifn hc hf
        refine lv_iload_n hx hb dX6_someRequest_14 rfl (lv_at hl 2 rfl) ?_
        refine lv_if_ne (tgt := 27) hx hb dX6_someRequest_15 (by decide) (fun hc => ?_) (fun hc => ?_)
        · replace hf := ifn hc hf
          refine lv_iconst hx hb dX6_someRequest_27 ic_1 ?_
          refine lv_goto (tgt := 32) hx hb dX6_someRequest_28 (by decide) ?_
          refine lv_istore_n (lv' := [(2, .int (nI 1)), (0, .ref a_t), (1, .int p1), (3, .int x3_4)]) hx hb dX6_someRequest_32 rfl hl (by decide) rfl (fun ls hl => ?_)
          refine lv_iinc (v := (x3_4 + nI 1)) (lv' := [(3, .int (x3_4 + nI 1)), (2, .int (nI 1)), (0, .ref a_t), (1, .int p1)]) hx hb dX6_someRequest_33 hl (k := 3) rfl (inc_1 _) (by decide) rfl (fun ls hl => ?_)
          refine lv_goto (tgt := 4) hx hb dX6_someRequest_36 (by decide) ?_
          exact ih _ _ _ _ ls hf hP hD hS (lv_sub hl [2, 3, 1, 0] rfl)
        · replace hf := ifp hc hf
          refine lv_aload_n hx hb dX6_someRequest_18 rfl (lv_at hl 0 rfl) ?_
          refine lv_iload_n hx hb dX6_someRequest_19 rfl (lv_at hl 3 rfl) ?_
          obtain ⟨q20, e20, hf⟩ := bnd hf
          refine callVI X (k_X6_requestOf l D cI cZ a_t a_t_st a_t_be a_t_so a_t_sv  v_t_st x3_4 q20 e20) (cwV 1 X.1.2.2.2.2 gX6_someRequest_X6_requestOf rfl rfl rfl kd_X6_requestOf ⟨Nat.le_of_ble_eq_true rfl, Nat.le_of_ble_eq_true rfl⟩) hP hD hS hl.1 0 6 rfl rfl [0, 1] (by decide) (wo_X6_someRequest cI cZ a_t a_t_st a_t_be a_t_so a_t_sv v_t_st) rfl rfl rfl rfl rfl (rest := []) rfl (Nat.le_of_ble_eq_true rfl) dX6_someRequest_20 ⟨Nat.zero_le _, Nat.zero_le _⟩ (fun H locs hP hD hS => ?_)
          refine lv_iload_n hx hb dX6_someRequest_23 rfl (lv_at hl 1 rfl) ?_
          refine lv_icmp_ne (tgt := 31) hx hb dX6_someRequest_24 (by decide) (fun hc => ?_) (fun hc => ?_)
          · replace hf := ifn hc hf
            refine lv_iconst hx hb dX6_someRequest_31 ic_0 ?_
            refine lv_istore_n (lv' := [(2, .int 0), (0, .ref a_t), (1, .int p1), (3, .int x3_4)]) hx hb dX6_someRequest_32 rfl hl (by decide) rfl (fun ls hl => ?_)
            refine lv_iinc (v := (x3_4 + nI 1)) (lv' := [(3, .int (x3_4 + nI 1)), (2, .int 0), (0, .ref a_t), (1, .int p1)]) hx hb dX6_someRequest_33 hl (k := 3) rfl (inc_1 _) (by decide) rfl (fun ls hl => ?_)
            refine lv_goto (tgt := 4) hx hb dX6_someRequest_36 (by decide) ?_
            exact ih _ _ _ _ ls hf hP hD hS (lv_sub hl [2, 3, 1, 0] rfl)
          · replace hf := ifp hc hf
            refine lv_iconst hx hb dX6_someRequest_27 ic_1 ?_
            refine lv_goto (tgt := 32) hx hb dX6_someRequest_28 (by decide) ?_
            refine lv_istore_n (lv' := [(2, .int (nI 1)), (0, .ref a_t), (1, .int p1), (3, .int x3_4)]) hx hb dX6_someRequest_32 rfl hl (by decide) rfl (fun ls hl => ?_)
            refine lv_iinc (v := (x3_4 + nI 1)) (lv' := [(3, .int (x3_4 + nI 1)), (2, .int (nI 1)), (0, .ref a_t), (1, .int p1)]) hx hb dX6_someRequest_33 hl (k := 3) rfl (inc_1 _) (by decide) rfl (fun ls hl => ?_)
            refine lv_goto (tgt := 4) hx hb dX6_someRequest_36 (by decide) ?_
            exact ih _ _ _ _ ls hf hP hD hS (lv_sub hl [2, 3, 1, 0] rfl)
  unfold fX6_someRequest at hf
  refine lv_iconst hx hb dX6_someRequest_0 ic_0 ?_
  refine lv_istore_n (lv' := [(2, .int 0), (0, .ref a_t), (1, .int p1)]) hx hb dX6_someRequest_1 rfl hl (by decide) rfl (fun ls hl => ?_)
  refine lv_iconst hx hb dX6_someRequest_2 ic_0 ?_
  refine lv_istore_n (lv' := [(3, .int 0), (2, .int 0), (0, .ref a_t), (1, .int p1)]) hx hb dX6_someRequest_3 rfl hl (by decide) rfl (fun ls hl => ?_)
  refine L4 _ (fun x2_4 x3_4 H locs ls hf hP hD hS hl => ?_) FU _ _ _ _ ls hf hP hD hS (lv_sub hl [2, 3, 1, 0] rfl)
  refine lv_iload_n hx hb dX6_someRequest_39 rfl (lv_at hl 0 rfl) ?_
  exact retB X hS hP (retZ_nar hf) (retZ_spec hf) dX6_someRequest_40

abbrev wo_X6_someSwitch (cI cZ : ClassId) (a_t a_t_st a_t_be a_t_so a_t_sv : Nat) (v_t_st : Nat → Int32) : va_W := [(a_t, oX6 a_t_st a_t_be a_t_so a_t_sv), (a_t_st, rI cI 164 v_t_st)]
def fX6_someSwitch_L4 (v_t_st : Nat → Int32) (p1 : Int32) (K : Int32 → Int32 → Option (Bool)) : Nat → Int32 → Int32 → Option (Bool)
  | 0, _, _ => none
  | k + 1, x2_4, x3_4 => (if (v_t_st 0) ≤ x3_4 then (K x2_4 x3_4) else (if x2_4 = 0 then ((fX6_of v_t_st x3_4 (nI 6)).bind (fun q22 => (if q22 = p1 then (fX6_someSwitch_L4 v_t_st p1 K k (nI 1) (x3_4 + nI 1)) else (fX6_someSwitch_L4 v_t_st p1 K k 0 (x3_4 + nI 1))))) else (fX6_someSwitch_L4 v_t_st p1 K k (nI 1) (x3_4 + nI 1))))
def fX6_someSwitch (v_t_st : Nat → Int32) (p1 : Int32) : Option (Bool) := (fX6_someSwitch_L4 v_t_st p1 (fun x2_4 x3_4 => (retZ x2_4)) FU 0 0)
theorem kd_X6_someSwitch : yX6_someSwitch.cls = RX6 ∧ yX6_someSwitch.cls ≠ "java/lang/invoke/MethodHandle" ∧ yX6_someSwitch.cls ≠ "java/lang/invoke/VarHandle" ∧ (parseMethodDescriptor yX6_someSwitch.desc).map (fun d => d.parameters.length) = some 1 := by decide +kernel
def rm_X6_someSwitch : Room := { frames := 2, cells := 0, slots := 0, locals := 43 }
set_option maxHeartbeats 4000000 in
set_option maxRecDepth 100000 in
theorem k_X6_someSwitch (l : Launch) (D : va_G) (cI cZ : ClassId) (a_t a_t_st a_t_be a_t_so a_t_sv : Nat) (v_t_st : Nat → Int32) (p1 : Int32) (q : Bool) (hf : fX6_someSwitch v_t_st p1 = some q) : CI l D cI cZ yX6_someSwitch wsX6_someSwitch rm_X6_someSwitch [.ref a_t, .int p1] (wo_X6_someSwitch cI cZ a_t a_t_st a_t_be a_t_so a_t_sv v_t_st) (wo_X6_someSwitch cI cZ a_t a_t_st a_t_be a_t_so a_t_sv v_t_st) (b2i q) := by
  refine CI.mk (cc := cX6_someSwitch) (maxL := 4) (by decide) rfl (Nat.le_of_ble_eq_true rfl) ?_
  intro p e s m below meth c ls A X hP hD hl hS
  have hx := X.1.1
  have hb := X.1.2.1
  have hl : lv_has ls 4 [(0, .ref a_t), (1, .int p1)] := hl
  have inX6 : ∀ w ∈ u_ws RX6 TX6 4, w ∈ wsX6_someSwitch := fun _ h => List.mem_cons_of_mem _ (List.mem_append_right _ h)
  have L4 : ∀ (K : Int32 → Int32 → Option (Bool)) (hKK : ∀ (x2_4 : Int32) (x3_4 : Int32) (H : Heap) (locs : List Loc) (ls : Array Slot), K x2_4 x3_4 = some q → va_P D vwCl (wo_X6_someSwitch cI cZ a_t a_t_st a_t_be a_t_so a_t_sv v_t_st) H → va_D A (wo_X6_someSwitch cI cZ a_t a_t_st a_t_be a_t_so a_t_sv v_t_st) → va_S A s.heap H locs → lv_has ls 4 [(2, .int x2_4)] → W p l e rm_X6_someSwitch s m ([.ref a_t, .int p1] : List Value).toArray below meth c H locs 0 0 (MQ below (QI D (wo_X6_someSwitch cI cZ a_t a_t_st a_t_be a_t_so a_t_sv v_t_st) (b2i q) A) ([.ref a_t, .int p1] : List Value).toArray s 0 0 A) (F0 m 41 ls [])) (k : Nat) (x2_4 : Int32) (x3_4 : Int32) (H : Heap) (locs : List Loc) (ls : Array Slot), fX6_someSwitch_L4 v_t_st p1 K k x2_4 x3_4 = some q → va_P D vwCl (wo_X6_someSwitch cI cZ a_t a_t_st a_t_be a_t_so a_t_sv v_t_st) H → va_D A (wo_X6_someSwitch cI cZ a_t a_t_st a_t_be a_t_so a_t_sv v_t_st) → va_S A s.heap H locs → lv_has ls 4 [(0, .ref a_t), (1, .int p1), (2, .int x2_4), (3, .int x3_4)] → W p l e rm_X6_someSwitch s m ([.ref a_t, .int p1] : List Value).toArray below meth c H locs 0 0 (MQ below (QI D (wo_X6_someSwitch cI cZ a_t a_t_st a_t_be a_t_so a_t_sv v_t_st) (b2i q) A) ([.ref a_t, .int p1] : List Value).toArray s 0 0 A) (F0 m 4 ls []) := by
    intro K hKK k
    induction k with
    | zero => intro x2_4 x3_4 H locs ls hf; rw [fX6_someSwitch_L4] at hf; cases hf
    | succ k ih =>
      intro x2_4 x3_4 H locs ls hf hP hD hS hl
      rw [fX6_someSwitch_L4] at hf
      refine lv_iload_n hx hb dX6_someSwitch_4 rfl (lv_at hl 3 rfl) ?_
      refine lv_aload_n hx hb dX6_someSwitch_5 rfl (lv_at hl 0 rfl) ?_
      refine getO X hP inX6 0 rfl rfl 0 (by decide) (List.mem_of_getElem? (i := 1) rfl) rfl dX6_someSwitch_6 ?_
      refine lv_iconst hx hb dX6_someSwitch_9 ic_0 ?_
      refine aldI X hP 1 rfl (vin0 (by decide) (by decide)) (j := 0) sb_cl0 dX6_someSwitch_10 ?_
      refine lv_icmp_ge (tgt := 41) hx hb dX6_someSwitch_11 (by decide) (fun hc => ?_) (fun hc => ?_)
      · replace hf := ifp hc hf
        exact hKK _ _ _ _ ls hf hP hD hS (lv_sub hl [2] rfl)
      · replace hf := ifn hc hf
        refine lv_iload_n hx hb dX6_someSwitch_14 rfl (lv_at hl 2 rfl) ?_
        refine lv_if_ne (tgt := 29) hx hb dX6_someSwitch_15 (by decide) (fun hc => ?_) (fun hc => ?_)
        · replace hf := ifn hc hf
          refine lv_iconst hx hb dX6_someSwitch_29 ic_1 ?_
          refine lv_goto (tgt := 34) hx hb dX6_someSwitch_30 (by decide) ?_
          refine lv_istore_n (lv' := [(2, .int (nI 1)), (0, .ref a_t), (1, .int p1), (3, .int x3_4)]) hx hb dX6_someSwitch_34 rfl hl (by decide) rfl (fun ls hl => ?_)
          refine lv_iinc (v := (x3_4 + nI 1)) (lv' := [(3, .int (x3_4 + nI 1)), (2, .int (nI 1)), (0, .ref a_t), (1, .int p1)]) hx hb dX6_someSwitch_35 hl (k := 3) rfl (inc_1 _) (by decide) rfl (fun ls hl => ?_)
          refine lv_goto (tgt := 4) hx hb dX6_someSwitch_38 (by decide) ?_
          exact ih _ _ _ _ ls hf hP hD hS (lv_sub hl [2, 3, 1, 0] rfl)
        · replace hf := ifp hc hf
          refine lv_aload_n hx hb dX6_someSwitch_18 rfl (lv_at hl 0 rfl) ?_
          refine lv_iload_n hx hb dX6_someSwitch_19 rfl (lv_at hl 3 rfl) ?_
          refine lv_bipush hx hb dX6_someSwitch_20 bp_6 ?_
          obtain ⟨q22, e22, hf⟩ := bnd hf
          refine callVI X (k_X6_of l D cI cZ a_t a_t_st a_t_be a_t_so a_t_sv  v_t_st x3_4 (nI 6) q22 e22) (cwV 2 X.1.2.2.2.2 gX6_someSwitch_X6_of rfl rfl rfl kd_X6_of ⟨Nat.le_of_ble_eq_true rfl, Nat.le_of_ble_eq_true rfl⟩) hP hD hS hl.1 0 6 rfl rfl [0, 1] (by decide) (wo_X6_someSwitch cI cZ a_t a_t_st a_t_be a_t_so a_t_sv v_t_st) rfl rfl rfl rfl rfl (rest := []) rfl (Nat.le_of_ble_eq_true rfl) dX6_someSwitch_22 ⟨Nat.zero_le _, Nat.zero_le _⟩ (fun H locs hP hD hS => ?_)
          refine lv_iload_n hx hb dX6_someSwitch_25 rfl (lv_at hl 1 rfl) ?_
          refine lv_icmp_ne (tgt := 33) hx hb dX6_someSwitch_26 (by decide) (fun hc => ?_) (fun hc => ?_)
          · replace hf := ifn hc hf
            refine lv_iconst hx hb dX6_someSwitch_33 ic_0 ?_
            refine lv_istore_n (lv' := [(2, .int 0), (0, .ref a_t), (1, .int p1), (3, .int x3_4)]) hx hb dX6_someSwitch_34 rfl hl (by decide) rfl (fun ls hl => ?_)
            refine lv_iinc (v := (x3_4 + nI 1)) (lv' := [(3, .int (x3_4 + nI 1)), (2, .int 0), (0, .ref a_t), (1, .int p1)]) hx hb dX6_someSwitch_35 hl (k := 3) rfl (inc_1 _) (by decide) rfl (fun ls hl => ?_)
            refine lv_goto (tgt := 4) hx hb dX6_someSwitch_38 (by decide) ?_
            exact ih _ _ _ _ ls hf hP hD hS (lv_sub hl [2, 3, 1, 0] rfl)
          · replace hf := ifp hc hf
            refine lv_iconst hx hb dX6_someSwitch_29 ic_1 ?_
            refine lv_goto (tgt := 34) hx hb dX6_someSwitch_30 (by decide) ?_
            refine lv_istore_n (lv' := [(2, .int (nI 1)), (0, .ref a_t), (1, .int p1), (3, .int x3_4)]) hx hb dX6_someSwitch_34 rfl hl (by decide) rfl (fun ls hl => ?_)
            refine lv_iinc (v := (x3_4 + nI 1)) (lv' := [(3, .int (x3_4 + nI 1)), (2, .int (nI 1)), (0, .ref a_t), (1, .int p1)]) hx hb dX6_someSwitch_35 hl (k := 3) rfl (inc_1 _) (by decide) rfl (fun ls hl => ?_)
            refine lv_goto (tgt := 4) hx hb dX6_someSwitch_38 (by decide) ?_
            exact ih _ _ _ _ ls hf hP hD hS (lv_sub hl [2, 3, 1, 0] rfl)
  unfold fX6_someSwitch at hf
  refine lv_iconst hx hb dX6_someSwitch_0 ic_0 ?_
  refine lv_istore_n (lv' := [(2, .int 0), (0, .ref a_t), (1, .int p1)]) hx hb dX6_someSwitch_1 rfl hl (by decide) rfl (fun ls hl => ?_)
  refine lv_iconst hx hb dX6_someSwitch_2 ic_0 ?_
  refine lv_istore_n (lv' := [(3, .int 0), (2, .int 0), (0, .ref a_t), (1, .int p1)]) hx hb dX6_someSwitch_3 rfl hl (by decide) rfl (fun ls hl => ?_)
  refine L4 _ (fun x2_4 x3_4 H locs ls hf hP hD hS hl => ?_) FU _ _ _ _ ls hf hP hD hS (lv_sub hl [2, 3, 1, 0] rfl)
  refine lv_iload_n hx hb dX6_someSwitch_41 rfl (lv_at hl 0 rfl) ?_
  exact retB X hS hP (retZ_nar hf) (retZ_spec hf) dX6_someSwitch_42

abbrev wo_X6_grantFor (cI cZ : ClassId) (a_t a_t_st a_t_be a_t_so a_t_sv : Nat) (v_t_st : Nat → Int32) : va_W := [(a_t, oX6 a_t_st a_t_be a_t_so a_t_sv), (a_t_st, rI cI 164 v_t_st)]
def fX6_grantFor (v_t_st : Nat → Int32) (p1 : Int32) : Option (Int32) := ((fX6_someRequest v_t_st (nI 9)).bind (fun q3 => ((fX6_someSwitch v_t_st (nI 1)).bind (fun q9 => ((fX6_someSwitch v_t_st (nI 2)).bind (fun q15 => (if p1 = nI 1 then (if q15 = true then (some 0) else (some (nI 1))) else (if p1 = nI 2 then (if q3 = true then (some 0) else (if q9 = true then (some 0) else (if q15 = true then (some 0) else (some (nI 2))))) else (if p1 = nI 3 then (if q15 = true then (some 0) else (some (nI 1))) else (if p1 = nI 4 then (if q3 = true then (some 0) else (if q9 = true then (some 0) else (if q15 = true then (some 0) else (some (nI 2))))) else (if p1 = nI 5 then (if q15 = true then (some 0) else (some (nI 1))) else (if p1 = nI 6 then (if q3 = true then (some 0) else (if q9 = true then (some 0) else (some (nI 2)))) else (if p1 = nI 7 then (if q15 = true then (some 0) else (some (nI 1))) else (if p1 = nI 8 then (if q3 = true then (some 0) else (if q9 = true then (some 0) else (some (nI 2)))) else (some 0)))))))))))))))
theorem kd_X6_grantFor : yX6_grantFor.cls = RX6 ∧ yX6_grantFor.cls ≠ "java/lang/invoke/MethodHandle" ∧ yX6_grantFor.cls ≠ "java/lang/invoke/VarHandle" ∧ (parseMethodDescriptor yX6_grantFor.desc).map (fun d => d.parameters.length) = some 1 := by decide +kernel
def rm_X6_grantFor : Room := { frames := 6, cells := 0, slots := 0, locals := 137 }
set_option maxHeartbeats 4000000 in
set_option maxRecDepth 100000 in
theorem k_X6_grantFor (l : Launch) (D : va_G) (cI cZ : ClassId) (a_t a_t_st a_t_be a_t_so a_t_sv : Nat) (v_t_st : Nat → Int32) (p1 : Int32) (q : Int32) (hf : fX6_grantFor v_t_st p1 = some q) : CI l D cI cZ yX6_grantFor wsX6_grantFor rm_X6_grantFor [.ref a_t, .int p1] (wo_X6_grantFor cI cZ a_t a_t_st a_t_be a_t_so a_t_sv v_t_st) (wo_X6_grantFor cI cZ a_t a_t_st a_t_be a_t_so a_t_sv v_t_st) q := by
  refine CI.mk (cc := cX6_grantFor) (maxL := 5) (by decide) rfl (Nat.le_of_ble_eq_true rfl) ?_
  intro p e s m below meth c ls A X hP hD hl hS
  have hx := X.1.1
  have hb := X.1.2.1
  have hl : lv_has ls 5 [(0, .ref a_t), (1, .int p1)] := hl
  unfold fX6_grantFor at hf
  refine lv_aload_n hx hb dX6_grantFor_0 rfl (lv_at hl 0 rfl) ?_
  refine lv_bipush hx hb dX6_grantFor_1 bp_9 ?_
  obtain ⟨q3, e3, hf⟩ := bnd hf
  refine callVI X (k_X6_someRequest l D cI cZ a_t a_t_st a_t_be a_t_so a_t_sv  v_t_st (nI 9) q3 e3) (cwV 1 X.1.2.2.2.2 gX6_grantFor_X6_someRequest rfl rfl rfl kd_X6_someRequest ⟨Nat.le_of_ble_eq_true rfl, Nat.le_of_ble_eq_true rfl⟩) hP hD hS hl.1 0 6 rfl rfl [0, 1] (by decide) (wo_X6_grantFor cI cZ a_t a_t_st a_t_be a_t_so a_t_sv v_t_st) rfl rfl rfl rfl rfl (rest := []) rfl (Nat.le_of_ble_eq_true rfl) dX6_grantFor_3 ⟨Nat.zero_le _, Nat.zero_le _⟩ (fun H locs hP hD hS => ?_)
  refine lv_istore_n (lv' := [(2, .int (b2i q3)), (0, .ref a_t), (1, .int p1)]) hx hb dX6_grantFor_6 rfl hl (by decide) rfl (fun ls hl => ?_)
  refine lv_aload_n hx hb dX6_grantFor_7 rfl (lv_at hl 1 rfl) ?_
  refine lv_iconst hx hb dX6_grantFor_8 ic_1 ?_
  obtain ⟨q9, e9, hf⟩ := bnd hf
  refine callVI X (k_X6_someSwitch l D cI cZ a_t a_t_st a_t_be a_t_so a_t_sv  v_t_st (nI 1) q9 e9) (cwV 1 X.1.2.2.2.2 gX6_grantFor_X6_someSwitch rfl rfl rfl kd_X6_someSwitch ⟨Nat.le_of_ble_eq_true rfl, Nat.le_of_ble_eq_true rfl⟩) hP hD hS hl.1 0 6 rfl rfl [0, 1] (by decide) (wo_X6_grantFor cI cZ a_t a_t_st a_t_be a_t_so a_t_sv v_t_st) rfl rfl rfl rfl rfl (rest := []) rfl (Nat.le_of_ble_eq_true rfl) dX6_grantFor_9 ⟨Nat.zero_le _, Nat.zero_le _⟩ (fun H locs hP hD hS => ?_)
  refine lv_istore_n (lv' := [(3, .int (b2i q9)), (2, .int (b2i q3)), (0, .ref a_t), (1, .int p1)]) hx hb dX6_grantFor_12 rfl hl (by decide) rfl (fun ls hl => ?_)
  refine lv_aload_n hx hb dX6_grantFor_13 rfl (lv_at hl 2 rfl) ?_
  refine lv_iconst hx hb dX6_grantFor_14 ic_2 ?_
  obtain ⟨q15, e15, hf⟩ := bnd hf
  refine callVI X (k_X6_someSwitch l D cI cZ a_t a_t_st a_t_be a_t_so a_t_sv  v_t_st (nI 2) q15 e15) (cwV 1 X.1.2.2.2.2 gX6_grantFor_X6_someSwitch rfl rfl rfl kd_X6_someSwitch ⟨Nat.le_of_ble_eq_true rfl, Nat.le_of_ble_eq_true rfl⟩) hP hD hS hl.1 0 6 rfl rfl [0, 1] (by decide) (wo_X6_grantFor cI cZ a_t a_t_st a_t_be a_t_so a_t_sv v_t_st) rfl rfl rfl rfl rfl (rest := []) rfl (Nat.le_of_ble_eq_true rfl) dX6_grantFor_15 ⟨Nat.zero_le _, Nat.zero_le _⟩ (fun H locs hP hD hS => ?_)
  refine lv_istore (lv' := [(4, .int (b2i q15)), (3, .int (b2i q9)), (2, .int (b2i q3)), (0, .ref a_t), (1, .int p1)]) hx hb dX6_grantFor_18 hl (by decide) rfl (fun ls hl => ?_)
  refine lv_iload_n hx hb dX6_grantFor_20 rfl (lv_at hl 4 rfl) ?_
  by_cases c1 : p1 = nI 1
  · replace hf := ifp c1 hf
    refine lv_tableIn (x := p1) (off := 80) (tgt := 101) hx hb dX6_grantFor_21 (by rw [c1]; decide) (by rw [c1]; decide) (by rw [c1]; decide +kernel) (by decide) ?_
    refine lv_iload hx hb dX6_grantFor_101 (lv_at hl 0 rfl) ?_
    refine lv_if_eq (tgt := 110) hx hb dX6_grantFor_103 (by decide) (fun hc => ?_) (fun hc => ?_)
    · replace hf := ifn (b2i_z hc) hf
      refine lv_iconst hx hb dX6_grantFor_110 ic_1 ?_
      obtain rfl := Option.some.inj hf
      exact retI X hS hP rfl dX6_grantFor_111
    · replace hf := ifp (b2i_nz hc) hf
      refine lv_iconst hx hb dX6_grantFor_106 ic_0 ?_
      refine lv_goto (tgt := 111) hx hb dX6_grantFor_107 (by decide) ?_
      obtain rfl := Option.some.inj hf
      exact retI X hS hP rfl dX6_grantFor_111
  replace hf := ifn c1 hf
  by_cases c2 : p1 = nI 2
  · replace hf := ifp c2 hf
    refine lv_tableIn (x := p1) (off := 61) (tgt := 82) hx hb dX6_grantFor_21 (by rw [c2]; decide) (by rw [c2]; decide) (by rw [c2]; decide +kernel) (by decide) ?_
    refine lv_iload_n hx hb dX6_grantFor_82 rfl (lv_at hl 2 rfl) ?_
    refine lv_if_ne (tgt := 95) hx hb dX6_grantFor_83 (by decide) (fun hc => ?_) (fun hc => ?_)
    · replace hf := ifp (b2i_nz hc) hf
      refine lv_iconst hx hb dX6_grantFor_95 ic_0 ?_
      refine lv_goto (tgt := 100) hx hb dX6_grantFor_96 (by decide) ?_
      obtain rfl := Option.some.inj hf
      exact retI X hS hP rfl dX6_grantFor_100
    · replace hf := ifn (b2i_z hc) hf
      refine lv_iload_n hx hb dX6_grantFor_86 rfl (lv_at hl 1 rfl) ?_
      refine lv_if_ne (tgt := 95) hx hb dX6_grantFor_87 (by decide) (fun hc => ?_) (fun hc => ?_)
      · replace hf := ifp (b2i_nz hc) hf
        refine lv_iconst hx hb dX6_grantFor_95 ic_0 ?_
        refine lv_goto (tgt := 100) hx hb dX6_grantFor_96 (by decide) ?_
        obtain rfl := Option.some.inj hf
        exact retI X hS hP rfl dX6_grantFor_100
      · replace hf := ifn (b2i_z hc) hf
        refine lv_iload hx hb dX6_grantFor_90 (lv_at hl 0 rfl) ?_
        refine lv_if_eq (tgt := 99) hx hb dX6_grantFor_92 (by decide) (fun hc => ?_) (fun hc => ?_)
        · replace hf := ifn (b2i_z hc) hf
          refine lv_iconst hx hb dX6_grantFor_99 ic_2 ?_
          obtain rfl := Option.some.inj hf
          exact retI X hS hP rfl dX6_grantFor_100
        · replace hf := ifp (b2i_nz hc) hf
          refine lv_iconst hx hb dX6_grantFor_95 ic_0 ?_
          refine lv_goto (tgt := 100) hx hb dX6_grantFor_96 (by decide) ?_
          obtain rfl := Option.some.inj hf
          exact retI X hS hP rfl dX6_grantFor_100
  replace hf := ifn c2 hf
  by_cases c3 : p1 = nI 3
  · replace hf := ifp c3 hf
    refine lv_tableIn (x := p1) (off := 80) (tgt := 101) hx hb dX6_grantFor_21 (by rw [c3]; decide) (by rw [c3]; decide) (by rw [c3]; decide +kernel) (by decide) ?_
    refine lv_iload hx hb dX6_grantFor_101 (lv_at hl 0 rfl) ?_
    refine lv_if_eq (tgt := 110) hx hb dX6_grantFor_103 (by decide) (fun hc => ?_) (fun hc => ?_)
    · replace hf := ifn (b2i_z hc) hf
      refine lv_iconst hx hb dX6_grantFor_110 ic_1 ?_
      obtain rfl := Option.some.inj hf
      exact retI X hS hP rfl dX6_grantFor_111
    · replace hf := ifp (b2i_nz hc) hf
      refine lv_iconst hx hb dX6_grantFor_106 ic_0 ?_
      refine lv_goto (tgt := 111) hx hb dX6_grantFor_107 (by decide) ?_
      obtain rfl := Option.some.inj hf
      exact retI X hS hP rfl dX6_grantFor_111
  replace hf := ifn c3 hf
  by_cases c4 : p1 = nI 4
  · replace hf := ifp c4 hf
    refine lv_tableIn (x := p1) (off := 61) (tgt := 82) hx hb dX6_grantFor_21 (by rw [c4]; decide) (by rw [c4]; decide) (by rw [c4]; decide +kernel) (by decide) ?_
    refine lv_iload_n hx hb dX6_grantFor_82 rfl (lv_at hl 2 rfl) ?_
    refine lv_if_ne (tgt := 95) hx hb dX6_grantFor_83 (by decide) (fun hc => ?_) (fun hc => ?_)
    · replace hf := ifp (b2i_nz hc) hf
      refine lv_iconst hx hb dX6_grantFor_95 ic_0 ?_
      refine lv_goto (tgt := 100) hx hb dX6_grantFor_96 (by decide) ?_
      obtain rfl := Option.some.inj hf
      exact retI X hS hP rfl dX6_grantFor_100
    · replace hf := ifn (b2i_z hc) hf
      refine lv_iload_n hx hb dX6_grantFor_86 rfl (lv_at hl 1 rfl) ?_
      refine lv_if_ne (tgt := 95) hx hb dX6_grantFor_87 (by decide) (fun hc => ?_) (fun hc => ?_)
      · replace hf := ifp (b2i_nz hc) hf
        refine lv_iconst hx hb dX6_grantFor_95 ic_0 ?_
        refine lv_goto (tgt := 100) hx hb dX6_grantFor_96 (by decide) ?_
        obtain rfl := Option.some.inj hf
        exact retI X hS hP rfl dX6_grantFor_100
      · replace hf := ifn (b2i_z hc) hf
        refine lv_iload hx hb dX6_grantFor_90 (lv_at hl 0 rfl) ?_
        refine lv_if_eq (tgt := 99) hx hb dX6_grantFor_92 (by decide) (fun hc => ?_) (fun hc => ?_)
        · replace hf := ifn (b2i_z hc) hf
          refine lv_iconst hx hb dX6_grantFor_99 ic_2 ?_
          obtain rfl := Option.some.inj hf
          exact retI X hS hP rfl dX6_grantFor_100
        · replace hf := ifp (b2i_nz hc) hf
          refine lv_iconst hx hb dX6_grantFor_95 ic_0 ?_
          refine lv_goto (tgt := 100) hx hb dX6_grantFor_96 (by decide) ?_
          obtain rfl := Option.some.inj hf
          exact retI X hS hP rfl dX6_grantFor_100
  replace hf := ifn c4 hf
  by_cases c5 : p1 = nI 5
  · replace hf := ifp c5 hf
    refine lv_tableIn (x := p1) (off := 80) (tgt := 101) hx hb dX6_grantFor_21 (by rw [c5]; decide) (by rw [c5]; decide) (by rw [c5]; decide +kernel) (by decide) ?_
    refine lv_iload hx hb dX6_grantFor_101 (lv_at hl 0 rfl) ?_
    refine lv_if_eq (tgt := 110) hx hb dX6_grantFor_103 (by decide) (fun hc => ?_) (fun hc => ?_)
    · replace hf := ifn (b2i_z hc) hf
      refine lv_iconst hx hb dX6_grantFor_110 ic_1 ?_
      obtain rfl := Option.some.inj hf
      exact retI X hS hP rfl dX6_grantFor_111
    · replace hf := ifp (b2i_nz hc) hf
      refine lv_iconst hx hb dX6_grantFor_106 ic_0 ?_
      refine lv_goto (tgt := 111) hx hb dX6_grantFor_107 (by decide) ?_
      obtain rfl := Option.some.inj hf
      exact retI X hS hP rfl dX6_grantFor_111
  replace hf := ifn c5 hf
  by_cases c6 : p1 = nI 6
  · replace hf := ifp c6 hf
    refine lv_tableIn (x := p1) (off := 47) (tgt := 68) hx hb dX6_grantFor_21 (by rw [c6]; decide) (by rw [c6]; decide) (by rw [c6]; decide +kernel) (by decide) ?_
    refine lv_iload_n hx hb dX6_grantFor_68 rfl (lv_at hl 2 rfl) ?_
    refine lv_if_ne (tgt := 76) hx hb dX6_grantFor_69 (by decide) (fun hc => ?_) (fun hc => ?_)
    · replace hf := ifp (b2i_nz hc) hf
      refine lv_iconst hx hb dX6_grantFor_76 ic_0 ?_
      refine lv_goto (tgt := 81) hx hb dX6_grantFor_77 (by decide) ?_
      obtain rfl := Option.some.inj hf
      exact retI X hS hP rfl dX6_grantFor_81
    · replace hf := ifn (b2i_z hc) hf
      refine lv_iload_n hx hb dX6_grantFor_72 rfl (lv_at hl 1 rfl) ?_
      refine lv_if_eq (tgt := 80) hx hb dX6_grantFor_73 (by decide) (fun hc => ?_) (fun hc => ?_)
      · replace hf := ifn (b2i_z hc) hf
        refine lv_iconst hx hb dX6_grantFor_80 ic_2 ?_
        obtain rfl := Option.some.inj hf
        exact retI X hS hP rfl dX6_grantFor_81
      · replace hf := ifp (b2i_nz hc) hf
        refine lv_iconst hx hb dX6_grantFor_76 ic_0 ?_
        refine lv_goto (tgt := 81) hx hb dX6_grantFor_77 (by decide) ?_
        obtain rfl := Option.some.inj hf
        exact retI X hS hP rfl dX6_grantFor_81
  replace hf := ifn c6 hf
  by_cases c7 : p1 = nI 7
  · replace hf := ifp c7 hf
    refine lv_tableIn (x := p1) (off := 80) (tgt := 101) hx hb dX6_grantFor_21 (by rw [c7]; decide) (by rw [c7]; decide) (by rw [c7]; decide +kernel) (by decide) ?_
    refine lv_iload hx hb dX6_grantFor_101 (lv_at hl 0 rfl) ?_
    refine lv_if_eq (tgt := 110) hx hb dX6_grantFor_103 (by decide) (fun hc => ?_) (fun hc => ?_)
    · replace hf := ifn (b2i_z hc) hf
      refine lv_iconst hx hb dX6_grantFor_110 ic_1 ?_
      obtain rfl := Option.some.inj hf
      exact retI X hS hP rfl dX6_grantFor_111
    · replace hf := ifp (b2i_nz hc) hf
      refine lv_iconst hx hb dX6_grantFor_106 ic_0 ?_
      refine lv_goto (tgt := 111) hx hb dX6_grantFor_107 (by decide) ?_
      obtain rfl := Option.some.inj hf
      exact retI X hS hP rfl dX6_grantFor_111
  replace hf := ifn c7 hf
  by_cases c8 : p1 = nI 8
  · replace hf := ifp c8 hf
    refine lv_tableIn (x := p1) (off := 47) (tgt := 68) hx hb dX6_grantFor_21 (by rw [c8]; decide) (by rw [c8]; decide) (by rw [c8]; decide +kernel) (by decide) ?_
    refine lv_iload_n hx hb dX6_grantFor_68 rfl (lv_at hl 2 rfl) ?_
    refine lv_if_ne (tgt := 76) hx hb dX6_grantFor_69 (by decide) (fun hc => ?_) (fun hc => ?_)
    · replace hf := ifp (b2i_nz hc) hf
      refine lv_iconst hx hb dX6_grantFor_76 ic_0 ?_
      refine lv_goto (tgt := 81) hx hb dX6_grantFor_77 (by decide) ?_
      obtain rfl := Option.some.inj hf
      exact retI X hS hP rfl dX6_grantFor_81
    · replace hf := ifn (b2i_z hc) hf
      refine lv_iload_n hx hb dX6_grantFor_72 rfl (lv_at hl 1 rfl) ?_
      refine lv_if_eq (tgt := 80) hx hb dX6_grantFor_73 (by decide) (fun hc => ?_) (fun hc => ?_)
      · replace hf := ifn (b2i_z hc) hf
        refine lv_iconst hx hb dX6_grantFor_80 ic_2 ?_
        obtain rfl := Option.some.inj hf
        exact retI X hS hP rfl dX6_grantFor_81
      · replace hf := ifp (b2i_nz hc) hf
        refine lv_iconst hx hb dX6_grantFor_76 ic_0 ?_
        refine lv_goto (tgt := 81) hx hb dX6_grantFor_77 (by decide) ?_
        obtain rfl := Option.some.inj hf
        exact retI X hS hP rfl dX6_grantFor_81
  replace hf := ifn c8 hf
  refine lv_tableOut (x := p1) (tgt := 112) hx hb dX6_grantFor_21 (by have n1 := tnz (n := 1) (by decide) c1; have n2 := tnz (n := 2) (by decide) c2; have n3 := tnz (n := 3) (by decide) c3; have n4 := tnz (n := 4) (by decide) c4; have n5 := tnz (n := 5) (by decide) c5; have n6 := tnz (n := 6) (by decide) c6; have n7 := tnz (n := 7) (by decide) c7; have n8 := tnz (n := 8) (by decide) c8; omega) (by decide) ?_
  refine lv_iconst hx hb dX6_grantFor_112 ic_0 ?_
  obtain rfl := Option.some.inj hf
  exact retI X hS hP rfl dX6_grantFor_113

abbrev wo_X6_control (cI cZ : ClassId) (a_t a_t_st a_t_be a_t_so a_t_sv : Nat) (v_t_st : Nat → Int32) : va_W := [(a_t, oX6 a_t_st a_t_be a_t_so a_t_sv), (a_t_st, rI cI 164 v_t_st)]
def fX6_control_L62  (K : Int32 → Int32 → (Nat → Int32) → Option ((Nat → Int32))) : Nat → Int32 → Int32 → (Nat → Int32) → Option ((Nat → Int32))
  | 0, _, _, _ => none
  | k + 1, x1_62, x2_62, v_t_st_62 => (if (v_t_st_62 0) ≤ x2_62 then (K x1_62 x2_62 v_t_st_62) else ((fX6_requestOf v_t_st_62 x2_62).bind (fun q74 => (if q74 = x1_62 then ((fX6_at x2_62 (nI 6)).bind (fun q88 => ((fX6_grantFor v_t_st_62 x1_62).bind (fun q93 => (if (q88 < 0 ∨ 164 ≤ (q88).toNatClampNeg) then none else (fX6_control_L62 K k x1_62 (x2_62 + nI 1) (upd v_t_st_62 (q88).toNatClampNeg q93))))))) else (fX6_control_L62 K k x1_62 (x2_62 + nI 1) v_t_st_62)))))
def fX6_control_L111  (K : Int32 → (Nat → Int32) → Option ((Nat → Int32))) : Nat → Int32 → (Nat → Int32) → Option ((Nat → Int32))
  | 0, _, _ => none
  | k + 1, x1_111, v_t_st_111 => (if (v_t_st_111 0) ≤ x1_111 then (K x1_111 v_t_st_111) else ((fX6_requestOf v_t_st_111 x1_111).bind (fun q123 => ((if q123 = (nI 1) then (some (nI 1)) else ((fX6_requestOf v_t_st_111 x1_111).bind (fun q132 => (if q132 = (nI 2) then (some (nI 1)) else (some 0))))).bind (fun ph144 => (if ph144 = 0 then (fX6_control_L111 K k (x1_111 + nI 1) v_t_st_111) else ((fX6_of v_t_st_111 x1_111 (nI 6)).bind (fun q153 => (if q153 = 0 then ((fX6_at x1_111 (nI 3)).bind (fun q165 => (if (q165 < 0 ∨ 164 ≤ (q165).toNatClampNeg) then none else (fX6_control_L111 K k (x1_111 + nI 1) (upd v_t_st_111 (q165).toNatClampNeg 0))))) else (fX6_control_L111 K k (x1_111 + nI 1) v_t_st_111))))))))))
def fX6_control_L56  (K : Int32 → (Nat → Int32) → Option ((Nat → Int32))) : Nat → Int32 → (Nat → Int32) → Option ((Nat → Int32))
  | 0, _, _ => none
  | k + 1, x1_56, v_t_st_56 => (if x1_56 ≤ 0 then (K x1_56 v_t_st_56) else (fX6_control_L62  (fun x1_62 x2_62 v_t_st_62 => (fX6_control_L56 K k (x1_62 + (-1)) v_t_st_62)) FU x1_56 0 v_t_st_56))
def fX6_control_L25  (K : Int32 → (Nat → Int32) → Option ((Nat → Int32))) : Nat → Int32 → (Nat → Int32) → Option ((Nat → Int32))
  | 0, _, _ => none
  | k + 1, x1_25, v_t_st_25 => (if (v_t_st_25 0) ≤ x1_25 then (K x1_25 v_t_st_25) else ((fX6_at x1_25 (nI 6)).bind (fun q42 => (if (q42 < 0 ∨ 164 ≤ (q42).toNatClampNeg) then none else (fX6_control_L25 K k (x1_25 + nI 1) (upd v_t_st_25 (q42).toNatClampNeg 0))))))
def fX6_control_L2  (K : Int32 → (Nat → Int32) → Option ((Nat → Int32))) : Nat → Int32 → (Nat → Int32) → Option ((Nat → Int32))
  | 0, _, _ => none
  | k + 1, x1_2, v_t_st_2 => (if (v_t_st_2 0) ≤ x1_2 then (K x1_2 v_t_st_2) else ((fX6_compare v_t_st_2 x1_2).bind (fun q14 => (fX6_control_L2 K k (x1_2 + nI 1) q14))))
def fX6_control (v_t_st : Nat → Int32) : Option ((Nat → Int32)) := (fX6_control_L2  (fun x1_2 v_t_st_2 => (fX6_control_L25  (fun x1_25 v_t_st_25 => (fX6_control_L56  (fun x1_56 v_t_st_56 => (fX6_control_L111  (fun x1_111 v_t_st_111 => (some v_t_st_111)) FU 0 v_t_st_56)) FU (nI 9) v_t_st_25)) FU 0 v_t_st_2)) FU 0 v_t_st)
theorem kd_X6_control : yX6_control.cls = RX6 ∧ yX6_control.cls ≠ "java/lang/invoke/MethodHandle" ∧ yX6_control.cls ≠ "java/lang/invoke/VarHandle" ∧ (parseMethodDescriptor yX6_control.desc).map (fun d => d.parameters.length) = some 0 := by decide +kernel
def rm_X6_control : Room := { frames := 7, cells := 0, slots := 0, locals := 161 }
set_option maxHeartbeats 4000000 in
set_option maxRecDepth 100000 in
theorem k_X6_control (l : Launch) (D : va_G) (cI cZ : ClassId) (a_t a_t_st a_t_be a_t_so a_t_sv : Nat) (v_t_st : Nat → Int32) (q : (Nat → Int32)) (hf : fX6_control v_t_st = some q) : CV l D cI cZ yX6_control wsX6_control rm_X6_control [.ref a_t] (wo_X6_control cI cZ a_t a_t_st a_t_be a_t_so a_t_sv v_t_st) (wo_X6_control cI cZ a_t a_t_st a_t_be a_t_so a_t_sv q) := by
  refine CV.mk (cc := cX6_control) (maxL := 3) (by decide) rfl (Nat.le_of_ble_eq_true rfl) ?_
  intro p e s m below meth c ls A X hP hD hl hS
  have hx := X.1.1
  have hb := X.1.2.1
  have hl : lv_has ls 3 [(0, .ref a_t)] := hl
  have inX6 : ∀ w ∈ u_ws RX6 TX6 4, w ∈ wsX6_control := fun _ h => List.mem_cons_of_mem _ (List.mem_append_right _ h)
  have L62 : ∀ (K : Int32 → Int32 → (Nat → Int32) → Option ((Nat → Int32))) (hKK : ∀ (x1_62 : Int32) (x2_62 : Int32) (v_t_st_62 : Nat → Int32) (H : Heap) (locs : List Loc) (ls : Array Slot), K x1_62 x2_62 v_t_st_62 = some q → va_P D vwCl (wo_X6_control cI cZ a_t a_t_st a_t_be a_t_so a_t_sv v_t_st_62) H → va_D A (wo_X6_control cI cZ a_t a_t_st a_t_be a_t_so a_t_sv v_t_st_62) → va_S A s.heap H locs → lv_has ls 3 [(0, .ref a_t), (1, .int x1_62)] → W p l e rm_X6_control s m ([.ref a_t] : List Value).toArray below meth c H locs 0 0 (MQ below (QV D (wo_X6_control cI cZ a_t a_t_st a_t_be a_t_so a_t_sv q) A) ([.ref a_t] : List Value).toArray s 0 0 A) (F0 m 103 ls [])) (k : Nat) (x1_62 : Int32) (x2_62 : Int32) (v_t_st_62 : Nat → Int32) (H : Heap) (locs : List Loc) (ls : Array Slot), fX6_control_L62 K k x1_62 x2_62 v_t_st_62 = some q → va_P D vwCl (wo_X6_control cI cZ a_t a_t_st a_t_be a_t_so a_t_sv v_t_st_62) H → va_D A (wo_X6_control cI cZ a_t a_t_st a_t_be a_t_so a_t_sv v_t_st_62) → va_S A s.heap H locs → lv_has ls 3 [(0, .ref a_t), (1, .int x1_62), (2, .int x2_62)] → W p l e rm_X6_control s m ([.ref a_t] : List Value).toArray below meth c H locs 0 0 (MQ below (QV D (wo_X6_control cI cZ a_t a_t_st a_t_be a_t_so a_t_sv q) A) ([.ref a_t] : List Value).toArray s 0 0 A) (F0 m 62 ls []) := by
    intro K hKK k
    induction k with
    | zero => intro x1_62 x2_62 v_t_st_62 H locs ls hf; rw [fX6_control_L62] at hf; cases hf
    | succ k ih =>
      intro x1_62 x2_62 v_t_st_62 H locs ls hf hP hD hS hl
      rw [fX6_control_L62] at hf
      refine lv_iload_n hx hb dX6_control_62 rfl (lv_at hl 2 rfl) ?_
      refine lv_aload_n hx hb dX6_control_63 rfl (lv_at hl 0 rfl) ?_
      refine getO X hP inX6 0 rfl rfl 0 (by decide) (List.mem_of_getElem? (i := 1) rfl) rfl dX6_control_64 ?_
      refine lv_iconst hx hb dX6_control_67 ic_0 ?_
      refine aldI X hP 1 rfl (vin0 (by decide) (by decide)) (j := 0) sb_cl0 dX6_control_68 ?_
      refine lv_icmp_ge (tgt := 103) hx hb dX6_control_69 (by decide) (fun hc => ?_) (fun hc => ?_)
      · replace hf := ifp hc hf
        exact hKK _ _ _ _ _ ls hf hP hD hS (lv_sub hl [0, 1] rfl)
      · replace hf := ifn hc hf
        refine lv_aload_n hx hb dX6_control_72 rfl (lv_at hl 0 rfl) ?_
        refine lv_iload_n hx hb dX6_control_73 rfl (lv_at hl 2 rfl) ?_
        obtain ⟨q74, e74, hf⟩ := bnd hf
        refine callVI X (k_X6_requestOf l D cI cZ a_t a_t_st a_t_be a_t_so a_t_sv  v_t_st_62 x2_62 q74 e74) (cwV 1 X.1.2.2.2.2 gX6_control_X6_requestOf rfl rfl rfl kd_X6_requestOf ⟨Nat.le_of_ble_eq_true rfl, Nat.le_of_ble_eq_true rfl⟩) hP hD hS hl.1 0 6 rfl rfl [0, 1] (by decide) (wo_X6_control cI cZ a_t a_t_st a_t_be a_t_so a_t_sv v_t_st_62) rfl rfl rfl rfl rfl (rest := []) rfl (Nat.le_of_ble_eq_true rfl) dX6_control_74 ⟨Nat.zero_le _, Nat.zero_le _⟩ (fun H locs hP hD hS => ?_)
        refine lv_iload_n hx hb dX6_control_77 rfl (lv_at hl 1 rfl) ?_
        refine lv_icmp_ne (tgt := 97) hx hb dX6_control_78 (by decide) (fun hc => ?_) (fun hc => ?_)
        · replace hf := ifn hc hf
          refine lv_iinc (v := (x2_62 + nI 1)) (lv' := [(2, .int (x2_62 + nI 1)), (0, .ref a_t), (1, .int x1_62)]) hx hb dX6_control_97 hl (k := 2) rfl (inc_1 _) (by decide) rfl (fun ls hl => ?_)
          refine lv_goto (tgt := 62) hx hb dX6_control_100 (by decide) ?_
          exact ih _ _ _ _ _ ls hf hP hD hS (lv_sub hl [1, 2, 0] rfl)
        · replace hf := ifp hc hf
          refine lv_aload_n hx hb dX6_control_81 rfl (lv_at hl 0 rfl) ?_
          refine getO X hP inX6 0 rfl rfl 0 (by decide) (List.mem_of_getElem? (i := 1) rfl) rfl dX6_control_82 ?_
          refine lv_iload_n hx hb dX6_control_85 rfl (lv_at hl 2 rfl) ?_
          refine lv_bipush hx hb dX6_control_86 bp_6 ?_
          obtain ⟨q88, e88, hf⟩ := bnd hf
          refine callSI X (k_X6_at l D cI cZ    x2_62 (nI 6) q88 e88) (va_cwS 2 X.1.2.2.2.2 gX6_control_X6_at rfl rfl rfl kd_X6_at ⟨Nat.le_of_ble_eq_true rfl, Nat.le_of_ble_eq_true rfl⟩) hP hD hS hl.1 [] (by decide) (wo_X6_control cI cZ a_t a_t_st a_t_be a_t_so a_t_sv v_t_st_62) rfl rfl rfl rfl rfl (rest := [.ref a_t_st]) rfl (Nat.le_of_ble_eq_true rfl) dX6_control_88 ⟨Nat.zero_le _, Nat.zero_le _⟩ (fun H locs hP hD hS => ?_)
          refine lv_aload_n hx hb dX6_control_91 rfl (lv_at hl 0 rfl) ?_
          refine lv_iload_n hx hb dX6_control_92 rfl (lv_at hl 1 rfl) ?_
          obtain ⟨q93, e93, hf⟩ := bnd hf
          refine callVI X (k_X6_grantFor l D cI cZ a_t a_t_st a_t_be a_t_so a_t_sv  v_t_st_62 x1_62 q93 e93) (cwV 1 X.1.2.2.2.2 gX6_control_X6_grantFor rfl rfl rfl kd_X6_grantFor ⟨Nat.le_of_ble_eq_true rfl, Nat.le_of_ble_eq_true rfl⟩) hP hD hS hl.1 0 6 rfl rfl [0, 1] (by decide) (wo_X6_control cI cZ a_t a_t_st a_t_be a_t_so a_t_sv v_t_st_62) rfl rfl rfl rfl rfl (rest := [.int q88, .ref a_t_st]) rfl (Nat.le_of_ble_eq_true rfl) dX6_control_93 ⟨Nat.zero_le _, Nat.zero_le _⟩ (fun H locs hP hD hS => ?_)
          obtain ⟨g96, hf⟩ := grd hf
          refine astI X hP hD hS 1 rfl g96 rfl dX6_control_96 (wo_X6_control cI cZ a_t a_t_st a_t_be a_t_so a_t_sv (upd v_t_st_62 (q88).toNatClampNeg q93)) rfl (fun H locs hP hD hS => ?_)
          refine lv_iinc (v := (x2_62 + nI 1)) (lv' := [(2, .int (x2_62 + nI 1)), (0, .ref a_t), (1, .int x1_62)]) hx hb dX6_control_97 hl (k := 2) rfl (inc_1 _) (by decide) rfl (fun ls hl => ?_)
          refine lv_goto (tgt := 62) hx hb dX6_control_100 (by decide) ?_
          exact ih _ _ _ _ _ ls hf hP hD hS (lv_sub hl [1, 2, 0] rfl)
  have L111 : ∀ (K : Int32 → (Nat → Int32) → Option ((Nat → Int32))) (hKK : ∀ (x1_111 : Int32) (v_t_st_111 : Nat → Int32) (H : Heap) (locs : List Loc) (ls : Array Slot), K x1_111 v_t_st_111 = some q → va_P D vwCl (wo_X6_control cI cZ a_t a_t_st a_t_be a_t_so a_t_sv v_t_st_111) H → va_D A (wo_X6_control cI cZ a_t a_t_st a_t_be a_t_so a_t_sv v_t_st_111) → va_S A s.heap H locs → lv_has ls 3 [] → W p l e rm_X6_control s m ([.ref a_t] : List Value).toArray below meth c H locs 0 0 (MQ below (QV D (wo_X6_control cI cZ a_t a_t_st a_t_be a_t_so a_t_sv q) A) ([.ref a_t] : List Value).toArray s 0 0 A) (F0 m 176 ls [])) (k : Nat) (x1_111 : Int32) (v_t_st_111 : Nat → Int32) (H : Heap) (locs : List Loc) (ls : Array Slot), fX6_control_L111 K k x1_111 v_t_st_111 = some q → va_P D vwCl (wo_X6_control cI cZ a_t a_t_st a_t_be a_t_so a_t_sv v_t_st_111) H → va_D A (wo_X6_control cI cZ a_t a_t_st a_t_be a_t_so a_t_sv v_t_st_111) → va_S A s.heap H locs → lv_has ls 3 [(0, .ref a_t), (1, .int x1_111)] → W p l e rm_X6_control s m ([.ref a_t] : List Value).toArray below meth c H locs 0 0 (MQ below (QV D (wo_X6_control cI cZ a_t a_t_st a_t_be a_t_so a_t_sv q) A) ([.ref a_t] : List Value).toArray s 0 0 A) (F0 m 111 ls []) := by
    intro K hKK k
    induction k with
    | zero => intro x1_111 v_t_st_111 H locs ls hf; rw [fX6_control_L111] at hf; cases hf
    | succ k ih =>
      intro x1_111 v_t_st_111 H locs ls hf hP hD hS hl
      rw [fX6_control_L111] at hf
      refine lv_iload_n hx hb dX6_control_111 rfl (lv_at hl 1 rfl) ?_
      refine lv_aload_n hx hb dX6_control_112 rfl (lv_at hl 0 rfl) ?_
      refine getO X hP inX6 0 rfl rfl 0 (by decide) (List.mem_of_getElem? (i := 1) rfl) rfl dX6_control_113 ?_
      refine lv_iconst hx hb dX6_control_116 ic_0 ?_
      refine aldI X hP 1 rfl (vin0 (by decide) (by decide)) (j := 0) sb_cl0 dX6_control_117 ?_
      refine lv_icmp_ge (tgt := 176) hx hb dX6_control_118 (by decide) (fun hc => ?_) (fun hc => ?_)
      · replace hf := ifp hc hf
        exact hKK _ _ _ _ ls hf hP hD hS (lv_sub hl [] rfl)
      · replace hf := ifn hc hf
        refine lv_aload_n hx hb dX6_control_121 rfl (lv_at hl 0 rfl) ?_
        refine lv_iload_n hx hb dX6_control_122 rfl (lv_at hl 1 rfl) ?_
        obtain ⟨q123, e123, hf⟩ := bnd hf
        refine callVI X (k_X6_requestOf l D cI cZ a_t a_t_st a_t_be a_t_so a_t_sv  v_t_st_111 x1_111 q123 e123) (cwV 1 X.1.2.2.2.2 gX6_control_X6_requestOf rfl rfl rfl kd_X6_requestOf ⟨Nat.le_of_ble_eq_true rfl, Nat.le_of_ble_eq_true rfl⟩) hP hD hS hl.1 0 6 rfl rfl [0, 1] (by decide) (wo_X6_control cI cZ a_t a_t_st a_t_be a_t_so a_t_sv v_t_st_111) rfl rfl rfl rfl rfl (rest := []) rfl (Nat.le_of_ble_eq_true rfl) dX6_control_123 ⟨Nat.zero_le _, Nat.zero_le _⟩ (fun H locs hP hD hS => ?_)
        refine lv_iconst hx hb dX6_control_126 ic_1 ?_
        obtain ⟨ph144, hg, hf⟩ := bnd hf
        have J144 : ∀ (H : Heap) (locs : List Loc) (ls : Array Slot), va_P D vwCl (wo_X6_control cI cZ a_t a_t_st a_t_be a_t_so a_t_sv v_t_st_111) H → va_D A (wo_X6_control cI cZ a_t a_t_st a_t_be a_t_so a_t_sv v_t_st_111) → va_S A s.heap H locs → lv_has ls 3 [(0, .ref a_t), (1, .int x1_111)] → W p l e rm_X6_control s m ([.ref a_t] : List Value).toArray below meth c H locs 0 0 (MQ below (QV D (wo_X6_control cI cZ a_t a_t_st a_t_be a_t_so a_t_sv q) A) ([.ref a_t] : List Value).toArray s 0 0 A) (F0 m 144 ls [.int ph144]) := by
          clear hg hP hD hS hl
          intro H locs ls hP hD hS hl
          refine lv_istore_n (lv' := [(2, .int ph144), (0, .ref a_t), (1, .int x1_111)]) hx hb dX6_control_144 rfl hl (by decide) rfl (fun ls hl => ?_)
          refine lv_iload_n hx hb dX6_control_145 rfl (lv_at hl 0 rfl) ?_
          refine lv_if_eq (tgt := 170) hx hb dX6_control_146 (by decide) (fun hc => ?_) (fun hc => ?_)
          · replace hf := ifp hc hf
            refine lv_iinc (v := (x1_111 + nI 1)) (lv' := [(1, .int (x1_111 + nI 1)), (2, .int ph144), (0, .ref a_t)]) hx hb dX6_control_170 hl (k := 2) rfl (inc_1 _) (by decide) rfl (fun ls hl => ?_)
            refine lv_goto (tgt := 111) hx hb dX6_control_173 (by decide) ?_
            exact ih _ _ _ _ ls hf hP hD hS (lv_sub hl [2, 0] rfl)
          · replace hf := ifn hc hf
            refine lv_aload_n hx hb dX6_control_149 rfl (lv_at hl 1 rfl) ?_
            refine lv_iload_n hx hb dX6_control_150 rfl (lv_at hl 2 rfl) ?_
            refine lv_bipush hx hb dX6_control_151 bp_6 ?_
            obtain ⟨q153, e153, hf⟩ := bnd hf
            refine callVI X (k_X6_of l D cI cZ a_t a_t_st a_t_be a_t_so a_t_sv  v_t_st_111 x1_111 (nI 6) q153 e153) (cwV 2 X.1.2.2.2.2 gX6_control_X6_of rfl rfl rfl kd_X6_of ⟨Nat.le_of_ble_eq_true rfl, Nat.le_of_ble_eq_true rfl⟩) hP hD hS hl.1 0 6 rfl rfl [0, 1] (by decide) (wo_X6_control cI cZ a_t a_t_st a_t_be a_t_so a_t_sv v_t_st_111) rfl rfl rfl rfl rfl (rest := []) rfl (Nat.le_of_ble_eq_true rfl) dX6_control_153 ⟨Nat.zero_le _, Nat.zero_le _⟩ (fun H locs hP hD hS => ?_)
            refine lv_if_ne (tgt := 170) hx hb dX6_control_156 (by decide) (fun hc => ?_) (fun hc => ?_)
            · replace hf := ifn hc hf
              refine lv_iinc (v := (x1_111 + nI 1)) (lv' := [(1, .int (x1_111 + nI 1)), (2, .int ph144), (0, .ref a_t)]) hx hb dX6_control_170 hl (k := 2) rfl (inc_1 _) (by decide) rfl (fun ls hl => ?_)
              refine lv_goto (tgt := 111) hx hb dX6_control_173 (by decide) ?_
              exact ih _ _ _ _ ls hf hP hD hS (lv_sub hl [2, 0] rfl)
            · replace hf := ifp hc hf
              refine lv_aload_n hx hb dX6_control_159 rfl (lv_at hl 1 rfl) ?_
              refine getO X hP inX6 0 rfl rfl 0 (by decide) (List.mem_of_getElem? (i := 1) rfl) rfl dX6_control_160 ?_
              refine lv_iload_n hx hb dX6_control_163 rfl (lv_at hl 2 rfl) ?_
              refine lv_iconst hx hb dX6_control_164 ic_3 ?_
              obtain ⟨q165, e165, hf⟩ := bnd hf
              refine callSI X (k_X6_at l D cI cZ    x1_111 (nI 3) q165 e165) (va_cwS 2 X.1.2.2.2.2 gX6_control_X6_at rfl rfl rfl kd_X6_at ⟨Nat.le_of_ble_eq_true rfl, Nat.le_of_ble_eq_true rfl⟩) hP hD hS hl.1 [] (by decide) (wo_X6_control cI cZ a_t a_t_st a_t_be a_t_so a_t_sv v_t_st_111) rfl rfl rfl rfl rfl (rest := [.ref a_t_st]) rfl (Nat.le_of_ble_eq_true rfl) dX6_control_165 ⟨Nat.zero_le _, Nat.zero_le _⟩ (fun H locs hP hD hS => ?_)
              refine lv_iconst hx hb dX6_control_168 ic_0 ?_
              obtain ⟨g169, hf⟩ := grd hf
              refine astI X hP hD hS 1 rfl g169 rfl dX6_control_169 (wo_X6_control cI cZ a_t a_t_st a_t_be a_t_so a_t_sv (upd v_t_st_111 (q165).toNatClampNeg 0)) rfl (fun H locs hP hD hS => ?_)
              refine lv_iinc (v := (x1_111 + nI 1)) (lv' := [(1, .int (x1_111 + nI 1)), (2, .int ph144), (0, .ref a_t)]) hx hb dX6_control_170 hl (k := 2) rfl (inc_1 _) (by decide) rfl (fun ls hl => ?_)
              refine lv_goto (tgt := 111) hx hb dX6_control_173 (by decide) ?_
              exact ih _ _ _ _ ls hf hP hD hS (lv_sub hl [2, 0] rfl)
        replace hf := hg
        clear hg
        refine lv_icmp_eq (tgt := 139) hx hb dX6_control_127 (by decide) (fun hc => ?_) (fun hc => ?_)
        · replace hf := ifp hc hf
          refine lv_iconst hx hb dX6_control_139 ic_1 ?_
          refine lv_goto (tgt := 144) hx hb dX6_control_140 (by decide) ?_
          obtain rfl := Option.some.inj hf
          exact J144 _ _ ls hP hD hS (lv_sub hl [0, 1] rfl)
        · replace hf := ifn hc hf
          refine lv_aload_n hx hb dX6_control_130 rfl (lv_at hl 0 rfl) ?_
          refine lv_iload_n hx hb dX6_control_131 rfl (lv_at hl 1 rfl) ?_
          obtain ⟨q132, e132, hf⟩ := bnd hf
          refine callVI X (k_X6_requestOf l D cI cZ a_t a_t_st a_t_be a_t_so a_t_sv  v_t_st_111 x1_111 q132 e132) (cwV 1 X.1.2.2.2.2 gX6_control_X6_requestOf rfl rfl rfl kd_X6_requestOf ⟨Nat.le_of_ble_eq_true rfl, Nat.le_of_ble_eq_true rfl⟩) hP hD hS hl.1 0 6 rfl rfl [0, 1] (by decide) (wo_X6_control cI cZ a_t a_t_st a_t_be a_t_so a_t_sv v_t_st_111) rfl rfl rfl rfl rfl (rest := []) rfl (Nat.le_of_ble_eq_true rfl) dX6_control_132 ⟨Nat.zero_le _, Nat.zero_le _⟩ (fun H locs hP hD hS => ?_)
          refine lv_iconst hx hb dX6_control_135 ic_2 ?_
          refine lv_icmp_ne (tgt := 143) hx hb dX6_control_136 (by decide) (fun hc => ?_) (fun hc => ?_)
          · replace hf := ifn hc hf
            refine lv_iconst hx hb dX6_control_143 ic_0 ?_
            obtain rfl := Option.some.inj hf
            exact J144 _ _ ls hP hD hS (lv_sub hl [0, 1] rfl)
          · replace hf := ifp hc hf
            refine lv_iconst hx hb dX6_control_139 ic_1 ?_
            refine lv_goto (tgt := 144) hx hb dX6_control_140 (by decide) ?_
            obtain rfl := Option.some.inj hf
            exact J144 _ _ ls hP hD hS (lv_sub hl [0, 1] rfl)
  have L56 : ∀ (K : Int32 → (Nat → Int32) → Option ((Nat → Int32))) (hKK : ∀ (x1_56 : Int32) (v_t_st_56 : Nat → Int32) (H : Heap) (locs : List Loc) (ls : Array Slot), K x1_56 v_t_st_56 = some q → va_P D vwCl (wo_X6_control cI cZ a_t a_t_st a_t_be a_t_so a_t_sv v_t_st_56) H → va_D A (wo_X6_control cI cZ a_t a_t_st a_t_be a_t_so a_t_sv v_t_st_56) → va_S A s.heap H locs → lv_has ls 3 [(0, .ref a_t)] → W p l e rm_X6_control s m ([.ref a_t] : List Value).toArray below meth c H locs 0 0 (MQ below (QV D (wo_X6_control cI cZ a_t a_t_st a_t_be a_t_so a_t_sv q) A) ([.ref a_t] : List Value).toArray s 0 0 A) (F0 m 109 ls [])) (k : Nat) (x1_56 : Int32) (v_t_st_56 : Nat → Int32) (H : Heap) (locs : List Loc) (ls : Array Slot), fX6_control_L56 K k x1_56 v_t_st_56 = some q → va_P D vwCl (wo_X6_control cI cZ a_t a_t_st a_t_be a_t_so a_t_sv v_t_st_56) H → va_D A (wo_X6_control cI cZ a_t a_t_st a_t_be a_t_so a_t_sv v_t_st_56) → va_S A s.heap H locs → lv_has ls 3 [(0, .ref a_t), (1, .int x1_56)] → W p l e rm_X6_control s m ([.ref a_t] : List Value).toArray below meth c H locs 0 0 (MQ below (QV D (wo_X6_control cI cZ a_t a_t_st a_t_be a_t_so a_t_sv q) A) ([.ref a_t] : List Value).toArray s 0 0 A) (F0 m 56 ls []) := by
    intro K hKK k
    induction k with
    | zero => intro x1_56 v_t_st_56 H locs ls hf; rw [fX6_control_L56] at hf; cases hf
    | succ k ih =>
      intro x1_56 v_t_st_56 H locs ls hf hP hD hS hl
      rw [fX6_control_L56] at hf
      refine lv_iload_n hx hb dX6_control_56 rfl (lv_at hl 1 rfl) ?_
      refine lv_if_le (tgt := 109) hx hb dX6_control_57 (by decide) (fun hc => ?_) (fun hc => ?_)
      · replace hf := ifp hc hf
        exact hKK _ _ _ _ ls hf hP hD hS (lv_sub hl [0] rfl)
      · replace hf := ifn hc hf
        refine lv_iconst hx hb dX6_control_60 ic_0 ?_
        refine lv_istore_n (lv' := [(2, .int 0), (0, .ref a_t), (1, .int x1_56)]) hx hb dX6_control_61 rfl hl (by decide) rfl (fun ls hl => ?_)
        refine L62 _ (fun x1_62 x2_62 v_t_st_62 H locs ls hf hP hD hS hl => ?_) FU _ _ _ _ _ ls hf hP hD hS (lv_sub hl [1, 2, 0] rfl)
        refine lv_iinc (v := (x1_62 + (-1))) (lv' := [(1, .int (x1_62 + (-1))), (0, .ref a_t)]) hx hb dX6_control_103 hl (k := 1) rfl (inc_m1 _) (by decide) rfl (fun ls hl => ?_)
        refine lv_goto (tgt := 56) hx hb dX6_control_106 (by decide) ?_
        exact ih _ _ _ _ ls hf hP hD hS (lv_sub hl [1, 0] rfl)
  have L25 : ∀ (K : Int32 → (Nat → Int32) → Option ((Nat → Int32))) (hKK : ∀ (x1_25 : Int32) (v_t_st_25 : Nat → Int32) (H : Heap) (locs : List Loc) (ls : Array Slot), K x1_25 v_t_st_25 = some q → va_P D vwCl (wo_X6_control cI cZ a_t a_t_st a_t_be a_t_so a_t_sv v_t_st_25) H → va_D A (wo_X6_control cI cZ a_t a_t_st a_t_be a_t_so a_t_sv v_t_st_25) → va_S A s.heap H locs → lv_has ls 3 [(0, .ref a_t)] → W p l e rm_X6_control s m ([.ref a_t] : List Value).toArray below meth c H locs 0 0 (MQ below (QV D (wo_X6_control cI cZ a_t a_t_st a_t_be a_t_so a_t_sv q) A) ([.ref a_t] : List Value).toArray s 0 0 A) (F0 m 53 ls [])) (k : Nat) (x1_25 : Int32) (v_t_st_25 : Nat → Int32) (H : Heap) (locs : List Loc) (ls : Array Slot), fX6_control_L25 K k x1_25 v_t_st_25 = some q → va_P D vwCl (wo_X6_control cI cZ a_t a_t_st a_t_be a_t_so a_t_sv v_t_st_25) H → va_D A (wo_X6_control cI cZ a_t a_t_st a_t_be a_t_so a_t_sv v_t_st_25) → va_S A s.heap H locs → lv_has ls 3 [(0, .ref a_t), (1, .int x1_25)] → W p l e rm_X6_control s m ([.ref a_t] : List Value).toArray below meth c H locs 0 0 (MQ below (QV D (wo_X6_control cI cZ a_t a_t_st a_t_be a_t_so a_t_sv q) A) ([.ref a_t] : List Value).toArray s 0 0 A) (F0 m 25 ls []) := by
    intro K hKK k
    induction k with
    | zero => intro x1_25 v_t_st_25 H locs ls hf; rw [fX6_control_L25] at hf; cases hf
    | succ k ih =>
      intro x1_25 v_t_st_25 H locs ls hf hP hD hS hl
      rw [fX6_control_L25] at hf
      refine lv_iload_n hx hb dX6_control_25 rfl (lv_at hl 1 rfl) ?_
      refine lv_aload_n hx hb dX6_control_26 rfl (lv_at hl 0 rfl) ?_
      refine getO X hP inX6 0 rfl rfl 0 (by decide) (List.mem_of_getElem? (i := 1) rfl) rfl dX6_control_27 ?_
      refine lv_iconst hx hb dX6_control_30 ic_0 ?_
      refine aldI X hP 1 rfl (vin0 (by decide) (by decide)) (j := 0) sb_cl0 dX6_control_31 ?_
      refine lv_icmp_ge (tgt := 53) hx hb dX6_control_32 (by decide) (fun hc => ?_) (fun hc => ?_)
      · replace hf := ifp hc hf
        exact hKK _ _ _ _ ls hf hP hD hS (lv_sub hl [0] rfl)
      · replace hf := ifn hc hf
        refine lv_aload_n hx hb dX6_control_35 rfl (lv_at hl 0 rfl) ?_
        refine getO X hP inX6 0 rfl rfl 0 (by decide) (List.mem_of_getElem? (i := 1) rfl) rfl dX6_control_36 ?_
        refine lv_iload_n hx hb dX6_control_39 rfl (lv_at hl 1 rfl) ?_
        refine lv_bipush hx hb dX6_control_40 bp_6 ?_
        obtain ⟨q42, e42, hf⟩ := bnd hf
        refine callSI X (k_X6_at l D cI cZ    x1_25 (nI 6) q42 e42) (va_cwS 2 X.1.2.2.2.2 gX6_control_X6_at rfl rfl rfl kd_X6_at ⟨Nat.le_of_ble_eq_true rfl, Nat.le_of_ble_eq_true rfl⟩) hP hD hS hl.1 [] (by decide) (wo_X6_control cI cZ a_t a_t_st a_t_be a_t_so a_t_sv v_t_st_25) rfl rfl rfl rfl rfl (rest := [.ref a_t_st]) rfl (Nat.le_of_ble_eq_true rfl) dX6_control_42 ⟨Nat.zero_le _, Nat.zero_le _⟩ (fun H locs hP hD hS => ?_)
        refine lv_iconst hx hb dX6_control_45 ic_0 ?_
        obtain ⟨g46, hf⟩ := grd hf
        refine astI X hP hD hS 1 rfl g46 rfl dX6_control_46 (wo_X6_control cI cZ a_t a_t_st a_t_be a_t_so a_t_sv (upd v_t_st_25 (q42).toNatClampNeg 0)) rfl (fun H locs hP hD hS => ?_)
        refine lv_iinc (v := (x1_25 + nI 1)) (lv' := [(1, .int (x1_25 + nI 1)), (0, .ref a_t)]) hx hb dX6_control_47 hl (k := 1) rfl (inc_1 _) (by decide) rfl (fun ls hl => ?_)
        refine lv_goto (tgt := 25) hx hb dX6_control_50 (by decide) ?_
        exact ih _ _ _ _ ls hf hP hD hS (lv_sub hl [1, 0] rfl)
  have L2 : ∀ (K : Int32 → (Nat → Int32) → Option ((Nat → Int32))) (hKK : ∀ (x1_2 : Int32) (v_t_st_2 : Nat → Int32) (H : Heap) (locs : List Loc) (ls : Array Slot), K x1_2 v_t_st_2 = some q → va_P D vwCl (wo_X6_control cI cZ a_t a_t_st a_t_be a_t_so a_t_sv v_t_st_2) H → va_D A (wo_X6_control cI cZ a_t a_t_st a_t_be a_t_so a_t_sv v_t_st_2) → va_S A s.heap H locs → lv_has ls 3 [(0, .ref a_t)] → W p l e rm_X6_control s m ([.ref a_t] : List Value).toArray below meth c H locs 0 0 (MQ below (QV D (wo_X6_control cI cZ a_t a_t_st a_t_be a_t_so a_t_sv q) A) ([.ref a_t] : List Value).toArray s 0 0 A) (F0 m 23 ls [])) (k : Nat) (x1_2 : Int32) (v_t_st_2 : Nat → Int32) (H : Heap) (locs : List Loc) (ls : Array Slot), fX6_control_L2 K k x1_2 v_t_st_2 = some q → va_P D vwCl (wo_X6_control cI cZ a_t a_t_st a_t_be a_t_so a_t_sv v_t_st_2) H → va_D A (wo_X6_control cI cZ a_t a_t_st a_t_be a_t_so a_t_sv v_t_st_2) → va_S A s.heap H locs → lv_has ls 3 [(0, .ref a_t), (1, .int x1_2)] → W p l e rm_X6_control s m ([.ref a_t] : List Value).toArray below meth c H locs 0 0 (MQ below (QV D (wo_X6_control cI cZ a_t a_t_st a_t_be a_t_so a_t_sv q) A) ([.ref a_t] : List Value).toArray s 0 0 A) (F0 m 2 ls []) := by
    intro K hKK k
    induction k with
    | zero => intro x1_2 v_t_st_2 H locs ls hf; rw [fX6_control_L2] at hf; cases hf
    | succ k ih =>
      intro x1_2 v_t_st_2 H locs ls hf hP hD hS hl
      rw [fX6_control_L2] at hf
      refine lv_iload_n hx hb dX6_control_2 rfl (lv_at hl 1 rfl) ?_
      refine lv_aload_n hx hb dX6_control_3 rfl (lv_at hl 0 rfl) ?_
      refine getO X hP inX6 0 rfl rfl 0 (by decide) (List.mem_of_getElem? (i := 1) rfl) rfl dX6_control_4 ?_
      refine lv_iconst hx hb dX6_control_7 ic_0 ?_
      refine aldI X hP 1 rfl (vin0 (by decide) (by decide)) (j := 0) sb_cl0 dX6_control_8 ?_
      refine lv_icmp_ge (tgt := 23) hx hb dX6_control_9 (by decide) (fun hc => ?_) (fun hc => ?_)
      · replace hf := ifp hc hf
        exact hKK _ _ _ _ ls hf hP hD hS (lv_sub hl [0] rfl)
      · replace hf := ifn hc hf
        refine lv_aload_n hx hb dX6_control_12 rfl (lv_at hl 0 rfl) ?_
        refine lv_iload_n hx hb dX6_control_13 rfl (lv_at hl 1 rfl) ?_
        obtain ⟨q14, e14, hf⟩ := bnd hf
        refine callVV X (k_X6_compare l D cI cZ a_t a_t_st a_t_be a_t_so a_t_sv  v_t_st_2 x1_2 q14 e14) (cwV 1 X.1.2.2.2.2 gX6_control_X6_compare rfl rfl rfl kd_X6_compare ⟨Nat.le_of_ble_eq_true rfl, Nat.le_of_ble_eq_true rfl⟩) hP hD hS hl.1 0 6 rfl rfl [0, 1] (by decide) (wo_X6_control cI cZ a_t a_t_st a_t_be a_t_so a_t_sv q14) rfl rfl rfl rfl rfl (rest := []) rfl (Nat.le_of_ble_eq_true rfl) dX6_control_14 ⟨Nat.zero_le _, Nat.zero_le _⟩ (fun H locs hP hD hS => ?_)
        refine lv_iinc (v := (x1_2 + nI 1)) (lv' := [(1, .int (x1_2 + nI 1)), (0, .ref a_t)]) hx hb dX6_control_17 hl (k := 1) rfl (inc_1 _) (by decide) rfl (fun ls hl => ?_)
        refine lv_goto (tgt := 2) hx hb dX6_control_20 (by decide) ?_
        exact ih _ _ _ _ ls hf hP hD hS (lv_sub hl [1, 0] rfl)
  unfold fX6_control at hf
  refine lv_iconst hx hb dX6_control_0 ic_0 ?_
  refine lv_istore_n (lv' := [(1, .int 0), (0, .ref a_t)]) hx hb dX6_control_1 rfl hl (by decide) rfl (fun ls hl => ?_)
  refine L2 _ (fun x1_2 v_t_st_2 H locs ls hf hP hD hS hl => ?_) FU _ _ _ _ ls hf hP hD hS (lv_sub hl [1, 0] rfl)
  refine lv_iconst hx hb dX6_control_23 ic_0 ?_
  refine lv_istore_n (lv' := [(1, .int 0), (0, .ref a_t)]) hx hb dX6_control_24 rfl hl (by decide) rfl (fun ls hl => ?_)
  refine L25 _ (fun x1_25 v_t_st_25 H locs ls hf hP hD hS hl => ?_) FU _ _ _ _ ls hf hP hD hS (lv_sub hl [1, 0] rfl)
  refine lv_bipush hx hb dX6_control_53 bp_9 ?_
  refine lv_istore_n (lv' := [(1, .int (nI 9)), (0, .ref a_t)]) hx hb dX6_control_55 rfl hl (by decide) rfl (fun ls hl => ?_)
  refine L56 _ (fun x1_56 v_t_st_56 H locs ls hf hP hD hS hl => ?_) FU _ _ _ _ ls hf hP hD hS (lv_sub hl [1, 0] rfl)
  refine lv_iconst hx hb dX6_control_109 ic_0 ?_
  refine lv_istore_n (lv' := [(1, .int 0), (0, .ref a_t)]) hx hb dX6_control_110 rfl hl (by decide) rfl (fun ls hl => ?_)
  refine L111 _ (fun x1_111 v_t_st_111 H locs ls hf hP hD hS hl => ?_) FU _ _ _ _ ls hf hP hD hS (lv_sub hl [1, 0] rfl)
  obtain rfl := Option.some.inj hf
  exact retV X hS hP dX6_control_176

abbrev wo_X6_mark (cI cZ : ClassId) (a_t a_t_st a_t_be a_t_so a_t_sv : Nat) (v_t_st : Nat → Int32) : va_W := [(a_t, oX6 a_t_st a_t_be a_t_so a_t_sv), (a_t_st, rI cI 164 v_t_st)]
def fX6_mark (v_t_st : Nat → Int32) (p1 : Int32) (p2 : Int32) : Option (Int32 × (Nat → Int32)) := (if p2 = 0 then ((fX6_set v_t_st p1 0).bind (fun q11 => ((fX6_control q11.2).bind (fun q16 => (some (q11.1, q16)))))) else ((fX6_set v_t_st p1 (nI 1)).bind (fun q11 => ((fX6_control q11.2).bind (fun q16 => (some (q11.1, q16)))))))
theorem kd_X6_mark : yX6_mark.cls = RX6 ∧ yX6_mark.cls ≠ "java/lang/invoke/MethodHandle" ∧ yX6_mark.cls ≠ "java/lang/invoke/VarHandle" ∧ (parseMethodDescriptor yX6_mark.desc).map (fun d => d.parameters.length) = some 2 := by decide +kernel
def rm_X6_mark : Room := { frames := 8, cells := 0, slots := 0, locals := 183 }
set_option maxHeartbeats 4000000 in
set_option maxRecDepth 100000 in
theorem k_X6_mark (l : Launch) (D : va_G) (cI cZ : ClassId) (a_t a_t_st a_t_be a_t_so a_t_sv : Nat) (v_t_st : Nat → Int32) (p1 : Int32) (p2 : Int32) (q : Int32 × (Nat → Int32)) (hf : fX6_mark v_t_st p1 p2 = some q) : CI l D cI cZ yX6_mark wsX6_mark rm_X6_mark [.ref a_t, .int p1, .int p2] (wo_X6_mark cI cZ a_t a_t_st a_t_be a_t_so a_t_sv v_t_st) (wo_X6_mark cI cZ a_t a_t_st a_t_be a_t_so a_t_sv q.2) q.1 := by
  refine CI.mk (cc := cX6_mark) (maxL := 4) (by decide) rfl (Nat.le_of_ble_eq_true rfl) ?_
  intro p e s m below meth c ls A X hP hD hl hS
  have hx := X.1.1
  have hb := X.1.2.1
  have hl : lv_has ls 4 [(0, .ref a_t), (1, .int p1), (2, .int p2)] := hl
  unfold fX6_mark at hf
  refine lv_aload_n hx hb dX6_mark_0 rfl (lv_at hl 0 rfl) ?_
  refine lv_iload_n hx hb dX6_mark_1 rfl (lv_at hl 1 rfl) ?_
  refine lv_iload_n hx hb dX6_mark_2 rfl (lv_at hl 2 rfl) ?_
  refine lv_if_eq (tgt := 10) hx hb dX6_mark_3 (by decide) (fun hc => ?_) (fun hc => ?_)
  · replace hf := ifp hc hf
    refine lv_iconst hx hb dX6_mark_10 ic_0 ?_
    obtain ⟨q11, e11, hf⟩ := bnd hf
    refine callVI X (k_X6_set l D cI cZ a_t a_t_st a_t_be a_t_so a_t_sv  v_t_st p1 0 q11 e11) (cwV 2 X.1.2.2.2.2 gX6_mark_X6_set rfl rfl rfl kd_X6_set ⟨Nat.le_of_ble_eq_true rfl, Nat.le_of_ble_eq_true rfl⟩) hP hD hS hl.1 0 6 rfl rfl [0, 1] (by decide) (wo_X6_mark cI cZ a_t a_t_st a_t_be a_t_so a_t_sv q11.2) rfl rfl rfl rfl rfl (rest := []) rfl (Nat.le_of_ble_eq_true rfl) dX6_mark_11 ⟨Nat.zero_le _, Nat.zero_le _⟩ (fun H locs hP hD hS => ?_)
    refine lv_istore_n (lv' := [(3, .int q11.1), (0, .ref a_t), (1, .int p1), (2, .int p2)]) hx hb dX6_mark_14 rfl hl (by decide) rfl (fun ls hl => ?_)
    refine lv_aload_n hx hb dX6_mark_15 rfl (lv_at hl 1 rfl) ?_
    obtain ⟨q16, e16, hf⟩ := bnd hf
    refine callVV X (k_X6_control l D cI cZ a_t a_t_st a_t_be a_t_so a_t_sv  q11.2  q16 e16) (cwV 0 X.1.2.2.2.2 gX6_mark_X6_control rfl rfl rfl kd_X6_control ⟨Nat.le_of_ble_eq_true rfl, Nat.le_of_ble_eq_true rfl⟩) hP hD hS hl.1 0 6 rfl rfl [0, 1] (by decide) (wo_X6_mark cI cZ a_t a_t_st a_t_be a_t_so a_t_sv q16) rfl rfl rfl rfl rfl (rest := []) rfl (Nat.le_of_ble_eq_true rfl) dX6_mark_16 ⟨Nat.zero_le _, Nat.zero_le _⟩ (fun H locs hP hD hS => ?_)
    refine lv_iload_n hx hb dX6_mark_19 rfl (lv_at hl 0 rfl) ?_
    obtain rfl := Option.some.inj hf
    exact retI X hS hP rfl dX6_mark_20
  · replace hf := ifn hc hf
    refine lv_iconst hx hb dX6_mark_6 ic_1 ?_
    refine lv_goto (tgt := 11) hx hb dX6_mark_7 (by decide) ?_
    obtain ⟨q11, e11, hf⟩ := bnd hf
    refine callVI X (k_X6_set l D cI cZ a_t a_t_st a_t_be a_t_so a_t_sv  v_t_st p1 (nI 1) q11 e11) (cwV 2 X.1.2.2.2.2 gX6_mark_X6_set rfl rfl rfl kd_X6_set ⟨Nat.le_of_ble_eq_true rfl, Nat.le_of_ble_eq_true rfl⟩) hP hD hS hl.1 0 6 rfl rfl [0, 1] (by decide) (wo_X6_mark cI cZ a_t a_t_st a_t_be a_t_so a_t_sv q11.2) rfl rfl rfl rfl rfl (rest := []) rfl (Nat.le_of_ble_eq_true rfl) dX6_mark_11 ⟨Nat.zero_le _, Nat.zero_le _⟩ (fun H locs hP hD hS => ?_)
    refine lv_istore_n (lv' := [(3, .int q11.1), (0, .ref a_t), (1, .int p1), (2, .int p2)]) hx hb dX6_mark_14 rfl hl (by decide) rfl (fun ls hl => ?_)
    refine lv_aload_n hx hb dX6_mark_15 rfl (lv_at hl 1 rfl) ?_
    obtain ⟨q16, e16, hf⟩ := bnd hf
    refine callVV X (k_X6_control l D cI cZ a_t a_t_st a_t_be a_t_so a_t_sv  q11.2  q16 e16) (cwV 0 X.1.2.2.2.2 gX6_mark_X6_control rfl rfl rfl kd_X6_control ⟨Nat.le_of_ble_eq_true rfl, Nat.le_of_ble_eq_true rfl⟩) hP hD hS hl.1 0 6 rfl rfl [0, 1] (by decide) (wo_X6_mark cI cZ a_t a_t_st a_t_be a_t_so a_t_sv q16) rfl rfl rfl rfl rfl (rest := []) rfl (Nat.le_of_ble_eq_true rfl) dX6_mark_16 ⟨Nat.zero_le _, Nat.zero_le _⟩ (fun H locs hP hD hS => ?_)
    refine lv_iload_n hx hb dX6_mark_19 rfl (lv_at hl 0 rfl) ?_
    obtain rfl := Option.some.inj hf
    exact retI X hS hP rfl dX6_mark_20

abbrev wo_X6_failWorking (cI cZ : ClassId) (a_t a_t_st a_t_be a_t_so a_t_sv : Nat) (v_t_st : Nat → Int32) : va_W := [(a_t, oX6 a_t_st a_t_be a_t_so a_t_sv), (a_t_st, rI cI 164 v_t_st)]
def fX6_failWorking (v_t_st : Nat → Int32) (p1 : Int32) (p2 : Int32) : Option (Int32 × (Nat → Int32)) := ((fX6_isSpan v_t_st p1).bind (fun q2 => (if q2 = true then ((fX6_at p1 0).bind (fun q11 => ((fX6_mark v_t_st q11 p2).bind (fun q15 => (some (q15.1, q15.2)))))) else (some ((-2), v_t_st)))))
theorem kd_X6_failWorking : yX6_failWorking.cls = RX6 ∧ yX6_failWorking.cls ≠ "java/lang/invoke/MethodHandle" ∧ yX6_failWorking.cls ≠ "java/lang/invoke/VarHandle" ∧ (parseMethodDescriptor yX6_failWorking.desc).map (fun d => d.parameters.length) = some 2 := by decide +kernel
def rm_X6_failWorking : Room := { frames := 9, cells := 0, slots := 0, locals := 206 }
set_option maxHeartbeats 4000000 in
set_option maxRecDepth 100000 in
theorem k_X6_failWorking (l : Launch) (D : va_G) (cI cZ : ClassId) (a_t a_t_st a_t_be a_t_so a_t_sv : Nat) (v_t_st : Nat → Int32) (p1 : Int32) (p2 : Int32) (q : Int32 × (Nat → Int32)) (hf : fX6_failWorking v_t_st p1 p2 = some q) : CI l D cI cZ yX6_failWorking wsX6_failWorking rm_X6_failWorking [.ref a_t, .int p1, .int p2] (wo_X6_failWorking cI cZ a_t a_t_st a_t_be a_t_so a_t_sv v_t_st) (wo_X6_failWorking cI cZ a_t a_t_st a_t_be a_t_so a_t_sv q.2) q.1 := by
  refine CI.mk (cc := cX6_failWorking) (maxL := 3) (by decide) rfl (Nat.le_of_ble_eq_true rfl) ?_
  intro p e s m below meth c ls A X hP hD hl hS
  have hx := X.1.1
  have hb := X.1.2.1
  have hl : lv_has ls 3 [(0, .ref a_t), (1, .int p1), (2, .int p2)] := hl
  unfold fX6_failWorking at hf
  refine lv_aload_n hx hb dX6_failWorking_0 rfl (lv_at hl 0 rfl) ?_
  refine lv_iload_n hx hb dX6_failWorking_1 rfl (lv_at hl 1 rfl) ?_
  obtain ⟨q2, e2, hf⟩ := bnd hf
  refine callVI X (k_X6_isSpan l D cI cZ a_t a_t_st a_t_be a_t_so a_t_sv  v_t_st p1 q2 e2) (cwV 1 X.1.2.2.2.2 gX6_failWorking_X6_isSpan rfl rfl rfl kd_X6_isSpan ⟨Nat.le_of_ble_eq_true rfl, Nat.le_of_ble_eq_true rfl⟩) hP hD hS hl.1 0 6 rfl rfl [0, 1] (by decide) (wo_X6_failWorking cI cZ a_t a_t_st a_t_be a_t_so a_t_sv v_t_st) rfl rfl rfl rfl rfl (rest := []) rfl (Nat.le_of_ble_eq_true rfl) dX6_failWorking_2 ⟨Nat.zero_le _, Nat.zero_le _⟩ (fun H locs hP hD hS => ?_)
  refine lv_if_eq (tgt := 21) hx hb dX6_failWorking_5 (by decide) (fun hc => ?_) (fun hc => ?_)
  · replace hf := ifn (b2i_z hc) hf
    refine lv_bipush hx hb dX6_failWorking_21 bp_m2 ?_
    obtain rfl := Option.some.inj hf
    exact retI X hS hP rfl dX6_failWorking_23
  · replace hf := ifp (b2i_nz hc) hf
    refine lv_aload_n hx hb dX6_failWorking_8 rfl (lv_at hl 0 rfl) ?_
    refine lv_iload_n hx hb dX6_failWorking_9 rfl (lv_at hl 1 rfl) ?_
    refine lv_iconst hx hb dX6_failWorking_10 ic_0 ?_
    obtain ⟨q11, e11, hf⟩ := bnd hf
    refine callSI X (k_X6_at l D cI cZ    p1 0 q11 e11) (va_cwS 2 X.1.2.2.2.2 gX6_failWorking_X6_at rfl rfl rfl kd_X6_at ⟨Nat.le_of_ble_eq_true rfl, Nat.le_of_ble_eq_true rfl⟩) hP hD hS hl.1 [] (by decide) (wo_X6_failWorking cI cZ a_t a_t_st a_t_be a_t_so a_t_sv v_t_st) rfl rfl rfl rfl rfl (rest := [.ref a_t]) rfl (Nat.le_of_ble_eq_true rfl) dX6_failWorking_11 ⟨Nat.zero_le _, Nat.zero_le _⟩ (fun H locs hP hD hS => ?_)
    refine lv_iload_n hx hb dX6_failWorking_14 rfl (lv_at hl 2 rfl) ?_
    obtain ⟨q15, e15, hf⟩ := bnd hf
    refine callVI X (k_X6_mark l D cI cZ a_t a_t_st a_t_be a_t_so a_t_sv  v_t_st q11 p2 q15 e15) (cwV 2 X.1.2.2.2.2 gX6_failWorking_X6_mark rfl rfl rfl kd_X6_mark ⟨Nat.le_of_ble_eq_true rfl, Nat.le_of_ble_eq_true rfl⟩) hP hD hS hl.1 0 6 rfl rfl [0, 1] (by decide) (wo_X6_failWorking cI cZ a_t a_t_st a_t_be a_t_so a_t_sv q15.2) rfl rfl rfl rfl rfl (rest := []) rfl (Nat.le_of_ble_eq_true rfl) dX6_failWorking_15 ⟨Nat.zero_le _, Nat.zero_le _⟩ (fun H locs hP hD hS => ?_)
    refine lv_goto (tgt := 23) hx hb dX6_failWorking_18 (by decide) ?_
    obtain rfl := Option.some.inj hf
    exact retI X hS hP rfl dX6_failWorking_23

abbrev wo_X6_failProtection (cI cZ : ClassId) (a_t a_t_st a_t_be a_t_so a_t_sv : Nat) (v_t_st : Nat → Int32) : va_W := [(a_t, oX6 a_t_st a_t_be a_t_so a_t_sv), (a_t_st, rI cI 164 v_t_st)]
def fX6_failProtection (v_t_st : Nat → Int32) (p1 : Int32) (p2 : Int32) : Option (Int32 × (Nat → Int32)) := ((fX6_isSpan v_t_st p1).bind (fun q2 => (if q2 = true then ((fX6_at p1 (nI 1)).bind (fun q11 => ((fX6_mark v_t_st q11 p2).bind (fun q15 => (some (q15.1, q15.2)))))) else (some ((-2), v_t_st)))))
theorem kd_X6_failProtection : yX6_failProtection.cls = RX6 ∧ yX6_failProtection.cls ≠ "java/lang/invoke/MethodHandle" ∧ yX6_failProtection.cls ≠ "java/lang/invoke/VarHandle" ∧ (parseMethodDescriptor yX6_failProtection.desc).map (fun d => d.parameters.length) = some 2 := by decide +kernel
def rm_X6_failProtection : Room := { frames := 9, cells := 0, slots := 0, locals := 206 }
set_option maxHeartbeats 4000000 in
set_option maxRecDepth 100000 in
theorem k_X6_failProtection (l : Launch) (D : va_G) (cI cZ : ClassId) (a_t a_t_st a_t_be a_t_so a_t_sv : Nat) (v_t_st : Nat → Int32) (p1 : Int32) (p2 : Int32) (q : Int32 × (Nat → Int32)) (hf : fX6_failProtection v_t_st p1 p2 = some q) : CI l D cI cZ yX6_failProtection wsX6_failProtection rm_X6_failProtection [.ref a_t, .int p1, .int p2] (wo_X6_failProtection cI cZ a_t a_t_st a_t_be a_t_so a_t_sv v_t_st) (wo_X6_failProtection cI cZ a_t a_t_st a_t_be a_t_so a_t_sv q.2) q.1 := by
  refine CI.mk (cc := cX6_failProtection) (maxL := 3) (by decide) rfl (Nat.le_of_ble_eq_true rfl) ?_
  intro p e s m below meth c ls A X hP hD hl hS
  have hx := X.1.1
  have hb := X.1.2.1
  have hl : lv_has ls 3 [(0, .ref a_t), (1, .int p1), (2, .int p2)] := hl
  unfold fX6_failProtection at hf
  refine lv_aload_n hx hb dX6_failProtection_0 rfl (lv_at hl 0 rfl) ?_
  refine lv_iload_n hx hb dX6_failProtection_1 rfl (lv_at hl 1 rfl) ?_
  obtain ⟨q2, e2, hf⟩ := bnd hf
  refine callVI X (k_X6_isSpan l D cI cZ a_t a_t_st a_t_be a_t_so a_t_sv  v_t_st p1 q2 e2) (cwV 1 X.1.2.2.2.2 gX6_failProtection_X6_isSpan rfl rfl rfl kd_X6_isSpan ⟨Nat.le_of_ble_eq_true rfl, Nat.le_of_ble_eq_true rfl⟩) hP hD hS hl.1 0 6 rfl rfl [0, 1] (by decide) (wo_X6_failProtection cI cZ a_t a_t_st a_t_be a_t_so a_t_sv v_t_st) rfl rfl rfl rfl rfl (rest := []) rfl (Nat.le_of_ble_eq_true rfl) dX6_failProtection_2 ⟨Nat.zero_le _, Nat.zero_le _⟩ (fun H locs hP hD hS => ?_)
  refine lv_if_eq (tgt := 21) hx hb dX6_failProtection_5 (by decide) (fun hc => ?_) (fun hc => ?_)
  · replace hf := ifn (b2i_z hc) hf
    refine lv_bipush hx hb dX6_failProtection_21 bp_m2 ?_
    obtain rfl := Option.some.inj hf
    exact retI X hS hP rfl dX6_failProtection_23
  · replace hf := ifp (b2i_nz hc) hf
    refine lv_aload_n hx hb dX6_failProtection_8 rfl (lv_at hl 0 rfl) ?_
    refine lv_iload_n hx hb dX6_failProtection_9 rfl (lv_at hl 1 rfl) ?_
    refine lv_iconst hx hb dX6_failProtection_10 ic_1 ?_
    obtain ⟨q11, e11, hf⟩ := bnd hf
    refine callSI X (k_X6_at l D cI cZ    p1 (nI 1) q11 e11) (va_cwS 2 X.1.2.2.2.2 gX6_failProtection_X6_at rfl rfl rfl kd_X6_at ⟨Nat.le_of_ble_eq_true rfl, Nat.le_of_ble_eq_true rfl⟩) hP hD hS hl.1 [] (by decide) (wo_X6_failProtection cI cZ a_t a_t_st a_t_be a_t_so a_t_sv v_t_st) rfl rfl rfl rfl rfl (rest := [.ref a_t]) rfl (Nat.le_of_ble_eq_true rfl) dX6_failProtection_11 ⟨Nat.zero_le _, Nat.zero_le _⟩ (fun H locs hP hD hS => ?_)
    refine lv_iload_n hx hb dX6_failProtection_14 rfl (lv_at hl 2 rfl) ?_
    obtain ⟨q15, e15, hf⟩ := bnd hf
    refine callVI X (k_X6_mark l D cI cZ a_t a_t_st a_t_be a_t_so a_t_sv  v_t_st q11 p2 q15 e15) (cwV 2 X.1.2.2.2.2 gX6_failProtection_X6_mark rfl rfl rfl kd_X6_mark ⟨Nat.le_of_ble_eq_true rfl, Nat.le_of_ble_eq_true rfl⟩) hP hD hS hl.1 0 6 rfl rfl [0, 1] (by decide) (wo_X6_failProtection cI cZ a_t a_t_st a_t_be a_t_so a_t_sv q15.2) rfl rfl rfl rfl rfl (rest := []) rfl (Nat.le_of_ble_eq_true rfl) dX6_failProtection_15 ⟨Nat.zero_le _, Nat.zero_le _⟩ (fun H locs hP hD hS => ?_)
    refine lv_goto (tgt := 23) hx hb dX6_failProtection_18 (by decide) ?_
    obtain rfl := Option.some.inj hf
    exact retI X hS hP rfl dX6_failProtection_23

abbrev wo_X6_failNode (cI cZ : ClassId) (a_t a_t_st a_t_be a_t_so a_t_sv : Nat) (v_t_st : Nat → Int32) : va_W := [(a_t, oX6 a_t_st a_t_be a_t_so a_t_sv), (a_t_st, rI cI 164 v_t_st)]
def fX6_failNode (v_t_st : Nat → Int32) (p1 : Int32) (p2 : Int32) : Option (Int32 × (Nat → Int32)) := ((fX6_isNode v_t_st p1).bind (fun q2 => (if q2 = true then ((fX6_mark v_t_st ((nI 4) + p1) p2).bind (fun q13 => (some (q13.1, q13.2)))) else (some ((-1), v_t_st)))))
theorem kd_X6_failNode : yX6_failNode.cls = RX6 ∧ yX6_failNode.cls ≠ "java/lang/invoke/MethodHandle" ∧ yX6_failNode.cls ≠ "java/lang/invoke/VarHandle" ∧ (parseMethodDescriptor yX6_failNode.desc).map (fun d => d.parameters.length) = some 2 := by decide +kernel
def rm_X6_failNode : Room := { frames := 9, cells := 0, slots := 0, locals := 206 }
set_option maxHeartbeats 4000000 in
set_option maxRecDepth 100000 in
theorem k_X6_failNode (l : Launch) (D : va_G) (cI cZ : ClassId) (a_t a_t_st a_t_be a_t_so a_t_sv : Nat) (v_t_st : Nat → Int32) (p1 : Int32) (p2 : Int32) (q : Int32 × (Nat → Int32)) (hf : fX6_failNode v_t_st p1 p2 = some q) : CI l D cI cZ yX6_failNode wsX6_failNode rm_X6_failNode [.ref a_t, .int p1, .int p2] (wo_X6_failNode cI cZ a_t a_t_st a_t_be a_t_so a_t_sv v_t_st) (wo_X6_failNode cI cZ a_t a_t_st a_t_be a_t_so a_t_sv q.2) q.1 := by
  refine CI.mk (cc := cX6_failNode) (maxL := 3) (by decide) rfl (Nat.le_of_ble_eq_true rfl) ?_
  intro p e s m below meth c ls A X hP hD hl hS
  have hx := X.1.1
  have hb := X.1.2.1
  have hl : lv_has ls 3 [(0, .ref a_t), (1, .int p1), (2, .int p2)] := hl
  unfold fX6_failNode at hf
  refine lv_aload_n hx hb dX6_failNode_0 rfl (lv_at hl 0 rfl) ?_
  refine lv_iload_n hx hb dX6_failNode_1 rfl (lv_at hl 1 rfl) ?_
  obtain ⟨q2, e2, hf⟩ := bnd hf
  refine callVI X (k_X6_isNode l D cI cZ a_t a_t_st a_t_be a_t_so a_t_sv  v_t_st p1 q2 e2) (cwV 1 X.1.2.2.2.2 gX6_failNode_X6_isNode rfl rfl rfl kd_X6_isNode ⟨Nat.le_of_ble_eq_true rfl, Nat.le_of_ble_eq_true rfl⟩) hP hD hS hl.1 0 6 rfl rfl [0, 1] (by decide) (wo_X6_failNode cI cZ a_t a_t_st a_t_be a_t_so a_t_sv v_t_st) rfl rfl rfl rfl rfl (rest := []) rfl (Nat.le_of_ble_eq_true rfl) dX6_failNode_2 ⟨Nat.zero_le _, Nat.zero_le _⟩ (fun H locs hP hD hS => ?_)
  refine lv_if_eq (tgt := 19) hx hb dX6_failNode_5 (by decide) (fun hc => ?_) (fun hc => ?_)
  · replace hf := ifn (b2i_z hc) hf
    refine lv_iconst hx hb dX6_failNode_19 ic_m1 ?_
    obtain rfl := Option.some.inj hf
    exact retI X hS hP rfl dX6_failNode_20
  · replace hf := ifp (b2i_nz hc) hf
    refine lv_aload_n hx hb dX6_failNode_8 rfl (lv_at hl 0 rfl) ?_
    refine lv_iconst hx hb dX6_failNode_9 ic_4 ?_
    refine lv_iload_n hx hb dX6_failNode_10 rfl (lv_at hl 1 rfl) ?_
    refine lv_iadd hx hb dX6_failNode_11 ?_
    refine lv_iload_n hx hb dX6_failNode_12 rfl (lv_at hl 2 rfl) ?_
    obtain ⟨q13, e13, hf⟩ := bnd hf
    refine callVI X (k_X6_mark l D cI cZ a_t a_t_st a_t_be a_t_so a_t_sv  v_t_st ((nI 4) + p1) p2 q13 e13) (cwV 2 X.1.2.2.2.2 gX6_failNode_X6_mark rfl rfl rfl kd_X6_mark ⟨Nat.le_of_ble_eq_true rfl, Nat.le_of_ble_eq_true rfl⟩) hP hD hS hl.1 0 6 rfl rfl [0, 1] (by decide) (wo_X6_failNode cI cZ a_t a_t_st a_t_be a_t_so a_t_sv q13.2) rfl rfl rfl rfl rfl (rest := []) rfl (Nat.le_of_ble_eq_true rfl) dX6_failNode_13 ⟨Nat.zero_le _, Nat.zero_le _⟩ (fun H locs hP hD hS => ?_)
    refine lv_goto (tgt := 20) hx hb dX6_failNode_16 (by decide) ?_
    obtain rfl := Option.some.inj hf
    exact retI X hS hP rfl dX6_failNode_20

abbrev wo_X6_isCommand (cI cZ : ClassId) : va_W := []
def fX6_isCommand (p0 : Int32) : Option (Bool) := (if p0 = 0 then (some true) else (if p0 = (nI 3) then (some true) else (if p0 = (nI 4) then (some true) else (if p0 = (nI 7) then (some true) else (if p0 = (nI 8) then (some true) else (if p0 = (nI 9) then (some true) else (some false)))))))
theorem kd_X6_isCommand : yX6_isCommand.cls ≠ "java/lang/invoke/MethodHandle" ∧ yX6_isCommand.cls ≠ "java/lang/invoke/VarHandle" ∧ (parseMethodDescriptor yX6_isCommand.desc).map (fun d => d.parameters.length) = some 1 := by decide +kernel
def rm_X6_isCommand : Room := { frames := 0, cells := 0, slots := 0, locals := 0 }
set_option maxHeartbeats 4000000 in
set_option maxRecDepth 100000 in
theorem k_X6_isCommand (l : Launch) (D : va_G) (cI cZ : ClassId) (p0 : Int32) (q : Bool) (hf : fX6_isCommand p0 = some q) : CI l D cI cZ yX6_isCommand wsX6_isCommand rm_X6_isCommand [.int p0] (wo_X6_isCommand cI cZ) (wo_X6_isCommand cI cZ) (b2i q) := by
  refine CI.mk (cc := cX6_isCommand) (maxL := 1) (by decide) rfl (Nat.le_of_ble_eq_true rfl) ?_
  intro p e s m below meth c ls A X hP hD hl hS
  have hx := X.1.1
  have hb := X.1.2.1
  have hl : lv_has ls 1 [(0, .int p0)] := hl
  unfold fX6_isCommand at hf
  refine lv_iload_n hx hb dX6_isCommand_0 rfl (lv_at hl 0 rfl) ?_
  refine lv_if_eq (tgt := 32) hx hb dX6_isCommand_1 (by decide) (fun hc => ?_) (fun hc => ?_)
  · replace hf := ifp hc hf
    refine lv_iconst hx hb dX6_isCommand_32 ic_1 ?_
    refine lv_goto (tgt := 37) hx hb dX6_isCommand_33 (by decide) ?_
    obtain rfl := Option.some.inj hf
    exact retB X hS hP rfl rfl dX6_isCommand_37
  · replace hf := ifn hc hf
    refine lv_iload_n hx hb dX6_isCommand_4 rfl (lv_at hl 0 rfl) ?_
    refine lv_iconst hx hb dX6_isCommand_5 ic_3 ?_
    refine lv_icmp_eq (tgt := 32) hx hb dX6_isCommand_6 (by decide) (fun hc => ?_) (fun hc => ?_)
    · replace hf := ifp hc hf
      refine lv_iconst hx hb dX6_isCommand_32 ic_1 ?_
      refine lv_goto (tgt := 37) hx hb dX6_isCommand_33 (by decide) ?_
      obtain rfl := Option.some.inj hf
      exact retB X hS hP rfl rfl dX6_isCommand_37
    · replace hf := ifn hc hf
      refine lv_iload_n hx hb dX6_isCommand_9 rfl (lv_at hl 0 rfl) ?_
      refine lv_iconst hx hb dX6_isCommand_10 ic_4 ?_
      refine lv_icmp_eq (tgt := 32) hx hb dX6_isCommand_11 (by decide) (fun hc => ?_) (fun hc => ?_)
      · replace hf := ifp hc hf
        refine lv_iconst hx hb dX6_isCommand_32 ic_1 ?_
        refine lv_goto (tgt := 37) hx hb dX6_isCommand_33 (by decide) ?_
        obtain rfl := Option.some.inj hf
        exact retB X hS hP rfl rfl dX6_isCommand_37
      · replace hf := ifn hc hf
        refine lv_iload_n hx hb dX6_isCommand_14 rfl (lv_at hl 0 rfl) ?_
        refine lv_bipush hx hb dX6_isCommand_15 bp_7 ?_
        refine lv_icmp_eq (tgt := 32) hx hb dX6_isCommand_17 (by decide) (fun hc => ?_) (fun hc => ?_)
        · replace hf := ifp hc hf
          refine lv_iconst hx hb dX6_isCommand_32 ic_1 ?_
          refine lv_goto (tgt := 37) hx hb dX6_isCommand_33 (by decide) ?_
          obtain rfl := Option.some.inj hf
          exact retB X hS hP rfl rfl dX6_isCommand_37
        · replace hf := ifn hc hf
          refine lv_iload_n hx hb dX6_isCommand_20 rfl (lv_at hl 0 rfl) ?_
          refine lv_bipush hx hb dX6_isCommand_21 bp_8 ?_
          refine lv_icmp_eq (tgt := 32) hx hb dX6_isCommand_23 (by decide) (fun hc => ?_) (fun hc => ?_)
          · replace hf := ifp hc hf
            refine lv_iconst hx hb dX6_isCommand_32 ic_1 ?_
            refine lv_goto (tgt := 37) hx hb dX6_isCommand_33 (by decide) ?_
            obtain rfl := Option.some.inj hf
            exact retB X hS hP rfl rfl dX6_isCommand_37
          · replace hf := ifn hc hf
            refine lv_iload_n hx hb dX6_isCommand_26 rfl (lv_at hl 0 rfl) ?_
            refine lv_bipush hx hb dX6_isCommand_27 bp_9 ?_
            refine lv_icmp_ne (tgt := 36) hx hb dX6_isCommand_29 (by decide) (fun hc => ?_) (fun hc => ?_)
            · replace hf := ifn hc hf
              refine lv_iconst hx hb dX6_isCommand_36 ic_0 ?_
              obtain rfl := Option.some.inj hf
              exact retB X hS hP rfl rfl dX6_isCommand_37
            · replace hf := ifp hc hf
              refine lv_iconst hx hb dX6_isCommand_32 ic_1 ?_
              refine lv_goto (tgt := 37) hx hb dX6_isCommand_33 (by decide) ?_
              obtain rfl := Option.some.inj hf
              exact retB X hS hP rfl rfl dX6_isCommand_37

abbrev wo_X6_command (cI cZ : ClassId) (a_t a_t_st a_t_be a_t_so a_t_sv : Nat) (v_t_st : Nat → Int32) : va_W := [(a_t, oX6 a_t_st a_t_be a_t_so a_t_sv), (a_t_st, rI cI 164 v_t_st)]
def fX6_command (v_t_st : Nat → Int32) (p1 : Int32) (p2 : Int32) : Option (Int32 × (Nat → Int32)) := ((fX6_isSpan v_t_st p1).bind (fun q2 => (if q2 = true then ((fX6_isCommand p2).bind (fun q12 => (if q12 = true then ((fX6_at p1 (nI 2)).bind (fun q24 => ((fX6_set v_t_st q24 p2).bind (fun q28 => ((fX6_control q28.2).bind (fun q33 => (some (q28.1, q33)))))))) else (some ((-4), v_t_st))))) else (some ((-2), v_t_st)))))
theorem kd_X6_command : yX6_command.cls = RX6 ∧ yX6_command.cls ≠ "java/lang/invoke/MethodHandle" ∧ yX6_command.cls ≠ "java/lang/invoke/VarHandle" ∧ (parseMethodDescriptor yX6_command.desc).map (fun d => d.parameters.length) = some 2 := by decide +kernel
def rm_X6_command : Room := { frames := 8, cells := 0, slots := 0, locals := 183 }
set_option maxHeartbeats 4000000 in
set_option maxRecDepth 100000 in
theorem k_X6_command (l : Launch) (D : va_G) (cI cZ : ClassId) (a_t a_t_st a_t_be a_t_so a_t_sv : Nat) (v_t_st : Nat → Int32) (p1 : Int32) (p2 : Int32) (q : Int32 × (Nat → Int32)) (hf : fX6_command v_t_st p1 p2 = some q) : CI l D cI cZ yX6_command wsX6_command rm_X6_command [.ref a_t, .int p1, .int p2] (wo_X6_command cI cZ a_t a_t_st a_t_be a_t_so a_t_sv v_t_st) (wo_X6_command cI cZ a_t a_t_st a_t_be a_t_so a_t_sv q.2) q.1 := by
  refine CI.mk (cc := cX6_command) (maxL := 4) (by decide) rfl (Nat.le_of_ble_eq_true rfl) ?_
  intro p e s m below meth c ls A X hP hD hl hS
  have hx := X.1.1
  have hb := X.1.2.1
  have hl : lv_has ls 4 [(0, .ref a_t), (1, .int p1), (2, .int p2)] := hl
  unfold fX6_command at hf
  refine lv_aload_n hx hb dX6_command_0 rfl (lv_at hl 0 rfl) ?_
  refine lv_iload_n hx hb dX6_command_1 rfl (lv_at hl 1 rfl) ?_
  obtain ⟨q2, e2, hf⟩ := bnd hf
  refine callVI X (k_X6_isSpan l D cI cZ a_t a_t_st a_t_be a_t_so a_t_sv  v_t_st p1 q2 e2) (cwV 1 X.1.2.2.2.2 gX6_command_X6_isSpan rfl rfl rfl kd_X6_isSpan ⟨Nat.le_of_ble_eq_true rfl, Nat.le_of_ble_eq_true rfl⟩) hP hD hS hl.1 0 6 rfl rfl [0, 1] (by decide) (wo_X6_command cI cZ a_t a_t_st a_t_be a_t_so a_t_sv v_t_st) rfl rfl rfl rfl rfl (rest := []) rfl (Nat.le_of_ble_eq_true rfl) dX6_command_2 ⟨Nat.zero_le _, Nat.zero_le _⟩ (fun H locs hP hD hS => ?_)
  refine lv_if_ne (tgt := 11) hx hb dX6_command_5 (by decide) (fun hc => ?_) (fun hc => ?_)
  · replace hf := ifp (b2i_nz hc) hf
    refine lv_iload_n hx hb dX6_command_11 rfl (lv_at hl 2 rfl) ?_
    obtain ⟨q12, e12, hf⟩ := bnd hf
    refine callSI X (k_X6_isCommand l D cI cZ    p2 q12 e12) (va_cwS 1 X.1.2.2.2.2 gX6_command_X6_isCommand rfl rfl rfl kd_X6_isCommand ⟨Nat.le_of_ble_eq_true rfl, Nat.le_of_ble_eq_true rfl⟩) hP hD hS hl.1 [] (by decide) (wo_X6_command cI cZ a_t a_t_st a_t_be a_t_so a_t_sv v_t_st) rfl rfl rfl rfl rfl (rest := []) rfl (Nat.le_of_ble_eq_true rfl) dX6_command_12 ⟨Nat.zero_le _, Nat.zero_le _⟩ (fun H locs hP hD hS => ?_)
    refine lv_if_ne (tgt := 21) hx hb dX6_command_15 (by decide) (fun hc => ?_) (fun hc => ?_)
    · replace hf := ifp (b2i_nz hc) hf
      refine lv_aload_n hx hb dX6_command_21 rfl (lv_at hl 0 rfl) ?_
      refine lv_iload_n hx hb dX6_command_22 rfl (lv_at hl 1 rfl) ?_
      refine lv_iconst hx hb dX6_command_23 ic_2 ?_
      obtain ⟨q24, e24, hf⟩ := bnd hf
      refine callSI X (k_X6_at l D cI cZ    p1 (nI 2) q24 e24) (va_cwS 2 X.1.2.2.2.2 gX6_command_X6_at rfl rfl rfl kd_X6_at ⟨Nat.le_of_ble_eq_true rfl, Nat.le_of_ble_eq_true rfl⟩) hP hD hS hl.1 [] (by decide) (wo_X6_command cI cZ a_t a_t_st a_t_be a_t_so a_t_sv v_t_st) rfl rfl rfl rfl rfl (rest := [.ref a_t]) rfl (Nat.le_of_ble_eq_true rfl) dX6_command_24 ⟨Nat.zero_le _, Nat.zero_le _⟩ (fun H locs hP hD hS => ?_)
      refine lv_iload_n hx hb dX6_command_27 rfl (lv_at hl 2 rfl) ?_
      obtain ⟨q28, e28, hf⟩ := bnd hf
      refine callVI X (k_X6_set l D cI cZ a_t a_t_st a_t_be a_t_so a_t_sv  v_t_st q24 p2 q28 e28) (cwV 2 X.1.2.2.2.2 gX6_command_X6_set rfl rfl rfl kd_X6_set ⟨Nat.le_of_ble_eq_true rfl, Nat.le_of_ble_eq_true rfl⟩) hP hD hS hl.1 0 6 rfl rfl [0, 1] (by decide) (wo_X6_command cI cZ a_t a_t_st a_t_be a_t_so a_t_sv q28.2) rfl rfl rfl rfl rfl (rest := []) rfl (Nat.le_of_ble_eq_true rfl) dX6_command_28 ⟨Nat.zero_le _, Nat.zero_le _⟩ (fun H locs hP hD hS => ?_)
      refine lv_istore_n (lv' := [(3, .int q28.1), (0, .ref a_t), (1, .int p1), (2, .int p2)]) hx hb dX6_command_31 rfl hl (by decide) rfl (fun ls hl => ?_)
      refine lv_aload_n hx hb dX6_command_32 rfl (lv_at hl 1 rfl) ?_
      obtain ⟨q33, e33, hf⟩ := bnd hf
      refine callVV X (k_X6_control l D cI cZ a_t a_t_st a_t_be a_t_so a_t_sv  q28.2  q33 e33) (cwV 0 X.1.2.2.2.2 gX6_command_X6_control rfl rfl rfl kd_X6_control ⟨Nat.le_of_ble_eq_true rfl, Nat.le_of_ble_eq_true rfl⟩) hP hD hS hl.1 0 6 rfl rfl [0, 1] (by decide) (wo_X6_command cI cZ a_t a_t_st a_t_be a_t_so a_t_sv q33) rfl rfl rfl rfl rfl (rest := []) rfl (Nat.le_of_ble_eq_true rfl) dX6_command_33 ⟨Nat.zero_le _, Nat.zero_le _⟩ (fun H locs hP hD hS => ?_)
      refine lv_iload_n hx hb dX6_command_36 rfl (lv_at hl 0 rfl) ?_
      obtain rfl := Option.some.inj hf
      exact retI X hS hP rfl dX6_command_37
    · replace hf := ifn (b2i_z hc) hf
      refine lv_bipush hx hb dX6_command_18 bp_m4 ?_
      obtain rfl := Option.some.inj hf
      exact retI X hS hP rfl dX6_command_20
  · replace hf := ifn (b2i_z hc) hf
    refine lv_bipush hx hb dX6_command_8 bp_m2 ?_
    obtain rfl := Option.some.inj hf
    exact retI X hS hP rfl dX6_command_10

abbrev wo_X6_setRestoreTime (cI cZ : ClassId) (a_t a_t_st a_t_be a_t_so a_t_sv : Nat) (v_t_st : Nat → Int32) : va_W := [(a_t, oX6 a_t_st a_t_be a_t_so a_t_sv), (a_t_st, rI cI 164 v_t_st)]
def fX6_setRestoreTime (v_t_st : Nat → Int32) (p1 : Int32) : Option (Int32 × (Nat → Int32)) := ((fX6_in p1 0 (nI 60)).bind (fun q4 => (if q4 = true then ((fX6_set v_t_st (nI 2) p1).bind (fun q13 => (some (q13.1, q13.2)))) else (some ((-4), v_t_st)))))
theorem kd_X6_setRestoreTime : yX6_setRestoreTime.cls = RX6 ∧ yX6_setRestoreTime.cls ≠ "java/lang/invoke/MethodHandle" ∧ yX6_setRestoreTime.cls ≠ "java/lang/invoke/VarHandle" ∧ (parseMethodDescriptor yX6_setRestoreTime.desc).map (fun d => d.parameters.length) = some 1 := by decide +kernel
def rm_X6_setRestoreTime : Room := { frames := 1, cells := 0, slots := 0, locals := 23 }
set_option maxHeartbeats 4000000 in
set_option maxRecDepth 100000 in
theorem k_X6_setRestoreTime (l : Launch) (D : va_G) (cI cZ : ClassId) (a_t a_t_st a_t_be a_t_so a_t_sv : Nat) (v_t_st : Nat → Int32) (p1 : Int32) (q : Int32 × (Nat → Int32)) (hf : fX6_setRestoreTime v_t_st p1 = some q) : CI l D cI cZ yX6_setRestoreTime wsX6_setRestoreTime rm_X6_setRestoreTime [.ref a_t, .int p1] (wo_X6_setRestoreTime cI cZ a_t a_t_st a_t_be a_t_so a_t_sv v_t_st) (wo_X6_setRestoreTime cI cZ a_t a_t_st a_t_be a_t_so a_t_sv q.2) q.1 := by
  refine CI.mk (cc := cX6_setRestoreTime) (maxL := 2) (by decide) rfl (Nat.le_of_ble_eq_true rfl) ?_
  intro p e s m below meth c ls A X hP hD hl hS
  have hx := X.1.1
  have hb := X.1.2.1
  have hl : lv_has ls 2 [(0, .ref a_t), (1, .int p1)] := hl
  unfold fX6_setRestoreTime at hf
  refine lv_iload_n hx hb dX6_setRestoreTime_0 rfl (lv_at hl 1 rfl) ?_
  refine lv_iconst hx hb dX6_setRestoreTime_1 ic_0 ?_
  refine lv_bipush hx hb dX6_setRestoreTime_2 bp_60 ?_
  obtain ⟨q4, e4, hf⟩ := bnd hf
  refine callSI X (k_X6_in l D cI cZ    p1 0 (nI 60) q4 e4) (va_cwS 3 X.1.2.2.2.2 gX6_setRestoreTime_X6_in rfl rfl rfl kd_X6_in ⟨Nat.le_of_ble_eq_true rfl, Nat.le_of_ble_eq_true rfl⟩) hP hD hS hl.1 [] (by decide) (wo_X6_setRestoreTime cI cZ a_t a_t_st a_t_be a_t_so a_t_sv v_t_st) rfl rfl rfl rfl rfl (rest := []) rfl (Nat.le_of_ble_eq_true rfl) dX6_setRestoreTime_4 ⟨Nat.zero_le _, Nat.zero_le _⟩ (fun H locs hP hD hS => ?_)
  refine lv_if_eq (tgt := 19) hx hb dX6_setRestoreTime_7 (by decide) (fun hc => ?_) (fun hc => ?_)
  · replace hf := ifn (b2i_z hc) hf
    refine lv_bipush hx hb dX6_setRestoreTime_19 bp_m4 ?_
    obtain rfl := Option.some.inj hf
    exact retI X hS hP rfl dX6_setRestoreTime_21
  · replace hf := ifp (b2i_nz hc) hf
    refine lv_aload_n hx hb dX6_setRestoreTime_10 rfl (lv_at hl 0 rfl) ?_
    refine lv_iconst hx hb dX6_setRestoreTime_11 ic_2 ?_
    refine lv_iload_n hx hb dX6_setRestoreTime_12 rfl (lv_at hl 1 rfl) ?_
    obtain ⟨q13, e13, hf⟩ := bnd hf
    refine callVI X (k_X6_set l D cI cZ a_t a_t_st a_t_be a_t_so a_t_sv  v_t_st (nI 2) p1 q13 e13) (cwV 2 X.1.2.2.2.2 gX6_setRestoreTime_X6_set rfl rfl rfl kd_X6_set ⟨Nat.le_of_ble_eq_true rfl, Nat.le_of_ble_eq_true rfl⟩) hP hD hS hl.1 0 6 rfl rfl [0, 1] (by decide) (wo_X6_setRestoreTime cI cZ a_t a_t_st a_t_be a_t_so a_t_sv q13.2) rfl rfl rfl rfl rfl (rest := []) rfl (Nat.le_of_ble_eq_true rfl) dX6_setRestoreTime_13 ⟨Nat.zero_le _, Nat.zero_le _⟩ (fun H locs hP hD hS => ?_)
    refine lv_goto (tgt := 21) hx hb dX6_setRestoreTime_16 (by decide) ?_
    obtain rfl := Option.some.inj hf
    exact retI X hS hP rfl dX6_setRestoreTime_21

abbrev wo_X6_advance (cI cZ : ClassId) (a_t a_t_st a_t_be a_t_so a_t_sv : Nat) (v_t_st : Nat → Int32) : va_W := [(a_t, oX6 a_t_st a_t_be a_t_so a_t_sv), (a_t_st, rI cI 164 v_t_st)]
def fX6_advance_L22 (p1 : Int32) (K : Int32 → Int32 → (Nat → Int32) → Option (Int32 × (Nat → Int32))) : Nat → Int32 → Int32 → (Nat → Int32) → Option (Int32 × (Nat → Int32))
  | 0, _, _, _ => none
  | k + 1, x2_22, x3_22, v_t_st_22 => (if (v_t_st_22 0) ≤ x3_22 then (K x2_22 x3_22 v_t_st_22) else ((fX6_at x3_22 (nI 3)).bind (fun q38 => (if (q38 < 0 ∨ 164 ≤ (q38).toNatClampNeg) then none else ((fX6_of v_t_st_22 x3_22 (nI 3)).bind (fun q46 => (if q46 ≤ 0 then (if (q38 < 0 ∨ 164 ≤ (q38).toNatClampNeg) then none else (fX6_advance_L22 p1 K k x2_22 (x3_22 + nI 1) (upd v_t_st_22 (q38).toNatClampNeg ((v_t_st_22 (q38).toNatClampNeg) - 0)))) else (if (q38 < 0 ∨ 164 ≤ (q38).toNatClampNeg) then none else (fX6_advance_L22 p1 K k x2_22 (x3_22 + nI 1) (upd v_t_st_22 (q38).toNatClampNeg ((v_t_st_22 (q38).toNatClampNeg) - (nI 1))))))))))))
def fX6_advance_L15 (p1 : Int32) (K : Int32 → (Nat → Int32) → Option (Int32 × (Nat → Int32))) : Nat → Int32 → (Nat → Int32) → Option (Int32 × (Nat → Int32))
  | 0, _, _ => none
  | k + 1, x2_15, v_t_st_15 => (if p1 ≤ x2_15 then (K x2_15 v_t_st_15) else (fX6_advance_L22 p1 (fun x2_22 x3_22 v_t_st_22 => ((fX6_control v_t_st_22).bind (fun q66 => (fX6_advance_L15 p1 K k (x2_22 + nI 1) (upd q66 3 ((q66 3) + (nI 1))))))) FU x2_15 0 v_t_st_15))
def fX6_advance (v_t_st : Nat → Int32) (p1 : Int32) : Option (Int32 × (Nat → Int32)) := ((fX6_in p1 (nI 1) (nI 100)).bind (fun q4 => (if q4 = true then (fX6_advance_L15 p1 (fun x2_15 v_t_st_15 => (some ((v_t_st_15 3), v_t_st_15))) FU 0 v_t_st) else (some ((-4), v_t_st)))))
theorem kd_X6_advance : yX6_advance.cls = RX6 ∧ yX6_advance.cls ≠ "java/lang/invoke/MethodHandle" ∧ yX6_advance.cls ≠ "java/lang/invoke/VarHandle" ∧ (parseMethodDescriptor yX6_advance.desc).map (fun d => d.parameters.length) = some 1 := by decide +kernel
def rm_X6_advance : Room := { frames := 8, cells := 0, slots := 0, locals := 183 }
set_option maxHeartbeats 4000000 in
set_option maxRecDepth 100000 in
theorem k_X6_advance (l : Launch) (D : va_G) (cI cZ : ClassId) (a_t a_t_st a_t_be a_t_so a_t_sv : Nat) (v_t_st : Nat → Int32) (p1 : Int32) (q : Int32 × (Nat → Int32)) (hf : fX6_advance v_t_st p1 = some q) : CI l D cI cZ yX6_advance wsX6_advance rm_X6_advance [.ref a_t, .int p1] (wo_X6_advance cI cZ a_t a_t_st a_t_be a_t_so a_t_sv v_t_st) (wo_X6_advance cI cZ a_t a_t_st a_t_be a_t_so a_t_sv q.2) q.1 := by
  refine CI.mk (cc := cX6_advance) (maxL := 4) (by decide) rfl (Nat.le_of_ble_eq_true rfl) ?_
  intro p e s m below meth c ls A X hP hD hl hS
  have hx := X.1.1
  have hb := X.1.2.1
  have hl : lv_has ls 4 [(0, .ref a_t), (1, .int p1)] := hl
  have inX6 : ∀ w ∈ u_ws RX6 TX6 4, w ∈ wsX6_advance := fun _ h => List.mem_cons_of_mem _ (List.mem_append_right _ h)
  have L22 : ∀ (K : Int32 → Int32 → (Nat → Int32) → Option (Int32 × (Nat → Int32))) (hKK : ∀ (x2_22 : Int32) (x3_22 : Int32) (v_t_st_22 : Nat → Int32) (H : Heap) (locs : List Loc) (ls : Array Slot), K x2_22 x3_22 v_t_st_22 = some q → va_P D vwCl (wo_X6_advance cI cZ a_t a_t_st a_t_be a_t_so a_t_sv v_t_st_22) H → va_D A (wo_X6_advance cI cZ a_t a_t_st a_t_be a_t_so a_t_sv v_t_st_22) → va_S A s.heap H locs → lv_has ls 4 [(0, .ref a_t), (1, .int p1), (2, .int x2_22)] → W p l e rm_X6_advance s m ([.ref a_t, .int p1] : List Value).toArray below meth c H locs 0 0 (MQ below (QI D (wo_X6_advance cI cZ a_t a_t_st a_t_be a_t_so a_t_sv q.2) q.1 A) ([.ref a_t, .int p1] : List Value).toArray s 0 0 A) (F0 m 65 ls [])) (k : Nat) (x2_22 : Int32) (x3_22 : Int32) (v_t_st_22 : Nat → Int32) (H : Heap) (locs : List Loc) (ls : Array Slot), fX6_advance_L22 p1 K k x2_22 x3_22 v_t_st_22 = some q → va_P D vwCl (wo_X6_advance cI cZ a_t a_t_st a_t_be a_t_so a_t_sv v_t_st_22) H → va_D A (wo_X6_advance cI cZ a_t a_t_st a_t_be a_t_so a_t_sv v_t_st_22) → va_S A s.heap H locs → lv_has ls 4 [(0, .ref a_t), (1, .int p1), (2, .int x2_22), (3, .int x3_22)] → W p l e rm_X6_advance s m ([.ref a_t, .int p1] : List Value).toArray below meth c H locs 0 0 (MQ below (QI D (wo_X6_advance cI cZ a_t a_t_st a_t_be a_t_so a_t_sv q.2) q.1 A) ([.ref a_t, .int p1] : List Value).toArray s 0 0 A) (F0 m 22 ls []) := by
    intro K hKK k
    induction k with
    | zero => intro x2_22 x3_22 v_t_st_22 H locs ls hf; rw [fX6_advance_L22] at hf; cases hf
    | succ k ih =>
      intro x2_22 x3_22 v_t_st_22 H locs ls hf hP hD hS hl
      rw [fX6_advance_L22] at hf
      refine lv_iload_n hx hb dX6_advance_22 rfl (lv_at hl 3 rfl) ?_
      refine lv_aload_n hx hb dX6_advance_23 rfl (lv_at hl 0 rfl) ?_
      refine getO X hP inX6 0 rfl rfl 0 (by decide) (List.mem_of_getElem? (i := 1) rfl) rfl dX6_advance_24 ?_
      refine lv_iconst hx hb dX6_advance_27 ic_0 ?_
      refine aldI X hP 1 rfl (vin0 (by decide) (by decide)) (j := 0) sb_cl0 dX6_advance_28 ?_
      refine lv_icmp_ge (tgt := 65) hx hb dX6_advance_29 (by decide) (fun hc => ?_) (fun hc => ?_)
      · replace hf := ifp hc hf
        exact hKK _ _ _ _ _ ls hf hP hD hS (lv_sub hl [0, 1, 2] rfl)
      · replace hf := ifn hc hf
        refine lv_aload_n hx hb dX6_advance_32 rfl (lv_at hl 0 rfl) ?_
        refine getO X hP inX6 0 rfl rfl 0 (by decide) (List.mem_of_getElem? (i := 1) rfl) rfl dX6_advance_33 ?_
        refine lv_iload_n hx hb dX6_advance_36 rfl (lv_at hl 3 rfl) ?_
        refine lv_iconst hx hb dX6_advance_37 ic_3 ?_
        obtain ⟨q38, e38, hf⟩ := bnd hf
        refine callSI X (k_X6_at l D cI cZ    x3_22 (nI 3) q38 e38) (va_cwS 2 X.1.2.2.2.2 gX6_advance_X6_at rfl rfl rfl kd_X6_at ⟨Nat.le_of_ble_eq_true rfl, Nat.le_of_ble_eq_true rfl⟩) hP hD hS hl.1 [] (by decide) (wo_X6_advance cI cZ a_t a_t_st a_t_be a_t_so a_t_sv v_t_st_22) rfl rfl rfl rfl rfl (rest := [.ref a_t_st]) rfl (Nat.le_of_ble_eq_true rfl) dX6_advance_38 ⟨Nat.zero_le _, Nat.zero_le _⟩ (fun H locs hP hD hS => ?_)
        refine lv_dup2_11 hx hb dX6_advance_41 rfl rfl ?_
        obtain ⟨g42, hf⟩ := grd hf
        refine aldI X hP 1 rfl g42 rfl dX6_advance_42 ?_
        refine lv_aload_n hx hb dX6_advance_43 rfl (lv_at hl 0 rfl) ?_
        refine lv_iload_n hx hb dX6_advance_44 rfl (lv_at hl 3 rfl) ?_
        refine lv_iconst hx hb dX6_advance_45 ic_3 ?_
        obtain ⟨q46, e46, hf⟩ := bnd hf
        refine callVI X (k_X6_of l D cI cZ a_t a_t_st a_t_be a_t_so a_t_sv  v_t_st_22 x3_22 (nI 3) q46 e46) (cwV 2 X.1.2.2.2.2 gX6_advance_X6_of rfl rfl rfl kd_X6_of ⟨Nat.le_of_ble_eq_true rfl, Nat.le_of_ble_eq_true rfl⟩) hP hD hS hl.1 0 6 rfl rfl [0, 1] (by decide) (wo_X6_advance cI cZ a_t a_t_st a_t_be a_t_so a_t_sv v_t_st_22) rfl rfl rfl rfl rfl (rest := [.int (v_t_st_22 (q38).toNatClampNeg), .int q38, .ref a_t_st]) rfl (Nat.le_of_ble_eq_true rfl) dX6_advance_46 ⟨Nat.zero_le _, Nat.zero_le _⟩ (fun H locs hP hD hS => ?_)
        refine lv_if_le (tgt := 56) hx hb dX6_advance_49 (by decide) (fun hc => ?_) (fun hc => ?_)
        · replace hf := ifp hc hf
          refine lv_iconst hx hb dX6_advance_56 ic_0 ?_
          refine lv_isub hx hb dX6_advance_57 ?_
          obtain ⟨g58, hf⟩ := grd hf
          refine astI X hP hD hS 1 rfl g58 rfl dX6_advance_58 (wo_X6_advance cI cZ a_t a_t_st a_t_be a_t_so a_t_sv (upd v_t_st_22 (q38).toNatClampNeg ((v_t_st_22 (q38).toNatClampNeg) - 0))) rfl (fun H locs hP hD hS => ?_)
          refine lv_iinc (v := (x3_22 + nI 1)) (lv' := [(3, .int (x3_22 + nI 1)), (0, .ref a_t), (1, .int p1), (2, .int x2_22)]) hx hb dX6_advance_59 hl (k := 3) rfl (inc_1 _) (by decide) rfl (fun ls hl => ?_)
          refine lv_goto (tgt := 22) hx hb dX6_advance_62 (by decide) ?_
          exact ih _ _ _ _ _ ls hf hP hD hS (lv_sub hl [1, 2, 3, 0] rfl)
        · replace hf := ifn hc hf
          refine lv_iconst hx hb dX6_advance_52 ic_1 ?_
          refine lv_goto (tgt := 57) hx hb dX6_advance_53 (by decide) ?_
          refine lv_isub hx hb dX6_advance_57 ?_
          obtain ⟨g58, hf⟩ := grd hf
          refine astI X hP hD hS 1 rfl g58 rfl dX6_advance_58 (wo_X6_advance cI cZ a_t a_t_st a_t_be a_t_so a_t_sv (upd v_t_st_22 (q38).toNatClampNeg ((v_t_st_22 (q38).toNatClampNeg) - (nI 1)))) rfl (fun H locs hP hD hS => ?_)
          refine lv_iinc (v := (x3_22 + nI 1)) (lv' := [(3, .int (x3_22 + nI 1)), (0, .ref a_t), (1, .int p1), (2, .int x2_22)]) hx hb dX6_advance_59 hl (k := 3) rfl (inc_1 _) (by decide) rfl (fun ls hl => ?_)
          refine lv_goto (tgt := 22) hx hb dX6_advance_62 (by decide) ?_
          exact ih _ _ _ _ _ ls hf hP hD hS (lv_sub hl [1, 2, 3, 0] rfl)
  have L15 : ∀ (K : Int32 → (Nat → Int32) → Option (Int32 × (Nat → Int32))) (hKK : ∀ (x2_15 : Int32) (v_t_st_15 : Nat → Int32) (H : Heap) (locs : List Loc) (ls : Array Slot), K x2_15 v_t_st_15 = some q → va_P D vwCl (wo_X6_advance cI cZ a_t a_t_st a_t_be a_t_so a_t_sv v_t_st_15) H → va_D A (wo_X6_advance cI cZ a_t a_t_st a_t_be a_t_so a_t_sv v_t_st_15) → va_S A s.heap H locs → lv_has ls 4 [(0, .ref a_t)] → W p l e rm_X6_advance s m ([.ref a_t, .int p1] : List Value).toArray below meth c H locs 0 0 (MQ below (QI D (wo_X6_advance cI cZ a_t a_t_st a_t_be a_t_so a_t_sv q.2) q.1 A) ([.ref a_t, .int p1] : List Value).toArray s 0 0 A) (F0 m 85 ls [])) (k : Nat) (x2_15 : Int32) (v_t_st_15 : Nat → Int32) (H : Heap) (locs : List Loc) (ls : Array Slot), fX6_advance_L15 p1 K k x2_15 v_t_st_15 = some q → va_P D vwCl (wo_X6_advance cI cZ a_t a_t_st a_t_be a_t_so a_t_sv v_t_st_15) H → va_D A (wo_X6_advance cI cZ a_t a_t_st a_t_be a_t_so a_t_sv v_t_st_15) → va_S A s.heap H locs → lv_has ls 4 [(0, .ref a_t), (1, .int p1), (2, .int x2_15)] → W p l e rm_X6_advance s m ([.ref a_t, .int p1] : List Value).toArray below meth c H locs 0 0 (MQ below (QI D (wo_X6_advance cI cZ a_t a_t_st a_t_be a_t_so a_t_sv q.2) q.1 A) ([.ref a_t, .int p1] : List Value).toArray s 0 0 A) (F0 m 15 ls []) := by
    intro K hKK k
    induction k with
    | zero => intro x2_15 v_t_st_15 H locs ls hf; rw [fX6_advance_L15] at hf; cases hf
    | succ k ih =>
      intro x2_15 v_t_st_15 H locs ls hf hP hD hS hl
      rw [fX6_advance_L15] at hf
      refine lv_iload_n hx hb dX6_advance_15 rfl (lv_at hl 2 rfl) ?_
      refine lv_iload_n hx hb dX6_advance_16 rfl (lv_at hl 1 rfl) ?_
      refine lv_icmp_ge (tgt := 85) hx hb dX6_advance_17 (by decide) (fun hc => ?_) (fun hc => ?_)
      · replace hf := ifp hc hf
        exact hKK _ _ _ _ ls hf hP hD hS (lv_sub hl [0] rfl)
      · replace hf := ifn hc hf
        refine lv_iconst hx hb dX6_advance_20 ic_0 ?_
        refine lv_istore_n (lv' := [(3, .int 0), (0, .ref a_t), (1, .int p1), (2, .int x2_15)]) hx hb dX6_advance_21 rfl hl (by decide) rfl (fun ls hl => ?_)
        refine L22 _ (fun x2_22 x3_22 v_t_st_22 H locs ls hf hP hD hS hl => ?_) FU _ _ _ _ _ ls hf hP hD hS (lv_sub hl [1, 2, 3, 0] rfl)
        refine lv_aload_n hx hb dX6_advance_65 rfl (lv_at hl 0 rfl) ?_
        obtain ⟨q66, e66, hf⟩ := bnd hf
        refine callVV X (k_X6_control l D cI cZ a_t a_t_st a_t_be a_t_so a_t_sv  v_t_st_22  q66 e66) (cwV 0 X.1.2.2.2.2 gX6_advance_X6_control rfl rfl rfl kd_X6_control ⟨Nat.le_of_ble_eq_true rfl, Nat.le_of_ble_eq_true rfl⟩) hP hD hS hl.1 0 6 rfl rfl [0, 1] (by decide) (wo_X6_advance cI cZ a_t a_t_st a_t_be a_t_so a_t_sv q66) rfl rfl rfl rfl rfl (rest := []) rfl (Nat.le_of_ble_eq_true rfl) dX6_advance_66 ⟨Nat.zero_le _, Nat.zero_le _⟩ (fun H locs hP hD hS => ?_)
        refine lv_aload_n hx hb dX6_advance_69 rfl (lv_at hl 0 rfl) ?_
        refine getO X hP inX6 0 rfl rfl 0 (by decide) (List.mem_of_getElem? (i := 1) rfl) rfl dX6_advance_70 ?_
        refine lv_iconst hx hb dX6_advance_73 ic_3 ?_
        refine lv_dup2_11 hx hb dX6_advance_74 rfl rfl ?_
        refine aldI X hP 1 rfl (vp_in_nI (by decide) (by decide)) (j := 3) (nI_clamp (by decide)) dX6_advance_75 ?_
        refine lv_iconst hx hb dX6_advance_76 ic_1 ?_
        refine lv_iadd hx hb dX6_advance_77 ?_
        refine astI X hP hD hS 1 rfl (vp_in_nI (by decide) (by decide)) (j := 3) (nI_clamp (by decide)) dX6_advance_78 (wo_X6_advance cI cZ a_t a_t_st a_t_be a_t_so a_t_sv (upd q66 3 ((q66 3) + (nI 1)))) rfl (fun H locs hP hD hS => ?_)
        refine lv_iinc (v := (x2_22 + nI 1)) (lv' := [(2, .int (x2_22 + nI 1)), (0, .ref a_t), (1, .int p1)]) hx hb dX6_advance_79 hl (k := 2) rfl (inc_1 _) (by decide) rfl (fun ls hl => ?_)
        refine lv_goto (tgt := 15) hx hb dX6_advance_82 (by decide) ?_
        exact ih _ _ _ _ ls hf hP hD hS (lv_sub hl [1, 2, 0] rfl)
  unfold fX6_advance at hf
  refine lv_iload_n hx hb dX6_advance_0 rfl (lv_at hl 1 rfl) ?_
  refine lv_iconst hx hb dX6_advance_1 ic_1 ?_
  refine lv_bipush hx hb dX6_advance_2 bp_100 ?_
  obtain ⟨q4, e4, hf⟩ := bnd hf
  refine callSI X (k_X6_in l D cI cZ    p1 (nI 1) (nI 100) q4 e4) (va_cwS 3 X.1.2.2.2.2 gX6_advance_X6_in rfl rfl rfl kd_X6_in ⟨Nat.le_of_ble_eq_true rfl, Nat.le_of_ble_eq_true rfl⟩) hP hD hS hl.1 [] (by decide) (wo_X6_advance cI cZ a_t a_t_st a_t_be a_t_so a_t_sv v_t_st) rfl rfl rfl rfl rfl (rest := []) rfl (Nat.le_of_ble_eq_true rfl) dX6_advance_4 ⟨Nat.zero_le _, Nat.zero_le _⟩ (fun H locs hP hD hS => ?_)
  refine lv_if_ne (tgt := 13) hx hb dX6_advance_7 (by decide) (fun hc => ?_) (fun hc => ?_)
  · replace hf := ifp (b2i_nz hc) hf
    refine lv_iconst hx hb dX6_advance_13 ic_0 ?_
    refine lv_istore_n (lv' := [(2, .int 0), (0, .ref a_t), (1, .int p1)]) hx hb dX6_advance_14 rfl hl (by decide) rfl (fun ls hl => ?_)
    refine L15 _ (fun x2_15 v_t_st_15 H locs ls hf hP hD hS hl => ?_) FU _ _ _ _ ls hf hP hD hS (lv_sub hl [1, 2, 0] rfl)
    refine lv_aload_n hx hb dX6_advance_85 rfl (lv_at hl 0 rfl) ?_
    refine getO X hP inX6 0 rfl rfl 0 (by decide) (List.mem_of_getElem? (i := 1) rfl) rfl dX6_advance_86 ?_
    refine lv_iconst hx hb dX6_advance_89 ic_3 ?_
    refine aldI X hP 1 rfl (vp_in_nI (by decide) (by decide)) (j := 3) (nI_clamp (by decide)) dX6_advance_90 ?_
    obtain rfl := Option.some.inj hf
    exact retI X hS hP rfl dX6_advance_91
  · replace hf := ifn (b2i_z hc) hf
    refine lv_bipush hx hb dX6_advance_10 bp_m4 ?_
    obtain rfl := Option.some.inj hf
    exact retI X hS hP rfl dX6_advance_12

abbrev wo_X6_clock (cI cZ : ClassId) (a_t a_t_st a_t_be a_t_so a_t_sv : Nat) (v_t_st : Nat → Int32) : va_W := [(a_t, oX6 a_t_st a_t_be a_t_so a_t_sv), (a_t_st, rI cI 164 v_t_st)]
def fX6_clock (v_t_st : Nat → Int32) : Option (Int32) := (some (v_t_st 3))
theorem kd_X6_clock : yX6_clock.cls = RX6 ∧ yX6_clock.cls ≠ "java/lang/invoke/MethodHandle" ∧ yX6_clock.cls ≠ "java/lang/invoke/VarHandle" ∧ (parseMethodDescriptor yX6_clock.desc).map (fun d => d.parameters.length) = some 0 := by decide +kernel
def rm_X6_clock : Room := { frames := 0, cells := 0, slots := 0, locals := 0 }
set_option maxHeartbeats 4000000 in
set_option maxRecDepth 100000 in
theorem k_X6_clock (l : Launch) (D : va_G) (cI cZ : ClassId) (a_t a_t_st a_t_be a_t_so a_t_sv : Nat) (v_t_st : Nat → Int32) (q : Int32) (hf : fX6_clock v_t_st = some q) : CI l D cI cZ yX6_clock wsX6_clock rm_X6_clock [.ref a_t] (wo_X6_clock cI cZ a_t a_t_st a_t_be a_t_so a_t_sv v_t_st) (wo_X6_clock cI cZ a_t a_t_st a_t_be a_t_so a_t_sv v_t_st) q := by
  refine CI.mk (cc := cX6_clock) (maxL := 1) (by decide) rfl (Nat.le_of_ble_eq_true rfl) ?_
  intro p e s m below meth c ls A X hP hD hl hS
  have hx := X.1.1
  have hb := X.1.2.1
  have hl : lv_has ls 1 [(0, .ref a_t)] := hl
  have inX6 : ∀ w ∈ u_ws RX6 TX6 4, w ∈ wsX6_clock := fun _ h => List.mem_cons_of_mem _ (List.mem_append_right _ h)
  unfold fX6_clock at hf
  refine lv_aload_n hx hb dX6_clock_0 rfl (lv_at hl 0 rfl) ?_
  refine getO X hP inX6 0 rfl rfl 0 (by decide) (List.mem_of_getElem? (i := 1) rfl) rfl dX6_clock_1 ?_
  refine lv_iconst hx hb dX6_clock_4 ic_3 ?_
  refine aldI X hP 1 rfl (vp_in_nI (by decide) (by decide)) (j := 3) (nI_clamp (by decide)) dX6_clock_5 ?_
  obtain rfl := Option.some.inj hf
  exact retI X hS hP rfl dX6_clock_6

abbrev wo_X6_request (cI cZ : ClassId) (a_t a_t_st a_t_be a_t_so a_t_sv : Nat) (v_t_st : Nat → Int32) : va_W := [(a_t, oX6 a_t_st a_t_be a_t_so a_t_sv), (a_t_st, rI cI 164 v_t_st)]
def fX6_request (v_t_st : Nat → Int32) (p1 : Int32) : Option (Int32) := ((fX6_isSpan v_t_st p1).bind (fun q2 => (if q2 = true then ((fX6_requestOf v_t_st p1).bind (fun q10 => (some q10))) else (some (-2)))))
theorem kd_X6_request : yX6_request.cls = RX6 ∧ yX6_request.cls ≠ "java/lang/invoke/MethodHandle" ∧ yX6_request.cls ≠ "java/lang/invoke/VarHandle" ∧ (parseMethodDescriptor yX6_request.desc).map (fun d => d.parameters.length) = some 1 := by decide +kernel
def rm_X6_request : Room := { frames := 5, cells := 0, slots := 0, locals := 114 }
set_option maxHeartbeats 4000000 in
set_option maxRecDepth 100000 in
theorem k_X6_request (l : Launch) (D : va_G) (cI cZ : ClassId) (a_t a_t_st a_t_be a_t_so a_t_sv : Nat) (v_t_st : Nat → Int32) (p1 : Int32) (q : Int32) (hf : fX6_request v_t_st p1 = some q) : CI l D cI cZ yX6_request wsX6_request rm_X6_request [.ref a_t, .int p1] (wo_X6_request cI cZ a_t a_t_st a_t_be a_t_so a_t_sv v_t_st) (wo_X6_request cI cZ a_t a_t_st a_t_be a_t_so a_t_sv v_t_st) q := by
  refine CI.mk (cc := cX6_request) (maxL := 2) (by decide) rfl (Nat.le_of_ble_eq_true rfl) ?_
  intro p e s m below meth c ls A X hP hD hl hS
  have hx := X.1.1
  have hb := X.1.2.1
  have hl : lv_has ls 2 [(0, .ref a_t), (1, .int p1)] := hl
  unfold fX6_request at hf
  refine lv_aload_n hx hb dX6_request_0 rfl (lv_at hl 0 rfl) ?_
  refine lv_iload_n hx hb dX6_request_1 rfl (lv_at hl 1 rfl) ?_
  obtain ⟨q2, e2, hf⟩ := bnd hf
  refine callVI X (k_X6_isSpan l D cI cZ a_t a_t_st a_t_be a_t_so a_t_sv  v_t_st p1 q2 e2) (cwV 1 X.1.2.2.2.2 gX6_request_X6_isSpan rfl rfl rfl kd_X6_isSpan ⟨Nat.le_of_ble_eq_true rfl, Nat.le_of_ble_eq_true rfl⟩) hP hD hS hl.1 0 6 rfl rfl [0, 1] (by decide) (wo_X6_request cI cZ a_t a_t_st a_t_be a_t_so a_t_sv v_t_st) rfl rfl rfl rfl rfl (rest := []) rfl (Nat.le_of_ble_eq_true rfl) dX6_request_2 ⟨Nat.zero_le _, Nat.zero_le _⟩ (fun H locs hP hD hS => ?_)
  refine lv_if_eq (tgt := 16) hx hb dX6_request_5 (by decide) (fun hc => ?_) (fun hc => ?_)
  · replace hf := ifn (b2i_z hc) hf
    refine lv_bipush hx hb dX6_request_16 bp_m2 ?_
    obtain rfl := Option.some.inj hf
    exact retI X hS hP rfl dX6_request_18
  · replace hf := ifp (b2i_nz hc) hf
    refine lv_aload_n hx hb dX6_request_8 rfl (lv_at hl 0 rfl) ?_
    refine lv_iload_n hx hb dX6_request_9 rfl (lv_at hl 1 rfl) ?_
    obtain ⟨q10, e10, hf⟩ := bnd hf
    refine callVI X (k_X6_requestOf l D cI cZ a_t a_t_st a_t_be a_t_so a_t_sv  v_t_st p1 q10 e10) (cwV 1 X.1.2.2.2.2 gX6_request_X6_requestOf rfl rfl rfl kd_X6_requestOf ⟨Nat.le_of_ble_eq_true rfl, Nat.le_of_ble_eq_true rfl⟩) hP hD hS hl.1 0 6 rfl rfl [0, 1] (by decide) (wo_X6_request cI cZ a_t a_t_st a_t_be a_t_so a_t_sv v_t_st) rfl rfl rfl rfl rfl (rest := []) rfl (Nat.le_of_ble_eq_true rfl) dX6_request_10 ⟨Nat.zero_le _, Nat.zero_le _⟩ (fun H locs hP hD hS => ?_)
    refine lv_goto (tgt := 18) hx hb dX6_request_13 (by decide) ?_
    obtain rfl := Option.some.inj hf
    exact retI X hS hP rfl dX6_request_18

abbrev wo_X6_switchOf (cI cZ : ClassId) (a_t a_t_st a_t_be a_t_so a_t_sv : Nat) (v_t_st : Nat → Int32) : va_W := [(a_t, oX6 a_t_st a_t_be a_t_so a_t_sv), (a_t_st, rI cI 164 v_t_st)]
def fX6_switchOf (v_t_st : Nat → Int32) (p1 : Int32) : Option (Int32) := ((fX6_isSpan v_t_st p1).bind (fun q2 => (if q2 = true then ((fX6_of v_t_st p1 (nI 6)).bind (fun q12 => (some q12))) else (some (-2)))))
theorem kd_X6_switchOf : yX6_switchOf.cls = RX6 ∧ yX6_switchOf.cls ≠ "java/lang/invoke/MethodHandle" ∧ yX6_switchOf.cls ≠ "java/lang/invoke/VarHandle" ∧ (parseMethodDescriptor yX6_switchOf.desc).map (fun d => d.parameters.length) = some 1 := by decide +kernel
def rm_X6_switchOf : Room := { frames := 2, cells := 0, slots := 0, locals := 43 }
set_option maxHeartbeats 4000000 in
set_option maxRecDepth 100000 in
theorem k_X6_switchOf (l : Launch) (D : va_G) (cI cZ : ClassId) (a_t a_t_st a_t_be a_t_so a_t_sv : Nat) (v_t_st : Nat → Int32) (p1 : Int32) (q : Int32) (hf : fX6_switchOf v_t_st p1 = some q) : CI l D cI cZ yX6_switchOf wsX6_switchOf rm_X6_switchOf [.ref a_t, .int p1] (wo_X6_switchOf cI cZ a_t a_t_st a_t_be a_t_so a_t_sv v_t_st) (wo_X6_switchOf cI cZ a_t a_t_st a_t_be a_t_so a_t_sv v_t_st) q := by
  refine CI.mk (cc := cX6_switchOf) (maxL := 2) (by decide) rfl (Nat.le_of_ble_eq_true rfl) ?_
  intro p e s m below meth c ls A X hP hD hl hS
  have hx := X.1.1
  have hb := X.1.2.1
  have hl : lv_has ls 2 [(0, .ref a_t), (1, .int p1)] := hl
  unfold fX6_switchOf at hf
  refine lv_aload_n hx hb dX6_switchOf_0 rfl (lv_at hl 0 rfl) ?_
  refine lv_iload_n hx hb dX6_switchOf_1 rfl (lv_at hl 1 rfl) ?_
  obtain ⟨q2, e2, hf⟩ := bnd hf
  refine callVI X (k_X6_isSpan l D cI cZ a_t a_t_st a_t_be a_t_so a_t_sv  v_t_st p1 q2 e2) (cwV 1 X.1.2.2.2.2 gX6_switchOf_X6_isSpan rfl rfl rfl kd_X6_isSpan ⟨Nat.le_of_ble_eq_true rfl, Nat.le_of_ble_eq_true rfl⟩) hP hD hS hl.1 0 6 rfl rfl [0, 1] (by decide) (wo_X6_switchOf cI cZ a_t a_t_st a_t_be a_t_so a_t_sv v_t_st) rfl rfl rfl rfl rfl (rest := []) rfl (Nat.le_of_ble_eq_true rfl) dX6_switchOf_2 ⟨Nat.zero_le _, Nat.zero_le _⟩ (fun H locs hP hD hS => ?_)
  refine lv_if_eq (tgt := 18) hx hb dX6_switchOf_5 (by decide) (fun hc => ?_) (fun hc => ?_)
  · replace hf := ifn (b2i_z hc) hf
    refine lv_bipush hx hb dX6_switchOf_18 bp_m2 ?_
    obtain rfl := Option.some.inj hf
    exact retI X hS hP rfl dX6_switchOf_20
  · replace hf := ifp (b2i_nz hc) hf
    refine lv_aload_n hx hb dX6_switchOf_8 rfl (lv_at hl 0 rfl) ?_
    refine lv_iload_n hx hb dX6_switchOf_9 rfl (lv_at hl 1 rfl) ?_
    refine lv_bipush hx hb dX6_switchOf_10 bp_6 ?_
    obtain ⟨q12, e12, hf⟩ := bnd hf
    refine callVI X (k_X6_of l D cI cZ a_t a_t_st a_t_be a_t_so a_t_sv  v_t_st p1 (nI 6) q12 e12) (cwV 2 X.1.2.2.2.2 gX6_switchOf_X6_of rfl rfl rfl kd_X6_of ⟨Nat.le_of_ble_eq_true rfl, Nat.le_of_ble_eq_true rfl⟩) hP hD hS hl.1 0 6 rfl rfl [0, 1] (by decide) (wo_X6_switchOf cI cZ a_t a_t_st a_t_be a_t_so a_t_sv v_t_st) rfl rfl rfl rfl rfl (rest := []) rfl (Nat.le_of_ble_eq_true rfl) dX6_switchOf_12 ⟨Nat.zero_le _, Nat.zero_le _⟩ (fun H locs hP hD hS => ?_)
    refine lv_goto (tgt := 20) hx hb dX6_switchOf_15 (by decide) ?_
    obtain rfl := Option.some.inj hf
    exact retI X hS hP rfl dX6_switchOf_20

abbrev wo_X6_restoreTimer (cI cZ : ClassId) (a_t a_t_st a_t_be a_t_so a_t_sv : Nat) (v_t_st : Nat → Int32) : va_W := [(a_t, oX6 a_t_st a_t_be a_t_so a_t_sv), (a_t_st, rI cI 164 v_t_st)]
def fX6_restoreTimer (v_t_st : Nat → Int32) (p1 : Int32) : Option (Int32) := ((fX6_isSpan v_t_st p1).bind (fun q2 => (if q2 = true then ((fX6_of v_t_st p1 (nI 3)).bind (fun q11 => (some q11))) else (some (-2)))))
theorem kd_X6_restoreTimer : yX6_restoreTimer.cls = RX6 ∧ yX6_restoreTimer.cls ≠ "java/lang/invoke/MethodHandle" ∧ yX6_restoreTimer.cls ≠ "java/lang/invoke/VarHandle" ∧ (parseMethodDescriptor yX6_restoreTimer.desc).map (fun d => d.parameters.length) = some 1 := by decide +kernel
def rm_X6_restoreTimer : Room := { frames := 2, cells := 0, slots := 0, locals := 43 }
set_option maxHeartbeats 4000000 in
set_option maxRecDepth 100000 in
theorem k_X6_restoreTimer (l : Launch) (D : va_G) (cI cZ : ClassId) (a_t a_t_st a_t_be a_t_so a_t_sv : Nat) (v_t_st : Nat → Int32) (p1 : Int32) (q : Int32) (hf : fX6_restoreTimer v_t_st p1 = some q) : CI l D cI cZ yX6_restoreTimer wsX6_restoreTimer rm_X6_restoreTimer [.ref a_t, .int p1] (wo_X6_restoreTimer cI cZ a_t a_t_st a_t_be a_t_so a_t_sv v_t_st) (wo_X6_restoreTimer cI cZ a_t a_t_st a_t_be a_t_so a_t_sv v_t_st) q := by
  refine CI.mk (cc := cX6_restoreTimer) (maxL := 2) (by decide) rfl (Nat.le_of_ble_eq_true rfl) ?_
  intro p e s m below meth c ls A X hP hD hl hS
  have hx := X.1.1
  have hb := X.1.2.1
  have hl : lv_has ls 2 [(0, .ref a_t), (1, .int p1)] := hl
  unfold fX6_restoreTimer at hf
  refine lv_aload_n hx hb dX6_restoreTimer_0 rfl (lv_at hl 0 rfl) ?_
  refine lv_iload_n hx hb dX6_restoreTimer_1 rfl (lv_at hl 1 rfl) ?_
  obtain ⟨q2, e2, hf⟩ := bnd hf
  refine callVI X (k_X6_isSpan l D cI cZ a_t a_t_st a_t_be a_t_so a_t_sv  v_t_st p1 q2 e2) (cwV 1 X.1.2.2.2.2 gX6_restoreTimer_X6_isSpan rfl rfl rfl kd_X6_isSpan ⟨Nat.le_of_ble_eq_true rfl, Nat.le_of_ble_eq_true rfl⟩) hP hD hS hl.1 0 6 rfl rfl [0, 1] (by decide) (wo_X6_restoreTimer cI cZ a_t a_t_st a_t_be a_t_so a_t_sv v_t_st) rfl rfl rfl rfl rfl (rest := []) rfl (Nat.le_of_ble_eq_true rfl) dX6_restoreTimer_2 ⟨Nat.zero_le _, Nat.zero_le _⟩ (fun H locs hP hD hS => ?_)
  refine lv_if_eq (tgt := 17) hx hb dX6_restoreTimer_5 (by decide) (fun hc => ?_) (fun hc => ?_)
  · replace hf := ifn (b2i_z hc) hf
    refine lv_bipush hx hb dX6_restoreTimer_17 bp_m2 ?_
    obtain rfl := Option.some.inj hf
    exact retI X hS hP rfl dX6_restoreTimer_19
  · replace hf := ifp (b2i_nz hc) hf
    refine lv_aload_n hx hb dX6_restoreTimer_8 rfl (lv_at hl 0 rfl) ?_
    refine lv_iload_n hx hb dX6_restoreTimer_9 rfl (lv_at hl 1 rfl) ?_
    refine lv_iconst hx hb dX6_restoreTimer_10 ic_3 ?_
    obtain ⟨q11, e11, hf⟩ := bnd hf
    refine callVI X (k_X6_of l D cI cZ a_t a_t_st a_t_be a_t_so a_t_sv  v_t_st p1 (nI 3) q11 e11) (cwV 2 X.1.2.2.2.2 gX6_restoreTimer_X6_of rfl rfl rfl kd_X6_of ⟨Nat.le_of_ble_eq_true rfl, Nat.le_of_ble_eq_true rfl⟩) hP hD hS hl.1 0 6 rfl rfl [0, 1] (by decide) (wo_X6_restoreTimer cI cZ a_t a_t_st a_t_be a_t_so a_t_sv v_t_st) rfl rfl rfl rfl rfl (rest := []) rfl (Nat.le_of_ble_eq_true rfl) dX6_restoreTimer_11 ⟨Nat.zero_le _, Nat.zero_le _⟩ (fun H locs hP hD hS => ?_)
    refine lv_goto (tgt := 19) hx hb dX6_restoreTimer_14 (by decide) ?_
    obtain rfl := Option.some.inj hf
    exact retI X hS hP rfl dX6_restoreTimer_19

abbrev wo_X6_segmentOf (cI cZ : ClassId) (a_t a_t_st a_t_be a_t_so a_t_sv : Nat) (v_t_st : Nat → Int32) : va_W := [(a_t, oX6 a_t_st a_t_be a_t_so a_t_sv), (a_t_st, rI cI 164 v_t_st)]
def fX6_segmentOf_L66 (v_t_st : Nat → Int32) (p1 : Int32) (K : Int32 → Int32 → Int32 → Int32 → Option (Int32)) : Nat → Int32 → Int32 → Int32 → Int32 → Option (Int32)
  | 0, _, _, _, _ => none
  | k + 1, x2_66, x3_66, x4_66, x5_66 => (if x2_66 ≤ x5_66 then (K x2_66 x3_66 x4_66 x5_66) else (if x2_66 = 0 then none else ((fX6_of v_t_st (((x4_66 + x2_66) - (nI 1)) - ((x4_66 + x2_66) - (nI 1)) / x2_66 * x2_66) (nI 6)).bind (fun q83 => (if q83 = (nI 2) then (K x2_66 x3_66 x4_66 x5_66) else (if x2_66 = 0 then none else (if x3_66 ≤ (((x4_66 + x2_66) - (nI 1)) - ((x4_66 + x2_66) - (nI 1)) / x2_66 * x2_66) then (fX6_segmentOf_L66 v_t_st p1 K k x2_66 x3_66 (((x4_66 + x2_66) - (nI 1)) - ((x4_66 + x2_66) - (nI 1)) / x2_66 * x2_66) (x5_66 + nI 1)) else (fX6_segmentOf_L66 v_t_st p1 K k x2_66 (((x4_66 + x2_66) - (nI 1)) - ((x4_66 + x2_66) - (nI 1)) / x2_66 * x2_66) (((x4_66 + x2_66) - (nI 1)) - ((x4_66 + x2_66) - (nI 1)) / x2_66 * x2_66) (x5_66 + nI 1)))))))))
def fX6_segmentOf_L15 (v_t_st : Nat → Int32) (p1 : Int32) (K : Int32 → Int32 → Int32 → Int32 → Option (Int32)) : Nat → Int32 → Int32 → Int32 → Int32 → Option (Int32)
  | 0, _, _, _, _ => none
  | k + 1, x2_15, x3_15, x4_15, x5_15 => (if x2_15 ≤ x5_15 then (K x2_15 x3_15 x4_15 x5_15) else ((fX6_of v_t_st x4_15 (nI 6)).bind (fun q26 => (if q26 = (nI 2) then (K x2_15 x3_15 x4_15 x5_15) else ((fX6_next v_t_st x4_15).bind (fun q36 => (if x3_15 ≤ q36 then (fX6_segmentOf_L15 v_t_st p1 K k x2_15 x3_15 q36 (x5_15 + nI 1)) else (fX6_segmentOf_L15 v_t_st p1 K k x2_15 q36 q36 (x5_15 + nI 1)))))))))
def fX6_segmentOf (v_t_st : Nat → Int32) (p1 : Int32) : Option (Int32) := (fX6_segmentOf_L15 v_t_st p1 (fun x2_15 x3_15 x4_15 x5_15 => (fX6_segmentOf_L66 v_t_st p1 (fun x2_66 x3_66 x4_66 x5_66 => (some x3_66)) FU x2_15 x3_15 p1 0)) FU (v_t_st 0) p1 p1 0)
theorem kd_X6_segmentOf : yX6_segmentOf.cls = RX6 ∧ yX6_segmentOf.cls ≠ "java/lang/invoke/MethodHandle" ∧ yX6_segmentOf.cls ≠ "java/lang/invoke/VarHandle" ∧ (parseMethodDescriptor yX6_segmentOf.desc).map (fun d => d.parameters.length) = some 1 := by decide +kernel
def rm_X6_segmentOf : Room := { frames := 2, cells := 0, slots := 0, locals := 43 }
set_option maxHeartbeats 4000000 in
set_option maxRecDepth 100000 in
theorem k_X6_segmentOf (l : Launch) (D : va_G) (cI cZ : ClassId) (a_t a_t_st a_t_be a_t_so a_t_sv : Nat) (v_t_st : Nat → Int32) (p1 : Int32) (q : Int32) (hf : fX6_segmentOf v_t_st p1 = some q) : CI l D cI cZ yX6_segmentOf wsX6_segmentOf rm_X6_segmentOf [.ref a_t, .int p1] (wo_X6_segmentOf cI cZ a_t a_t_st a_t_be a_t_so a_t_sv v_t_st) (wo_X6_segmentOf cI cZ a_t a_t_st a_t_be a_t_so a_t_sv v_t_st) q := by
  refine CI.mk (cc := cX6_segmentOf) (maxL := 6) (by decide) rfl (Nat.le_of_ble_eq_true rfl) ?_
  intro p e s m below meth c ls A X hP hD hl hS
  have hx := X.1.1
  have hb := X.1.2.1
  have hl : lv_has ls 6 [(0, .ref a_t), (1, .int p1)] := hl
  have inX6 : ∀ w ∈ u_ws RX6 TX6 4, w ∈ wsX6_segmentOf := fun _ h => List.mem_cons_of_mem _ (List.mem_append_right _ h)
  have L66 : ∀ (K : Int32 → Int32 → Int32 → Int32 → Option (Int32)) (hKK : ∀ (x2_66 : Int32) (x3_66 : Int32) (x4_66 : Int32) (x5_66 : Int32) (H : Heap) (locs : List Loc) (ls : Array Slot), K x2_66 x3_66 x4_66 x5_66 = some q → va_P D vwCl (wo_X6_segmentOf cI cZ a_t a_t_st a_t_be a_t_so a_t_sv v_t_st) H → va_D A (wo_X6_segmentOf cI cZ a_t a_t_st a_t_be a_t_so a_t_sv v_t_st) → va_S A s.heap H locs → lv_has ls 6 [(3, .int x3_66)] → W p l e rm_X6_segmentOf s m ([.ref a_t, .int p1] : List Value).toArray below meth c H locs 0 0 (MQ below (QI D (wo_X6_segmentOf cI cZ a_t a_t_st a_t_be a_t_so a_t_sv v_t_st) q A) ([.ref a_t, .int p1] : List Value).toArray s 0 0 A) (F0 m 119 ls [])) (k : Nat) (x2_66 : Int32) (x3_66 : Int32) (x4_66 : Int32) (x5_66 : Int32) (H : Heap) (locs : List Loc) (ls : Array Slot), fX6_segmentOf_L66 v_t_st p1 K k x2_66 x3_66 x4_66 x5_66 = some q → va_P D vwCl (wo_X6_segmentOf cI cZ a_t a_t_st a_t_be a_t_so a_t_sv v_t_st) H → va_D A (wo_X6_segmentOf cI cZ a_t a_t_st a_t_be a_t_so a_t_sv v_t_st) → va_S A s.heap H locs → lv_has ls 6 [(0, .ref a_t), (2, .int x2_66), (3, .int x3_66), (4, .int x4_66), (5, .int x5_66)] → W p l e rm_X6_segmentOf s m ([.ref a_t, .int p1] : List Value).toArray below meth c H locs 0 0 (MQ below (QI D (wo_X6_segmentOf cI cZ a_t a_t_st a_t_be a_t_so a_t_sv v_t_st) q A) ([.ref a_t, .int p1] : List Value).toArray s 0 0 A) (F0 m 66 ls []) := by
    intro K hKK k
    induction k with
    | zero => intro x2_66 x3_66 x4_66 x5_66 H locs ls hf; rw [fX6_segmentOf_L66] at hf; cases hf
    | succ k ih =>
      intro x2_66 x3_66 x4_66 x5_66 H locs ls hf hP hD hS hl
      rw [fX6_segmentOf_L66] at hf
      refine lv_iload hx hb dX6_segmentOf_66 (lv_at hl 4 rfl) ?_
      refine lv_iload_n hx hb dX6_segmentOf_68 rfl (lv_at hl 1 rfl) ?_
      refine lv_icmp_ge (tgt := 119) hx hb dX6_segmentOf_69 (by decide) (fun hc => ?_) (fun hc => ?_)
      · replace hf := ifp hc hf
        exact hKK _ _ _ _ _ _ ls hf hP hD hS (lv_sub hl [2] rfl)
      · replace hf := ifn hc hf
        refine lv_aload_n hx hb dX6_segmentOf_72 rfl (lv_at hl 0 rfl) ?_
        refine lv_iload hx hb dX6_segmentOf_73 (lv_at hl 3 rfl) ?_
        refine lv_iload_n hx hb dX6_segmentOf_75 rfl (lv_at hl 1 rfl) ?_
        refine lv_iadd hx hb dX6_segmentOf_76 ?_
        refine lv_iconst hx hb dX6_segmentOf_77 ic_1 ?_
        refine lv_isub hx hb dX6_segmentOf_78 ?_
        refine lv_iload_n hx hb dX6_segmentOf_79 rfl (lv_at hl 1 rfl) ?_
        obtain ⟨g80, hf⟩ := grd hf
        refine lv_irem hx hb dX6_segmentOf_80 g80 ?_
        refine lv_bipush hx hb dX6_segmentOf_81 bp_6 ?_
        obtain ⟨q83, e83, hf⟩ := bnd hf
        refine callVI X (k_X6_of l D cI cZ a_t a_t_st a_t_be a_t_so a_t_sv  v_t_st (((x4_66 + x2_66) - (nI 1)) - ((x4_66 + x2_66) - (nI 1)) / x2_66 * x2_66) (nI 6) q83 e83) (cwV 2 X.1.2.2.2.2 gX6_segmentOf_X6_of rfl rfl rfl kd_X6_of ⟨Nat.le_of_ble_eq_true rfl, Nat.le_of_ble_eq_true rfl⟩) hP hD hS hl.1 0 6 rfl rfl [0, 1] (by decide) (wo_X6_segmentOf cI cZ a_t a_t_st a_t_be a_t_so a_t_sv v_t_st) rfl rfl rfl rfl rfl (rest := []) rfl (Nat.le_of_ble_eq_true rfl) dX6_segmentOf_83 ⟨Nat.zero_le _, Nat.zero_le _⟩ (fun H locs hP hD hS => ?_)
        refine lv_iconst hx hb dX6_segmentOf_86 ic_2 ?_
        refine lv_icmp_eq (tgt := 119) hx hb dX6_segmentOf_87 (by decide) (fun hc => ?_) (fun hc => ?_)
        · replace hf := ifp hc hf
          exact hKK _ _ _ _ _ _ ls hf hP hD hS (lv_sub hl [2] rfl)
        · replace hf := ifn hc hf
          refine lv_iload hx hb dX6_segmentOf_90 (lv_at hl 3 rfl) ?_
          refine lv_iload_n hx hb dX6_segmentOf_92 rfl (lv_at hl 1 rfl) ?_
          refine lv_iadd hx hb dX6_segmentOf_93 ?_
          refine lv_iconst hx hb dX6_segmentOf_94 ic_1 ?_
          refine lv_isub hx hb dX6_segmentOf_95 ?_
          refine lv_iload_n hx hb dX6_segmentOf_96 rfl (lv_at hl 1 rfl) ?_
          obtain ⟨g97, hf⟩ := grd hf
          refine lv_irem hx hb dX6_segmentOf_97 g97 ?_
          refine lv_istore (lv' := [(4, .int (((x4_66 + x2_66) - (nI 1)) - ((x4_66 + x2_66) - (nI 1)) / x2_66 * x2_66)), (0, .ref a_t), (2, .int x2_66), (3, .int x3_66), (5, .int x5_66)]) hx hb dX6_segmentOf_98 hl (by decide) rfl (fun ls hl => ?_)
          refine lv_iload hx hb dX6_segmentOf_100 (lv_at hl 0 rfl) ?_
          refine lv_iload_n hx hb dX6_segmentOf_102 rfl (lv_at hl 3 rfl) ?_
          refine lv_icmp_ge (tgt := 111) hx hb dX6_segmentOf_103 (by decide) (fun hc => ?_) (fun hc => ?_)
          · replace hf := ifp hc hf
            refine lv_iload_n hx hb dX6_segmentOf_111 rfl (lv_at hl 3 rfl) ?_
            refine lv_istore_n (lv' := [(3, .int x3_66), (4, .int (((x4_66 + x2_66) - (nI 1)) - ((x4_66 + x2_66) - (nI 1)) / x2_66 * x2_66)), (0, .ref a_t), (2, .int x2_66), (5, .int x5_66)]) hx hb dX6_segmentOf_112 rfl hl (by decide) rfl (fun ls hl => ?_)
            refine lv_iinc (v := (x5_66 + nI 1)) (lv' := [(5, .int (x5_66 + nI 1)), (3, .int x3_66), (4, .int (((x4_66 + x2_66) - (nI 1)) - ((x4_66 + x2_66) - (nI 1)) / x2_66 * x2_66)), (0, .ref a_t), (2, .int x2_66)]) hx hb dX6_segmentOf_113 hl (k := 4) rfl (inc_1 _) (by decide) rfl (fun ls hl => ?_)
            refine lv_goto (tgt := 66) hx hb dX6_segmentOf_116 (by decide) ?_
            exact ih _ _ _ _ _ _ ls hf hP hD hS (lv_sub hl [3, 4, 1, 2, 0] rfl)
          · replace hf := ifn hc hf
            refine lv_iload hx hb dX6_segmentOf_106 (lv_at hl 0 rfl) ?_
            refine lv_goto (tgt := 112) hx hb dX6_segmentOf_108 (by decide) ?_
            refine lv_istore_n (lv' := [(3, .int (((x4_66 + x2_66) - (nI 1)) - ((x4_66 + x2_66) - (nI 1)) / x2_66 * x2_66)), (4, .int (((x4_66 + x2_66) - (nI 1)) - ((x4_66 + x2_66) - (nI 1)) / x2_66 * x2_66)), (0, .ref a_t), (2, .int x2_66), (5, .int x5_66)]) hx hb dX6_segmentOf_112 rfl hl (by decide) rfl (fun ls hl => ?_)
            refine lv_iinc (v := (x5_66 + nI 1)) (lv' := [(5, .int (x5_66 + nI 1)), (3, .int (((x4_66 + x2_66) - (nI 1)) - ((x4_66 + x2_66) - (nI 1)) / x2_66 * x2_66)), (4, .int (((x4_66 + x2_66) - (nI 1)) - ((x4_66 + x2_66) - (nI 1)) / x2_66 * x2_66)), (0, .ref a_t), (2, .int x2_66)]) hx hb dX6_segmentOf_113 hl (k := 4) rfl (inc_1 _) (by decide) rfl (fun ls hl => ?_)
            refine lv_goto (tgt := 66) hx hb dX6_segmentOf_116 (by decide) ?_
            exact ih _ _ _ _ _ _ ls hf hP hD hS (lv_sub hl [3, 4, 1, 2, 0] rfl)
  have L15 : ∀ (K : Int32 → Int32 → Int32 → Int32 → Option (Int32)) (hKK : ∀ (x2_15 : Int32) (x3_15 : Int32) (x4_15 : Int32) (x5_15 : Int32) (H : Heap) (locs : List Loc) (ls : Array Slot), K x2_15 x3_15 x4_15 x5_15 = some q → va_P D vwCl (wo_X6_segmentOf cI cZ a_t a_t_st a_t_be a_t_so a_t_sv v_t_st) H → va_D A (wo_X6_segmentOf cI cZ a_t a_t_st a_t_be a_t_so a_t_sv v_t_st) → va_S A s.heap H locs → lv_has ls 6 [(0, .ref a_t), (1, .int p1), (2, .int x2_15), (3, .int x3_15)] → W p l e rm_X6_segmentOf s m ([.ref a_t, .int p1] : List Value).toArray below meth c H locs 0 0 (MQ below (QI D (wo_X6_segmentOf cI cZ a_t a_t_st a_t_be a_t_so a_t_sv v_t_st) q A) ([.ref a_t, .int p1] : List Value).toArray s 0 0 A) (F0 m 60 ls [])) (k : Nat) (x2_15 : Int32) (x3_15 : Int32) (x4_15 : Int32) (x5_15 : Int32) (H : Heap) (locs : List Loc) (ls : Array Slot), fX6_segmentOf_L15 v_t_st p1 K k x2_15 x3_15 x4_15 x5_15 = some q → va_P D vwCl (wo_X6_segmentOf cI cZ a_t a_t_st a_t_be a_t_so a_t_sv v_t_st) H → va_D A (wo_X6_segmentOf cI cZ a_t a_t_st a_t_be a_t_so a_t_sv v_t_st) → va_S A s.heap H locs → lv_has ls 6 [(0, .ref a_t), (1, .int p1), (2, .int x2_15), (3, .int x3_15), (4, .int x4_15), (5, .int x5_15)] → W p l e rm_X6_segmentOf s m ([.ref a_t, .int p1] : List Value).toArray below meth c H locs 0 0 (MQ below (QI D (wo_X6_segmentOf cI cZ a_t a_t_st a_t_be a_t_so a_t_sv v_t_st) q A) ([.ref a_t, .int p1] : List Value).toArray s 0 0 A) (F0 m 15 ls []) := by
    intro K hKK k
    induction k with
    | zero => intro x2_15 x3_15 x4_15 x5_15 H locs ls hf; rw [fX6_segmentOf_L15] at hf; cases hf
    | succ k ih =>
      intro x2_15 x3_15 x4_15 x5_15 H locs ls hf hP hD hS hl
      rw [fX6_segmentOf_L15] at hf
      refine lv_iload hx hb dX6_segmentOf_15 (lv_at hl 5 rfl) ?_
      refine lv_iload_n hx hb dX6_segmentOf_17 rfl (lv_at hl 2 rfl) ?_
      refine lv_icmp_ge (tgt := 60) hx hb dX6_segmentOf_18 (by decide) (fun hc => ?_) (fun hc => ?_)
      · replace hf := ifp hc hf
        exact hKK _ _ _ _ _ _ ls hf hP hD hS (lv_sub hl [0, 1, 2, 3] rfl)
      · replace hf := ifn hc hf
        refine lv_aload_n hx hb dX6_segmentOf_21 rfl (lv_at hl 0 rfl) ?_
        refine lv_iload hx hb dX6_segmentOf_22 (lv_at hl 4 rfl) ?_
        refine lv_bipush hx hb dX6_segmentOf_24 bp_6 ?_
        obtain ⟨q26, e26, hf⟩ := bnd hf
        refine callVI X (k_X6_of l D cI cZ a_t a_t_st a_t_be a_t_so a_t_sv  v_t_st x4_15 (nI 6) q26 e26) (cwV 2 X.1.2.2.2.2 gX6_segmentOf_X6_of rfl rfl rfl kd_X6_of ⟨Nat.le_of_ble_eq_true rfl, Nat.le_of_ble_eq_true rfl⟩) hP hD hS hl.1 0 6 rfl rfl [0, 1] (by decide) (wo_X6_segmentOf cI cZ a_t a_t_st a_t_be a_t_so a_t_sv v_t_st) rfl rfl rfl rfl rfl (rest := []) rfl (Nat.le_of_ble_eq_true rfl) dX6_segmentOf_26 ⟨Nat.zero_le _, Nat.zero_le _⟩ (fun H locs hP hD hS => ?_)
        refine lv_iconst hx hb dX6_segmentOf_29 ic_2 ?_
        refine lv_icmp_eq (tgt := 60) hx hb dX6_segmentOf_30 (by decide) (fun hc => ?_) (fun hc => ?_)
        · replace hf := ifp hc hf
          exact hKK _ _ _ _ _ _ ls hf hP hD hS (lv_sub hl [0, 1, 2, 3] rfl)
        · replace hf := ifn hc hf
          refine lv_aload_n hx hb dX6_segmentOf_33 rfl (lv_at hl 0 rfl) ?_
          refine lv_iload hx hb dX6_segmentOf_34 (lv_at hl 4 rfl) ?_
          obtain ⟨q36, e36, hf⟩ := bnd hf
          refine callVI X (k_X6_next l D cI cZ a_t a_t_st a_t_be a_t_so a_t_sv  v_t_st x4_15 q36 e36) (cwV 1 X.1.2.2.2.2 gX6_segmentOf_X6_next rfl rfl rfl kd_X6_next ⟨Nat.le_of_ble_eq_true rfl, Nat.le_of_ble_eq_true rfl⟩) hP hD hS hl.1 0 6 rfl rfl [0, 1] (by decide) (wo_X6_segmentOf cI cZ a_t a_t_st a_t_be a_t_so a_t_sv v_t_st) rfl rfl rfl rfl rfl (rest := []) rfl (Nat.le_of_ble_eq_true rfl) dX6_segmentOf_36 ⟨Nat.zero_le _, Nat.zero_le _⟩ (fun H locs hP hD hS => ?_)
          refine lv_istore (lv' := [(4, .int q36), (0, .ref a_t), (1, .int p1), (2, .int x2_15), (3, .int x3_15), (5, .int x5_15)]) hx hb dX6_segmentOf_39 hl (by decide) rfl (fun ls hl => ?_)
          refine lv_iload hx hb dX6_segmentOf_41 (lv_at hl 0 rfl) ?_
          refine lv_iload_n hx hb dX6_segmentOf_43 rfl (lv_at hl 4 rfl) ?_
          refine lv_icmp_ge (tgt := 52) hx hb dX6_segmentOf_44 (by decide) (fun hc => ?_) (fun hc => ?_)
          · replace hf := ifp hc hf
            refine lv_iload_n hx hb dX6_segmentOf_52 rfl (lv_at hl 4 rfl) ?_
            refine lv_istore_n (lv' := [(3, .int x3_15), (4, .int q36), (0, .ref a_t), (1, .int p1), (2, .int x2_15), (5, .int x5_15)]) hx hb dX6_segmentOf_53 rfl hl (by decide) rfl (fun ls hl => ?_)
            refine lv_iinc (v := (x5_15 + nI 1)) (lv' := [(5, .int (x5_15 + nI 1)), (3, .int x3_15), (4, .int q36), (0, .ref a_t), (1, .int p1), (2, .int x2_15)]) hx hb dX6_segmentOf_54 hl (k := 5) rfl (inc_1 _) (by decide) rfl (fun ls hl => ?_)
            refine lv_goto (tgt := 15) hx hb dX6_segmentOf_57 (by decide) ?_
            exact ih _ _ _ _ _ _ ls hf hP hD hS (lv_sub hl [3, 4, 5, 1, 2, 0] rfl)
          · replace hf := ifn hc hf
            refine lv_iload hx hb dX6_segmentOf_47 (lv_at hl 0 rfl) ?_
            refine lv_goto (tgt := 53) hx hb dX6_segmentOf_49 (by decide) ?_
            refine lv_istore_n (lv' := [(3, .int q36), (4, .int q36), (0, .ref a_t), (1, .int p1), (2, .int x2_15), (5, .int x5_15)]) hx hb dX6_segmentOf_53 rfl hl (by decide) rfl (fun ls hl => ?_)
            refine lv_iinc (v := (x5_15 + nI 1)) (lv' := [(5, .int (x5_15 + nI 1)), (3, .int q36), (4, .int q36), (0, .ref a_t), (1, .int p1), (2, .int x2_15)]) hx hb dX6_segmentOf_54 hl (k := 5) rfl (inc_1 _) (by decide) rfl (fun ls hl => ?_)
            refine lv_goto (tgt := 15) hx hb dX6_segmentOf_57 (by decide) ?_
            exact ih _ _ _ _ _ _ ls hf hP hD hS (lv_sub hl [3, 4, 5, 1, 2, 0] rfl)
  unfold fX6_segmentOf at hf
  refine lv_aload_n hx hb dX6_segmentOf_0 rfl (lv_at hl 0 rfl) ?_
  refine getO X hP inX6 0 rfl rfl 0 (by decide) (List.mem_of_getElem? (i := 1) rfl) rfl dX6_segmentOf_1 ?_
  refine lv_iconst hx hb dX6_segmentOf_4 ic_0 ?_
  refine aldI X hP 1 rfl (vin0 (by decide) (by decide)) (j := 0) sb_cl0 dX6_segmentOf_5 ?_
  refine lv_istore_n (lv' := [(2, .int (v_t_st 0)), (0, .ref a_t), (1, .int p1)]) hx hb dX6_segmentOf_6 rfl hl (by decide) rfl (fun ls hl => ?_)
  refine lv_iload_n hx hb dX6_segmentOf_7 rfl (lv_at hl 2 rfl) ?_
  refine lv_istore_n (lv' := [(3, .int p1), (2, .int (v_t_st 0)), (0, .ref a_t), (1, .int p1)]) hx hb dX6_segmentOf_8 rfl hl (by decide) rfl (fun ls hl => ?_)
  refine lv_iload_n hx hb dX6_segmentOf_9 rfl (lv_at hl 3 rfl) ?_
  refine lv_istore (lv' := [(4, .int p1), (3, .int p1), (2, .int (v_t_st 0)), (0, .ref a_t), (1, .int p1)]) hx hb dX6_segmentOf_10 hl (by decide) rfl (fun ls hl => ?_)
  refine lv_iconst hx hb dX6_segmentOf_12 ic_0 ?_
  refine lv_istore (lv' := [(5, .int 0), (4, .int p1), (3, .int p1), (2, .int (v_t_st 0)), (0, .ref a_t), (1, .int p1)]) hx hb dX6_segmentOf_13 hl (by decide) rfl (fun ls hl => ?_)
  refine L15 _ (fun x2_15 x3_15 x4_15 x5_15 H locs ls hf hP hD hS hl => ?_) FU _ _ _ _ _ _ ls hf hP hD hS (lv_sub hl [4, 5, 3, 2, 1, 0] rfl)
  refine lv_iload_n hx hb dX6_segmentOf_60 rfl (lv_at hl 1 rfl) ?_
  refine lv_istore (lv' := [(4, .int p1), (0, .ref a_t), (1, .int p1), (2, .int x2_15), (3, .int x3_15)]) hx hb dX6_segmentOf_61 hl (by decide) rfl (fun ls hl => ?_)
  refine lv_iconst hx hb dX6_segmentOf_63 ic_0 ?_
  refine lv_istore (lv' := [(5, .int 0), (4, .int p1), (0, .ref a_t), (1, .int p1), (2, .int x2_15), (3, .int x3_15)]) hx hb dX6_segmentOf_64 hl (by decide) rfl (fun ls hl => ?_)
  refine L66 _ (fun x2_66 x3_66 x4_66 x5_66 H locs ls hf hP hD hS hl => ?_) FU _ _ _ _ _ _ ls hf hP hD hS (lv_sub hl [2, 4, 5, 1, 0] rfl)
  refine lv_iload_n hx hb dX6_segmentOf_119 rfl (lv_at hl 0 rfl) ?_
  obtain rfl := Option.some.inj hf
  exact retI X hS hP rfl dX6_segmentOf_120

abbrev wo_X6_segment (cI cZ : ClassId) (a_t a_t_st a_t_be a_t_so a_t_sv : Nat) (v_t_st : Nat → Int32) : va_W := [(a_t, oX6 a_t_st a_t_be a_t_so a_t_sv), (a_t_st, rI cI 164 v_t_st)]
def fX6_segment (v_t_st : Nat → Int32) (p1 : Int32) : Option (Int32) := ((fX6_isNode v_t_st p1).bind (fun q2 => (if q2 = true then ((fX6_segmentOf v_t_st p1).bind (fun q10 => (some q10))) else (some (-1)))))
theorem kd_X6_segment : yX6_segment.cls = RX6 ∧ yX6_segment.cls ≠ "java/lang/invoke/MethodHandle" ∧ yX6_segment.cls ≠ "java/lang/invoke/VarHandle" ∧ (parseMethodDescriptor yX6_segment.desc).map (fun d => d.parameters.length) = some 1 := by decide +kernel
def rm_X6_segment : Room := { frames := 3, cells := 0, slots := 0, locals := 68 }
set_option maxHeartbeats 4000000 in
set_option maxRecDepth 100000 in
theorem k_X6_segment (l : Launch) (D : va_G) (cI cZ : ClassId) (a_t a_t_st a_t_be a_t_so a_t_sv : Nat) (v_t_st : Nat → Int32) (p1 : Int32) (q : Int32) (hf : fX6_segment v_t_st p1 = some q) : CI l D cI cZ yX6_segment wsX6_segment rm_X6_segment [.ref a_t, .int p1] (wo_X6_segment cI cZ a_t a_t_st a_t_be a_t_so a_t_sv v_t_st) (wo_X6_segment cI cZ a_t a_t_st a_t_be a_t_so a_t_sv v_t_st) q := by
  refine CI.mk (cc := cX6_segment) (maxL := 2) (by decide) rfl (Nat.le_of_ble_eq_true rfl) ?_
  intro p e s m below meth c ls A X hP hD hl hS
  have hx := X.1.1
  have hb := X.1.2.1
  have hl : lv_has ls 2 [(0, .ref a_t), (1, .int p1)] := hl
  unfold fX6_segment at hf
  refine lv_aload_n hx hb dX6_segment_0 rfl (lv_at hl 0 rfl) ?_
  refine lv_iload_n hx hb dX6_segment_1 rfl (lv_at hl 1 rfl) ?_
  obtain ⟨q2, e2, hf⟩ := bnd hf
  refine callVI X (k_X6_isNode l D cI cZ a_t a_t_st a_t_be a_t_so a_t_sv  v_t_st p1 q2 e2) (cwV 1 X.1.2.2.2.2 gX6_segment_X6_isNode rfl rfl rfl kd_X6_isNode ⟨Nat.le_of_ble_eq_true rfl, Nat.le_of_ble_eq_true rfl⟩) hP hD hS hl.1 0 6 rfl rfl [0, 1] (by decide) (wo_X6_segment cI cZ a_t a_t_st a_t_be a_t_so a_t_sv v_t_st) rfl rfl rfl rfl rfl (rest := []) rfl (Nat.le_of_ble_eq_true rfl) dX6_segment_2 ⟨Nat.zero_le _, Nat.zero_le _⟩ (fun H locs hP hD hS => ?_)
  refine lv_if_eq (tgt := 16) hx hb dX6_segment_5 (by decide) (fun hc => ?_) (fun hc => ?_)
  · replace hf := ifn (b2i_z hc) hf
    refine lv_iconst hx hb dX6_segment_16 ic_m1 ?_
    obtain rfl := Option.some.inj hf
    exact retI X hS hP rfl dX6_segment_17
  · replace hf := ifp (b2i_nz hc) hf
    refine lv_aload_n hx hb dX6_segment_8 rfl (lv_at hl 0 rfl) ?_
    refine lv_iload_n hx hb dX6_segment_9 rfl (lv_at hl 1 rfl) ?_
    obtain ⟨q10, e10, hf⟩ := bnd hf
    refine callVI X (k_X6_segmentOf l D cI cZ a_t a_t_st a_t_be a_t_so a_t_sv  v_t_st p1 q10 e10) (cwV 1 X.1.2.2.2.2 gX6_segment_X6_segmentOf rfl rfl rfl kd_X6_segmentOf ⟨Nat.le_of_ble_eq_true rfl, Nat.le_of_ble_eq_true rfl⟩) hP hD hS hl.1 0 6 rfl rfl [0, 1] (by decide) (wo_X6_segment cI cZ a_t a_t_st a_t_be a_t_so a_t_sv v_t_st) rfl rfl rfl rfl rfl (rest := []) rfl (Nat.le_of_ble_eq_true rfl) dX6_segment_10 ⟨Nat.zero_le _, Nat.zero_le _⟩ (fun H locs hP hD hS => ?_)
    refine lv_goto (tgt := 17) hx hb dX6_segment_13 (by decide) ?_
    obtain rfl := Option.some.inj hf
    exact retI X hS hP rfl dX6_segment_17

abbrev wo_X6_hasSwitch (cI cZ : ClassId) (a_t a_t_st a_t_be a_t_so a_t_sv : Nat) (v_t_st : Nat → Int32) : va_W := [(a_t, oX6 a_t_st a_t_be a_t_so a_t_sv), (a_t_st, rI cI 164 v_t_st)]
def fX6_hasSwitch_L5 (v_t_st : Nat → Int32) (p1 : Int32) (p2 : Int32) (K : Int32 → Int32 → Option (Bool)) : Nat → Int32 → Int32 → Option (Bool)
  | 0, _, _ => none
  | k + 1, x3_5, x4_5 => (if (v_t_st 0) ≤ x4_5 then (K x3_5 x4_5) else (if x3_5 = 0 then ((fX6_isOn v_t_st p1 x4_5).bind (fun q24 => (if q24 = true then ((fX6_of v_t_st x4_5 (nI 6)).bind (fun q35 => (if q35 = p2 then (fX6_hasSwitch_L5 v_t_st p1 p2 K k (nI 1) (x4_5 + nI 1)) else (fX6_hasSwitch_L5 v_t_st p1 p2 K k 0 (x4_5 + nI 1))))) else (fX6_hasSwitch_L5 v_t_st p1 p2 K k 0 (x4_5 + nI 1))))) else (fX6_hasSwitch_L5 v_t_st p1 p2 K k (nI 1) (x4_5 + nI 1))))
def fX6_hasSwitch (v_t_st : Nat → Int32) (p1 : Int32) (p2 : Int32) : Option (Bool) := (fX6_hasSwitch_L5 v_t_st p1 p2 (fun x3_5 x4_5 => (retZ x3_5)) FU 0 0)
theorem kd_X6_hasSwitch : yX6_hasSwitch.cls = RX6 ∧ yX6_hasSwitch.cls ≠ "java/lang/invoke/MethodHandle" ∧ yX6_hasSwitch.cls ≠ "java/lang/invoke/VarHandle" ∧ (parseMethodDescriptor yX6_hasSwitch.desc).map (fun d => d.parameters.length) = some 2 := by decide +kernel
def rm_X6_hasSwitch : Room := { frames := 2, cells := 0, slots := 0, locals := 49 }
set_option maxHeartbeats 4000000 in
set_option maxRecDepth 100000 in
theorem k_X6_hasSwitch (l : Launch) (D : va_G) (cI cZ : ClassId) (a_t a_t_st a_t_be a_t_so a_t_sv : Nat) (v_t_st : Nat → Int32) (p1 : Int32) (p2 : Int32) (q : Bool) (hf : fX6_hasSwitch v_t_st p1 p2 = some q) : CI l D cI cZ yX6_hasSwitch wsX6_hasSwitch rm_X6_hasSwitch [.ref a_t, .int p1, .int p2] (wo_X6_hasSwitch cI cZ a_t a_t_st a_t_be a_t_so a_t_sv v_t_st) (wo_X6_hasSwitch cI cZ a_t a_t_st a_t_be a_t_so a_t_sv v_t_st) (b2i q) := by
  refine CI.mk (cc := cX6_hasSwitch) (maxL := 5) (by decide) rfl (Nat.le_of_ble_eq_true rfl) ?_
  intro p e s m below meth c ls A X hP hD hl hS
  have hx := X.1.1
  have hb := X.1.2.1
  have hl : lv_has ls 5 [(0, .ref a_t), (1, .int p1), (2, .int p2)] := hl
  have inX6 : ∀ w ∈ u_ws RX6 TX6 4, w ∈ wsX6_hasSwitch := fun _ h => List.mem_cons_of_mem _ (List.mem_append_right _ h)
  have L5 : ∀ (K : Int32 → Int32 → Option (Bool)) (hKK : ∀ (x3_5 : Int32) (x4_5 : Int32) (H : Heap) (locs : List Loc) (ls : Array Slot), K x3_5 x4_5 = some q → va_P D vwCl (wo_X6_hasSwitch cI cZ a_t a_t_st a_t_be a_t_so a_t_sv v_t_st) H → va_D A (wo_X6_hasSwitch cI cZ a_t a_t_st a_t_be a_t_so a_t_sv v_t_st) → va_S A s.heap H locs → lv_has ls 5 [(3, .int x3_5)] → W p l e rm_X6_hasSwitch s m ([.ref a_t, .int p1, .int p2] : List Value).toArray below meth c H locs 0 0 (MQ below (QI D (wo_X6_hasSwitch cI cZ a_t a_t_st a_t_be a_t_so a_t_sv v_t_st) (b2i q) A) ([.ref a_t, .int p1, .int p2] : List Value).toArray s 0 0 A) (F0 m 54 ls [])) (k : Nat) (x3_5 : Int32) (x4_5 : Int32) (H : Heap) (locs : List Loc) (ls : Array Slot), fX6_hasSwitch_L5 v_t_st p1 p2 K k x3_5 x4_5 = some q → va_P D vwCl (wo_X6_hasSwitch cI cZ a_t a_t_st a_t_be a_t_so a_t_sv v_t_st) H → va_D A (wo_X6_hasSwitch cI cZ a_t a_t_st a_t_be a_t_so a_t_sv v_t_st) → va_S A s.heap H locs → lv_has ls 5 [(0, .ref a_t), (1, .int p1), (2, .int p2), (3, .int x3_5), (4, .int x4_5)] → W p l e rm_X6_hasSwitch s m ([.ref a_t, .int p1, .int p2] : List Value).toArray below meth c H locs 0 0 (MQ below (QI D (wo_X6_hasSwitch cI cZ a_t a_t_st a_t_be a_t_so a_t_sv v_t_st) (b2i q) A) ([.ref a_t, .int p1, .int p2] : List Value).toArray s 0 0 A) (F0 m 5 ls []) := by
    intro K hKK k
    induction k with
    | zero => intro x3_5 x4_5 H locs ls hf; rw [fX6_hasSwitch_L5] at hf; cases hf
    | succ k ih =>
      intro x3_5 x4_5 H locs ls hf hP hD hS hl
      rw [fX6_hasSwitch_L5] at hf
      refine lv_iload hx hb dX6_hasSwitch_5 (lv_at hl 4 rfl) ?_
      refine lv_aload_n hx hb dX6_hasSwitch_7 rfl (lv_at hl 0 rfl) ?_
      refine getO X hP inX6 0 rfl rfl 0 (by decide) (List.mem_of_getElem? (i := 1) rfl) rfl dX6_hasSwitch_8 ?_
      refine lv_iconst hx hb dX6_hasSwitch_11 ic_0 ?_
      refine aldI X hP 1 rfl (vin0 (by decide) (by decide)) (j := 0) sb_cl0 dX6_hasSwitch_12 ?_
      refine lv_icmp_ge (tgt := 54) hx hb dX6_hasSwitch_13 (by decide) (fun hc => ?_) (fun hc => ?_)
      · replace hf := ifp hc hf
        exact hKK _ _ _ _ ls hf hP hD hS (lv_sub hl [3] rfl)
      · replace hf := ifn hc hf
        refine lv_iload_n hx hb dX6_hasSwitch_16 rfl (lv_at hl 3 rfl) ?_
        refine lv_if_ne (tgt := 42) hx hb dX6_hasSwitch_17 (by decide) (fun hc => ?_) (fun hc => ?_)
        · replace hf := ifn hc hf
          refine lv_iconst hx hb dX6_hasSwitch_42 ic_1 ?_
          refine lv_goto (tgt := 47) hx hb dX6_hasSwitch_43 (by decide) ?_
          refine lv_istore_n (lv' := [(3, .int (nI 1)), (0, .ref a_t), (1, .int p1), (2, .int p2), (4, .int x4_5)]) hx hb dX6_hasSwitch_47 rfl hl (by decide) rfl (fun ls hl => ?_)
          refine lv_iinc (v := (x4_5 + nI 1)) (lv' := [(4, .int (x4_5 + nI 1)), (3, .int (nI 1)), (0, .ref a_t), (1, .int p1), (2, .int p2)]) hx hb dX6_hasSwitch_48 hl (k := 4) rfl (inc_1 _) (by decide) rfl (fun ls hl => ?_)
          refine lv_goto (tgt := 5) hx hb dX6_hasSwitch_51 (by decide) ?_
          exact ih _ _ _ _ ls hf hP hD hS (lv_sub hl [2, 3, 4, 1, 0] rfl)
        · replace hf := ifp hc hf
          refine lv_aload_n hx hb dX6_hasSwitch_20 rfl (lv_at hl 0 rfl) ?_
          refine lv_iload_n hx hb dX6_hasSwitch_21 rfl (lv_at hl 1 rfl) ?_
          refine lv_iload hx hb dX6_hasSwitch_22 (lv_at hl 4 rfl) ?_
          obtain ⟨q24, e24, hf⟩ := bnd hf
          refine callVI X (k_X6_isOn l D cI cZ a_t a_t_st a_t_be a_t_so a_t_sv  v_t_st p1 x4_5 q24 e24) (cwV 2 X.1.2.2.2.2 gX6_hasSwitch_X6_isOn rfl rfl rfl kd_X6_isOn ⟨Nat.le_of_ble_eq_true rfl, Nat.le_of_ble_eq_true rfl⟩) hP hD hS hl.1 0 6 rfl rfl [0, 1] (by decide) (wo_X6_hasSwitch cI cZ a_t a_t_st a_t_be a_t_so a_t_sv v_t_st) rfl rfl rfl rfl rfl (rest := []) rfl (Nat.le_of_ble_eq_true rfl) dX6_hasSwitch_24 ⟨Nat.zero_le _, Nat.zero_le _⟩ (fun H locs hP hD hS => ?_)
          refine lv_if_eq (tgt := 46) hx hb dX6_hasSwitch_27 (by decide) (fun hc => ?_) (fun hc => ?_)
          · replace hf := ifn (b2i_z hc) hf
            refine lv_iconst hx hb dX6_hasSwitch_46 ic_0 ?_
            refine lv_istore_n (lv' := [(3, .int 0), (0, .ref a_t), (1, .int p1), (2, .int p2), (4, .int x4_5)]) hx hb dX6_hasSwitch_47 rfl hl (by decide) rfl (fun ls hl => ?_)
            refine lv_iinc (v := (x4_5 + nI 1)) (lv' := [(4, .int (x4_5 + nI 1)), (3, .int 0), (0, .ref a_t), (1, .int p1), (2, .int p2)]) hx hb dX6_hasSwitch_48 hl (k := 4) rfl (inc_1 _) (by decide) rfl (fun ls hl => ?_)
            refine lv_goto (tgt := 5) hx hb dX6_hasSwitch_51 (by decide) ?_
            exact ih _ _ _ _ ls hf hP hD hS (lv_sub hl [2, 3, 4, 1, 0] rfl)
          · replace hf := ifp (b2i_nz hc) hf
            refine lv_aload_n hx hb dX6_hasSwitch_30 rfl (lv_at hl 0 rfl) ?_
            refine lv_iload hx hb dX6_hasSwitch_31 (lv_at hl 4 rfl) ?_
            refine lv_bipush hx hb dX6_hasSwitch_33 bp_6 ?_
            obtain ⟨q35, e35, hf⟩ := bnd hf
            refine callVI X (k_X6_of l D cI cZ a_t a_t_st a_t_be a_t_so a_t_sv  v_t_st x4_5 (nI 6) q35 e35) (cwV 2 X.1.2.2.2.2 gX6_hasSwitch_X6_of rfl rfl rfl kd_X6_of ⟨Nat.le_of_ble_eq_true rfl, Nat.le_of_ble_eq_true rfl⟩) hP hD hS hl.1 0 6 rfl rfl [0, 1] (by decide) (wo_X6_hasSwitch cI cZ a_t a_t_st a_t_be a_t_so a_t_sv v_t_st) rfl rfl rfl rfl rfl (rest := []) rfl (Nat.le_of_ble_eq_true rfl) dX6_hasSwitch_35 ⟨Nat.zero_le _, Nat.zero_le _⟩ (fun H locs hP hD hS => ?_)
            refine lv_iload_n hx hb dX6_hasSwitch_38 rfl (lv_at hl 2 rfl) ?_
            refine lv_icmp_ne (tgt := 46) hx hb dX6_hasSwitch_39 (by decide) (fun hc => ?_) (fun hc => ?_)
            · replace hf := ifn hc hf
              refine lv_iconst hx hb dX6_hasSwitch_46 ic_0 ?_
              refine lv_istore_n (lv' := [(3, .int 0), (0, .ref a_t), (1, .int p1), (2, .int p2), (4, .int x4_5)]) hx hb dX6_hasSwitch_47 rfl hl (by decide) rfl (fun ls hl => ?_)
              refine lv_iinc (v := (x4_5 + nI 1)) (lv' := [(4, .int (x4_5 + nI 1)), (3, .int 0), (0, .ref a_t), (1, .int p1), (2, .int p2)]) hx hb dX6_hasSwitch_48 hl (k := 4) rfl (inc_1 _) (by decide) rfl (fun ls hl => ?_)
              refine lv_goto (tgt := 5) hx hb dX6_hasSwitch_51 (by decide) ?_
              exact ih _ _ _ _ ls hf hP hD hS (lv_sub hl [2, 3, 4, 1, 0] rfl)
            · replace hf := ifp hc hf
              refine lv_iconst hx hb dX6_hasSwitch_42 ic_1 ?_
              refine lv_goto (tgt := 47) hx hb dX6_hasSwitch_43 (by decide) ?_
              refine lv_istore_n (lv' := [(3, .int (nI 1)), (0, .ref a_t), (1, .int p1), (2, .int p2), (4, .int x4_5)]) hx hb dX6_hasSwitch_47 rfl hl (by decide) rfl (fun ls hl => ?_)
              refine lv_iinc (v := (x4_5 + nI 1)) (lv' := [(4, .int (x4_5 + nI 1)), (3, .int (nI 1)), (0, .ref a_t), (1, .int p1), (2, .int p2)]) hx hb dX6_hasSwitch_48 hl (k := 4) rfl (inc_1 _) (by decide) rfl (fun ls hl => ?_)
              refine lv_goto (tgt := 5) hx hb dX6_hasSwitch_51 (by decide) ?_
              exact ih _ _ _ _ ls hf hP hD hS (lv_sub hl [2, 3, 4, 1, 0] rfl)
  unfold fX6_hasSwitch at hf
  refine lv_iconst hx hb dX6_hasSwitch_0 ic_0 ?_
  refine lv_istore_n (lv' := [(3, .int 0), (0, .ref a_t), (1, .int p1), (2, .int p2)]) hx hb dX6_hasSwitch_1 rfl hl (by decide) rfl (fun ls hl => ?_)
  refine lv_iconst hx hb dX6_hasSwitch_2 ic_0 ?_
  refine lv_istore (lv' := [(4, .int 0), (3, .int 0), (0, .ref a_t), (1, .int p1), (2, .int p2)]) hx hb dX6_hasSwitch_3 hl (by decide) rfl (fun ls hl => ?_)
  refine L5 _ (fun x3_5 x4_5 H locs ls hf hP hD hS hl => ?_) FU _ _ _ _ ls hf hP hD hS (lv_sub hl [2, 3, 4, 1, 0] rfl)
  refine lv_iload_n hx hb dX6_hasSwitch_54 rfl (lv_at hl 0 rfl) ?_
  exact retB X hS hP (retZ_nar hf) (retZ_spec hf) dX6_hasSwitch_55

abbrev wo_X6_isInside (cI cZ : ClassId) (a_t a_t_st a_t_be a_t_so a_t_sv : Nat) (v_t_st : Nat → Int32) : va_W := [(a_t, oX6 a_t_st a_t_be a_t_so a_t_sv), (a_t_st, rI cI 164 v_t_st)]
def fX6_isInside (v_t_st : Nat → Int32) (p1 : Int32) (p2 : Int32) : Option (Bool) := ((fX6_segmentOf v_t_st p1).bind (fun q2 => (if q2 = p2 then ((fX6_next v_t_st p1).bind (fun q12 => ((fX6_segmentOf v_t_st q12).bind (fun q15 => (if q15 = p2 then (some true) else (some false)))))) else (some false))))
theorem kd_X6_isInside : yX6_isInside.cls = RX6 ∧ yX6_isInside.cls ≠ "java/lang/invoke/MethodHandle" ∧ yX6_isInside.cls ≠ "java/lang/invoke/VarHandle" ∧ (parseMethodDescriptor yX6_isInside.desc).map (fun d => d.parameters.length) = some 2 := by decide +kernel
def rm_X6_isInside : Room := { frames := 3, cells := 0, slots := 0, locals := 68 }
set_option maxHeartbeats 4000000 in
set_option maxRecDepth 100000 in
theorem k_X6_isInside (l : Launch) (D : va_G) (cI cZ : ClassId) (a_t a_t_st a_t_be a_t_so a_t_sv : Nat) (v_t_st : Nat → Int32) (p1 : Int32) (p2 : Int32) (q : Bool) (hf : fX6_isInside v_t_st p1 p2 = some q) : CI l D cI cZ yX6_isInside wsX6_isInside rm_X6_isInside [.ref a_t, .int p1, .int p2] (wo_X6_isInside cI cZ a_t a_t_st a_t_be a_t_so a_t_sv v_t_st) (wo_X6_isInside cI cZ a_t a_t_st a_t_be a_t_so a_t_sv v_t_st) (b2i q) := by
  refine CI.mk (cc := cX6_isInside) (maxL := 3) (by decide) rfl (Nat.le_of_ble_eq_true rfl) ?_
  intro p e s m below meth c ls A X hP hD hl hS
  have hx := X.1.1
  have hb := X.1.2.1
  have hl : lv_has ls 3 [(0, .ref a_t), (1, .int p1), (2, .int p2)] := hl
  unfold fX6_isInside at hf
  refine lv_aload_n hx hb dX6_isInside_0 rfl (lv_at hl 0 rfl) ?_
  refine lv_iload_n hx hb dX6_isInside_1 rfl (lv_at hl 1 rfl) ?_
  obtain ⟨q2, e2, hf⟩ := bnd hf
  refine callVI X (k_X6_segmentOf l D cI cZ a_t a_t_st a_t_be a_t_so a_t_sv  v_t_st p1 q2 e2) (cwV 1 X.1.2.2.2.2 gX6_isInside_X6_segmentOf rfl rfl rfl kd_X6_segmentOf ⟨Nat.le_of_ble_eq_true rfl, Nat.le_of_ble_eq_true rfl⟩) hP hD hS hl.1 0 6 rfl rfl [0, 1] (by decide) (wo_X6_isInside cI cZ a_t a_t_st a_t_be a_t_so a_t_sv v_t_st) rfl rfl rfl rfl rfl (rest := []) rfl (Nat.le_of_ble_eq_true rfl) dX6_isInside_2 ⟨Nat.zero_le _, Nat.zero_le _⟩ (fun H locs hP hD hS => ?_)
  refine lv_iload_n hx hb dX6_isInside_5 rfl (lv_at hl 2 rfl) ?_
  refine lv_icmp_ne (tgt := 26) hx hb dX6_isInside_6 (by decide) (fun hc => ?_) (fun hc => ?_)
  · replace hf := ifn hc hf
    refine lv_iconst hx hb dX6_isInside_26 ic_0 ?_
    obtain rfl := Option.some.inj hf
    exact retB X hS hP rfl rfl dX6_isInside_27
  · replace hf := ifp hc hf
    refine lv_aload_n hx hb dX6_isInside_9 rfl (lv_at hl 0 rfl) ?_
    refine lv_aload_n hx hb dX6_isInside_10 rfl (lv_at hl 0 rfl) ?_
    refine lv_iload_n hx hb dX6_isInside_11 rfl (lv_at hl 1 rfl) ?_
    obtain ⟨q12, e12, hf⟩ := bnd hf
    refine callVI X (k_X6_next l D cI cZ a_t a_t_st a_t_be a_t_so a_t_sv  v_t_st p1 q12 e12) (cwV 1 X.1.2.2.2.2 gX6_isInside_X6_next rfl rfl rfl kd_X6_next ⟨Nat.le_of_ble_eq_true rfl, Nat.le_of_ble_eq_true rfl⟩) hP hD hS hl.1 0 6 rfl rfl [0, 1] (by decide) (wo_X6_isInside cI cZ a_t a_t_st a_t_be a_t_so a_t_sv v_t_st) rfl rfl rfl rfl rfl (rest := [.ref a_t]) rfl (Nat.le_of_ble_eq_true rfl) dX6_isInside_12 ⟨Nat.zero_le _, Nat.zero_le _⟩ (fun H locs hP hD hS => ?_)
    obtain ⟨q15, e15, hf⟩ := bnd hf
    refine callVI X (k_X6_segmentOf l D cI cZ a_t a_t_st a_t_be a_t_so a_t_sv  v_t_st q12 q15 e15) (cwV 1 X.1.2.2.2.2 gX6_isInside_X6_segmentOf rfl rfl rfl kd_X6_segmentOf ⟨Nat.le_of_ble_eq_true rfl, Nat.le_of_ble_eq_true rfl⟩) hP hD hS hl.1 0 6 rfl rfl [0, 1] (by decide) (wo_X6_isInside cI cZ a_t a_t_st a_t_be a_t_so a_t_sv v_t_st) rfl rfl rfl rfl rfl (rest := []) rfl (Nat.le_of_ble_eq_true rfl) dX6_isInside_15 ⟨Nat.zero_le _, Nat.zero_le _⟩ (fun H locs hP hD hS => ?_)
    refine lv_iload_n hx hb dX6_isInside_18 rfl (lv_at hl 2 rfl) ?_
    refine lv_icmp_ne (tgt := 26) hx hb dX6_isInside_19 (by decide) (fun hc => ?_) (fun hc => ?_)
    · replace hf := ifn hc hf
      refine lv_iconst hx hb dX6_isInside_26 ic_0 ?_
      obtain rfl := Option.some.inj hf
      exact retB X hS hP rfl rfl dX6_isInside_27
    · replace hf := ifp hc hf
      refine lv_iconst hx hb dX6_isInside_22 ic_1 ?_
      refine lv_goto (tgt := 27) hx hb dX6_isInside_23 (by decide) ?_
      obtain rfl := Option.some.inj hf
      exact retB X hS hP rfl rfl dX6_isInside_27

abbrev wo_X6_isLost (cI cZ : ClassId) (a_t a_t_st a_t_be a_t_so a_t_sv : Nat) (v_t_st : Nat → Int32) : va_W := [(a_t, oX6 a_t_st a_t_be a_t_so a_t_sv), (a_t_st, rI cI 164 v_t_st)]
def fX6_isLost_L24 (v_t_st : Nat → Int32) (p1 : Int32) (K : Int32 → Int32 → Int32 → Int32 → Option (Bool)) : Nat → Int32 → Int32 → Int32 → Int32 → Option (Bool)
  | 0, _, _, _, _ => none
  | k + 1, x2_24, x3_24, x4_24, x5_24 => (if (v_t_st 0) ≤ x5_24 then (K x2_24 x3_24 x4_24 x5_24) else (if x4_24 = 0 then ((fX6_isOn v_t_st p1 x5_24).bind (fun q44 => (if q44 = true then ((fX6_isDown v_t_st x5_24 0).bind (fun q54 => (if q54 = true then ((fX6_of v_t_st x5_24 (nI 6)).bind (fun q65 => (if q65 = 0 then (if x2_24 = 0 then (fX6_isLost_L24 v_t_st p1 K k x2_24 x3_24 (nI 1) (x5_24 + nI 1)) else ((fX6_isInside v_t_st x5_24 x3_24).bind (fun q79 => (if q79 = true then (fX6_isLost_L24 v_t_st p1 K k x2_24 x3_24 (nI 1) (x5_24 + nI 1)) else (fX6_isLost_L24 v_t_st p1 K k x2_24 x3_24 0 (x5_24 + nI 1)))))) else (fX6_isLost_L24 v_t_st p1 K k x2_24 x3_24 0 (x5_24 + nI 1))))) else (fX6_isLost_L24 v_t_st p1 K k x2_24 x3_24 0 (x5_24 + nI 1))))) else (fX6_isLost_L24 v_t_st p1 K k x2_24 x3_24 0 (x5_24 + nI 1))))) else (fX6_isLost_L24 v_t_st p1 K k x2_24 x3_24 (nI 1) (x5_24 + nI 1))))
def fX6_isLost (v_t_st : Nat → Int32) (p1 : Int32) : Option (Bool) := ((fX6_hasSwitch v_t_st p1 (nI 2)).bind (fun q3 => ((fX6_ofCircuit v_t_st p1 (nI 1)).bind (fun q11 => ((fX6_segmentOf v_t_st q11).bind (fun q14 => (fX6_isLost_L24 v_t_st p1 (fun x2_24 x3_24 x4_24 x5_24 => (retZ x4_24)) FU (b2i q3) q14 0 0)))))))
theorem kd_X6_isLost : yX6_isLost.cls = RX6 ∧ yX6_isLost.cls ≠ "java/lang/invoke/MethodHandle" ∧ yX6_isLost.cls ≠ "java/lang/invoke/VarHandle" ∧ (parseMethodDescriptor yX6_isLost.desc).map (fun d => d.parameters.length) = some 1 := by decide +kernel
def rm_X6_isLost : Room := { frames := 4, cells := 0, slots := 0, locals := 90 }
set_option maxHeartbeats 4000000 in
set_option maxRecDepth 100000 in
theorem k_X6_isLost (l : Launch) (D : va_G) (cI cZ : ClassId) (a_t a_t_st a_t_be a_t_so a_t_sv : Nat) (v_t_st : Nat → Int32) (p1 : Int32) (q : Bool) (hf : fX6_isLost v_t_st p1 = some q) : CI l D cI cZ yX6_isLost wsX6_isLost rm_X6_isLost [.ref a_t, .int p1] (wo_X6_isLost cI cZ a_t a_t_st a_t_be a_t_so a_t_sv v_t_st) (wo_X6_isLost cI cZ a_t a_t_st a_t_be a_t_so a_t_sv v_t_st) (b2i q) := by
  refine CI.mk (cc := cX6_isLost) (maxL := 6) (by decide) rfl (Nat.le_of_ble_eq_true rfl) ?_
  intro p e s m below meth c ls A X hP hD hl hS
  have hx := X.1.1
  have hb := X.1.2.1
  have hl : lv_has ls 6 [(0, .ref a_t), (1, .int p1)] := hl
  have inX6 : ∀ w ∈ u_ws RX6 TX6 4, w ∈ wsX6_isLost := fun _ h => List.mem_cons_of_mem _ (List.mem_append_right _ h)
  have L24 : ∀ (K : Int32 → Int32 → Int32 → Int32 → Option (Bool)) (hKK : ∀ (x2_24 : Int32) (x3_24 : Int32) (x4_24 : Int32) (x5_24 : Int32) (H : Heap) (locs : List Loc) (ls : Array Slot), K x2_24 x3_24 x4_24 x5_24 = some q → va_P D vwCl (wo_X6_isLost cI cZ a_t a_t_st a_t_be a_t_so a_t_sv v_t_st) H → va_D A (wo_X6_isLost cI cZ a_t a_t_st a_t_be a_t_so a_t_sv v_t_st) → va_S A s.heap H locs → lv_has ls 6 [(4, .int x4_24)] → W p l e rm_X6_isLost s m ([.ref a_t, .int p1] : List Value).toArray below meth c H locs 0 0 (MQ below (QI D (wo_X6_isLost cI cZ a_t a_t_st a_t_be a_t_so a_t_sv v_t_st) (b2i q) A) ([.ref a_t, .int p1] : List Value).toArray s 0 0 A) (F0 m 98 ls [])) (k : Nat) (x2_24 : Int32) (x3_24 : Int32) (x4_24 : Int32) (x5_24 : Int32) (H : Heap) (locs : List Loc) (ls : Array Slot), fX6_isLost_L24 v_t_st p1 K k x2_24 x3_24 x4_24 x5_24 = some q → va_P D vwCl (wo_X6_isLost cI cZ a_t a_t_st a_t_be a_t_so a_t_sv v_t_st) H → va_D A (wo_X6_isLost cI cZ a_t a_t_st a_t_be a_t_so a_t_sv v_t_st) → va_S A s.heap H locs → lv_has ls 6 [(0, .ref a_t), (1, .int p1), (2, .int x2_24), (3, .int x3_24), (4, .int x4_24), (5, .int x5_24)] → W p l e rm_X6_isLost s m ([.ref a_t, .int p1] : List Value).toArray below meth c H locs 0 0 (MQ below (QI D (wo_X6_isLost cI cZ a_t a_t_st a_t_be a_t_so a_t_sv v_t_st) (b2i q) A) ([.ref a_t, .int p1] : List Value).toArray s 0 0 A) (F0 m 24 ls []) := by
    intro K hKK k
    induction k with
    | zero => intro x2_24 x3_24 x4_24 x5_24 H locs ls hf; rw [fX6_isLost_L24] at hf; cases hf
    | succ k ih =>
      intro x2_24 x3_24 x4_24 x5_24 H locs ls hf hP hD hS hl
      rw [fX6_isLost_L24] at hf
      refine lv_iload hx hb dX6_isLost_24 (lv_at hl 5 rfl) ?_
      refine lv_aload_n hx hb dX6_isLost_26 rfl (lv_at hl 0 rfl) ?_
      refine getO X hP inX6 0 rfl rfl 0 (by decide) (List.mem_of_getElem? (i := 1) rfl) rfl dX6_isLost_27 ?_
      refine lv_iconst hx hb dX6_isLost_30 ic_0 ?_
      refine aldI X hP 1 rfl (vin0 (by decide) (by decide)) (j := 0) sb_cl0 dX6_isLost_31 ?_
      refine lv_icmp_ge (tgt := 98) hx hb dX6_isLost_32 (by decide) (fun hc => ?_) (fun hc => ?_)
      · replace hf := ifp hc hf
        exact hKK _ _ _ _ _ _ ls hf hP hD hS (lv_sub hl [4] rfl)
      · replace hf := ifn hc hf
        refine lv_iload hx hb dX6_isLost_35 (lv_at hl 4 rfl) ?_
        refine lv_if_ne (tgt := 85) hx hb dX6_isLost_37 (by decide) (fun hc => ?_) (fun hc => ?_)
        · replace hf := ifn hc hf
          refine lv_iconst hx hb dX6_isLost_85 ic_1 ?_
          refine lv_goto (tgt := 90) hx hb dX6_isLost_86 (by decide) ?_
          refine lv_istore (lv' := [(4, .int (nI 1)), (0, .ref a_t), (1, .int p1), (2, .int x2_24), (3, .int x3_24), (5, .int x5_24)]) hx hb dX6_isLost_90 hl (by decide) rfl (fun ls hl => ?_)
          refine lv_iinc (v := (x5_24 + nI 1)) (lv' := [(5, .int (x5_24 + nI 1)), (4, .int (nI 1)), (0, .ref a_t), (1, .int p1), (2, .int x2_24), (3, .int x3_24)]) hx hb dX6_isLost_92 hl (k := 5) rfl (inc_1 _) (by decide) rfl (fun ls hl => ?_)
          refine lv_goto (tgt := 24) hx hb dX6_isLost_95 (by decide) ?_
          exact ih _ _ _ _ _ _ ls hf hP hD hS (lv_sub hl [2, 3, 4, 5, 1, 0] rfl)
        · replace hf := ifp hc hf
          refine lv_aload_n hx hb dX6_isLost_40 rfl (lv_at hl 0 rfl) ?_
          refine lv_iload_n hx hb dX6_isLost_41 rfl (lv_at hl 1 rfl) ?_
          refine lv_iload hx hb dX6_isLost_42 (lv_at hl 5 rfl) ?_
          obtain ⟨q44, e44, hf⟩ := bnd hf
          refine callVI X (k_X6_isOn l D cI cZ a_t a_t_st a_t_be a_t_so a_t_sv  v_t_st p1 x5_24 q44 e44) (cwV 2 X.1.2.2.2.2 gX6_isLost_X6_isOn rfl rfl rfl kd_X6_isOn ⟨Nat.le_of_ble_eq_true rfl, Nat.le_of_ble_eq_true rfl⟩) hP hD hS hl.1 0 6 rfl rfl [0, 1] (by decide) (wo_X6_isLost cI cZ a_t a_t_st a_t_be a_t_so a_t_sv v_t_st) rfl rfl rfl rfl rfl (rest := []) rfl (Nat.le_of_ble_eq_true rfl) dX6_isLost_44 ⟨Nat.zero_le _, Nat.zero_le _⟩ (fun H locs hP hD hS => ?_)
          refine lv_if_eq (tgt := 89) hx hb dX6_isLost_47 (by decide) (fun hc => ?_) (fun hc => ?_)
          · replace hf := ifn (b2i_z hc) hf
            refine lv_iconst hx hb dX6_isLost_89 ic_0 ?_
            refine lv_istore (lv' := [(4, .int 0), (0, .ref a_t), (1, .int p1), (2, .int x2_24), (3, .int x3_24), (5, .int x5_24)]) hx hb dX6_isLost_90 hl (by decide) rfl (fun ls hl => ?_)
            refine lv_iinc (v := (x5_24 + nI 1)) (lv' := [(5, .int (x5_24 + nI 1)), (4, .int 0), (0, .ref a_t), (1, .int p1), (2, .int x2_24), (3, .int x3_24)]) hx hb dX6_isLost_92 hl (k := 5) rfl (inc_1 _) (by decide) rfl (fun ls hl => ?_)
            refine lv_goto (tgt := 24) hx hb dX6_isLost_95 (by decide) ?_
            exact ih _ _ _ _ _ _ ls hf hP hD hS (lv_sub hl [2, 3, 4, 5, 1, 0] rfl)
          · replace hf := ifp (b2i_nz hc) hf
            refine lv_aload_n hx hb dX6_isLost_50 rfl (lv_at hl 0 rfl) ?_
            refine lv_iload hx hb dX6_isLost_51 (lv_at hl 5 rfl) ?_
            refine lv_iconst hx hb dX6_isLost_53 ic_0 ?_
            obtain ⟨q54, e54, hf⟩ := bnd hf
            refine callVI X (k_X6_isDown l D cI cZ a_t a_t_st a_t_be a_t_so a_t_sv  v_t_st x5_24 0 q54 e54) (cwV 2 X.1.2.2.2.2 gX6_isLost_X6_isDown rfl rfl rfl kd_X6_isDown ⟨Nat.le_of_ble_eq_true rfl, Nat.le_of_ble_eq_true rfl⟩) hP hD hS hl.1 0 6 rfl rfl [0, 1] (by decide) (wo_X6_isLost cI cZ a_t a_t_st a_t_be a_t_so a_t_sv v_t_st) rfl rfl rfl rfl rfl (rest := []) rfl (Nat.le_of_ble_eq_true rfl) dX6_isLost_54 ⟨Nat.zero_le _, Nat.zero_le _⟩ (fun H locs hP hD hS => ?_)
            refine lv_if_eq (tgt := 89) hx hb dX6_isLost_57 (by decide) (fun hc => ?_) (fun hc => ?_)
            · replace hf := ifn (b2i_z hc) hf
              refine lv_iconst hx hb dX6_isLost_89 ic_0 ?_
              refine lv_istore (lv' := [(4, .int 0), (0, .ref a_t), (1, .int p1), (2, .int x2_24), (3, .int x3_24), (5, .int x5_24)]) hx hb dX6_isLost_90 hl (by decide) rfl (fun ls hl => ?_)
              refine lv_iinc (v := (x5_24 + nI 1)) (lv' := [(5, .int (x5_24 + nI 1)), (4, .int 0), (0, .ref a_t), (1, .int p1), (2, .int x2_24), (3, .int x3_24)]) hx hb dX6_isLost_92 hl (k := 5) rfl (inc_1 _) (by decide) rfl (fun ls hl => ?_)
              refine lv_goto (tgt := 24) hx hb dX6_isLost_95 (by decide) ?_
              exact ih _ _ _ _ _ _ ls hf hP hD hS (lv_sub hl [2, 3, 4, 5, 1, 0] rfl)
            · replace hf := ifp (b2i_nz hc) hf
              refine lv_aload_n hx hb dX6_isLost_60 rfl (lv_at hl 0 rfl) ?_
              refine lv_iload hx hb dX6_isLost_61 (lv_at hl 5 rfl) ?_
              refine lv_bipush hx hb dX6_isLost_63 bp_6 ?_
              obtain ⟨q65, e65, hf⟩ := bnd hf
              refine callVI X (k_X6_of l D cI cZ a_t a_t_st a_t_be a_t_so a_t_sv  v_t_st x5_24 (nI 6) q65 e65) (cwV 2 X.1.2.2.2.2 gX6_isLost_X6_of rfl rfl rfl kd_X6_of ⟨Nat.le_of_ble_eq_true rfl, Nat.le_of_ble_eq_true rfl⟩) hP hD hS hl.1 0 6 rfl rfl [0, 1] (by decide) (wo_X6_isLost cI cZ a_t a_t_st a_t_be a_t_so a_t_sv v_t_st) rfl rfl rfl rfl rfl (rest := []) rfl (Nat.le_of_ble_eq_true rfl) dX6_isLost_65 ⟨Nat.zero_le _, Nat.zero_le _⟩ (fun H locs hP hD hS => ?_)
              refine lv_if_ne (tgt := 89) hx hb dX6_isLost_68 (by decide) (fun hc => ?_) (fun hc => ?_)
              · replace hf := ifn hc hf
                refine lv_iconst hx hb dX6_isLost_89 ic_0 ?_
                refine lv_istore (lv' := [(4, .int 0), (0, .ref a_t), (1, .int p1), (2, .int x2_24), (3, .int x3_24), (5, .int x5_24)]) hx hb dX6_isLost_90 hl (by decide) rfl (fun ls hl => ?_)
                refine lv_iinc (v := (x5_24 + nI 1)) (lv' := [(5, .int (x5_24 + nI 1)), (4, .int 0), (0, .ref a_t), (1, .int p1), (2, .int x2_24), (3, .int x3_24)]) hx hb dX6_isLost_92 hl (k := 5) rfl (inc_1 _) (by decide) rfl (fun ls hl => ?_)
                refine lv_goto (tgt := 24) hx hb dX6_isLost_95 (by decide) ?_
                exact ih _ _ _ _ _ _ ls hf hP hD hS (lv_sub hl [2, 3, 4, 5, 1, 0] rfl)
              · replace hf := ifp hc hf
                refine lv_iload_n hx hb dX6_isLost_71 rfl (lv_at hl 2 rfl) ?_
                refine lv_if_eq (tgt := 85) hx hb dX6_isLost_72 (by decide) (fun hc => ?_) (fun hc => ?_)
                · replace hf := ifp hc hf
                  refine lv_iconst hx hb dX6_isLost_85 ic_1 ?_
                  refine lv_goto (tgt := 90) hx hb dX6_isLost_86 (by decide) ?_
                  refine lv_istore (lv' := [(4, .int (nI 1)), (0, .ref a_t), (1, .int p1), (2, .int x2_24), (3, .int x3_24), (5, .int x5_24)]) hx hb dX6_isLost_90 hl (by decide) rfl (fun ls hl => ?_)
                  refine lv_iinc (v := (x5_24 + nI 1)) (lv' := [(5, .int (x5_24 + nI 1)), (4, .int (nI 1)), (0, .ref a_t), (1, .int p1), (2, .int x2_24), (3, .int x3_24)]) hx hb dX6_isLost_92 hl (k := 5) rfl (inc_1 _) (by decide) rfl (fun ls hl => ?_)
                  refine lv_goto (tgt := 24) hx hb dX6_isLost_95 (by decide) ?_
                  exact ih _ _ _ _ _ _ ls hf hP hD hS (lv_sub hl [2, 3, 4, 5, 1, 0] rfl)
                · replace hf := ifn hc hf
                  refine lv_aload_n hx hb dX6_isLost_75 rfl (lv_at hl 0 rfl) ?_
                  refine lv_iload hx hb dX6_isLost_76 (lv_at hl 5 rfl) ?_
                  refine lv_iload_n hx hb dX6_isLost_78 rfl (lv_at hl 3 rfl) ?_
                  obtain ⟨q79, e79, hf⟩ := bnd hf
                  refine callVI X (k_X6_isInside l D cI cZ a_t a_t_st a_t_be a_t_so a_t_sv  v_t_st x5_24 x3_24 q79 e79) (cwV 2 X.1.2.2.2.2 gX6_isLost_X6_isInside rfl rfl rfl kd_X6_isInside ⟨Nat.le_of_ble_eq_true rfl, Nat.le_of_ble_eq_true rfl⟩) hP hD hS hl.1 0 6 rfl rfl [0, 1] (by decide) (wo_X6_isLost cI cZ a_t a_t_st a_t_be a_t_so a_t_sv v_t_st) rfl rfl rfl rfl rfl (rest := []) rfl (Nat.le_of_ble_eq_true rfl) dX6_isLost_79 ⟨Nat.zero_le _, Nat.zero_le _⟩ (fun H locs hP hD hS => ?_)
                  refine lv_if_eq (tgt := 89) hx hb dX6_isLost_82 (by decide) (fun hc => ?_) (fun hc => ?_)
                  · replace hf := ifn (b2i_z hc) hf
                    refine lv_iconst hx hb dX6_isLost_89 ic_0 ?_
                    refine lv_istore (lv' := [(4, .int 0), (0, .ref a_t), (1, .int p1), (2, .int x2_24), (3, .int x3_24), (5, .int x5_24)]) hx hb dX6_isLost_90 hl (by decide) rfl (fun ls hl => ?_)
                    refine lv_iinc (v := (x5_24 + nI 1)) (lv' := [(5, .int (x5_24 + nI 1)), (4, .int 0), (0, .ref a_t), (1, .int p1), (2, .int x2_24), (3, .int x3_24)]) hx hb dX6_isLost_92 hl (k := 5) rfl (inc_1 _) (by decide) rfl (fun ls hl => ?_)
                    refine lv_goto (tgt := 24) hx hb dX6_isLost_95 (by decide) ?_
                    exact ih _ _ _ _ _ _ ls hf hP hD hS (lv_sub hl [2, 3, 4, 5, 1, 0] rfl)
                  · replace hf := ifp (b2i_nz hc) hf
                    refine lv_iconst hx hb dX6_isLost_85 ic_1 ?_
                    refine lv_goto (tgt := 90) hx hb dX6_isLost_86 (by decide) ?_
                    refine lv_istore (lv' := [(4, .int (nI 1)), (0, .ref a_t), (1, .int p1), (2, .int x2_24), (3, .int x3_24), (5, .int x5_24)]) hx hb dX6_isLost_90 hl (by decide) rfl (fun ls hl => ?_)
                    refine lv_iinc (v := (x5_24 + nI 1)) (lv' := [(5, .int (x5_24 + nI 1)), (4, .int (nI 1)), (0, .ref a_t), (1, .int p1), (2, .int x2_24), (3, .int x3_24)]) hx hb dX6_isLost_92 hl (k := 5) rfl (inc_1 _) (by decide) rfl (fun ls hl => ?_)
                    refine lv_goto (tgt := 24) hx hb dX6_isLost_95 (by decide) ?_
                    exact ih _ _ _ _ _ _ ls hf hP hD hS (lv_sub hl [2, 3, 4, 5, 1, 0] rfl)
  unfold fX6_isLost at hf
  refine lv_aload_n hx hb dX6_isLost_0 rfl (lv_at hl 0 rfl) ?_
  refine lv_iload_n hx hb dX6_isLost_1 rfl (lv_at hl 1 rfl) ?_
  refine lv_iconst hx hb dX6_isLost_2 ic_2 ?_
  obtain ⟨q3, e3, hf⟩ := bnd hf
  refine callVI X (k_X6_hasSwitch l D cI cZ a_t a_t_st a_t_be a_t_so a_t_sv  v_t_st p1 (nI 2) q3 e3) (cwV 2 X.1.2.2.2.2 gX6_isLost_X6_hasSwitch rfl rfl rfl kd_X6_hasSwitch ⟨Nat.le_of_ble_eq_true rfl, Nat.le_of_ble_eq_true rfl⟩) hP hD hS hl.1 0 6 rfl rfl [0, 1] (by decide) (wo_X6_isLost cI cZ a_t a_t_st a_t_be a_t_so a_t_sv v_t_st) rfl rfl rfl rfl rfl (rest := []) rfl (Nat.le_of_ble_eq_true rfl) dX6_isLost_3 ⟨Nat.zero_le _, Nat.zero_le _⟩ (fun H locs hP hD hS => ?_)
  refine lv_istore_n (lv' := [(2, .int (b2i q3)), (0, .ref a_t), (1, .int p1)]) hx hb dX6_isLost_6 rfl hl (by decide) rfl (fun ls hl => ?_)
  refine lv_aload_n hx hb dX6_isLost_7 rfl (lv_at hl 1 rfl) ?_
  refine lv_aload_n hx hb dX6_isLost_8 rfl (lv_at hl 1 rfl) ?_
  refine lv_iload_n hx hb dX6_isLost_9 rfl (lv_at hl 2 rfl) ?_
  refine lv_iconst hx hb dX6_isLost_10 ic_1 ?_
  obtain ⟨q11, e11, hf⟩ := bnd hf
  refine callVI X (k_X6_ofCircuit l D cI cZ a_t a_t_st a_t_be a_t_so a_t_sv  v_t_st p1 (nI 1) q11 e11) (cwV 2 X.1.2.2.2.2 gX6_isLost_X6_ofCircuit rfl rfl rfl kd_X6_ofCircuit ⟨Nat.le_of_ble_eq_true rfl, Nat.le_of_ble_eq_true rfl⟩) hP hD hS hl.1 0 6 rfl rfl [0, 1] (by decide) (wo_X6_isLost cI cZ a_t a_t_st a_t_be a_t_so a_t_sv v_t_st) rfl rfl rfl rfl rfl (rest := [.ref a_t]) rfl (Nat.le_of_ble_eq_true rfl) dX6_isLost_11 ⟨Nat.zero_le _, Nat.zero_le _⟩ (fun H locs hP hD hS => ?_)
  obtain ⟨q14, e14, hf⟩ := bnd hf
  refine callVI X (k_X6_segmentOf l D cI cZ a_t a_t_st a_t_be a_t_so a_t_sv  v_t_st q11 q14 e14) (cwV 1 X.1.2.2.2.2 gX6_isLost_X6_segmentOf rfl rfl rfl kd_X6_segmentOf ⟨Nat.le_of_ble_eq_true rfl, Nat.le_of_ble_eq_true rfl⟩) hP hD hS hl.1 0 6 rfl rfl [0, 1] (by decide) (wo_X6_isLost cI cZ a_t a_t_st a_t_be a_t_so a_t_sv v_t_st) rfl rfl rfl rfl rfl (rest := []) rfl (Nat.le_of_ble_eq_true rfl) dX6_isLost_14 ⟨Nat.zero_le _, Nat.zero_le _⟩ (fun H locs hP hD hS => ?_)
  refine lv_istore_n (lv' := [(3, .int q14), (2, .int (b2i q3)), (0, .ref a_t), (1, .int p1)]) hx hb dX6_isLost_17 rfl hl (by decide) rfl (fun ls hl => ?_)
  refine lv_iconst hx hb dX6_isLost_18 ic_0 ?_
  refine lv_istore (lv' := [(4, .int 0), (3, .int q14), (2, .int (b2i q3)), (0, .ref a_t), (1, .int p1)]) hx hb dX6_isLost_19 hl (by decide) rfl (fun ls hl => ?_)
  refine lv_iconst hx hb dX6_isLost_21 ic_0 ?_
  refine lv_istore (lv' := [(5, .int 0), (4, .int 0), (3, .int q14), (2, .int (b2i q3)), (0, .ref a_t), (1, .int p1)]) hx hb dX6_isLost_22 hl (by decide) rfl (fun ls hl => ?_)
  refine L24 _ (fun x2_24 x3_24 x4_24 x5_24 H locs ls hf hP hD hS hl => ?_) FU _ _ _ _ _ _ ls hf hP hD hS (lv_sub hl [4, 5, 3, 2, 1, 0] rfl)
  refine lv_iload hx hb dX6_isLost_98 (lv_at hl 0 rfl) ?_
  exact retB X hS hP (retZ_nar hf) (retZ_spec hf) dX6_isLost_100

abbrev wo_X6_normalState (cI cZ : ClassId) (a_t a_t_st a_t_be a_t_so a_t_sv : Nat) (v_t_st : Nat → Int32) : va_W := [(a_t, oX6 a_t_st a_t_be a_t_so a_t_sv), (a_t_st, rI cI 164 v_t_st)]
def fX6_normalState (v_t_st : Nat → Int32) (p1 : Int32) : Option (Int32) := ((fX6_hasSwitch v_t_st p1 (nI 2)).bind (fun q3 => (if q3 = true then ((fX6_ofCircuit v_t_st p1 (nI 1)).bind (fun q15 => ((fX6_segmentOf v_t_st q15).bind (fun q18 => ((fX6_ofCircuit v_t_st p1 (nI 2)).bind (fun q25 => ((fX6_segmentOf v_t_st q25).bind (fun q28 => (if q18 = q28 then ((fX6_isLost v_t_st p1).bind (fun q38 => (if q38 = true then (some (nI 4)) else (if q3 = true then (some (nI 2)) else ((fX6_hasSwitch v_t_st p1 (nI 1)).bind (fun q57 => (if q57 = true then (some (nI 1)) else (some 0)))))))) else (some (nI 3))))))))))) else ((fX6_isLost v_t_st p1).bind (fun q38 => (if q38 = true then (some (nI 4)) else (if q3 = true then (some (nI 2)) else ((fX6_hasSwitch v_t_st p1 (nI 1)).bind (fun q57 => (if q57 = true then (some (nI 1)) else (some 0)))))))))))
theorem kd_X6_normalState : yX6_normalState.cls = RX6 ∧ yX6_normalState.cls ≠ "java/lang/invoke/MethodHandle" ∧ yX6_normalState.cls ≠ "java/lang/invoke/VarHandle" ∧ (parseMethodDescriptor yX6_normalState.desc).map (fun d => d.parameters.length) = some 1 := by decide +kernel
def rm_X6_normalState : Room := { frames := 5, cells := 0, slots := 0, locals := 115 }
set_option maxHeartbeats 4000000 in
set_option maxRecDepth 100000 in
theorem k_X6_normalState (l : Launch) (D : va_G) (cI cZ : ClassId) (a_t a_t_st a_t_be a_t_so a_t_sv : Nat) (v_t_st : Nat → Int32) (p1 : Int32) (q : Int32) (hf : fX6_normalState v_t_st p1 = some q) : CI l D cI cZ yX6_normalState wsX6_normalState rm_X6_normalState [.ref a_t, .int p1] (wo_X6_normalState cI cZ a_t a_t_st a_t_be a_t_so a_t_sv v_t_st) (wo_X6_normalState cI cZ a_t a_t_st a_t_be a_t_so a_t_sv v_t_st) q := by
  refine CI.mk (cc := cX6_normalState) (maxL := 3) (by decide) rfl (Nat.le_of_ble_eq_true rfl) ?_
  intro p e s m below meth c ls A X hP hD hl hS
  have hx := X.1.1
  have hb := X.1.2.1
  have hl : lv_has ls 3 [(0, .ref a_t), (1, .int p1)] := hl
  unfold fX6_normalState at hf
  refine lv_aload_n hx hb dX6_normalState_0 rfl (lv_at hl 0 rfl) ?_
  refine lv_iload_n hx hb dX6_normalState_1 rfl (lv_at hl 1 rfl) ?_
  refine lv_iconst hx hb dX6_normalState_2 ic_2 ?_
  obtain ⟨q3, e3, hf⟩ := bnd hf
  refine callVI X (k_X6_hasSwitch l D cI cZ a_t a_t_st a_t_be a_t_so a_t_sv  v_t_st p1 (nI 2) q3 e3) (cwV 2 X.1.2.2.2.2 gX6_normalState_X6_hasSwitch rfl rfl rfl kd_X6_hasSwitch ⟨Nat.le_of_ble_eq_true rfl, Nat.le_of_ble_eq_true rfl⟩) hP hD hS hl.1 0 6 rfl rfl [0, 1] (by decide) (wo_X6_normalState cI cZ a_t a_t_st a_t_be a_t_so a_t_sv v_t_st) rfl rfl rfl rfl rfl (rest := []) rfl (Nat.le_of_ble_eq_true rfl) dX6_normalState_3 ⟨Nat.zero_le _, Nat.zero_le _⟩ (fun H locs hP hD hS => ?_)
  refine lv_istore_n (lv' := [(2, .int (b2i q3)), (0, .ref a_t), (1, .int p1)]) hx hb dX6_normalState_6 rfl hl (by decide) rfl (fun ls hl => ?_)
  refine lv_iload_n hx hb dX6_normalState_7 rfl (lv_at hl 0 rfl) ?_
  refine lv_if_eq (tgt := 36) hx hb dX6_normalState_8 (by decide) (fun hc => ?_) (fun hc => ?_)
  · replace hf := ifn (b2i_z hc) hf
    refine lv_aload_n hx hb dX6_normalState_36 rfl (lv_at hl 1 rfl) ?_
    refine lv_iload_n hx hb dX6_normalState_37 rfl (lv_at hl 2 rfl) ?_
    obtain ⟨q38, e38, hf⟩ := bnd hf
    refine callVI X (k_X6_isLost l D cI cZ a_t a_t_st a_t_be a_t_so a_t_sv  v_t_st p1 q38 e38) (cwV 1 X.1.2.2.2.2 gX6_normalState_X6_isLost rfl rfl rfl kd_X6_isLost ⟨Nat.le_of_ble_eq_true rfl, Nat.le_of_ble_eq_true rfl⟩) hP hD hS hl.1 0 6 rfl rfl [0, 1] (by decide) (wo_X6_normalState cI cZ a_t a_t_st a_t_be a_t_so a_t_sv v_t_st) rfl rfl rfl rfl rfl (rest := []) rfl (Nat.le_of_ble_eq_true rfl) dX6_normalState_38 ⟨Nat.zero_le _, Nat.zero_le _⟩ (fun H locs hP hD hS => ?_)
    refine lv_if_eq (tgt := 46) hx hb dX6_normalState_41 (by decide) (fun hc => ?_) (fun hc => ?_)
    · replace hf := ifn (b2i_z hc) hf
      refine lv_iload_n hx hb dX6_normalState_46 rfl (lv_at hl 0 rfl) ?_
      refine lv_if_eq (tgt := 54) hx hb dX6_normalState_47 (by decide) (fun hc => ?_) (fun hc => ?_)
      · replace hf := ifn (b2i_z hc) hf
        refine lv_aload_n hx hb dX6_normalState_54 rfl (lv_at hl 1 rfl) ?_
        refine lv_iload_n hx hb dX6_normalState_55 rfl (lv_at hl 2 rfl) ?_
        refine lv_iconst hx hb dX6_normalState_56 ic_1 ?_
        obtain ⟨q57, e57, hf⟩ := bnd hf
        refine callVI X (k_X6_hasSwitch l D cI cZ a_t a_t_st a_t_be a_t_so a_t_sv  v_t_st p1 (nI 1) q57 e57) (cwV 2 X.1.2.2.2.2 gX6_normalState_X6_hasSwitch rfl rfl rfl kd_X6_hasSwitch ⟨Nat.le_of_ble_eq_true rfl, Nat.le_of_ble_eq_true rfl⟩) hP hD hS hl.1 0 6 rfl rfl [0, 1] (by decide) (wo_X6_normalState cI cZ a_t a_t_st a_t_be a_t_so a_t_sv v_t_st) rfl rfl rfl rfl rfl (rest := []) rfl (Nat.le_of_ble_eq_true rfl) dX6_normalState_57 ⟨Nat.zero_le _, Nat.zero_le _⟩ (fun H locs hP hD hS => ?_)
        refine lv_if_eq (tgt := 67) hx hb dX6_normalState_60 (by decide) (fun hc => ?_) (fun hc => ?_)
        · replace hf := ifn (b2i_z hc) hf
          refine lv_iconst hx hb dX6_normalState_67 ic_0 ?_
          obtain rfl := Option.some.inj hf
          exact retI X hS hP rfl dX6_normalState_68
        · replace hf := ifp (b2i_nz hc) hf
          refine lv_iconst hx hb dX6_normalState_63 ic_1 ?_
          refine lv_goto (tgt := 68) hx hb dX6_normalState_64 (by decide) ?_
          obtain rfl := Option.some.inj hf
          exact retI X hS hP rfl dX6_normalState_68
      · replace hf := ifp (b2i_nz hc) hf
        refine lv_iconst hx hb dX6_normalState_50 ic_2 ?_
        refine lv_goto (tgt := 68) hx hb dX6_normalState_51 (by decide) ?_
        obtain rfl := Option.some.inj hf
        exact retI X hS hP rfl dX6_normalState_68
    · replace hf := ifp (b2i_nz hc) hf
      refine lv_iconst hx hb dX6_normalState_44 ic_4 ?_
      obtain rfl := Option.some.inj hf
      exact retI X hS hP rfl dX6_normalState_45
  · replace hf := ifp (b2i_nz hc) hf
    refine lv_aload_n hx hb dX6_normalState_11 rfl (lv_at hl 1 rfl) ?_
    refine lv_aload_n hx hb dX6_normalState_12 rfl (lv_at hl 1 rfl) ?_
    refine lv_iload_n hx hb dX6_normalState_13 rfl (lv_at hl 2 rfl) ?_
    refine lv_iconst hx hb dX6_normalState_14 ic_1 ?_
    obtain ⟨q15, e15, hf⟩ := bnd hf
    refine callVI X (k_X6_ofCircuit l D cI cZ a_t a_t_st a_t_be a_t_so a_t_sv  v_t_st p1 (nI 1) q15 e15) (cwV 2 X.1.2.2.2.2 gX6_normalState_X6_ofCircuit rfl rfl rfl kd_X6_ofCircuit ⟨Nat.le_of_ble_eq_true rfl, Nat.le_of_ble_eq_true rfl⟩) hP hD hS hl.1 0 6 rfl rfl [0, 1] (by decide) (wo_X6_normalState cI cZ a_t a_t_st a_t_be a_t_so a_t_sv v_t_st) rfl rfl rfl rfl rfl (rest := [.ref a_t]) rfl (Nat.le_of_ble_eq_true rfl) dX6_normalState_15 ⟨Nat.zero_le _, Nat.zero_le _⟩ (fun H locs hP hD hS => ?_)
    obtain ⟨q18, e18, hf⟩ := bnd hf
    refine callVI X (k_X6_segmentOf l D cI cZ a_t a_t_st a_t_be a_t_so a_t_sv  v_t_st q15 q18 e18) (cwV 1 X.1.2.2.2.2 gX6_normalState_X6_segmentOf rfl rfl rfl kd_X6_segmentOf ⟨Nat.le_of_ble_eq_true rfl, Nat.le_of_ble_eq_true rfl⟩) hP hD hS hl.1 0 6 rfl rfl [0, 1] (by decide) (wo_X6_normalState cI cZ a_t a_t_st a_t_be a_t_so a_t_sv v_t_st) rfl rfl rfl rfl rfl (rest := []) rfl (Nat.le_of_ble_eq_true rfl) dX6_normalState_18 ⟨Nat.zero_le _, Nat.zero_le _⟩ (fun H locs hP hD hS => ?_)
    refine lv_aload_n hx hb dX6_normalState_21 rfl (lv_at hl 1 rfl) ?_
    refine lv_aload_n hx hb dX6_normalState_22 rfl (lv_at hl 1 rfl) ?_
    refine lv_iload_n hx hb dX6_normalState_23 rfl (lv_at hl 2 rfl) ?_
    refine lv_iconst hx hb dX6_normalState_24 ic_2 ?_
    obtain ⟨q25, e25, hf⟩ := bnd hf
    refine callVI X (k_X6_ofCircuit l D cI cZ a_t a_t_st a_t_be a_t_so a_t_sv  v_t_st p1 (nI 2) q25 e25) (cwV 2 X.1.2.2.2.2 gX6_normalState_X6_ofCircuit rfl rfl rfl kd_X6_ofCircuit ⟨Nat.le_of_ble_eq_true rfl, Nat.le_of_ble_eq_true rfl⟩) hP hD hS hl.1 0 6 rfl rfl [0, 1] (by decide) (wo_X6_normalState cI cZ a_t a_t_st a_t_be a_t_so a_t_sv v_t_st) rfl rfl rfl rfl rfl (rest := [.ref a_t, .int q18]) rfl (Nat.le_of_ble_eq_true rfl) dX6_normalState_25 ⟨Nat.zero_le _, Nat.zero_le _⟩ (fun H locs hP hD hS => ?_)
    obtain ⟨q28, e28, hf⟩ := bnd hf
    refine callVI X (k_X6_segmentOf l D cI cZ a_t a_t_st a_t_be a_t_so a_t_sv  v_t_st q25 q28 e28) (cwV 1 X.1.2.2.2.2 gX6_normalState_X6_segmentOf rfl rfl rfl kd_X6_segmentOf ⟨Nat.le_of_ble_eq_true rfl, Nat.le_of_ble_eq_true rfl⟩) hP hD hS hl.1 0 6 rfl rfl [0, 1] (by decide) (wo_X6_normalState cI cZ a_t a_t_st a_t_be a_t_so a_t_sv v_t_st) rfl rfl rfl rfl rfl (rest := [.int q18]) rfl (Nat.le_of_ble_eq_true rfl) dX6_normalState_28 ⟨Nat.zero_le _, Nat.zero_le _⟩ (fun H locs hP hD hS => ?_)
    refine lv_icmp_eq (tgt := 36) hx hb dX6_normalState_31 (by decide) (fun hc => ?_) (fun hc => ?_)
    · replace hf := ifp hc hf
      refine lv_aload_n hx hb dX6_normalState_36 rfl (lv_at hl 1 rfl) ?_
      refine lv_iload_n hx hb dX6_normalState_37 rfl (lv_at hl 2 rfl) ?_
      obtain ⟨q38, e38, hf⟩ := bnd hf
      refine callVI X (k_X6_isLost l D cI cZ a_t a_t_st a_t_be a_t_so a_t_sv  v_t_st p1 q38 e38) (cwV 1 X.1.2.2.2.2 gX6_normalState_X6_isLost rfl rfl rfl kd_X6_isLost ⟨Nat.le_of_ble_eq_true rfl, Nat.le_of_ble_eq_true rfl⟩) hP hD hS hl.1 0 6 rfl rfl [0, 1] (by decide) (wo_X6_normalState cI cZ a_t a_t_st a_t_be a_t_so a_t_sv v_t_st) rfl rfl rfl rfl rfl (rest := []) rfl (Nat.le_of_ble_eq_true rfl) dX6_normalState_38 ⟨Nat.zero_le _, Nat.zero_le _⟩ (fun H locs hP hD hS => ?_)
      refine lv_if_eq (tgt := 46) hx hb dX6_normalState_41 (by decide) (fun hc => ?_) (fun hc => ?_)
      · replace hf := ifn (b2i_z hc) hf
        refine lv_iload_n hx hb dX6_normalState_46 rfl (lv_at hl 0 rfl) ?_
        refine lv_if_eq (tgt := 54) hx hb dX6_normalState_47 (by decide) (fun hc => ?_) (fun hc => ?_)
        · replace hf := ifn (b2i_z hc) hf
          refine lv_aload_n hx hb dX6_normalState_54 rfl (lv_at hl 1 rfl) ?_
          refine lv_iload_n hx hb dX6_normalState_55 rfl (lv_at hl 2 rfl) ?_
          refine lv_iconst hx hb dX6_normalState_56 ic_1 ?_
          obtain ⟨q57, e57, hf⟩ := bnd hf
          refine callVI X (k_X6_hasSwitch l D cI cZ a_t a_t_st a_t_be a_t_so a_t_sv  v_t_st p1 (nI 1) q57 e57) (cwV 2 X.1.2.2.2.2 gX6_normalState_X6_hasSwitch rfl rfl rfl kd_X6_hasSwitch ⟨Nat.le_of_ble_eq_true rfl, Nat.le_of_ble_eq_true rfl⟩) hP hD hS hl.1 0 6 rfl rfl [0, 1] (by decide) (wo_X6_normalState cI cZ a_t a_t_st a_t_be a_t_so a_t_sv v_t_st) rfl rfl rfl rfl rfl (rest := []) rfl (Nat.le_of_ble_eq_true rfl) dX6_normalState_57 ⟨Nat.zero_le _, Nat.zero_le _⟩ (fun H locs hP hD hS => ?_)
          refine lv_if_eq (tgt := 67) hx hb dX6_normalState_60 (by decide) (fun hc => ?_) (fun hc => ?_)
          · replace hf := ifn (b2i_z hc) hf
            refine lv_iconst hx hb dX6_normalState_67 ic_0 ?_
            obtain rfl := Option.some.inj hf
            exact retI X hS hP rfl dX6_normalState_68
          · replace hf := ifp (b2i_nz hc) hf
            refine lv_iconst hx hb dX6_normalState_63 ic_1 ?_
            refine lv_goto (tgt := 68) hx hb dX6_normalState_64 (by decide) ?_
            obtain rfl := Option.some.inj hf
            exact retI X hS hP rfl dX6_normalState_68
        · replace hf := ifp (b2i_nz hc) hf
          refine lv_iconst hx hb dX6_normalState_50 ic_2 ?_
          refine lv_goto (tgt := 68) hx hb dX6_normalState_51 (by decide) ?_
          obtain rfl := Option.some.inj hf
          exact retI X hS hP rfl dX6_normalState_68
      · replace hf := ifp (b2i_nz hc) hf
        refine lv_iconst hx hb dX6_normalState_44 ic_4 ?_
        obtain rfl := Option.some.inj hf
        exact retI X hS hP rfl dX6_normalState_45
    · replace hf := ifn hc hf
      refine lv_iconst hx hb dX6_normalState_34 ic_3 ?_
      obtain rfl := Option.some.inj hf
      exact retI X hS hP rfl dX6_normalState_35

abbrev wo_X6_extraState (cI cZ : ClassId) (a_t a_t_st a_t_be a_t_so a_t_sv : Nat) (v_t_st : Nat → Int32) : va_W := [(a_t, oX6 a_t_st a_t_be a_t_so a_t_sv), (a_t_st, rI cI 164 v_t_st)]
def fX6_extraState_L21 (v_t_st : Nat → Int32) (p1 : Int32) (K : Int32 → Option (Int32)) : Nat → Int32 → Option (Int32)
  | 0, _ => none
  | k + 1, x2_21 => (if (v_t_st 0) ≤ x2_21 then (K x2_21) else ((fX6_isOn v_t_st p1 x2_21).bind (fun q34 => (if q34 = true then ((fX6_isDown v_t_st x2_21 (nI 1)).bind (fun q43 => (if q43 = true then (some (nI 4)) else (fX6_extraState_L21 v_t_st p1 K k (x2_21 + nI 1))))) else (fX6_extraState_L21 v_t_st p1 K k (x2_21 + nI 1))))))
def fX6_extraState (v_t_st : Nat → Int32) (p1 : Int32) : Option (Int32) := ((fX6_someSwitch v_t_st (nI 2)).bind (fun q2 => (if q2 = true then (some (nI 5)) else ((fX6_hasSwitch v_t_st p1 (nI 1)).bind (fun q11 => (if q11 = true then (some (nI 5)) else (fX6_extraState_L21 v_t_st p1 (fun x2_21 => (some 0)) FU 0)))))))
theorem kd_X6_extraState : yX6_extraState.cls = RX6 ∧ yX6_extraState.cls ≠ "java/lang/invoke/MethodHandle" ∧ yX6_extraState.cls ≠ "java/lang/invoke/VarHandle" ∧ (parseMethodDescriptor yX6_extraState.desc).map (fun d => d.parameters.length) = some 1 := by decide +kernel
def rm_X6_extraState : Room := { frames := 3, cells := 0, slots := 0, locals := 73 }
set_option maxHeartbeats 4000000 in
set_option maxRecDepth 100000 in
theorem k_X6_extraState (l : Launch) (D : va_G) (cI cZ : ClassId) (a_t a_t_st a_t_be a_t_so a_t_sv : Nat) (v_t_st : Nat → Int32) (p1 : Int32) (q : Int32) (hf : fX6_extraState v_t_st p1 = some q) : CI l D cI cZ yX6_extraState wsX6_extraState rm_X6_extraState [.ref a_t, .int p1] (wo_X6_extraState cI cZ a_t a_t_st a_t_be a_t_so a_t_sv v_t_st) (wo_X6_extraState cI cZ a_t a_t_st a_t_be a_t_so a_t_sv v_t_st) q := by
  refine CI.mk (cc := cX6_extraState) (maxL := 3) (by decide) rfl (Nat.le_of_ble_eq_true rfl) ?_
  intro p e s m below meth c ls A X hP hD hl hS
  have hx := X.1.1
  have hb := X.1.2.1
  have hl : lv_has ls 3 [(0, .ref a_t), (1, .int p1)] := hl
  have inX6 : ∀ w ∈ u_ws RX6 TX6 4, w ∈ wsX6_extraState := fun _ h => List.mem_cons_of_mem _ (List.mem_append_right _ h)
  have L21 : ∀ (K : Int32 → Option (Int32)) (hKK : ∀ (x2_21 : Int32) (H : Heap) (locs : List Loc) (ls : Array Slot), K x2_21 = some q → va_P D vwCl (wo_X6_extraState cI cZ a_t a_t_st a_t_be a_t_so a_t_sv v_t_st) H → va_D A (wo_X6_extraState cI cZ a_t a_t_st a_t_be a_t_so a_t_sv v_t_st) → va_S A s.heap H locs → lv_has ls 3 [] → W p l e rm_X6_extraState s m ([.ref a_t, .int p1] : List Value).toArray below meth c H locs 0 0 (MQ below (QI D (wo_X6_extraState cI cZ a_t a_t_st a_t_be a_t_so a_t_sv v_t_st) q A) ([.ref a_t, .int p1] : List Value).toArray s 0 0 A) (F0 m 57 ls [])) (k : Nat) (x2_21 : Int32) (H : Heap) (locs : List Loc) (ls : Array Slot), fX6_extraState_L21 v_t_st p1 K k x2_21 = some q → va_P D vwCl (wo_X6_extraState cI cZ a_t a_t_st a_t_be a_t_so a_t_sv v_t_st) H → va_D A (wo_X6_extraState cI cZ a_t a_t_st a_t_be a_t_so a_t_sv v_t_st) → va_S A s.heap H locs → lv_has ls 3 [(0, .ref a_t), (1, .int p1), (2, .int x2_21)] → W p l e rm_X6_extraState s m ([.ref a_t, .int p1] : List Value).toArray below meth c H locs 0 0 (MQ below (QI D (wo_X6_extraState cI cZ a_t a_t_st a_t_be a_t_so a_t_sv v_t_st) q A) ([.ref a_t, .int p1] : List Value).toArray s 0 0 A) (F0 m 21 ls []) := by
    intro K hKK k
    induction k with
    | zero => intro x2_21 H locs ls hf; rw [fX6_extraState_L21] at hf; cases hf
    | succ k ih =>
      intro x2_21 H locs ls hf hP hD hS hl
      rw [fX6_extraState_L21] at hf
      refine lv_iload_n hx hb dX6_extraState_21 rfl (lv_at hl 2 rfl) ?_
      refine lv_aload_n hx hb dX6_extraState_22 rfl (lv_at hl 0 rfl) ?_
      refine getO X hP inX6 0 rfl rfl 0 (by decide) (List.mem_of_getElem? (i := 1) rfl) rfl dX6_extraState_23 ?_
      refine lv_iconst hx hb dX6_extraState_26 ic_0 ?_
      refine aldI X hP 1 rfl (vin0 (by decide) (by decide)) (j := 0) sb_cl0 dX6_extraState_27 ?_
      refine lv_icmp_ge (tgt := 57) hx hb dX6_extraState_28 (by decide) (fun hc => ?_) (fun hc => ?_)
      · replace hf := ifp hc hf
        exact hKK _ _ _ ls hf hP hD hS (lv_sub hl [] rfl)
      · replace hf := ifn hc hf
        refine lv_aload_n hx hb dX6_extraState_31 rfl (lv_at hl 0 rfl) ?_
        refine lv_iload_n hx hb dX6_extraState_32 rfl (lv_at hl 1 rfl) ?_
        refine lv_iload_n hx hb dX6_extraState_33 rfl (lv_at hl 2 rfl) ?_
        obtain ⟨q34, e34, hf⟩ := bnd hf
        refine callVI X (k_X6_isOn l D cI cZ a_t a_t_st a_t_be a_t_so a_t_sv  v_t_st p1 x2_21 q34 e34) (cwV 2 X.1.2.2.2.2 gX6_extraState_X6_isOn rfl rfl rfl kd_X6_isOn ⟨Nat.le_of_ble_eq_true rfl, Nat.le_of_ble_eq_true rfl⟩) hP hD hS hl.1 0 6 rfl rfl [0, 1] (by decide) (wo_X6_extraState cI cZ a_t a_t_st a_t_be a_t_so a_t_sv v_t_st) rfl rfl rfl rfl rfl (rest := []) rfl (Nat.le_of_ble_eq_true rfl) dX6_extraState_34 ⟨Nat.zero_le _, Nat.zero_le _⟩ (fun H locs hP hD hS => ?_)
        refine lv_if_eq (tgt := 51) hx hb dX6_extraState_37 (by decide) (fun hc => ?_) (fun hc => ?_)
        · replace hf := ifn (b2i_z hc) hf
          refine lv_iinc (v := (x2_21 + nI 1)) (lv' := [(2, .int (x2_21 + nI 1)), (0, .ref a_t), (1, .int p1)]) hx hb dX6_extraState_51 hl (k := 2) rfl (inc_1 _) (by decide) rfl (fun ls hl => ?_)
          refine lv_goto (tgt := 21) hx hb dX6_extraState_54 (by decide) ?_
          exact ih _ _ _ ls hf hP hD hS (lv_sub hl [1, 2, 0] rfl)
        · replace hf := ifp (b2i_nz hc) hf
          refine lv_aload_n hx hb dX6_extraState_40 rfl (lv_at hl 0 rfl) ?_
          refine lv_iload_n hx hb dX6_extraState_41 rfl (lv_at hl 2 rfl) ?_
          refine lv_iconst hx hb dX6_extraState_42 ic_1 ?_
          obtain ⟨q43, e43, hf⟩ := bnd hf
          refine callVI X (k_X6_isDown l D cI cZ a_t a_t_st a_t_be a_t_so a_t_sv  v_t_st x2_21 (nI 1) q43 e43) (cwV 2 X.1.2.2.2.2 gX6_extraState_X6_isDown rfl rfl rfl kd_X6_isDown ⟨Nat.le_of_ble_eq_true rfl, Nat.le_of_ble_eq_true rfl⟩) hP hD hS hl.1 0 6 rfl rfl [0, 1] (by decide) (wo_X6_extraState cI cZ a_t a_t_st a_t_be a_t_so a_t_sv v_t_st) rfl rfl rfl rfl rfl (rest := []) rfl (Nat.le_of_ble_eq_true rfl) dX6_extraState_43 ⟨Nat.zero_le _, Nat.zero_le _⟩ (fun H locs hP hD hS => ?_)
          refine lv_if_eq (tgt := 51) hx hb dX6_extraState_46 (by decide) (fun hc => ?_) (fun hc => ?_)
          · replace hf := ifn (b2i_z hc) hf
            refine lv_iinc (v := (x2_21 + nI 1)) (lv' := [(2, .int (x2_21 + nI 1)), (0, .ref a_t), (1, .int p1)]) hx hb dX6_extraState_51 hl (k := 2) rfl (inc_1 _) (by decide) rfl (fun ls hl => ?_)
            refine lv_goto (tgt := 21) hx hb dX6_extraState_54 (by decide) ?_
            exact ih _ _ _ ls hf hP hD hS (lv_sub hl [1, 2, 0] rfl)
          · replace hf := ifp (b2i_nz hc) hf
            refine lv_iconst hx hb dX6_extraState_49 ic_4 ?_
            obtain rfl := Option.some.inj hf
            exact retI X hS hP rfl dX6_extraState_50
  unfold fX6_extraState at hf
  refine lv_aload_n hx hb dX6_extraState_0 rfl (lv_at hl 0 rfl) ?_
  refine lv_iconst hx hb dX6_extraState_1 ic_2 ?_
  obtain ⟨q2, e2, hf⟩ := bnd hf
  refine callVI X (k_X6_someSwitch l D cI cZ a_t a_t_st a_t_be a_t_so a_t_sv  v_t_st (nI 2) q2 e2) (cwV 1 X.1.2.2.2.2 gX6_extraState_X6_someSwitch rfl rfl rfl kd_X6_someSwitch ⟨Nat.le_of_ble_eq_true rfl, Nat.le_of_ble_eq_true rfl⟩) hP hD hS hl.1 0 6 rfl rfl [0, 1] (by decide) (wo_X6_extraState cI cZ a_t a_t_st a_t_be a_t_so a_t_sv v_t_st) rfl rfl rfl rfl rfl (rest := []) rfl (Nat.le_of_ble_eq_true rfl) dX6_extraState_2 ⟨Nat.zero_le _, Nat.zero_le _⟩ (fun H locs hP hD hS => ?_)
  refine lv_if_ne (tgt := 17) hx hb dX6_extraState_5 (by decide) (fun hc => ?_) (fun hc => ?_)
  · replace hf := ifp (b2i_nz hc) hf
    refine lv_iconst hx hb dX6_extraState_17 ic_5 ?_
    obtain rfl := Option.some.inj hf
    exact retI X hS hP rfl dX6_extraState_18
  · replace hf := ifn (b2i_z hc) hf
    refine lv_aload_n hx hb dX6_extraState_8 rfl (lv_at hl 0 rfl) ?_
    refine lv_iload_n hx hb dX6_extraState_9 rfl (lv_at hl 1 rfl) ?_
    refine lv_iconst hx hb dX6_extraState_10 ic_1 ?_
    obtain ⟨q11, e11, hf⟩ := bnd hf
    refine callVI X (k_X6_hasSwitch l D cI cZ a_t a_t_st a_t_be a_t_so a_t_sv  v_t_st p1 (nI 1) q11 e11) (cwV 2 X.1.2.2.2.2 gX6_extraState_X6_hasSwitch rfl rfl rfl kd_X6_hasSwitch ⟨Nat.le_of_ble_eq_true rfl, Nat.le_of_ble_eq_true rfl⟩) hP hD hS hl.1 0 6 rfl rfl [0, 1] (by decide) (wo_X6_extraState cI cZ a_t a_t_st a_t_be a_t_so a_t_sv v_t_st) rfl rfl rfl rfl rfl (rest := []) rfl (Nat.le_of_ble_eq_true rfl) dX6_extraState_11 ⟨Nat.zero_le _, Nat.zero_le _⟩ (fun H locs hP hD hS => ?_)
    refine lv_if_eq (tgt := 19) hx hb dX6_extraState_14 (by decide) (fun hc => ?_) (fun hc => ?_)
    · replace hf := ifn (b2i_z hc) hf
      refine lv_iconst hx hb dX6_extraState_19 ic_0 ?_
      refine lv_istore_n (lv' := [(2, .int 0), (0, .ref a_t), (1, .int p1)]) hx hb dX6_extraState_20 rfl hl (by decide) rfl (fun ls hl => ?_)
      refine L21 _ (fun x2_21 H locs ls hf hP hD hS hl => ?_) FU _ _ _ ls hf hP hD hS (lv_sub hl [1, 2, 0] rfl)
      refine lv_iconst hx hb dX6_extraState_57 ic_0 ?_
      obtain rfl := Option.some.inj hf
      exact retI X hS hP rfl dX6_extraState_58
    · replace hf := ifp (b2i_nz hc) hf
      refine lv_iconst hx hb dX6_extraState_17 ic_5 ?_
      obtain rfl := Option.some.inj hf
      exact retI X hS hP rfl dX6_extraState_18

abbrev wo_X6_stateOf (cI cZ : ClassId) (a_t a_t_st a_t_be a_t_so a_t_sv : Nat) (v_t_st : Nat → Int32) : va_W := [(a_t, oX6 a_t_st a_t_be a_t_so a_t_sv), (a_t_st, rI cI 164 v_t_st)]
def fX6_stateOf (v_t_st : Nat → Int32) (p1 : Int32) : Option (Int32) := ((fX6_ofCircuit v_t_st p1 (nI 5)).bind (fun q3 => (if q3 = (nI 1) then ((fX6_extraState v_t_st p1).bind (fun q12 => (some q12))) else ((fX6_normalState v_t_st p1).bind (fun q20 => (some q20))))))
theorem kd_X6_stateOf : yX6_stateOf.cls = RX6 ∧ yX6_stateOf.cls ≠ "java/lang/invoke/MethodHandle" ∧ yX6_stateOf.cls ≠ "java/lang/invoke/VarHandle" ∧ (parseMethodDescriptor yX6_stateOf.desc).map (fun d => d.parameters.length) = some 1 := by decide +kernel
def rm_X6_stateOf : Room := { frames := 6, cells := 0, slots := 0, locals := 137 }
set_option maxHeartbeats 4000000 in
set_option maxRecDepth 100000 in
theorem k_X6_stateOf (l : Launch) (D : va_G) (cI cZ : ClassId) (a_t a_t_st a_t_be a_t_so a_t_sv : Nat) (v_t_st : Nat → Int32) (p1 : Int32) (q : Int32) (hf : fX6_stateOf v_t_st p1 = some q) : CI l D cI cZ yX6_stateOf wsX6_stateOf rm_X6_stateOf [.ref a_t, .int p1] (wo_X6_stateOf cI cZ a_t a_t_st a_t_be a_t_so a_t_sv v_t_st) (wo_X6_stateOf cI cZ a_t a_t_st a_t_be a_t_so a_t_sv v_t_st) q := by
  refine CI.mk (cc := cX6_stateOf) (maxL := 2) (by decide) rfl (Nat.le_of_ble_eq_true rfl) ?_
  intro p e s m below meth c ls A X hP hD hl hS
  have hx := X.1.1
  have hb := X.1.2.1
  have hl : lv_has ls 2 [(0, .ref a_t), (1, .int p1)] := hl
  unfold fX6_stateOf at hf
  refine lv_aload_n hx hb dX6_stateOf_0 rfl (lv_at hl 0 rfl) ?_
  refine lv_iload_n hx hb dX6_stateOf_1 rfl (lv_at hl 1 rfl) ?_
  refine lv_iconst hx hb dX6_stateOf_2 ic_5 ?_
  obtain ⟨q3, e3, hf⟩ := bnd hf
  refine callVI X (k_X6_ofCircuit l D cI cZ a_t a_t_st a_t_be a_t_so a_t_sv  v_t_st p1 (nI 5) q3 e3) (cwV 2 X.1.2.2.2.2 gX6_stateOf_X6_ofCircuit rfl rfl rfl kd_X6_ofCircuit ⟨Nat.le_of_ble_eq_true rfl, Nat.le_of_ble_eq_true rfl⟩) hP hD hS hl.1 0 6 rfl rfl [0, 1] (by decide) (wo_X6_stateOf cI cZ a_t a_t_st a_t_be a_t_so a_t_sv v_t_st) rfl rfl rfl rfl rfl (rest := []) rfl (Nat.le_of_ble_eq_true rfl) dX6_stateOf_3 ⟨Nat.zero_le _, Nat.zero_le _⟩ (fun H locs hP hD hS => ?_)
  refine lv_iconst hx hb dX6_stateOf_6 ic_1 ?_
  refine lv_icmp_ne (tgt := 18) hx hb dX6_stateOf_7 (by decide) (fun hc => ?_) (fun hc => ?_)
  · replace hf := ifn hc hf
    refine lv_aload_n hx hb dX6_stateOf_18 rfl (lv_at hl 0 rfl) ?_
    refine lv_iload_n hx hb dX6_stateOf_19 rfl (lv_at hl 1 rfl) ?_
    obtain ⟨q20, e20, hf⟩ := bnd hf
    refine callVI X (k_X6_normalState l D cI cZ a_t a_t_st a_t_be a_t_so a_t_sv  v_t_st p1 q20 e20) (cwV 1 X.1.2.2.2.2 gX6_stateOf_X6_normalState rfl rfl rfl kd_X6_normalState ⟨Nat.le_of_ble_eq_true rfl, Nat.le_of_ble_eq_true rfl⟩) hP hD hS hl.1 0 6 rfl rfl [0, 1] (by decide) (wo_X6_stateOf cI cZ a_t a_t_st a_t_be a_t_so a_t_sv v_t_st) rfl rfl rfl rfl rfl (rest := []) rfl (Nat.le_of_ble_eq_true rfl) dX6_stateOf_20 ⟨Nat.zero_le _, Nat.zero_le _⟩ (fun H locs hP hD hS => ?_)
    obtain rfl := Option.some.inj hf
    exact retI X hS hP rfl dX6_stateOf_23
  · replace hf := ifp hc hf
    refine lv_aload_n hx hb dX6_stateOf_10 rfl (lv_at hl 0 rfl) ?_
    refine lv_iload_n hx hb dX6_stateOf_11 rfl (lv_at hl 1 rfl) ?_
    obtain ⟨q12, e12, hf⟩ := bnd hf
    refine callVI X (k_X6_extraState l D cI cZ a_t a_t_st a_t_be a_t_so a_t_sv  v_t_st p1 q12 e12) (cwV 1 X.1.2.2.2.2 gX6_stateOf_X6_extraState rfl rfl rfl kd_X6_extraState ⟨Nat.le_of_ble_eq_true rfl, Nat.le_of_ble_eq_true rfl⟩) hP hD hS hl.1 0 6 rfl rfl [0, 1] (by decide) (wo_X6_stateOf cI cZ a_t a_t_st a_t_be a_t_so a_t_sv v_t_st) rfl rfl rfl rfl rfl (rest := []) rfl (Nat.le_of_ble_eq_true rfl) dX6_stateOf_12 ⟨Nat.zero_le _, Nat.zero_le _⟩ (fun H locs hP hD hS => ?_)
    refine lv_goto (tgt := 23) hx hb dX6_stateOf_15 (by decide) ?_
    obtain rfl := Option.some.inj hf
    exact retI X hS hP rfl dX6_stateOf_23

abbrev wo_X6_state (cI cZ : ClassId) (a_t a_t_st a_t_be a_t_so a_t_sv : Nat) (v_t_st : Nat → Int32) : va_W := [(a_t, oX6 a_t_st a_t_be a_t_so a_t_sv), (a_t_st, rI cI 164 v_t_st)]
def fX6_state (v_t_st : Nat → Int32) (p1 : Int32) : Option (Int32) := ((fX6_isCircuit v_t_st p1).bind (fun q2 => (if q2 = true then ((fX6_stateOf v_t_st p1).bind (fun q10 => (some q10))) else (some (-3)))))
theorem kd_X6_state : yX6_state.cls = RX6 ∧ yX6_state.cls ≠ "java/lang/invoke/MethodHandle" ∧ yX6_state.cls ≠ "java/lang/invoke/VarHandle" ∧ (parseMethodDescriptor yX6_state.desc).map (fun d => d.parameters.length) = some 1 := by decide +kernel
def rm_X6_state : Room := { frames := 7, cells := 0, slots := 0, locals := 158 }
set_option maxHeartbeats 4000000 in
set_option maxRecDepth 100000 in
theorem k_X6_state (l : Launch) (D : va_G) (cI cZ : ClassId) (a_t a_t_st a_t_be a_t_so a_t_sv : Nat) (v_t_st : Nat → Int32) (p1 : Int32) (q : Int32) (hf : fX6_state v_t_st p1 = some q) : CI l D cI cZ yX6_state wsX6_state rm_X6_state [.ref a_t, .int p1] (wo_X6_state cI cZ a_t a_t_st a_t_be a_t_so a_t_sv v_t_st) (wo_X6_state cI cZ a_t a_t_st a_t_be a_t_so a_t_sv v_t_st) q := by
  refine CI.mk (cc := cX6_state) (maxL := 2) (by decide) rfl (Nat.le_of_ble_eq_true rfl) ?_
  intro p e s m below meth c ls A X hP hD hl hS
  have hx := X.1.1
  have hb := X.1.2.1
  have hl : lv_has ls 2 [(0, .ref a_t), (1, .int p1)] := hl
  unfold fX6_state at hf
  refine lv_aload_n hx hb dX6_state_0 rfl (lv_at hl 0 rfl) ?_
  refine lv_iload_n hx hb dX6_state_1 rfl (lv_at hl 1 rfl) ?_
  obtain ⟨q2, e2, hf⟩ := bnd hf
  refine callVI X (k_X6_isCircuit l D cI cZ a_t a_t_st a_t_be a_t_so a_t_sv  v_t_st p1 q2 e2) (cwV 1 X.1.2.2.2.2 gX6_state_X6_isCircuit rfl rfl rfl kd_X6_isCircuit ⟨Nat.le_of_ble_eq_true rfl, Nat.le_of_ble_eq_true rfl⟩) hP hD hS hl.1 0 6 rfl rfl [0, 1] (by decide) (wo_X6_state cI cZ a_t a_t_st a_t_be a_t_so a_t_sv v_t_st) rfl rfl rfl rfl rfl (rest := []) rfl (Nat.le_of_ble_eq_true rfl) dX6_state_2 ⟨Nat.zero_le _, Nat.zero_le _⟩ (fun H locs hP hD hS => ?_)
  refine lv_if_eq (tgt := 16) hx hb dX6_state_5 (by decide) (fun hc => ?_) (fun hc => ?_)
  · replace hf := ifn (b2i_z hc) hf
    refine lv_bipush hx hb dX6_state_16 bp_m3 ?_
    obtain rfl := Option.some.inj hf
    exact retI X hS hP rfl dX6_state_18
  · replace hf := ifp (b2i_nz hc) hf
    refine lv_aload_n hx hb dX6_state_8 rfl (lv_at hl 0 rfl) ?_
    refine lv_iload_n hx hb dX6_state_9 rfl (lv_at hl 1 rfl) ?_
    obtain ⟨q10, e10, hf⟩ := bnd hf
    refine callVI X (k_X6_stateOf l D cI cZ a_t a_t_st a_t_be a_t_so a_t_sv  v_t_st p1 q10 e10) (cwV 1 X.1.2.2.2.2 gX6_state_X6_stateOf rfl rfl rfl kd_X6_stateOf ⟨Nat.le_of_ble_eq_true rfl, Nat.le_of_ble_eq_true rfl⟩) hP hD hS hl.1 0 6 rfl rfl [0, 1] (by decide) (wo_X6_state cI cZ a_t a_t_st a_t_be a_t_so a_t_sv v_t_st) rfl rfl rfl rfl rfl (rest := []) rfl (Nat.le_of_ble_eq_true rfl) dX6_state_10 ⟨Nat.zero_le _, Nat.zero_le _⟩ (fun H locs hP hD hS => ?_)
    refine lv_goto (tgt := 18) hx hb dX6_state_13 (by decide) ?_
    obtain rfl := Option.some.inj hf
    exact retI X hS hP rfl dX6_state_18

abbrev wo_X6_circuitsIn (cI cZ : ClassId) (a_t a_t_st a_t_be a_t_so a_t_sv : Nat) (v_t_st : Nat → Int32) : va_W := [(a_t, oX6 a_t_st a_t_be a_t_so a_t_sv), (a_t_st, rI cI 164 v_t_st)]
def fX6_circuitsIn_L16 (v_t_st : Nat → Int32) (p1 : Int32) (K : Int32 → Int32 → Option (Int32)) : Nat → Int32 → Int32 → Option (Int32)
  | 0, _, _ => none
  | k + 1, x2_16, x3_16 => (if (nI 16) ≤ x3_16 then (K x2_16 x3_16) else ((fX6_isCircuit v_t_st x3_16).bind (fun q25 => (if q25 = true then ((fX6_stateOf v_t_st x3_16).bind (fun q33 => (if q33 = p1 then (fX6_circuitsIn_L16 v_t_st p1 K k (x2_16 ||| ((nI 1) <<< (x3_16 &&& 31))) (x3_16 + nI 1)) else (fX6_circuitsIn_L16 v_t_st p1 K k (x2_16 ||| 0) (x3_16 + nI 1))))) else (fX6_circuitsIn_L16 v_t_st p1 K k (x2_16 ||| 0) (x3_16 + nI 1))))))
def fX6_circuitsIn (v_t_st : Nat → Int32) (p1 : Int32) : Option (Int32) := ((fX6_in p1 0 (nI 5)).bind (fun q3 => (if q3 = true then (fX6_circuitsIn_L16 v_t_st p1 (fun x2_16 x3_16 => (some x2_16)) FU 0 0) else (some (-4)))))
theorem kd_X6_circuitsIn : yX6_circuitsIn.cls = RX6 ∧ yX6_circuitsIn.cls ≠ "java/lang/invoke/MethodHandle" ∧ yX6_circuitsIn.cls ≠ "java/lang/invoke/VarHandle" ∧ (parseMethodDescriptor yX6_circuitsIn.desc).map (fun d => d.parameters.length) = some 1 := by decide +kernel
def rm_X6_circuitsIn : Room := { frames := 7, cells := 0, slots := 0, locals := 158 }
set_option maxHeartbeats 4000000 in
set_option maxRecDepth 100000 in
theorem k_X6_circuitsIn (l : Launch) (D : va_G) (cI cZ : ClassId) (a_t a_t_st a_t_be a_t_so a_t_sv : Nat) (v_t_st : Nat → Int32) (p1 : Int32) (q : Int32) (hf : fX6_circuitsIn v_t_st p1 = some q) : CI l D cI cZ yX6_circuitsIn wsX6_circuitsIn rm_X6_circuitsIn [.ref a_t, .int p1] (wo_X6_circuitsIn cI cZ a_t a_t_st a_t_be a_t_so a_t_sv v_t_st) (wo_X6_circuitsIn cI cZ a_t a_t_st a_t_be a_t_so a_t_sv v_t_st) q := by
  refine CI.mk (cc := cX6_circuitsIn) (maxL := 4) (by decide) rfl (Nat.le_of_ble_eq_true rfl) ?_
  intro p e s m below meth c ls A X hP hD hl hS
  have hx := X.1.1
  have hb := X.1.2.1
  have hl : lv_has ls 4 [(0, .ref a_t), (1, .int p1)] := hl
  have L16 : ∀ (K : Int32 → Int32 → Option (Int32)) (hKK : ∀ (x2_16 : Int32) (x3_16 : Int32) (H : Heap) (locs : List Loc) (ls : Array Slot), K x2_16 x3_16 = some q → va_P D vwCl (wo_X6_circuitsIn cI cZ a_t a_t_st a_t_be a_t_so a_t_sv v_t_st) H → va_D A (wo_X6_circuitsIn cI cZ a_t a_t_st a_t_be a_t_so a_t_sv v_t_st) → va_S A s.heap H locs → lv_has ls 4 [(2, .int x2_16)] → W p l e rm_X6_circuitsIn s m ([.ref a_t, .int p1] : List Value).toArray below meth c H locs 0 0 (MQ below (QI D (wo_X6_circuitsIn cI cZ a_t a_t_st a_t_be a_t_so a_t_sv v_t_st) q A) ([.ref a_t, .int p1] : List Value).toArray s 0 0 A) (F0 m 55 ls [])) (k : Nat) (x2_16 : Int32) (x3_16 : Int32) (H : Heap) (locs : List Loc) (ls : Array Slot), fX6_circuitsIn_L16 v_t_st p1 K k x2_16 x3_16 = some q → va_P D vwCl (wo_X6_circuitsIn cI cZ a_t a_t_st a_t_be a_t_so a_t_sv v_t_st) H → va_D A (wo_X6_circuitsIn cI cZ a_t a_t_st a_t_be a_t_so a_t_sv v_t_st) → va_S A s.heap H locs → lv_has ls 4 [(0, .ref a_t), (1, .int p1), (2, .int x2_16), (3, .int x3_16)] → W p l e rm_X6_circuitsIn s m ([.ref a_t, .int p1] : List Value).toArray below meth c H locs 0 0 (MQ below (QI D (wo_X6_circuitsIn cI cZ a_t a_t_st a_t_be a_t_so a_t_sv v_t_st) q A) ([.ref a_t, .int p1] : List Value).toArray s 0 0 A) (F0 m 16 ls []) := by
    intro K hKK k
    induction k with
    | zero => intro x2_16 x3_16 H locs ls hf; rw [fX6_circuitsIn_L16] at hf; cases hf
    | succ k ih =>
      intro x2_16 x3_16 H locs ls hf hP hD hS hl
      rw [fX6_circuitsIn_L16] at hf
      refine lv_iload_n hx hb dX6_circuitsIn_16 rfl (lv_at hl 3 rfl) ?_
      refine lv_bipush hx hb dX6_circuitsIn_17 bp_16 ?_
      refine lv_icmp_ge (tgt := 55) hx hb dX6_circuitsIn_19 (by decide) (fun hc => ?_) (fun hc => ?_)
      · replace hf := ifp hc hf
        exact hKK _ _ _ _ ls hf hP hD hS (lv_sub hl [2] rfl)
      · replace hf := ifn hc hf
        refine lv_iload_n hx hb dX6_circuitsIn_22 rfl (lv_at hl 2 rfl) ?_
        refine lv_aload_n hx hb dX6_circuitsIn_23 rfl (lv_at hl 0 rfl) ?_
        refine lv_iload_n hx hb dX6_circuitsIn_24 rfl (lv_at hl 3 rfl) ?_
        obtain ⟨q25, e25, hf⟩ := bnd hf
        refine callVI X (k_X6_isCircuit l D cI cZ a_t a_t_st a_t_be a_t_so a_t_sv  v_t_st x3_16 q25 e25) (cwV 1 X.1.2.2.2.2 gX6_circuitsIn_X6_isCircuit rfl rfl rfl kd_X6_isCircuit ⟨Nat.le_of_ble_eq_true rfl, Nat.le_of_ble_eq_true rfl⟩) hP hD hS hl.1 0 6 rfl rfl [0, 1] (by decide) (wo_X6_circuitsIn cI cZ a_t a_t_st a_t_be a_t_so a_t_sv v_t_st) rfl rfl rfl rfl rfl (rest := [.int x2_16]) rfl (Nat.le_of_ble_eq_true rfl) dX6_circuitsIn_25 ⟨Nat.zero_le _, Nat.zero_le _⟩ (fun H locs hP hD hS => ?_)
        refine lv_if_eq (tgt := 46) hx hb dX6_circuitsIn_28 (by decide) (fun hc => ?_) (fun hc => ?_)
        · replace hf := ifn (b2i_z hc) hf
          refine lv_iconst hx hb dX6_circuitsIn_46 ic_0 ?_
          refine lv_ior hx hb dX6_circuitsIn_47 ?_
          refine lv_istore_n (lv' := [(2, .int (x2_16 ||| 0)), (0, .ref a_t), (1, .int p1), (3, .int x3_16)]) hx hb dX6_circuitsIn_48 rfl hl (by decide) rfl (fun ls hl => ?_)
          refine lv_iinc (v := (x3_16 + nI 1)) (lv' := [(3, .int (x3_16 + nI 1)), (2, .int (x2_16 ||| 0)), (0, .ref a_t), (1, .int p1)]) hx hb dX6_circuitsIn_49 hl (k := 3) rfl (inc_1 _) (by decide) rfl (fun ls hl => ?_)
          refine lv_goto (tgt := 16) hx hb dX6_circuitsIn_52 (by decide) ?_
          exact ih _ _ _ _ ls hf hP hD hS (lv_sub hl [2, 3, 1, 0] rfl)
        · replace hf := ifp (b2i_nz hc) hf
          refine lv_aload_n hx hb dX6_circuitsIn_31 rfl (lv_at hl 0 rfl) ?_
          refine lv_iload_n hx hb dX6_circuitsIn_32 rfl (lv_at hl 3 rfl) ?_
          obtain ⟨q33, e33, hf⟩ := bnd hf
          refine callVI X (k_X6_stateOf l D cI cZ a_t a_t_st a_t_be a_t_so a_t_sv  v_t_st x3_16 q33 e33) (cwV 1 X.1.2.2.2.2 gX6_circuitsIn_X6_stateOf rfl rfl rfl kd_X6_stateOf ⟨Nat.le_of_ble_eq_true rfl, Nat.le_of_ble_eq_true rfl⟩) hP hD hS hl.1 0 6 rfl rfl [0, 1] (by decide) (wo_X6_circuitsIn cI cZ a_t a_t_st a_t_be a_t_so a_t_sv v_t_st) rfl rfl rfl rfl rfl (rest := [.int x2_16]) rfl (Nat.le_of_ble_eq_true rfl) dX6_circuitsIn_33 ⟨Nat.zero_le _, Nat.zero_le _⟩ (fun H locs hP hD hS => ?_)
          refine lv_iload_n hx hb dX6_circuitsIn_36 rfl (lv_at hl 1 rfl) ?_
          refine lv_icmp_ne (tgt := 46) hx hb dX6_circuitsIn_37 (by decide) (fun hc => ?_) (fun hc => ?_)
          · replace hf := ifn hc hf
            refine lv_iconst hx hb dX6_circuitsIn_46 ic_0 ?_
            refine lv_ior hx hb dX6_circuitsIn_47 ?_
            refine lv_istore_n (lv' := [(2, .int (x2_16 ||| 0)), (0, .ref a_t), (1, .int p1), (3, .int x3_16)]) hx hb dX6_circuitsIn_48 rfl hl (by decide) rfl (fun ls hl => ?_)
            refine lv_iinc (v := (x3_16 + nI 1)) (lv' := [(3, .int (x3_16 + nI 1)), (2, .int (x2_16 ||| 0)), (0, .ref a_t), (1, .int p1)]) hx hb dX6_circuitsIn_49 hl (k := 3) rfl (inc_1 _) (by decide) rfl (fun ls hl => ?_)
            refine lv_goto (tgt := 16) hx hb dX6_circuitsIn_52 (by decide) ?_
            exact ih _ _ _ _ ls hf hP hD hS (lv_sub hl [2, 3, 1, 0] rfl)
          · replace hf := ifp hc hf
            refine lv_iconst hx hb dX6_circuitsIn_40 ic_1 ?_
            refine lv_iload_n hx hb dX6_circuitsIn_41 rfl (lv_at hl 3 rfl) ?_
            refine lv_ishl hx hb dX6_circuitsIn_42 ?_
            refine lv_goto (tgt := 47) hx hb dX6_circuitsIn_43 (by decide) ?_
            refine lv_ior hx hb dX6_circuitsIn_47 ?_
            refine lv_istore_n (lv' := [(2, .int (x2_16 ||| ((nI 1) <<< (x3_16 &&& 31)))), (0, .ref a_t), (1, .int p1), (3, .int x3_16)]) hx hb dX6_circuitsIn_48 rfl hl (by decide) rfl (fun ls hl => ?_)
            refine lv_iinc (v := (x3_16 + nI 1)) (lv' := [(3, .int (x3_16 + nI 1)), (2, .int (x2_16 ||| ((nI 1) <<< (x3_16 &&& 31)))), (0, .ref a_t), (1, .int p1)]) hx hb dX6_circuitsIn_49 hl (k := 3) rfl (inc_1 _) (by decide) rfl (fun ls hl => ?_)
            refine lv_goto (tgt := 16) hx hb dX6_circuitsIn_52 (by decide) ?_
            exact ih _ _ _ _ ls hf hP hD hS (lv_sub hl [2, 3, 1, 0] rfl)
  unfold fX6_circuitsIn at hf
  refine lv_iload_n hx hb dX6_circuitsIn_0 rfl (lv_at hl 1 rfl) ?_
  refine lv_iconst hx hb dX6_circuitsIn_1 ic_0 ?_
  refine lv_iconst hx hb dX6_circuitsIn_2 ic_5 ?_
  obtain ⟨q3, e3, hf⟩ := bnd hf
  refine callSI X (k_X6_in l D cI cZ    p1 0 (nI 5) q3 e3) (va_cwS 3 X.1.2.2.2.2 gX6_circuitsIn_X6_in rfl rfl rfl kd_X6_in ⟨Nat.le_of_ble_eq_true rfl, Nat.le_of_ble_eq_true rfl⟩) hP hD hS hl.1 [] (by decide) (wo_X6_circuitsIn cI cZ a_t a_t_st a_t_be a_t_so a_t_sv v_t_st) rfl rfl rfl rfl rfl (rest := []) rfl (Nat.le_of_ble_eq_true rfl) dX6_circuitsIn_3 ⟨Nat.zero_le _, Nat.zero_le _⟩ (fun H locs hP hD hS => ?_)
  refine lv_if_ne (tgt := 12) hx hb dX6_circuitsIn_6 (by decide) (fun hc => ?_) (fun hc => ?_)
  · replace hf := ifp (b2i_nz hc) hf
    refine lv_iconst hx hb dX6_circuitsIn_12 ic_0 ?_
    refine lv_istore_n (lv' := [(2, .int 0), (0, .ref a_t), (1, .int p1)]) hx hb dX6_circuitsIn_13 rfl hl (by decide) rfl (fun ls hl => ?_)
    refine lv_iconst hx hb dX6_circuitsIn_14 ic_0 ?_
    refine lv_istore_n (lv' := [(3, .int 0), (2, .int 0), (0, .ref a_t), (1, .int p1)]) hx hb dX6_circuitsIn_15 rfl hl (by decide) rfl (fun ls hl => ?_)
    refine L16 _ (fun x2_16 x3_16 H locs ls hf hP hD hS hl => ?_) FU _ _ _ _ ls hf hP hD hS (lv_sub hl [2, 3, 1, 0] rfl)
    refine lv_iload_n hx hb dX6_circuitsIn_55 rfl (lv_at hl 0 rfl) ?_
    obtain rfl := Option.some.inj hf
    exact retI X hS hP rfl dX6_circuitsIn_56
  · replace hf := ifn (b2i_z hc) hf
    refine lv_bipush hx hb dX6_circuitsIn_9 bp_m4 ?_
    obtain rfl := Option.some.inj hf
    exact retI X hS hP rfl dX6_circuitsIn_11

abbrev wo_X6_isDelivered (cI cZ : ClassId) (a_t a_t_st a_t_be a_t_so a_t_sv : Nat) (v_t_st : Nat → Int32) : va_W := [(a_t, oX6 a_t_st a_t_be a_t_so a_t_sv), (a_t_st, rI cI 164 v_t_st)]
def fX6_isDelivered (v_t_st : Nat → Int32) (p1 : Int32) : Option (Bool) := ((fX6_isCircuit v_t_st p1).bind (fun q2 => (if q2 = true then ((fX6_stateOf v_t_st p1).bind (fun q10 => (if (nI 2) < q10 then (some false) else (some true)))) else (some false))))
theorem kd_X6_isDelivered : yX6_isDelivered.cls = RX6 ∧ yX6_isDelivered.cls ≠ "java/lang/invoke/MethodHandle" ∧ yX6_isDelivered.cls ≠ "java/lang/invoke/VarHandle" ∧ (parseMethodDescriptor yX6_isDelivered.desc).map (fun d => d.parameters.length) = some 1 := by decide +kernel
def rm_X6_isDelivered : Room := { frames := 7, cells := 0, slots := 0, locals := 158 }
set_option maxHeartbeats 4000000 in
set_option maxRecDepth 100000 in
theorem k_X6_isDelivered (l : Launch) (D : va_G) (cI cZ : ClassId) (a_t a_t_st a_t_be a_t_so a_t_sv : Nat) (v_t_st : Nat → Int32) (p1 : Int32) (q : Bool) (hf : fX6_isDelivered v_t_st p1 = some q) : CI l D cI cZ yX6_isDelivered wsX6_isDelivered rm_X6_isDelivered [.ref a_t, .int p1] (wo_X6_isDelivered cI cZ a_t a_t_st a_t_be a_t_so a_t_sv v_t_st) (wo_X6_isDelivered cI cZ a_t a_t_st a_t_be a_t_so a_t_sv v_t_st) (b2i q) := by
  refine CI.mk (cc := cX6_isDelivered) (maxL := 2) (by decide) rfl (Nat.le_of_ble_eq_true rfl) ?_
  intro p e s m below meth c ls A X hP hD hl hS
  have hx := X.1.1
  have hb := X.1.2.1
  have hl : lv_has ls 2 [(0, .ref a_t), (1, .int p1)] := hl
  unfold fX6_isDelivered at hf
  refine lv_aload_n hx hb dX6_isDelivered_0 rfl (lv_at hl 0 rfl) ?_
  refine lv_iload_n hx hb dX6_isDelivered_1 rfl (lv_at hl 1 rfl) ?_
  obtain ⟨q2, e2, hf⟩ := bnd hf
  refine callVI X (k_X6_isCircuit l D cI cZ a_t a_t_st a_t_be a_t_so a_t_sv  v_t_st p1 q2 e2) (cwV 1 X.1.2.2.2.2 gX6_isDelivered_X6_isCircuit rfl rfl rfl kd_X6_isCircuit ⟨Nat.le_of_ble_eq_true rfl, Nat.le_of_ble_eq_true rfl⟩) hP hD hS hl.1 0 6 rfl rfl [0, 1] (by decide) (wo_X6_isDelivered cI cZ a_t a_t_st a_t_be a_t_so a_t_sv v_t_st) rfl rfl rfl rfl rfl (rest := []) rfl (Nat.le_of_ble_eq_true rfl) dX6_isDelivered_2 ⟨Nat.zero_le _, Nat.zero_le _⟩ (fun H locs hP hD hS => ?_)
  refine lv_if_eq (tgt := 21) hx hb dX6_isDelivered_5 (by decide) (fun hc => ?_) (fun hc => ?_)
  · replace hf := ifn (b2i_z hc) hf
    refine lv_iconst hx hb dX6_isDelivered_21 ic_0 ?_
    obtain rfl := Option.some.inj hf
    exact retB X hS hP rfl rfl dX6_isDelivered_22
  · replace hf := ifp (b2i_nz hc) hf
    refine lv_aload_n hx hb dX6_isDelivered_8 rfl (lv_at hl 0 rfl) ?_
    refine lv_iload_n hx hb dX6_isDelivered_9 rfl (lv_at hl 1 rfl) ?_
    obtain ⟨q10, e10, hf⟩ := bnd hf
    refine callVI X (k_X6_stateOf l D cI cZ a_t a_t_st a_t_be a_t_so a_t_sv  v_t_st p1 q10 e10) (cwV 1 X.1.2.2.2.2 gX6_isDelivered_X6_stateOf rfl rfl rfl kd_X6_stateOf ⟨Nat.le_of_ble_eq_true rfl, Nat.le_of_ble_eq_true rfl⟩) hP hD hS hl.1 0 6 rfl rfl [0, 1] (by decide) (wo_X6_isDelivered cI cZ a_t a_t_st a_t_be a_t_so a_t_sv v_t_st) rfl rfl rfl rfl rfl (rest := []) rfl (Nat.le_of_ble_eq_true rfl) dX6_isDelivered_10 ⟨Nat.zero_le _, Nat.zero_le _⟩ (fun H locs hP hD hS => ?_)
    refine lv_iconst hx hb dX6_isDelivered_13 ic_2 ?_
    refine lv_icmp_gt (tgt := 21) hx hb dX6_isDelivered_14 (by decide) (fun hc => ?_) (fun hc => ?_)
    · replace hf := ifp hc hf
      refine lv_iconst hx hb dX6_isDelivered_21 ic_0 ?_
      obtain rfl := Option.some.inj hf
      exact retB X hS hP rfl rfl dX6_isDelivered_22
    · replace hf := ifn hc hf
      refine lv_iconst hx hb dX6_isDelivered_17 ic_1 ?_
      refine lv_goto (tgt := 22) hx hb dX6_isDelivered_18 (by decide) ?_
      obtain rfl := Option.some.inj hf
      exact retB X hS hP rfl rfl dX6_isDelivered_22

abbrev wo_X6_deliveredCount (cI cZ : ClassId) (a_t a_t_st a_t_be a_t_so a_t_sv : Nat) (v_t_st : Nat → Int32) : va_W := [(a_t, oX6 a_t_st a_t_be a_t_so a_t_sv), (a_t_st, rI cI 164 v_t_st)]
def fX6_deliveredCount_L4 (v_t_st : Nat → Int32) (K : Int32 → Int32 → Option (Int32)) : Nat → Int32 → Int32 → Option (Int32)
  | 0, _, _ => none
  | k + 1, x1_4, x2_4 => (if (nI 16) ≤ x2_4 then (K x1_4 x2_4) else ((fX6_isDelivered v_t_st x2_4).bind (fun q13 => (if q13 = true then (fX6_deliveredCount_L4 v_t_st K k (x1_4 + (nI 1)) (x2_4 + nI 1)) else (fX6_deliveredCount_L4 v_t_st K k (x1_4 + 0) (x2_4 + nI 1))))))
def fX6_deliveredCount (v_t_st : Nat → Int32) : Option (Int32) := (fX6_deliveredCount_L4 v_t_st (fun x1_4 x2_4 => (some x1_4)) FU 0 0)
theorem kd_X6_deliveredCount : yX6_deliveredCount.cls = RX6 ∧ yX6_deliveredCount.cls ≠ "java/lang/invoke/MethodHandle" ∧ yX6_deliveredCount.cls ≠ "java/lang/invoke/VarHandle" ∧ (parseMethodDescriptor yX6_deliveredCount.desc).map (fun d => d.parameters.length) = some 0 := by decide +kernel
def rm_X6_deliveredCount : Room := { frames := 8, cells := 0, slots := 0, locals := 179 }
set_option maxHeartbeats 4000000 in
set_option maxRecDepth 100000 in
theorem k_X6_deliveredCount (l : Launch) (D : va_G) (cI cZ : ClassId) (a_t a_t_st a_t_be a_t_so a_t_sv : Nat) (v_t_st : Nat → Int32) (q : Int32) (hf : fX6_deliveredCount v_t_st = some q) : CI l D cI cZ yX6_deliveredCount wsX6_deliveredCount rm_X6_deliveredCount [.ref a_t] (wo_X6_deliveredCount cI cZ a_t a_t_st a_t_be a_t_so a_t_sv v_t_st) (wo_X6_deliveredCount cI cZ a_t a_t_st a_t_be a_t_so a_t_sv v_t_st) q := by
  refine CI.mk (cc := cX6_deliveredCount) (maxL := 3) (by decide) rfl (Nat.le_of_ble_eq_true rfl) ?_
  intro p e s m below meth c ls A X hP hD hl hS
  have hx := X.1.1
  have hb := X.1.2.1
  have hl : lv_has ls 3 [(0, .ref a_t)] := hl
  have L4 : ∀ (K : Int32 → Int32 → Option (Int32)) (hKK : ∀ (x1_4 : Int32) (x2_4 : Int32) (H : Heap) (locs : List Loc) (ls : Array Slot), K x1_4 x2_4 = some q → va_P D vwCl (wo_X6_deliveredCount cI cZ a_t a_t_st a_t_be a_t_so a_t_sv v_t_st) H → va_D A (wo_X6_deliveredCount cI cZ a_t a_t_st a_t_be a_t_so a_t_sv v_t_st) → va_S A s.heap H locs → lv_has ls 3 [(1, .int x1_4)] → W p l e rm_X6_deliveredCount s m ([.ref a_t] : List Value).toArray below meth c H locs 0 0 (MQ below (QI D (wo_X6_deliveredCount cI cZ a_t a_t_st a_t_be a_t_so a_t_sv v_t_st) q A) ([.ref a_t] : List Value).toArray s 0 0 A) (F0 m 32 ls [])) (k : Nat) (x1_4 : Int32) (x2_4 : Int32) (H : Heap) (locs : List Loc) (ls : Array Slot), fX6_deliveredCount_L4 v_t_st K k x1_4 x2_4 = some q → va_P D vwCl (wo_X6_deliveredCount cI cZ a_t a_t_st a_t_be a_t_so a_t_sv v_t_st) H → va_D A (wo_X6_deliveredCount cI cZ a_t a_t_st a_t_be a_t_so a_t_sv v_t_st) → va_S A s.heap H locs → lv_has ls 3 [(0, .ref a_t), (1, .int x1_4), (2, .int x2_4)] → W p l e rm_X6_deliveredCount s m ([.ref a_t] : List Value).toArray below meth c H locs 0 0 (MQ below (QI D (wo_X6_deliveredCount cI cZ a_t a_t_st a_t_be a_t_so a_t_sv v_t_st) q A) ([.ref a_t] : List Value).toArray s 0 0 A) (F0 m 4 ls []) := by
    intro K hKK k
    induction k with
    | zero => intro x1_4 x2_4 H locs ls hf; rw [fX6_deliveredCount_L4] at hf; cases hf
    | succ k ih =>
      intro x1_4 x2_4 H locs ls hf hP hD hS hl
      rw [fX6_deliveredCount_L4] at hf
      refine lv_iload_n hx hb dX6_deliveredCount_4 rfl (lv_at hl 2 rfl) ?_
      refine lv_bipush hx hb dX6_deliveredCount_5 bp_16 ?_
      refine lv_icmp_ge (tgt := 32) hx hb dX6_deliveredCount_7 (by decide) (fun hc => ?_) (fun hc => ?_)
      · replace hf := ifp hc hf
        exact hKK _ _ _ _ ls hf hP hD hS (lv_sub hl [1] rfl)
      · replace hf := ifn hc hf
        refine lv_iload_n hx hb dX6_deliveredCount_10 rfl (lv_at hl 1 rfl) ?_
        refine lv_aload_n hx hb dX6_deliveredCount_11 rfl (lv_at hl 0 rfl) ?_
        refine lv_iload_n hx hb dX6_deliveredCount_12 rfl (lv_at hl 2 rfl) ?_
        obtain ⟨q13, e13, hf⟩ := bnd hf
        refine callVI X (k_X6_isDelivered l D cI cZ a_t a_t_st a_t_be a_t_so a_t_sv  v_t_st x2_4 q13 e13) (cwV 1 X.1.2.2.2.2 gX6_deliveredCount_X6_isDelivered rfl rfl rfl kd_X6_isDelivered ⟨Nat.le_of_ble_eq_true rfl, Nat.le_of_ble_eq_true rfl⟩) hP hD hS hl.1 0 6 rfl rfl [0, 1] (by decide) (wo_X6_deliveredCount cI cZ a_t a_t_st a_t_be a_t_so a_t_sv v_t_st) rfl rfl rfl rfl rfl (rest := [.int x1_4]) rfl (Nat.le_of_ble_eq_true rfl) dX6_deliveredCount_13 ⟨Nat.zero_le _, Nat.zero_le _⟩ (fun H locs hP hD hS => ?_)
        refine lv_if_eq (tgt := 23) hx hb dX6_deliveredCount_16 (by decide) (fun hc => ?_) (fun hc => ?_)
        · replace hf := ifn (b2i_z hc) hf
          refine lv_iconst hx hb dX6_deliveredCount_23 ic_0 ?_
          refine lv_iadd hx hb dX6_deliveredCount_24 ?_
          refine lv_istore_n (lv' := [(1, .int (x1_4 + 0)), (0, .ref a_t), (2, .int x2_4)]) hx hb dX6_deliveredCount_25 rfl hl (by decide) rfl (fun ls hl => ?_)
          refine lv_iinc (v := (x2_4 + nI 1)) (lv' := [(2, .int (x2_4 + nI 1)), (1, .int (x1_4 + 0)), (0, .ref a_t)]) hx hb dX6_deliveredCount_26 hl (k := 2) rfl (inc_1 _) (by decide) rfl (fun ls hl => ?_)
          refine lv_goto (tgt := 4) hx hb dX6_deliveredCount_29 (by decide) ?_
          exact ih _ _ _ _ ls hf hP hD hS (lv_sub hl [2, 1, 0] rfl)
        · replace hf := ifp (b2i_nz hc) hf
          refine lv_iconst hx hb dX6_deliveredCount_19 ic_1 ?_
          refine lv_goto (tgt := 24) hx hb dX6_deliveredCount_20 (by decide) ?_
          refine lv_iadd hx hb dX6_deliveredCount_24 ?_
          refine lv_istore_n (lv' := [(1, .int (x1_4 + (nI 1))), (0, .ref a_t), (2, .int x2_4)]) hx hb dX6_deliveredCount_25 rfl hl (by decide) rfl (fun ls hl => ?_)
          refine lv_iinc (v := (x2_4 + nI 1)) (lv' := [(2, .int (x2_4 + nI 1)), (1, .int (x1_4 + (nI 1))), (0, .ref a_t)]) hx hb dX6_deliveredCount_26 hl (k := 2) rfl (inc_1 _) (by decide) rfl (fun ls hl => ?_)
          refine lv_goto (tgt := 4) hx hb dX6_deliveredCount_29 (by decide) ?_
          exact ih _ _ _ _ ls hf hP hD hS (lv_sub hl [2, 1, 0] rfl)
  unfold fX6_deliveredCount at hf
  refine lv_iconst hx hb dX6_deliveredCount_0 ic_0 ?_
  refine lv_istore_n (lv' := [(1, .int 0), (0, .ref a_t)]) hx hb dX6_deliveredCount_1 rfl hl (by decide) rfl (fun ls hl => ?_)
  refine lv_iconst hx hb dX6_deliveredCount_2 ic_0 ?_
  refine lv_istore_n (lv' := [(2, .int 0), (1, .int 0), (0, .ref a_t)]) hx hb dX6_deliveredCount_3 rfl hl (by decide) rfl (fun ls hl => ?_)
  refine L4 _ (fun x1_4 x2_4 H locs ls hf hP hD hS hl => ?_) FU _ _ _ _ ls hf hP hD hS (lv_sub hl [2, 1, 0] rfl)
  refine lv_iload_n hx hb dX6_deliveredCount_32 rfl (lv_at hl 0 rfl) ?_
  obtain rfl := Option.some.inj hf
  exact retI X hS hP rfl dX6_deliveredCount_33

abbrev wo_X6_hopsOf (cI cZ : ClassId) (a_t a_t_st a_t_be a_t_so a_t_sv : Nat) (v_t_st : Nat → Int32) : va_W := [(a_t, oX6 a_t_st a_t_be a_t_so a_t_sv), (a_t_st, rI cI 164 v_t_st)]
def fX6_hopsOf_L31 (v_t_st : Nat → Int32) (p1 : Int32) (K : Int32 → Int32 → Int32 → Option (Int32)) : Nat → Int32 → Int32 → Int32 → Option (Int32)
  | 0, _, _, _ => none
  | k + 1, x2_31, x3_31, x4_31 => (if (v_t_st 0) ≤ x4_31 then (K x2_31 x3_31 x4_31) else ((fX6_isInside v_t_st x4_31 x2_31).bind (fun q46 => (if q46 = true then ((fX6_of v_t_st x4_31 (nI 6)).bind (fun q57 => (if q57 = (nI 2) then (fX6_hopsOf_L31 v_t_st p1 K k x2_31 x3_31 (x4_31 + nI 1)) else ((fX6_isOn v_t_st p1 x4_31).bind (fun q69 => (if q69 = true then (fX6_hopsOf_L31 v_t_st p1 K k x2_31 (x3_31 + (nI 2)) (x4_31 + nI 1)) else (fX6_hopsOf_L31 v_t_st p1 K k x2_31 (x3_31 + (nI 1)) (x4_31 + nI 1)))))))) else (fX6_hopsOf_L31 v_t_st p1 K k x2_31 x3_31 (x4_31 + nI 1))))))
def fX6_hopsOf (v_t_st : Nat → Int32) (p1 : Int32) : Option (Int32) := ((fX6_stateOf v_t_st p1).bind (fun q2 => (if q2 = (nI 2) then ((fX6_ofCircuit v_t_st p1 (nI 1)).bind (fun q19 => ((fX6_segmentOf v_t_st q19).bind (fun q22 => (fX6_hopsOf_L31 v_t_st p1 (fun x2_31 x3_31 x4_31 => (some x3_31)) FU q22 0 0))))) else ((fX6_lengthOf v_t_st p1).bind (fun q11 => (some q11))))))
theorem kd_X6_hopsOf : yX6_hopsOf.cls = RX6 ∧ yX6_hopsOf.cls ≠ "java/lang/invoke/MethodHandle" ∧ yX6_hopsOf.cls ≠ "java/lang/invoke/VarHandle" ∧ (parseMethodDescriptor yX6_hopsOf.desc).map (fun d => d.parameters.length) = some 1 := by decide +kernel
def rm_X6_hopsOf : Room := { frames := 7, cells := 0, slots := 0, locals := 158 }
set_option maxHeartbeats 4000000 in
set_option maxRecDepth 100000 in
theorem k_X6_hopsOf (l : Launch) (D : va_G) (cI cZ : ClassId) (a_t a_t_st a_t_be a_t_so a_t_sv : Nat) (v_t_st : Nat → Int32) (p1 : Int32) (q : Int32) (hf : fX6_hopsOf v_t_st p1 = some q) : CI l D cI cZ yX6_hopsOf wsX6_hopsOf rm_X6_hopsOf [.ref a_t, .int p1] (wo_X6_hopsOf cI cZ a_t a_t_st a_t_be a_t_so a_t_sv v_t_st) (wo_X6_hopsOf cI cZ a_t a_t_st a_t_be a_t_so a_t_sv v_t_st) q := by
  refine CI.mk (cc := cX6_hopsOf) (maxL := 5) (by decide) rfl (Nat.le_of_ble_eq_true rfl) ?_
  intro p e s m below meth c ls A X hP hD hl hS
  have hx := X.1.1
  have hb := X.1.2.1
  have hl : lv_has ls 5 [(0, .ref a_t), (1, .int p1)] := hl
  have inX6 : ∀ w ∈ u_ws RX6 TX6 4, w ∈ wsX6_hopsOf := fun _ h => List.mem_cons_of_mem _ (List.mem_append_right _ h)
  have L31 : ∀ (K : Int32 → Int32 → Int32 → Option (Int32)) (hKK : ∀ (x2_31 : Int32) (x3_31 : Int32) (x4_31 : Int32) (H : Heap) (locs : List Loc) (ls : Array Slot), K x2_31 x3_31 x4_31 = some q → va_P D vwCl (wo_X6_hopsOf cI cZ a_t a_t_st a_t_be a_t_so a_t_sv v_t_st) H → va_D A (wo_X6_hopsOf cI cZ a_t a_t_st a_t_be a_t_so a_t_sv v_t_st) → va_S A s.heap H locs → lv_has ls 5 [(3, .int x3_31)] → W p l e rm_X6_hopsOf s m ([.ref a_t, .int p1] : List Value).toArray below meth c H locs 0 0 (MQ below (QI D (wo_X6_hopsOf cI cZ a_t a_t_st a_t_be a_t_so a_t_sv v_t_st) q A) ([.ref a_t, .int p1] : List Value).toArray s 0 0 A) (F0 m 88 ls [])) (k : Nat) (x2_31 : Int32) (x3_31 : Int32) (x4_31 : Int32) (H : Heap) (locs : List Loc) (ls : Array Slot), fX6_hopsOf_L31 v_t_st p1 K k x2_31 x3_31 x4_31 = some q → va_P D vwCl (wo_X6_hopsOf cI cZ a_t a_t_st a_t_be a_t_so a_t_sv v_t_st) H → va_D A (wo_X6_hopsOf cI cZ a_t a_t_st a_t_be a_t_so a_t_sv v_t_st) → va_S A s.heap H locs → lv_has ls 5 [(0, .ref a_t), (1, .int p1), (2, .int x2_31), (3, .int x3_31), (4, .int x4_31)] → W p l e rm_X6_hopsOf s m ([.ref a_t, .int p1] : List Value).toArray below meth c H locs 0 0 (MQ below (QI D (wo_X6_hopsOf cI cZ a_t a_t_st a_t_be a_t_so a_t_sv v_t_st) q A) ([.ref a_t, .int p1] : List Value).toArray s 0 0 A) (F0 m 31 ls []) := by
    intro K hKK k
    induction k with
    | zero => intro x2_31 x3_31 x4_31 H locs ls hf; rw [fX6_hopsOf_L31] at hf; cases hf
    | succ k ih =>
      intro x2_31 x3_31 x4_31 H locs ls hf hP hD hS hl
      rw [fX6_hopsOf_L31] at hf
      refine lv_iload hx hb dX6_hopsOf_31 (lv_at hl 4 rfl) ?_
      refine lv_aload_n hx hb dX6_hopsOf_33 rfl (lv_at hl 0 rfl) ?_
      refine getO X hP inX6 0 rfl rfl 0 (by decide) (List.mem_of_getElem? (i := 1) rfl) rfl dX6_hopsOf_34 ?_
      refine lv_iconst hx hb dX6_hopsOf_37 ic_0 ?_
      refine aldI X hP 1 rfl (vin0 (by decide) (by decide)) (j := 0) sb_cl0 dX6_hopsOf_38 ?_
      refine lv_icmp_ge (tgt := 88) hx hb dX6_hopsOf_39 (by decide) (fun hc => ?_) (fun hc => ?_)
      · replace hf := ifp hc hf
        exact hKK _ _ _ _ _ ls hf hP hD hS (lv_sub hl [3] rfl)
      · replace hf := ifn hc hf
        refine lv_aload_n hx hb dX6_hopsOf_42 rfl (lv_at hl 0 rfl) ?_
        refine lv_iload hx hb dX6_hopsOf_43 (lv_at hl 4 rfl) ?_
        refine lv_iload_n hx hb dX6_hopsOf_45 rfl (lv_at hl 2 rfl) ?_
        obtain ⟨q46, e46, hf⟩ := bnd hf
        refine callVI X (k_X6_isInside l D cI cZ a_t a_t_st a_t_be a_t_so a_t_sv  v_t_st x4_31 x2_31 q46 e46) (cwV 2 X.1.2.2.2.2 gX6_hopsOf_X6_isInside rfl rfl rfl kd_X6_isInside ⟨Nat.le_of_ble_eq_true rfl, Nat.le_of_ble_eq_true rfl⟩) hP hD hS hl.1 0 6 rfl rfl [0, 1] (by decide) (wo_X6_hopsOf cI cZ a_t a_t_st a_t_be a_t_so a_t_sv v_t_st) rfl rfl rfl rfl rfl (rest := []) rfl (Nat.le_of_ble_eq_true rfl) dX6_hopsOf_46 ⟨Nat.zero_le _, Nat.zero_le _⟩ (fun H locs hP hD hS => ?_)
        refine lv_if_eq (tgt := 82) hx hb dX6_hopsOf_49 (by decide) (fun hc => ?_) (fun hc => ?_)
        · replace hf := ifn (b2i_z hc) hf
          refine lv_iinc (v := (x4_31 + nI 1)) (lv' := [(4, .int (x4_31 + nI 1)), (0, .ref a_t), (1, .int p1), (2, .int x2_31), (3, .int x3_31)]) hx hb dX6_hopsOf_82 hl (k := 4) rfl (inc_1 _) (by decide) rfl (fun ls hl => ?_)
          refine lv_goto (tgt := 31) hx hb dX6_hopsOf_85 (by decide) ?_
          exact ih _ _ _ _ _ ls hf hP hD hS (lv_sub hl [1, 2, 3, 4, 0] rfl)
        · replace hf := ifp (b2i_nz hc) hf
          refine lv_aload_n hx hb dX6_hopsOf_52 rfl (lv_at hl 0 rfl) ?_
          refine lv_iload hx hb dX6_hopsOf_53 (lv_at hl 4 rfl) ?_
          refine lv_bipush hx hb dX6_hopsOf_55 bp_6 ?_
          obtain ⟨q57, e57, hf⟩ := bnd hf
          refine callVI X (k_X6_of l D cI cZ a_t a_t_st a_t_be a_t_so a_t_sv  v_t_st x4_31 (nI 6) q57 e57) (cwV 2 X.1.2.2.2.2 gX6_hopsOf_X6_of rfl rfl rfl kd_X6_of ⟨Nat.le_of_ble_eq_true rfl, Nat.le_of_ble_eq_true rfl⟩) hP hD hS hl.1 0 6 rfl rfl [0, 1] (by decide) (wo_X6_hopsOf cI cZ a_t a_t_st a_t_be a_t_so a_t_sv v_t_st) rfl rfl rfl rfl rfl (rest := []) rfl (Nat.le_of_ble_eq_true rfl) dX6_hopsOf_57 ⟨Nat.zero_le _, Nat.zero_le _⟩ (fun H locs hP hD hS => ?_)
          refine lv_iconst hx hb dX6_hopsOf_60 ic_2 ?_
          refine lv_icmp_eq (tgt := 82) hx hb dX6_hopsOf_61 (by decide) (fun hc => ?_) (fun hc => ?_)
          · replace hf := ifp hc hf
            refine lv_iinc (v := (x4_31 + nI 1)) (lv' := [(4, .int (x4_31 + nI 1)), (0, .ref a_t), (1, .int p1), (2, .int x2_31), (3, .int x3_31)]) hx hb dX6_hopsOf_82 hl (k := 4) rfl (inc_1 _) (by decide) rfl (fun ls hl => ?_)
            refine lv_goto (tgt := 31) hx hb dX6_hopsOf_85 (by decide) ?_
            exact ih _ _ _ _ _ ls hf hP hD hS (lv_sub hl [1, 2, 3, 4, 0] rfl)
          · replace hf := ifn hc hf
            refine lv_iload_n hx hb dX6_hopsOf_64 rfl (lv_at hl 3 rfl) ?_
            refine lv_aload_n hx hb dX6_hopsOf_65 rfl (lv_at hl 0 rfl) ?_
            refine lv_iload_n hx hb dX6_hopsOf_66 rfl (lv_at hl 1 rfl) ?_
            refine lv_iload hx hb dX6_hopsOf_67 (lv_at hl 4 rfl) ?_
            obtain ⟨q69, e69, hf⟩ := bnd hf
            refine callVI X (k_X6_isOn l D cI cZ a_t a_t_st a_t_be a_t_so a_t_sv  v_t_st p1 x4_31 q69 e69) (cwV 2 X.1.2.2.2.2 gX6_hopsOf_X6_isOn rfl rfl rfl kd_X6_isOn ⟨Nat.le_of_ble_eq_true rfl, Nat.le_of_ble_eq_true rfl⟩) hP hD hS hl.1 0 6 rfl rfl [0, 1] (by decide) (wo_X6_hopsOf cI cZ a_t a_t_st a_t_be a_t_so a_t_sv v_t_st) rfl rfl rfl rfl rfl (rest := [.int x3_31]) rfl (Nat.le_of_ble_eq_true rfl) dX6_hopsOf_69 ⟨Nat.zero_le _, Nat.zero_le _⟩ (fun H locs hP hD hS => ?_)
            refine lv_if_eq (tgt := 79) hx hb dX6_hopsOf_72 (by decide) (fun hc => ?_) (fun hc => ?_)
            · replace hf := ifn (b2i_z hc) hf
              refine lv_iconst hx hb dX6_hopsOf_79 ic_1 ?_
              refine lv_iadd hx hb dX6_hopsOf_80 ?_
              refine lv_istore_n (lv' := [(3, .int (x3_31 + (nI 1))), (0, .ref a_t), (1, .int p1), (2, .int x2_31), (4, .int x4_31)]) hx hb dX6_hopsOf_81 rfl hl (by decide) rfl (fun ls hl => ?_)
              refine lv_iinc (v := (x4_31 + nI 1)) (lv' := [(4, .int (x4_31 + nI 1)), (3, .int (x3_31 + (nI 1))), (0, .ref a_t), (1, .int p1), (2, .int x2_31)]) hx hb dX6_hopsOf_82 hl (k := 4) rfl (inc_1 _) (by decide) rfl (fun ls hl => ?_)
              refine lv_goto (tgt := 31) hx hb dX6_hopsOf_85 (by decide) ?_
              exact ih _ _ _ _ _ ls hf hP hD hS (lv_sub hl [2, 3, 4, 1, 0] rfl)
            · replace hf := ifp (b2i_nz hc) hf
              refine lv_iconst hx hb dX6_hopsOf_75 ic_2 ?_
              refine lv_goto (tgt := 80) hx hb dX6_hopsOf_76 (by decide) ?_
              refine lv_iadd hx hb dX6_hopsOf_80 ?_
              refine lv_istore_n (lv' := [(3, .int (x3_31 + (nI 2))), (0, .ref a_t), (1, .int p1), (2, .int x2_31), (4, .int x4_31)]) hx hb dX6_hopsOf_81 rfl hl (by decide) rfl (fun ls hl => ?_)
              refine lv_iinc (v := (x4_31 + nI 1)) (lv' := [(4, .int (x4_31 + nI 1)), (3, .int (x3_31 + (nI 2))), (0, .ref a_t), (1, .int p1), (2, .int x2_31)]) hx hb dX6_hopsOf_82 hl (k := 4) rfl (inc_1 _) (by decide) rfl (fun ls hl => ?_)
              refine lv_goto (tgt := 31) hx hb dX6_hopsOf_85 (by decide) ?_
              exact ih _ _ _ _ _ ls hf hP hD hS (lv_sub hl [2, 3, 4, 1, 0] rfl)
  unfold fX6_hopsOf at hf
  refine lv_aload_n hx hb dX6_hopsOf_0 rfl (lv_at hl 0 rfl) ?_
  refine lv_iload_n hx hb dX6_hopsOf_1 rfl (lv_at hl 1 rfl) ?_
  obtain ⟨q2, e2, hf⟩ := bnd hf
  refine callVI X (k_X6_stateOf l D cI cZ a_t a_t_st a_t_be a_t_so a_t_sv  v_t_st p1 q2 e2) (cwV 1 X.1.2.2.2.2 gX6_hopsOf_X6_stateOf rfl rfl rfl kd_X6_stateOf ⟨Nat.le_of_ble_eq_true rfl, Nat.le_of_ble_eq_true rfl⟩) hP hD hS hl.1 0 6 rfl rfl [0, 1] (by decide) (wo_X6_hopsOf cI cZ a_t a_t_st a_t_be a_t_so a_t_sv v_t_st) rfl rfl rfl rfl rfl (rest := []) rfl (Nat.le_of_ble_eq_true rfl) dX6_hopsOf_2 ⟨Nat.zero_le _, Nat.zero_le _⟩ (fun H locs hP hD hS => ?_)
  refine lv_iconst hx hb dX6_hopsOf_5 ic_2 ?_
  refine lv_icmp_eq (tgt := 15) hx hb dX6_hopsOf_6 (by decide) (fun hc => ?_) (fun hc => ?_)
  · replace hf := ifp hc hf
    refine lv_aload_n hx hb dX6_hopsOf_15 rfl (lv_at hl 0 rfl) ?_
    refine lv_aload_n hx hb dX6_hopsOf_16 rfl (lv_at hl 0 rfl) ?_
    refine lv_iload_n hx hb dX6_hopsOf_17 rfl (lv_at hl 1 rfl) ?_
    refine lv_iconst hx hb dX6_hopsOf_18 ic_1 ?_
    obtain ⟨q19, e19, hf⟩ := bnd hf
    refine callVI X (k_X6_ofCircuit l D cI cZ a_t a_t_st a_t_be a_t_so a_t_sv  v_t_st p1 (nI 1) q19 e19) (cwV 2 X.1.2.2.2.2 gX6_hopsOf_X6_ofCircuit rfl rfl rfl kd_X6_ofCircuit ⟨Nat.le_of_ble_eq_true rfl, Nat.le_of_ble_eq_true rfl⟩) hP hD hS hl.1 0 6 rfl rfl [0, 1] (by decide) (wo_X6_hopsOf cI cZ a_t a_t_st a_t_be a_t_so a_t_sv v_t_st) rfl rfl rfl rfl rfl (rest := [.ref a_t]) rfl (Nat.le_of_ble_eq_true rfl) dX6_hopsOf_19 ⟨Nat.zero_le _, Nat.zero_le _⟩ (fun H locs hP hD hS => ?_)
    obtain ⟨q22, e22, hf⟩ := bnd hf
    refine callVI X (k_X6_segmentOf l D cI cZ a_t a_t_st a_t_be a_t_so a_t_sv  v_t_st q19 q22 e22) (cwV 1 X.1.2.2.2.2 gX6_hopsOf_X6_segmentOf rfl rfl rfl kd_X6_segmentOf ⟨Nat.le_of_ble_eq_true rfl, Nat.le_of_ble_eq_true rfl⟩) hP hD hS hl.1 0 6 rfl rfl [0, 1] (by decide) (wo_X6_hopsOf cI cZ a_t a_t_st a_t_be a_t_so a_t_sv v_t_st) rfl rfl rfl rfl rfl (rest := []) rfl (Nat.le_of_ble_eq_true rfl) dX6_hopsOf_22 ⟨Nat.zero_le _, Nat.zero_le _⟩ (fun H locs hP hD hS => ?_)
    refine lv_istore_n (lv' := [(2, .int q22), (0, .ref a_t), (1, .int p1)]) hx hb dX6_hopsOf_25 rfl hl (by decide) rfl (fun ls hl => ?_)
    refine lv_iconst hx hb dX6_hopsOf_26 ic_0 ?_
    refine lv_istore_n (lv' := [(3, .int 0), (2, .int q22), (0, .ref a_t), (1, .int p1)]) hx hb dX6_hopsOf_27 rfl hl (by decide) rfl (fun ls hl => ?_)
    refine lv_iconst hx hb dX6_hopsOf_28 ic_0 ?_
    refine lv_istore (lv' := [(4, .int 0), (3, .int 0), (2, .int q22), (0, .ref a_t), (1, .int p1)]) hx hb dX6_hopsOf_29 hl (by decide) rfl (fun ls hl => ?_)
    refine L31 _ (fun x2_31 x3_31 x4_31 H locs ls hf hP hD hS hl => ?_) FU _ _ _ _ _ ls hf hP hD hS (lv_sub hl [3, 4, 2, 1, 0] rfl)
    refine lv_iload_n hx hb dX6_hopsOf_88 rfl (lv_at hl 0 rfl) ?_
    obtain rfl := Option.some.inj hf
    exact retI X hS hP rfl dX6_hopsOf_89
  · replace hf := ifn hc hf
    refine lv_aload_n hx hb dX6_hopsOf_9 rfl (lv_at hl 0 rfl) ?_
    refine lv_iload_n hx hb dX6_hopsOf_10 rfl (lv_at hl 1 rfl) ?_
    obtain ⟨q11, e11, hf⟩ := bnd hf
    refine callVI X (k_X6_lengthOf l D cI cZ a_t a_t_st a_t_be a_t_so a_t_sv  v_t_st p1 q11 e11) (cwV 1 X.1.2.2.2.2 gX6_hopsOf_X6_lengthOf rfl rfl rfl kd_X6_lengthOf ⟨Nat.le_of_ble_eq_true rfl, Nat.le_of_ble_eq_true rfl⟩) hP hD hS hl.1 0 6 rfl rfl [0, 1] (by decide) (wo_X6_hopsOf cI cZ a_t a_t_st a_t_be a_t_so a_t_sv v_t_st) rfl rfl rfl rfl rfl (rest := []) rfl (Nat.le_of_ble_eq_true rfl) dX6_hopsOf_11 ⟨Nat.zero_le _, Nat.zero_le _⟩ (fun H locs hP hD hS => ?_)
    obtain rfl := Option.some.inj hf
    exact retI X hS hP rfl dX6_hopsOf_14

abbrev wo_X6_hops (cI cZ : ClassId) (a_t a_t_st a_t_be a_t_so a_t_sv : Nat) (v_t_st : Nat → Int32) : va_W := [(a_t, oX6 a_t_st a_t_be a_t_so a_t_sv), (a_t_st, rI cI 164 v_t_st)]
def fX6_hops (v_t_st : Nat → Int32) (p1 : Int32) : Option (Int32) := ((fX6_isCircuit v_t_st p1).bind (fun q2 => (if q2 = true then ((fX6_isDelivered v_t_st p1).bind (fun q13 => (if q13 = true then ((fX6_hopsOf v_t_st p1).bind (fun q21 => (some q21))) else (some (-9))))) else (some (-3)))))
theorem kd_X6_hops : yX6_hops.cls = RX6 ∧ yX6_hops.cls ≠ "java/lang/invoke/MethodHandle" ∧ yX6_hops.cls ≠ "java/lang/invoke/VarHandle" ∧ (parseMethodDescriptor yX6_hops.desc).map (fun d => d.parameters.length) = some 1 := by decide +kernel
def rm_X6_hops : Room := { frames := 8, cells := 0, slots := 0, locals := 182 }
set_option maxHeartbeats 4000000 in
set_option maxRecDepth 100000 in
theorem k_X6_hops (l : Launch) (D : va_G) (cI cZ : ClassId) (a_t a_t_st a_t_be a_t_so a_t_sv : Nat) (v_t_st : Nat → Int32) (p1 : Int32) (q : Int32) (hf : fX6_hops v_t_st p1 = some q) : CI l D cI cZ yX6_hops wsX6_hops rm_X6_hops [.ref a_t, .int p1] (wo_X6_hops cI cZ a_t a_t_st a_t_be a_t_so a_t_sv v_t_st) (wo_X6_hops cI cZ a_t a_t_st a_t_be a_t_so a_t_sv v_t_st) q := by
  refine CI.mk (cc := cX6_hops) (maxL := 2) (by decide) rfl (Nat.le_of_ble_eq_true rfl) ?_
  intro p e s m below meth c ls A X hP hD hl hS
  have hx := X.1.1
  have hb := X.1.2.1
  have hl : lv_has ls 2 [(0, .ref a_t), (1, .int p1)] := hl
  unfold fX6_hops at hf
  refine lv_aload_n hx hb dX6_hops_0 rfl (lv_at hl 0 rfl) ?_
  refine lv_iload_n hx hb dX6_hops_1 rfl (lv_at hl 1 rfl) ?_
  obtain ⟨q2, e2, hf⟩ := bnd hf
  refine callVI X (k_X6_isCircuit l D cI cZ a_t a_t_st a_t_be a_t_so a_t_sv  v_t_st p1 q2 e2) (cwV 1 X.1.2.2.2.2 gX6_hops_X6_isCircuit rfl rfl rfl kd_X6_isCircuit ⟨Nat.le_of_ble_eq_true rfl, Nat.le_of_ble_eq_true rfl⟩) hP hD hS hl.1 0 6 rfl rfl [0, 1] (by decide) (wo_X6_hops cI cZ a_t a_t_st a_t_be a_t_so a_t_sv v_t_st) rfl rfl rfl rfl rfl (rest := []) rfl (Nat.le_of_ble_eq_true rfl) dX6_hops_2 ⟨Nat.zero_le _, Nat.zero_le _⟩ (fun H locs hP hD hS => ?_)
  refine lv_if_ne (tgt := 11) hx hb dX6_hops_5 (by decide) (fun hc => ?_) (fun hc => ?_)
  · replace hf := ifp (b2i_nz hc) hf
    refine lv_aload_n hx hb dX6_hops_11 rfl (lv_at hl 0 rfl) ?_
    refine lv_iload_n hx hb dX6_hops_12 rfl (lv_at hl 1 rfl) ?_
    obtain ⟨q13, e13, hf⟩ := bnd hf
    refine callVI X (k_X6_isDelivered l D cI cZ a_t a_t_st a_t_be a_t_so a_t_sv  v_t_st p1 q13 e13) (cwV 1 X.1.2.2.2.2 gX6_hops_X6_isDelivered rfl rfl rfl kd_X6_isDelivered ⟨Nat.le_of_ble_eq_true rfl, Nat.le_of_ble_eq_true rfl⟩) hP hD hS hl.1 0 6 rfl rfl [0, 1] (by decide) (wo_X6_hops cI cZ a_t a_t_st a_t_be a_t_so a_t_sv v_t_st) rfl rfl rfl rfl rfl (rest := []) rfl (Nat.le_of_ble_eq_true rfl) dX6_hops_13 ⟨Nat.zero_le _, Nat.zero_le _⟩ (fun H locs hP hD hS => ?_)
    refine lv_if_eq (tgt := 27) hx hb dX6_hops_16 (by decide) (fun hc => ?_) (fun hc => ?_)
    · replace hf := ifn (b2i_z hc) hf
      refine lv_bipush hx hb dX6_hops_27 bp_m9 ?_
      obtain rfl := Option.some.inj hf
      exact retI X hS hP rfl dX6_hops_29
    · replace hf := ifp (b2i_nz hc) hf
      refine lv_aload_n hx hb dX6_hops_19 rfl (lv_at hl 0 rfl) ?_
      refine lv_iload_n hx hb dX6_hops_20 rfl (lv_at hl 1 rfl) ?_
      obtain ⟨q21, e21, hf⟩ := bnd hf
      refine callVI X (k_X6_hopsOf l D cI cZ a_t a_t_st a_t_be a_t_so a_t_sv  v_t_st p1 q21 e21) (cwV 1 X.1.2.2.2.2 gX6_hops_X6_hopsOf rfl rfl rfl kd_X6_hopsOf ⟨Nat.le_of_ble_eq_true rfl, Nat.le_of_ble_eq_true rfl⟩) hP hD hS hl.1 0 6 rfl rfl [0, 1] (by decide) (wo_X6_hops cI cZ a_t a_t_st a_t_be a_t_so a_t_sv v_t_st) rfl rfl rfl rfl rfl (rest := []) rfl (Nat.le_of_ble_eq_true rfl) dX6_hops_21 ⟨Nat.zero_le _, Nat.zero_le _⟩ (fun H locs hP hD hS => ?_)
      refine lv_goto (tgt := 29) hx hb dX6_hops_24 (by decide) ?_
      obtain rfl := Option.some.inj hf
      exact retI X hS hP rfl dX6_hops_29
  · replace hf := ifn (b2i_z hc) hf
    refine lv_bipush hx hb dX6_hops_8 bp_m3 ?_
    obtain rfl := Option.some.inj hf
    exact retI X hS hP rfl dX6_hops_10

abbrev wo_X6_averageHops (cI cZ : ClassId) (a_t a_t_st a_t_be a_t_so a_t_sv : Nat) (v_t_st : Nat → Int32) : va_W := [(a_t, oX6 a_t_st a_t_be a_t_so a_t_sv), (a_t_st, rI cI 164 v_t_st)]
def fX6_averageHops_L6 (v_t_st : Nat → Int32) (K : Int32 → Int32 → Int32 → Option (Int32)) : Nat → Int32 → Int32 → Int32 → Option (Int32)
  | 0, _, _, _ => none
  | k + 1, x1_6, x2_6, x3_6 => (if (nI 16) ≤ x3_6 then (K x1_6 x2_6 x3_6) else ((fX6_isDelivered v_t_st x3_6).bind (fun q14 => (if q14 = true then ((fX6_hopsOf v_t_st x3_6).bind (fun q26 => (fX6_averageHops_L6 v_t_st K k (x1_6 + nI 1) (x2_6 + q26) (x3_6 + nI 1)))) else (fX6_averageHops_L6 v_t_st K k x1_6 x2_6 (x3_6 + nI 1))))))
def fX6_averageHops (v_t_st : Nat → Int32) : Option (Int32) := (fX6_averageHops_L6 v_t_st (fun x1_6 x2_6 x3_6 => (if x1_6 = 0 then (some (-9)) else (if x1_6 = 0 then none else (some (((nI 100) * x2_6) / x1_6))))) FU 0 0 0)
theorem kd_X6_averageHops : yX6_averageHops.cls = RX6 ∧ yX6_averageHops.cls ≠ "java/lang/invoke/MethodHandle" ∧ yX6_averageHops.cls ≠ "java/lang/invoke/VarHandle" ∧ (parseMethodDescriptor yX6_averageHops.desc).map (fun d => d.parameters.length) = some 0 := by decide +kernel
def rm_X6_averageHops : Room := { frames := 8, cells := 0, slots := 0, locals := 182 }
set_option maxHeartbeats 4000000 in
set_option maxRecDepth 100000 in
theorem k_X6_averageHops (l : Launch) (D : va_G) (cI cZ : ClassId) (a_t a_t_st a_t_be a_t_so a_t_sv : Nat) (v_t_st : Nat → Int32) (q : Int32) (hf : fX6_averageHops v_t_st = some q) : CI l D cI cZ yX6_averageHops wsX6_averageHops rm_X6_averageHops [.ref a_t] (wo_X6_averageHops cI cZ a_t a_t_st a_t_be a_t_so a_t_sv v_t_st) (wo_X6_averageHops cI cZ a_t a_t_st a_t_be a_t_so a_t_sv v_t_st) q := by
  refine CI.mk (cc := cX6_averageHops) (maxL := 4) (by decide) rfl (Nat.le_of_ble_eq_true rfl) ?_
  intro p e s m below meth c ls A X hP hD hl hS
  have hx := X.1.1
  have hb := X.1.2.1
  have hl : lv_has ls 4 [(0, .ref a_t)] := hl
  have L6 : ∀ (K : Int32 → Int32 → Int32 → Option (Int32)) (hKK : ∀ (x1_6 : Int32) (x2_6 : Int32) (x3_6 : Int32) (H : Heap) (locs : List Loc) (ls : Array Slot), K x1_6 x2_6 x3_6 = some q → va_P D vwCl (wo_X6_averageHops cI cZ a_t a_t_st a_t_be a_t_so a_t_sv v_t_st) H → va_D A (wo_X6_averageHops cI cZ a_t a_t_st a_t_be a_t_so a_t_sv v_t_st) → va_S A s.heap H locs → lv_has ls 4 [(1, .int x1_6), (2, .int x2_6)] → W p l e rm_X6_averageHops s m ([.ref a_t] : List Value).toArray below meth c H locs 0 0 (MQ below (QI D (wo_X6_averageHops cI cZ a_t a_t_st a_t_be a_t_so a_t_sv v_t_st) q A) ([.ref a_t] : List Value).toArray s 0 0 A) (F0 m 37 ls [])) (k : Nat) (x1_6 : Int32) (x2_6 : Int32) (x3_6 : Int32) (H : Heap) (locs : List Loc) (ls : Array Slot), fX6_averageHops_L6 v_t_st K k x1_6 x2_6 x3_6 = some q → va_P D vwCl (wo_X6_averageHops cI cZ a_t a_t_st a_t_be a_t_so a_t_sv v_t_st) H → va_D A (wo_X6_averageHops cI cZ a_t a_t_st a_t_be a_t_so a_t_sv v_t_st) → va_S A s.heap H locs → lv_has ls 4 [(0, .ref a_t), (1, .int x1_6), (2, .int x2_6), (3, .int x3_6)] → W p l e rm_X6_averageHops s m ([.ref a_t] : List Value).toArray below meth c H locs 0 0 (MQ below (QI D (wo_X6_averageHops cI cZ a_t a_t_st a_t_be a_t_so a_t_sv v_t_st) q A) ([.ref a_t] : List Value).toArray s 0 0 A) (F0 m 6 ls []) := by
    intro K hKK k
    induction k with
    | zero => intro x1_6 x2_6 x3_6 H locs ls hf; rw [fX6_averageHops_L6] at hf; cases hf
    | succ k ih =>
      intro x1_6 x2_6 x3_6 H locs ls hf hP hD hS hl
      rw [fX6_averageHops_L6] at hf
      refine lv_iload_n hx hb dX6_averageHops_6 rfl (lv_at hl 3 rfl) ?_
      refine lv_bipush hx hb dX6_averageHops_7 bp_16 ?_
      refine lv_icmp_ge (tgt := 37) hx hb dX6_averageHops_9 (by decide) (fun hc => ?_) (fun hc => ?_)
      · replace hf := ifp hc hf
        exact hKK _ _ _ _ _ ls hf hP hD hS (lv_sub hl [1, 2] rfl)
      · replace hf := ifn hc hf
        refine lv_aload_n hx hb dX6_averageHops_12 rfl (lv_at hl 0 rfl) ?_
        refine lv_iload_n hx hb dX6_averageHops_13 rfl (lv_at hl 3 rfl) ?_
        obtain ⟨q14, e14, hf⟩ := bnd hf
        refine callVI X (k_X6_isDelivered l D cI cZ a_t a_t_st a_t_be a_t_so a_t_sv  v_t_st x3_6 q14 e14) (cwV 1 X.1.2.2.2.2 gX6_averageHops_X6_isDelivered rfl rfl rfl kd_X6_isDelivered ⟨Nat.le_of_ble_eq_true rfl, Nat.le_of_ble_eq_true rfl⟩) hP hD hS hl.1 0 6 rfl rfl [0, 1] (by decide) (wo_X6_averageHops cI cZ a_t a_t_st a_t_be a_t_so a_t_sv v_t_st) rfl rfl rfl rfl rfl (rest := []) rfl (Nat.le_of_ble_eq_true rfl) dX6_averageHops_14 ⟨Nat.zero_le _, Nat.zero_le _⟩ (fun H locs hP hD hS => ?_)
        refine lv_if_eq (tgt := 31) hx hb dX6_averageHops_17 (by decide) (fun hc => ?_) (fun hc => ?_)
        · replace hf := ifn (b2i_z hc) hf
          refine lv_iinc (v := (x3_6 + nI 1)) (lv' := [(3, .int (x3_6 + nI 1)), (0, .ref a_t), (1, .int x1_6), (2, .int x2_6)]) hx hb dX6_averageHops_31 hl (k := 3) rfl (inc_1 _) (by decide) rfl (fun ls hl => ?_)
          refine lv_goto (tgt := 6) hx hb dX6_averageHops_34 (by decide) ?_
          exact ih _ _ _ _ _ ls hf hP hD hS (lv_sub hl [1, 2, 3, 0] rfl)
        · replace hf := ifp (b2i_nz hc) hf
          refine lv_iinc (v := (x1_6 + nI 1)) (lv' := [(1, .int (x1_6 + nI 1)), (0, .ref a_t), (2, .int x2_6), (3, .int x3_6)]) hx hb dX6_averageHops_20 hl (k := 1) rfl (inc_1 _) (by decide) rfl (fun ls hl => ?_)
          refine lv_iload_n hx hb dX6_averageHops_23 rfl (lv_at hl 2 rfl) ?_
          refine lv_aload_n hx hb dX6_averageHops_24 rfl (lv_at hl 1 rfl) ?_
          refine lv_iload_n hx hb dX6_averageHops_25 rfl (lv_at hl 3 rfl) ?_
          obtain ⟨q26, e26, hf⟩ := bnd hf
          refine callVI X (k_X6_hopsOf l D cI cZ a_t a_t_st a_t_be a_t_so a_t_sv  v_t_st x3_6 q26 e26) (cwV 1 X.1.2.2.2.2 gX6_averageHops_X6_hopsOf rfl rfl rfl kd_X6_hopsOf ⟨Nat.le_of_ble_eq_true rfl, Nat.le_of_ble_eq_true rfl⟩) hP hD hS hl.1 0 6 rfl rfl [0, 1] (by decide) (wo_X6_averageHops cI cZ a_t a_t_st a_t_be a_t_so a_t_sv v_t_st) rfl rfl rfl rfl rfl (rest := [.int x2_6]) rfl (Nat.le_of_ble_eq_true rfl) dX6_averageHops_26 ⟨Nat.zero_le _, Nat.zero_le _⟩ (fun H locs hP hD hS => ?_)
          refine lv_iadd hx hb dX6_averageHops_29 ?_
          refine lv_istore_n (lv' := [(2, .int (x2_6 + q26)), (1, .int (x1_6 + nI 1)), (0, .ref a_t), (3, .int x3_6)]) hx hb dX6_averageHops_30 rfl hl (by decide) rfl (fun ls hl => ?_)
          refine lv_iinc (v := (x3_6 + nI 1)) (lv' := [(3, .int (x3_6 + nI 1)), (2, .int (x2_6 + q26)), (1, .int (x1_6 + nI 1)), (0, .ref a_t)]) hx hb dX6_averageHops_31 hl (k := 3) rfl (inc_1 _) (by decide) rfl (fun ls hl => ?_)
          refine lv_goto (tgt := 6) hx hb dX6_averageHops_34 (by decide) ?_
          exact ih _ _ _ _ _ ls hf hP hD hS (lv_sub hl [3, 2, 1, 0] rfl)
  unfold fX6_averageHops at hf
  refine lv_iconst hx hb dX6_averageHops_0 ic_0 ?_
  refine lv_istore_n (lv' := [(1, .int 0), (0, .ref a_t)]) hx hb dX6_averageHops_1 rfl hl (by decide) rfl (fun ls hl => ?_)
  refine lv_iconst hx hb dX6_averageHops_2 ic_0 ?_
  refine lv_istore_n (lv' := [(2, .int 0), (1, .int 0), (0, .ref a_t)]) hx hb dX6_averageHops_3 rfl hl (by decide) rfl (fun ls hl => ?_)
  refine lv_iconst hx hb dX6_averageHops_4 ic_0 ?_
  refine lv_istore_n (lv' := [(3, .int 0), (2, .int 0), (1, .int 0), (0, .ref a_t)]) hx hb dX6_averageHops_5 rfl hl (by decide) rfl (fun ls hl => ?_)
  refine L6 _ (fun x1_6 x2_6 x3_6 H locs ls hf hP hD hS hl => ?_) FU _ _ _ _ _ ls hf hP hD hS (lv_sub hl [3, 2, 1, 0] rfl)
  refine lv_iload_n hx hb dX6_averageHops_37 rfl (lv_at hl 0 rfl) ?_
  refine lv_if_ne (tgt := 46) hx hb dX6_averageHops_38 (by decide) (fun hc => ?_) (fun hc => ?_)
  · replace hf := ifn hc hf
    refine lv_bipush hx hb dX6_averageHops_46 bp_100 ?_
    refine lv_iload_n hx hb dX6_averageHops_48 rfl (lv_at hl 1 rfl) ?_
    refine lv_imul hx hb dX6_averageHops_49 ?_
    refine lv_iload_n hx hb dX6_averageHops_50 rfl (lv_at hl 0 rfl) ?_
    obtain ⟨g51, hf⟩ := grd hf
    refine lv_idiv hx hb dX6_averageHops_51 g51 ?_
    obtain rfl := Option.some.inj hf
    exact retI X hS hP rfl dX6_averageHops_52
  · replace hf := ifp hc hf
    refine lv_bipush hx hb dX6_averageHops_41 bp_m9 ?_
    refine lv_goto (tgt := 52) hx hb dX6_averageHops_43 (by decide) ?_
    obtain rfl := Option.some.inj hf
    exact retI X hS hP rfl dX6_averageHops_52

abbrev wo_X6_switchesAt (cI cZ : ClassId) (a_t a_t_st a_t_be a_t_so a_t_sv : Nat) (v_t_st : Nat → Int32) : va_W := [(a_t, oX6 a_t_st a_t_be a_t_so a_t_sv), (a_t_st, rI cI 164 v_t_st)]
def fX6_switchesAt (v_t_st : Nat → Int32) (p1 : Int32) (p2 : Int32) : Option (Bool) := ((fX6_isOn v_t_st p1 p2).bind (fun q3 => (if q3 = true then ((fX6_of v_t_st p2 (nI 6)).bind (fun q13 => (if q13 = (nI 2) then (some true) else (some false)))) else (some false))))
theorem kd_X6_switchesAt : yX6_switchesAt.cls = RX6 ∧ yX6_switchesAt.cls ≠ "java/lang/invoke/MethodHandle" ∧ yX6_switchesAt.cls ≠ "java/lang/invoke/VarHandle" ∧ (parseMethodDescriptor yX6_switchesAt.desc).map (fun d => d.parameters.length) = some 2 := by decide +kernel
def rm_X6_switchesAt : Room := { frames := 2, cells := 0, slots := 0, locals := 49 }
set_option maxHeartbeats 4000000 in
set_option maxRecDepth 100000 in
theorem k_X6_switchesAt (l : Launch) (D : va_G) (cI cZ : ClassId) (a_t a_t_st a_t_be a_t_so a_t_sv : Nat) (v_t_st : Nat → Int32) (p1 : Int32) (p2 : Int32) (q : Bool) (hf : fX6_switchesAt v_t_st p1 p2 = some q) : CI l D cI cZ yX6_switchesAt wsX6_switchesAt rm_X6_switchesAt [.ref a_t, .int p1, .int p2] (wo_X6_switchesAt cI cZ a_t a_t_st a_t_be a_t_so a_t_sv v_t_st) (wo_X6_switchesAt cI cZ a_t a_t_st a_t_be a_t_so a_t_sv v_t_st) (b2i q) := by
  refine CI.mk (cc := cX6_switchesAt) (maxL := 3) (by decide) rfl (Nat.le_of_ble_eq_true rfl) ?_
  intro p e s m below meth c ls A X hP hD hl hS
  have hx := X.1.1
  have hb := X.1.2.1
  have hl : lv_has ls 3 [(0, .ref a_t), (1, .int p1), (2, .int p2)] := hl
  unfold fX6_switchesAt at hf
  refine lv_aload_n hx hb dX6_switchesAt_0 rfl (lv_at hl 0 rfl) ?_
  refine lv_iload_n hx hb dX6_switchesAt_1 rfl (lv_at hl 1 rfl) ?_
  refine lv_iload_n hx hb dX6_switchesAt_2 rfl (lv_at hl 2 rfl) ?_
  obtain ⟨q3, e3, hf⟩ := bnd hf
  refine callVI X (k_X6_isOn l D cI cZ a_t a_t_st a_t_be a_t_so a_t_sv  v_t_st p1 p2 q3 e3) (cwV 2 X.1.2.2.2.2 gX6_switchesAt_X6_isOn rfl rfl rfl kd_X6_isOn ⟨Nat.le_of_ble_eq_true rfl, Nat.le_of_ble_eq_true rfl⟩) hP hD hS hl.1 0 6 rfl rfl [0, 1] (by decide) (wo_X6_switchesAt cI cZ a_t a_t_st a_t_be a_t_so a_t_sv v_t_st) rfl rfl rfl rfl rfl (rest := []) rfl (Nat.le_of_ble_eq_true rfl) dX6_switchesAt_3 ⟨Nat.zero_le _, Nat.zero_le _⟩ (fun H locs hP hD hS => ?_)
  refine lv_if_eq (tgt := 24) hx hb dX6_switchesAt_6 (by decide) (fun hc => ?_) (fun hc => ?_)
  · replace hf := ifn (b2i_z hc) hf
    refine lv_iconst hx hb dX6_switchesAt_24 ic_0 ?_
    obtain rfl := Option.some.inj hf
    exact retB X hS hP rfl rfl dX6_switchesAt_25
  · replace hf := ifp (b2i_nz hc) hf
    refine lv_aload_n hx hb dX6_switchesAt_9 rfl (lv_at hl 0 rfl) ?_
    refine lv_iload_n hx hb dX6_switchesAt_10 rfl (lv_at hl 2 rfl) ?_
    refine lv_bipush hx hb dX6_switchesAt_11 bp_6 ?_
    obtain ⟨q13, e13, hf⟩ := bnd hf
    refine callVI X (k_X6_of l D cI cZ a_t a_t_st a_t_be a_t_so a_t_sv  v_t_st p2 (nI 6) q13 e13) (cwV 2 X.1.2.2.2.2 gX6_switchesAt_X6_of rfl rfl rfl kd_X6_of ⟨Nat.le_of_ble_eq_true rfl, Nat.le_of_ble_eq_true rfl⟩) hP hD hS hl.1 0 6 rfl rfl [0, 1] (by decide) (wo_X6_switchesAt cI cZ a_t a_t_st a_t_be a_t_so a_t_sv v_t_st) rfl rfl rfl rfl rfl (rest := []) rfl (Nat.le_of_ble_eq_true rfl) dX6_switchesAt_13 ⟨Nat.zero_le _, Nat.zero_le _⟩ (fun H locs hP hD hS => ?_)
    refine lv_iconst hx hb dX6_switchesAt_16 ic_2 ?_
    refine lv_icmp_ne (tgt := 24) hx hb dX6_switchesAt_17 (by decide) (fun hc => ?_) (fun hc => ?_)
    · replace hf := ifn hc hf
      refine lv_iconst hx hb dX6_switchesAt_24 ic_0 ?_
      obtain rfl := Option.some.inj hf
      exact retB X hS hP rfl rfl dX6_switchesAt_25
    · replace hf := ifp hc hf
      refine lv_iconst hx hb dX6_switchesAt_20 ic_1 ?_
      refine lv_goto (tgt := 25) hx hb dX6_switchesAt_21 (by decide) ?_
      obtain rfl := Option.some.inj hf
      exact retB X hS hP rfl rfl dX6_switchesAt_25

abbrev wo_X6_squelchedAt (cI cZ : ClassId) (a_t a_t_st a_t_be a_t_so a_t_sv : Nat) (v_t_st : Nat → Int32) : va_W := [(a_t, oX6 a_t_st a_t_be a_t_so a_t_sv), (a_t_st, rI cI 164 v_t_st)]
def fX6_squelchedAt_L33 (v_t_st : Nat → Int32) (p1 : Int32) (K : Int32 → Int32 → Int32 → Option (Int32)) : Nat → Int32 → Int32 → Int32 → Option (Int32)
  | 0, _, _, _ => none
  | k + 1, x2_33, x3_33, x4_33 => (if (nI 16) ≤ x4_33 then (K x2_33 x3_33 x4_33) else ((fX6_isCircuit v_t_st x4_33).bind (fun q43 => ((if q43 = true then ((fX6_stateOf v_t_st x4_33).bind (fun q52 => (if q52 = (nI 3) then ((fX6_switchesAt v_t_st x4_33 p1).bind (fun q63 => (if q63 = true then (some (nI 1)) else ((fX6_switchesAt v_t_st x4_33 x2_33).bind (fun q73 => (if q73 = true then (some (nI 1)) else (some 0))))))) else (some 0)))) else (some 0)).bind (fun ph84 => (if ph84 = 0 then (fX6_squelchedAt_L33 v_t_st p1 K k x2_33 (x3_33 ||| 0) (x4_33 + nI 1)) else (fX6_squelchedAt_L33 v_t_st p1 K k x2_33 (x3_33 ||| ((nI 1) <<< (x4_33 &&& 31))) (x4_33 + nI 1))))))))
def fX6_squelchedAt (v_t_st : Nat → Int32) (p1 : Int32) : Option (Int32) := ((fX6_isNode v_t_st p1).bind (fun q2 => (if q2 = true then (if (v_t_st 0) = 0 then none else (fX6_squelchedAt_L33 v_t_st p1 (fun x2_33 x3_33 x4_33 => (some x3_33)) FU (((p1 + (v_t_st 0)) - (nI 1)) - ((p1 + (v_t_st 0)) - (nI 1)) / (v_t_st 0) * (v_t_st 0)) 0 0)) else (some (-1)))))
theorem kd_X6_squelchedAt : yX6_squelchedAt.cls = RX6 ∧ yX6_squelchedAt.cls ≠ "java/lang/invoke/MethodHandle" ∧ yX6_squelchedAt.cls ≠ "java/lang/invoke/VarHandle" ∧ (parseMethodDescriptor yX6_squelchedAt.desc).map (fun d => d.parameters.length) = some 1 := by decide +kernel
def rm_X6_squelchedAt : Room := { frames := 7, cells := 0, slots := 0, locals := 158 }
set_option maxHeartbeats 4000000 in
set_option maxRecDepth 100000 in
theorem k_X6_squelchedAt (l : Launch) (D : va_G) (cI cZ : ClassId) (a_t a_t_st a_t_be a_t_so a_t_sv : Nat) (v_t_st : Nat → Int32) (p1 : Int32) (q : Int32) (hf : fX6_squelchedAt v_t_st p1 = some q) : CI l D cI cZ yX6_squelchedAt wsX6_squelchedAt rm_X6_squelchedAt [.ref a_t, .int p1] (wo_X6_squelchedAt cI cZ a_t a_t_st a_t_be a_t_so a_t_sv v_t_st) (wo_X6_squelchedAt cI cZ a_t a_t_st a_t_be a_t_so a_t_sv v_t_st) q := by
  refine CI.mk (cc := cX6_squelchedAt) (maxL := 6) (by decide) rfl (Nat.le_of_ble_eq_true rfl) ?_
  intro p e s m below meth c ls A X hP hD hl hS
  have hx := X.1.1
  have hb := X.1.2.1
  have hl : lv_has ls 6 [(0, .ref a_t), (1, .int p1)] := hl
  have inX6 : ∀ w ∈ u_ws RX6 TX6 4, w ∈ wsX6_squelchedAt := fun _ h => List.mem_cons_of_mem _ (List.mem_append_right _ h)
  have L33 : ∀ (K : Int32 → Int32 → Int32 → Option (Int32)) (hKK : ∀ (x2_33 : Int32) (x3_33 : Int32) (x4_33 : Int32) (H : Heap) (locs : List Loc) (ls : Array Slot), K x2_33 x3_33 x4_33 = some q → va_P D vwCl (wo_X6_squelchedAt cI cZ a_t a_t_st a_t_be a_t_so a_t_sv v_t_st) H → va_D A (wo_X6_squelchedAt cI cZ a_t a_t_st a_t_be a_t_so a_t_sv v_t_st) → va_S A s.heap H locs → lv_has ls 6 [(3, .int x3_33)] → W p l e rm_X6_squelchedAt s m ([.ref a_t, .int p1] : List Value).toArray below meth c H locs 0 0 (MQ below (QI D (wo_X6_squelchedAt cI cZ a_t a_t_st a_t_be a_t_so a_t_sv v_t_st) q A) ([.ref a_t, .int p1] : List Value).toArray s 0 0 A) (F0 m 108 ls [])) (k : Nat) (x2_33 : Int32) (x3_33 : Int32) (x4_33 : Int32) (H : Heap) (locs : List Loc) (ls : Array Slot), fX6_squelchedAt_L33 v_t_st p1 K k x2_33 x3_33 x4_33 = some q → va_P D vwCl (wo_X6_squelchedAt cI cZ a_t a_t_st a_t_be a_t_so a_t_sv v_t_st) H → va_D A (wo_X6_squelchedAt cI cZ a_t a_t_st a_t_be a_t_so a_t_sv v_t_st) → va_S A s.heap H locs → lv_has ls 6 [(0, .ref a_t), (1, .int p1), (2, .int x2_33), (3, .int x3_33), (4, .int x4_33)] → W p l e rm_X6_squelchedAt s m ([.ref a_t, .int p1] : List Value).toArray below meth c H locs 0 0 (MQ below (QI D (wo_X6_squelchedAt cI cZ a_t a_t_st a_t_be a_t_so a_t_sv v_t_st) q A) ([.ref a_t, .int p1] : List Value).toArray s 0 0 A) (F0 m 33 ls []) := by
    intro K hKK k
    induction k with
    | zero => intro x2_33 x3_33 x4_33 H locs ls hf; rw [fX6_squelchedAt_L33] at hf; cases hf
    | succ k ih =>
      intro x2_33 x3_33 x4_33 H locs ls hf hP hD hS hl
      rw [fX6_squelchedAt_L33] at hf
      refine lv_iload hx hb dX6_squelchedAt_33 (lv_at hl 4 rfl) ?_
      refine lv_bipush hx hb dX6_squelchedAt_35 bp_16 ?_
      refine lv_icmp_ge (tgt := 108) hx hb dX6_squelchedAt_37 (by decide) (fun hc => ?_) (fun hc => ?_)
      · replace hf := ifp hc hf
        exact hKK _ _ _ _ _ ls hf hP hD hS (lv_sub hl [3] rfl)
      · replace hf := ifn hc hf
        refine lv_aload_n hx hb dX6_squelchedAt_40 rfl (lv_at hl 0 rfl) ?_
        refine lv_iload hx hb dX6_squelchedAt_41 (lv_at hl 4 rfl) ?_
        obtain ⟨q43, e43, hf⟩ := bnd hf
        refine callVI X (k_X6_isCircuit l D cI cZ a_t a_t_st a_t_be a_t_so a_t_sv  v_t_st x4_33 q43 e43) (cwV 1 X.1.2.2.2.2 gX6_squelchedAt_X6_isCircuit rfl rfl rfl kd_X6_isCircuit ⟨Nat.le_of_ble_eq_true rfl, Nat.le_of_ble_eq_true rfl⟩) hP hD hS hl.1 0 6 rfl rfl [0, 1] (by decide) (wo_X6_squelchedAt cI cZ a_t a_t_st a_t_be a_t_so a_t_sv v_t_st) rfl rfl rfl rfl rfl (rest := []) rfl (Nat.le_of_ble_eq_true rfl) dX6_squelchedAt_43 ⟨Nat.zero_le _, Nat.zero_le _⟩ (fun H locs hP hD hS => ?_)
        obtain ⟨ph84, hg, hf⟩ := bnd hf
        have J84 : ∀ (H : Heap) (locs : List Loc) (ls : Array Slot), va_P D vwCl (wo_X6_squelchedAt cI cZ a_t a_t_st a_t_be a_t_so a_t_sv v_t_st) H → va_D A (wo_X6_squelchedAt cI cZ a_t a_t_st a_t_be a_t_so a_t_sv v_t_st) → va_S A s.heap H locs → lv_has ls 6 [(0, .ref a_t), (1, .int p1), (2, .int x2_33), (3, .int x3_33), (4, .int x4_33)] → W p l e rm_X6_squelchedAt s m ([.ref a_t, .int p1] : List Value).toArray below meth c H locs 0 0 (MQ below (QI D (wo_X6_squelchedAt cI cZ a_t a_t_st a_t_be a_t_so a_t_sv v_t_st) q A) ([.ref a_t, .int p1] : List Value).toArray s 0 0 A) (F0 m 84 ls [.int ph84]) := by
          clear hg hP hD hS hl
          intro H locs ls hP hD hS hl
          refine lv_istore (lv' := [(5, .int ph84), (0, .ref a_t), (1, .int p1), (2, .int x2_33), (3, .int x3_33), (4, .int x4_33)]) hx hb dX6_squelchedAt_84 hl (by decide) rfl (fun ls hl => ?_)
          refine lv_iload_n hx hb dX6_squelchedAt_86 rfl (lv_at hl 4 rfl) ?_
          refine lv_iload hx hb dX6_squelchedAt_87 (lv_at hl 0 rfl) ?_
          refine lv_if_eq (tgt := 99) hx hb dX6_squelchedAt_89 (by decide) (fun hc => ?_) (fun hc => ?_)
          · replace hf := ifp hc hf
            refine lv_iconst hx hb dX6_squelchedAt_99 ic_0 ?_
            refine lv_ior hx hb dX6_squelchedAt_100 ?_
            refine lv_istore_n (lv' := [(3, .int (x3_33 ||| 0)), (5, .int ph84), (0, .ref a_t), (1, .int p1), (2, .int x2_33), (4, .int x4_33)]) hx hb dX6_squelchedAt_101 rfl hl (by decide) rfl (fun ls hl => ?_)
            refine lv_iinc (v := (x4_33 + nI 1)) (lv' := [(4, .int (x4_33 + nI 1)), (3, .int (x3_33 ||| 0)), (5, .int ph84), (0, .ref a_t), (1, .int p1), (2, .int x2_33)]) hx hb dX6_squelchedAt_102 hl (k := 5) rfl (inc_1 _) (by decide) rfl (fun ls hl => ?_)
            refine lv_goto (tgt := 33) hx hb dX6_squelchedAt_105 (by decide) ?_
            exact ih _ _ _ _ _ ls hf hP hD hS (lv_sub hl [3, 4, 5, 1, 0] rfl)
          · replace hf := ifn hc hf
            refine lv_iconst hx hb dX6_squelchedAt_92 ic_1 ?_
            refine lv_iload hx hb dX6_squelchedAt_93 (lv_at hl 5 rfl) ?_
            refine lv_ishl hx hb dX6_squelchedAt_95 ?_
            refine lv_goto (tgt := 100) hx hb dX6_squelchedAt_96 (by decide) ?_
            refine lv_ior hx hb dX6_squelchedAt_100 ?_
            refine lv_istore_n (lv' := [(3, .int (x3_33 ||| ((nI 1) <<< (x4_33 &&& 31)))), (5, .int ph84), (0, .ref a_t), (1, .int p1), (2, .int x2_33), (4, .int x4_33)]) hx hb dX6_squelchedAt_101 rfl hl (by decide) rfl (fun ls hl => ?_)
            refine lv_iinc (v := (x4_33 + nI 1)) (lv' := [(4, .int (x4_33 + nI 1)), (3, .int (x3_33 ||| ((nI 1) <<< (x4_33 &&& 31)))), (5, .int ph84), (0, .ref a_t), (1, .int p1), (2, .int x2_33)]) hx hb dX6_squelchedAt_102 hl (k := 5) rfl (inc_1 _) (by decide) rfl (fun ls hl => ?_)
            refine lv_goto (tgt := 33) hx hb dX6_squelchedAt_105 (by decide) ?_
            exact ih _ _ _ _ _ ls hf hP hD hS (lv_sub hl [3, 4, 5, 1, 0] rfl)
        replace hf := hg
        clear hg
        refine lv_if_eq (tgt := 83) hx hb dX6_squelchedAt_46 (by decide) (fun hc => ?_) (fun hc => ?_)
        · replace hf := ifn (b2i_z hc) hf
          refine lv_iconst hx hb dX6_squelchedAt_83 ic_0 ?_
          obtain rfl := Option.some.inj hf
          exact J84 _ _ ls hP hD hS (lv_sub hl [0, 1, 2, 3, 4] rfl)
        · replace hf := ifp (b2i_nz hc) hf
          refine lv_aload_n hx hb dX6_squelchedAt_49 rfl (lv_at hl 0 rfl) ?_
          refine lv_iload hx hb dX6_squelchedAt_50 (lv_at hl 4 rfl) ?_
          obtain ⟨q52, e52, hf⟩ := bnd hf
          refine callVI X (k_X6_stateOf l D cI cZ a_t a_t_st a_t_be a_t_so a_t_sv  v_t_st x4_33 q52 e52) (cwV 1 X.1.2.2.2.2 gX6_squelchedAt_X6_stateOf rfl rfl rfl kd_X6_stateOf ⟨Nat.le_of_ble_eq_true rfl, Nat.le_of_ble_eq_true rfl⟩) hP hD hS hl.1 0 6 rfl rfl [0, 1] (by decide) (wo_X6_squelchedAt cI cZ a_t a_t_st a_t_be a_t_so a_t_sv v_t_st) rfl rfl rfl rfl rfl (rest := []) rfl (Nat.le_of_ble_eq_true rfl) dX6_squelchedAt_52 ⟨Nat.zero_le _, Nat.zero_le _⟩ (fun H locs hP hD hS => ?_)
          refine lv_iconst hx hb dX6_squelchedAt_55 ic_3 ?_
          refine lv_icmp_ne (tgt := 83) hx hb dX6_squelchedAt_56 (by decide) (fun hc => ?_) (fun hc => ?_)
          · replace hf := ifn hc hf
            refine lv_iconst hx hb dX6_squelchedAt_83 ic_0 ?_
            obtain rfl := Option.some.inj hf
            exact J84 _ _ ls hP hD hS (lv_sub hl [0, 1, 2, 3, 4] rfl)
          · replace hf := ifp hc hf
            refine lv_aload_n hx hb dX6_squelchedAt_59 rfl (lv_at hl 0 rfl) ?_
            refine lv_iload hx hb dX6_squelchedAt_60 (lv_at hl 4 rfl) ?_
            refine lv_iload_n hx hb dX6_squelchedAt_62 rfl (lv_at hl 1 rfl) ?_
            obtain ⟨q63, e63, hf⟩ := bnd hf
            refine callVI X (k_X6_switchesAt l D cI cZ a_t a_t_st a_t_be a_t_so a_t_sv  v_t_st x4_33 p1 q63 e63) (cwV 2 X.1.2.2.2.2 gX6_squelchedAt_X6_switchesAt rfl rfl rfl kd_X6_switchesAt ⟨Nat.le_of_ble_eq_true rfl, Nat.le_of_ble_eq_true rfl⟩) hP hD hS hl.1 0 6 rfl rfl [0, 1] (by decide) (wo_X6_squelchedAt cI cZ a_t a_t_st a_t_be a_t_so a_t_sv v_t_st) rfl rfl rfl rfl rfl (rest := []) rfl (Nat.le_of_ble_eq_true rfl) dX6_squelchedAt_63 ⟨Nat.zero_le _, Nat.zero_le _⟩ (fun H locs hP hD hS => ?_)
            refine lv_if_ne (tgt := 79) hx hb dX6_squelchedAt_66 (by decide) (fun hc => ?_) (fun hc => ?_)
            · replace hf := ifp (b2i_nz hc) hf
              refine lv_iconst hx hb dX6_squelchedAt_79 ic_1 ?_
              refine lv_goto (tgt := 84) hx hb dX6_squelchedAt_80 (by decide) ?_
              obtain rfl := Option.some.inj hf
              exact J84 _ _ ls hP hD hS (lv_sub hl [0, 1, 2, 3, 4] rfl)
            · replace hf := ifn (b2i_z hc) hf
              refine lv_aload_n hx hb dX6_squelchedAt_69 rfl (lv_at hl 0 rfl) ?_
              refine lv_iload hx hb dX6_squelchedAt_70 (lv_at hl 4 rfl) ?_
              refine lv_iload_n hx hb dX6_squelchedAt_72 rfl (lv_at hl 2 rfl) ?_
              obtain ⟨q73, e73, hf⟩ := bnd hf
              refine callVI X (k_X6_switchesAt l D cI cZ a_t a_t_st a_t_be a_t_so a_t_sv  v_t_st x4_33 x2_33 q73 e73) (cwV 2 X.1.2.2.2.2 gX6_squelchedAt_X6_switchesAt rfl rfl rfl kd_X6_switchesAt ⟨Nat.le_of_ble_eq_true rfl, Nat.le_of_ble_eq_true rfl⟩) hP hD hS hl.1 0 6 rfl rfl [0, 1] (by decide) (wo_X6_squelchedAt cI cZ a_t a_t_st a_t_be a_t_so a_t_sv v_t_st) rfl rfl rfl rfl rfl (rest := []) rfl (Nat.le_of_ble_eq_true rfl) dX6_squelchedAt_73 ⟨Nat.zero_le _, Nat.zero_le _⟩ (fun H locs hP hD hS => ?_)
              refine lv_if_eq (tgt := 83) hx hb dX6_squelchedAt_76 (by decide) (fun hc => ?_) (fun hc => ?_)
              · replace hf := ifn (b2i_z hc) hf
                refine lv_iconst hx hb dX6_squelchedAt_83 ic_0 ?_
                obtain rfl := Option.some.inj hf
                exact J84 _ _ ls hP hD hS (lv_sub hl [0, 1, 2, 3, 4] rfl)
              · replace hf := ifp (b2i_nz hc) hf
                refine lv_iconst hx hb dX6_squelchedAt_79 ic_1 ?_
                refine lv_goto (tgt := 84) hx hb dX6_squelchedAt_80 (by decide) ?_
                obtain rfl := Option.some.inj hf
                exact J84 _ _ ls hP hD hS (lv_sub hl [0, 1, 2, 3, 4] rfl)
  unfold fX6_squelchedAt at hf
  refine lv_aload_n hx hb dX6_squelchedAt_0 rfl (lv_at hl 0 rfl) ?_
  refine lv_iload_n hx hb dX6_squelchedAt_1 rfl (lv_at hl 1 rfl) ?_
  obtain ⟨q2, e2, hf⟩ := bnd hf
  refine callVI X (k_X6_isNode l D cI cZ a_t a_t_st a_t_be a_t_so a_t_sv  v_t_st p1 q2 e2) (cwV 1 X.1.2.2.2.2 gX6_squelchedAt_X6_isNode rfl rfl rfl kd_X6_isNode ⟨Nat.le_of_ble_eq_true rfl, Nat.le_of_ble_eq_true rfl⟩) hP hD hS hl.1 0 6 rfl rfl [0, 1] (by decide) (wo_X6_squelchedAt cI cZ a_t a_t_st a_t_be a_t_so a_t_sv v_t_st) rfl rfl rfl rfl rfl (rest := []) rfl (Nat.le_of_ble_eq_true rfl) dX6_squelchedAt_2 ⟨Nat.zero_le _, Nat.zero_le _⟩ (fun H locs hP hD hS => ?_)
  refine lv_if_ne (tgt := 10) hx hb dX6_squelchedAt_5 (by decide) (fun hc => ?_) (fun hc => ?_)
  · replace hf := ifp (b2i_nz hc) hf
    refine lv_iload_n hx hb dX6_squelchedAt_10 rfl (lv_at hl 1 rfl) ?_
    refine lv_aload_n hx hb dX6_squelchedAt_11 rfl (lv_at hl 0 rfl) ?_
    refine getO X hP inX6 0 rfl rfl 0 (by decide) (List.mem_of_getElem? (i := 1) rfl) rfl dX6_squelchedAt_12 ?_
    refine lv_iconst hx hb dX6_squelchedAt_15 ic_0 ?_
    refine aldI X hP 1 rfl (vin0 (by decide) (by decide)) (j := 0) sb_cl0 dX6_squelchedAt_16 ?_
    refine lv_iadd hx hb dX6_squelchedAt_17 ?_
    refine lv_iconst hx hb dX6_squelchedAt_18 ic_1 ?_
    refine lv_isub hx hb dX6_squelchedAt_19 ?_
    refine lv_aload_n hx hb dX6_squelchedAt_20 rfl (lv_at hl 0 rfl) ?_
    refine getO X hP inX6 0 rfl rfl 0 (by decide) (List.mem_of_getElem? (i := 1) rfl) rfl dX6_squelchedAt_21 ?_
    refine lv_iconst hx hb dX6_squelchedAt_24 ic_0 ?_
    refine aldI X hP 1 rfl (vin0 (by decide) (by decide)) (j := 0) sb_cl0 dX6_squelchedAt_25 ?_
    obtain ⟨g26, hf⟩ := grd hf
    refine lv_irem hx hb dX6_squelchedAt_26 g26 ?_
    refine lv_istore_n (lv' := [(2, .int (((p1 + (v_t_st 0)) - (nI 1)) - ((p1 + (v_t_st 0)) - (nI 1)) / (v_t_st 0) * (v_t_st 0))), (0, .ref a_t), (1, .int p1)]) hx hb dX6_squelchedAt_27 rfl hl (by decide) rfl (fun ls hl => ?_)
    refine lv_iconst hx hb dX6_squelchedAt_28 ic_0 ?_
    refine lv_istore_n (lv' := [(3, .int 0), (2, .int (((p1 + (v_t_st 0)) - (nI 1)) - ((p1 + (v_t_st 0)) - (nI 1)) / (v_t_st 0) * (v_t_st 0))), (0, .ref a_t), (1, .int p1)]) hx hb dX6_squelchedAt_29 rfl hl (by decide) rfl (fun ls hl => ?_)
    refine lv_iconst hx hb dX6_squelchedAt_30 ic_0 ?_
    refine lv_istore (lv' := [(4, .int 0), (3, .int 0), (2, .int (((p1 + (v_t_st 0)) - (nI 1)) - ((p1 + (v_t_st 0)) - (nI 1)) / (v_t_st 0) * (v_t_st 0))), (0, .ref a_t), (1, .int p1)]) hx hb dX6_squelchedAt_31 hl (by decide) rfl (fun ls hl => ?_)
    refine L33 _ (fun x2_33 x3_33 x4_33 H locs ls hf hP hD hS hl => ?_) FU _ _ _ _ _ ls hf hP hD hS (lv_sub hl [3, 4, 2, 1, 0] rfl)
    refine lv_iload_n hx hb dX6_squelchedAt_108 rfl (lv_at hl 0 rfl) ?_
    obtain rfl := Option.some.inj hf
    exact retI X hS hP rfl dX6_squelchedAt_109
  · replace hf := ifn (b2i_z hc) hf
    refine lv_iconst hx hb dX6_squelchedAt_8 ic_m1 ?_
    obtain rfl := Option.some.inj hf
    exact retI X hS hP rfl dX6_squelchedAt_9

abbrev wo_X6_keep (cI cZ : ClassId) (a_t a_t_st a_t_be a_t_so a_t_sv : Nat) (v_t_st : Nat → Int32) (v_t_be : Nat → Int32) : va_W := [(a_t, oX6 a_t_st a_t_be a_t_so a_t_sv), (a_t_st, rI cI 164 v_t_st), (a_t_be, rI cI 164 v_t_be)]
def fX6_keep_L2 (v_t_st : Nat → Int32) (K : Int32 → (Nat → Int32) → Option ((Nat → Int32))) : Nat → Int32 → (Nat → Int32) → Option ((Nat → Int32))
  | 0, _, _ => none
  | k + 1, x1_2, v_t_be_2 => (if (nI 164) ≤ x1_2 then (K x1_2 v_t_be_2) else (if (x1_2 < 0 ∨ 164 ≤ (x1_2).toNatClampNeg) then none else (if (x1_2 < 0 ∨ 164 ≤ (x1_2).toNatClampNeg) then none else (fX6_keep_L2 v_t_st K k (x1_2 + nI 1) (upd v_t_be_2 (x1_2).toNatClampNeg (v_t_st (x1_2).toNatClampNeg))))))
def fX6_keep (v_t_st : Nat → Int32) (v_t_be : Nat → Int32) : Option ((Nat → Int32)) := (fX6_keep_L2 v_t_st (fun x1_2 v_t_be_2 => (some v_t_be_2)) FU 0 v_t_be)
theorem kd_X6_keep : yX6_keep.cls = RX6 ∧ yX6_keep.cls ≠ "java/lang/invoke/MethodHandle" ∧ yX6_keep.cls ≠ "java/lang/invoke/VarHandle" ∧ (parseMethodDescriptor yX6_keep.desc).map (fun d => d.parameters.length) = some 0 := by decide +kernel
def rm_X6_keep : Room := { frames := 0, cells := 0, slots := 0, locals := 0 }
set_option maxHeartbeats 4000000 in
set_option maxRecDepth 100000 in
theorem k_X6_keep (l : Launch) (D : va_G) (cI cZ : ClassId) (a_t a_t_st a_t_be a_t_so a_t_sv : Nat) (v_t_st : Nat → Int32) (v_t_be : Nat → Int32) (q : (Nat → Int32)) (hf : fX6_keep v_t_st v_t_be = some q) : CV l D cI cZ yX6_keep wsX6_keep rm_X6_keep [.ref a_t] (wo_X6_keep cI cZ a_t a_t_st a_t_be a_t_so a_t_sv v_t_st v_t_be) (wo_X6_keep cI cZ a_t a_t_st a_t_be a_t_so a_t_sv v_t_st q) := by
  refine CV.mk (cc := cX6_keep) (maxL := 2) (by decide) rfl (Nat.le_of_ble_eq_true rfl) ?_
  intro p e s m below meth c ls A X hP hD hl hS
  have hx := X.1.1
  have hb := X.1.2.1
  have hl : lv_has ls 2 [(0, .ref a_t)] := hl
  have inX6 : ∀ w ∈ u_ws RX6 TX6 4, w ∈ wsX6_keep := fun _ h => List.mem_cons_of_mem _ (List.mem_append_right _ h)
  have L2 : ∀ (K : Int32 → (Nat → Int32) → Option ((Nat → Int32))) (hKK : ∀ (x1_2 : Int32) (v_t_be_2 : Nat → Int32) (H : Heap) (locs : List Loc) (ls : Array Slot), K x1_2 v_t_be_2 = some q → va_P D vwCl (wo_X6_keep cI cZ a_t a_t_st a_t_be a_t_so a_t_sv v_t_st v_t_be_2) H → va_D A (wo_X6_keep cI cZ a_t a_t_st a_t_be a_t_so a_t_sv v_t_st v_t_be_2) → va_S A s.heap H locs → lv_has ls 2 [] → W p l e rm_X6_keep s m ([.ref a_t] : List Value).toArray below meth c H locs 0 0 (MQ below (QV D (wo_X6_keep cI cZ a_t a_t_st a_t_be a_t_so a_t_sv v_t_st q) A) ([.ref a_t] : List Value).toArray s 0 0 A) (F0 m 27 ls [])) (k : Nat) (x1_2 : Int32) (v_t_be_2 : Nat → Int32) (H : Heap) (locs : List Loc) (ls : Array Slot), fX6_keep_L2 v_t_st K k x1_2 v_t_be_2 = some q → va_P D vwCl (wo_X6_keep cI cZ a_t a_t_st a_t_be a_t_so a_t_sv v_t_st v_t_be_2) H → va_D A (wo_X6_keep cI cZ a_t a_t_st a_t_be a_t_so a_t_sv v_t_st v_t_be_2) → va_S A s.heap H locs → lv_has ls 2 [(0, .ref a_t), (1, .int x1_2)] → W p l e rm_X6_keep s m ([.ref a_t] : List Value).toArray below meth c H locs 0 0 (MQ below (QV D (wo_X6_keep cI cZ a_t a_t_st a_t_be a_t_so a_t_sv v_t_st q) A) ([.ref a_t] : List Value).toArray s 0 0 A) (F0 m 2 ls []) := by
    intro K hKK k
    induction k with
    | zero => intro x1_2 v_t_be_2 H locs ls hf; rw [fX6_keep_L2] at hf; cases hf
    | succ k ih =>
      intro x1_2 v_t_be_2 H locs ls hf hP hD hS hl
      rw [fX6_keep_L2] at hf
      refine lv_iload_n hx hb dX6_keep_2 rfl (lv_at hl 1 rfl) ?_
      refine lv_sipush hx hb dX6_keep_3 sp_164 ?_
      refine lv_icmp_ge (tgt := 27) hx hb dX6_keep_6 (by decide) (fun hc => ?_) (fun hc => ?_)
      · replace hf := ifp hc hf
        exact hKK _ _ _ _ ls hf hP hD hS (lv_sub hl [] rfl)
      · replace hf := ifn hc hf
        refine lv_aload_n hx hb dX6_keep_9 rfl (lv_at hl 0 rfl) ?_
        refine getO X hP inX6 0 rfl rfl 1 (by decide) (List.mem_of_getElem? (i := 1) rfl) rfl dX6_keep_10 ?_
        refine lv_iload_n hx hb dX6_keep_13 rfl (lv_at hl 1 rfl) ?_
        refine lv_aload_n hx hb dX6_keep_14 rfl (lv_at hl 0 rfl) ?_
        refine getO X hP inX6 0 rfl rfl 0 (by decide) (List.mem_of_getElem? (i := 2) rfl) rfl dX6_keep_15 ?_
        refine lv_iload_n hx hb dX6_keep_18 rfl (lv_at hl 1 rfl) ?_
        obtain ⟨g19, hf⟩ := grd hf
        refine aldI X hP 1 rfl g19 rfl dX6_keep_19 ?_
        obtain ⟨g20, hf⟩ := grd hf
        refine astI X hP hD hS 2 rfl g20 rfl dX6_keep_20 (wo_X6_keep cI cZ a_t a_t_st a_t_be a_t_so a_t_sv v_t_st (upd v_t_be_2 (x1_2).toNatClampNeg (v_t_st (x1_2).toNatClampNeg))) rfl (fun H locs hP hD hS => ?_)
        refine lv_iinc (v := (x1_2 + nI 1)) (lv' := [(1, .int (x1_2 + nI 1)), (0, .ref a_t)]) hx hb dX6_keep_21 hl (k := 1) rfl (inc_1 _) (by decide) rfl (fun ls hl => ?_)
        refine lv_goto (tgt := 2) hx hb dX6_keep_24 (by decide) ?_
        exact ih _ _ _ _ ls hf hP hD hS (lv_sub hl [1, 0] rfl)
  unfold fX6_keep at hf
  refine lv_iconst hx hb dX6_keep_0 ic_0 ?_
  refine lv_istore_n (lv' := [(1, .int 0), (0, .ref a_t)]) hx hb dX6_keep_1 rfl hl (by decide) rfl (fun ls hl => ?_)
  refine L2 _ (fun x1_2 v_t_be_2 H locs ls hf hP hD hS hl => ?_) FU _ _ _ _ ls hf hP hD hS (lv_sub hl [1, 0] rfl)
  obtain rfl := Option.some.inj hf
  exact retV X hS hP dX6_keep_27

abbrev wo_X6_deliveredAndBack (cI cZ : ClassId) (a_t a_t_st a_t_be a_t_so a_t_sv : Nat) (v_t_st : Nat → Int32) (v_t_be : Nat → Int32) : va_W := [(a_t, oX6 a_t_st a_t_be a_t_so a_t_sv), (a_t_st, rI cI 164 v_t_st), (a_t_be, rI cI 164 v_t_be)]
def fX6_deliveredAndBack_L11 (v_t_be : Nat → Int32) (K : Int32 → Int32 → (Nat → Int32) → Option (Int32 × (Nat → Int32))) : Nat → Int32 → Int32 → (Nat → Int32) → Option (Int32 × (Nat → Int32))
  | 0, _, _, _ => none
  | k + 1, x1_11, x2_11, v_t_st_11 => (if (nI 164) ≤ x2_11 then (K x1_11 x2_11 v_t_st_11) else (if (x2_11 < 0 ∨ 164 ≤ (x2_11).toNatClampNeg) then none else (if (x2_11 < 0 ∨ 164 ≤ (x2_11).toNatClampNeg) then none else (fX6_deliveredAndBack_L11 v_t_be K k x1_11 (x2_11 + nI 1) (upd v_t_st_11 (x2_11).toNatClampNeg (v_t_be (x2_11).toNatClampNeg))))))
def fX6_deliveredAndBack (v_t_st : Nat → Int32) (v_t_be : Nat → Int32) : Option (Int32 × (Nat → Int32)) := ((fX6_control v_t_st).bind (fun q1 => ((fX6_deliveredCount q1).bind (fun q5 => (fX6_deliveredAndBack_L11 v_t_be (fun x1_11 x2_11 v_t_st_11 => (some (x1_11, v_t_st_11))) FU q5 0 q1)))))
theorem kd_X6_deliveredAndBack : yX6_deliveredAndBack.cls = RX6 ∧ yX6_deliveredAndBack.cls ≠ "java/lang/invoke/MethodHandle" ∧ yX6_deliveredAndBack.cls ≠ "java/lang/invoke/VarHandle" ∧ (parseMethodDescriptor yX6_deliveredAndBack.desc).map (fun d => d.parameters.length) = some 0 := by decide +kernel
def rm_X6_deliveredAndBack : Room := { frames := 9, cells := 0, slots := 0, locals := 201 }
set_option maxHeartbeats 4000000 in
set_option maxRecDepth 100000 in
theorem k_X6_deliveredAndBack (l : Launch) (D : va_G) (cI cZ : ClassId) (a_t a_t_st a_t_be a_t_so a_t_sv : Nat) (v_t_st : Nat → Int32) (v_t_be : Nat → Int32) (q : Int32 × (Nat → Int32)) (hf : fX6_deliveredAndBack v_t_st v_t_be = some q) : CI l D cI cZ yX6_deliveredAndBack wsX6_deliveredAndBack rm_X6_deliveredAndBack [.ref a_t] (wo_X6_deliveredAndBack cI cZ a_t a_t_st a_t_be a_t_so a_t_sv v_t_st v_t_be) (wo_X6_deliveredAndBack cI cZ a_t a_t_st a_t_be a_t_so a_t_sv q.2 v_t_be) q.1 := by
  refine CI.mk (cc := cX6_deliveredAndBack) (maxL := 3) (by decide) rfl (Nat.le_of_ble_eq_true rfl) ?_
  intro p e s m below meth c ls A X hP hD hl hS
  have hx := X.1.1
  have hb := X.1.2.1
  have hl : lv_has ls 3 [(0, .ref a_t)] := hl
  have inX6 : ∀ w ∈ u_ws RX6 TX6 4, w ∈ wsX6_deliveredAndBack := fun _ h => List.mem_cons_of_mem _ (List.mem_append_right _ h)
  have L11 : ∀ (K : Int32 → Int32 → (Nat → Int32) → Option (Int32 × (Nat → Int32))) (hKK : ∀ (x1_11 : Int32) (x2_11 : Int32) (v_t_st_11 : Nat → Int32) (H : Heap) (locs : List Loc) (ls : Array Slot), K x1_11 x2_11 v_t_st_11 = some q → va_P D vwCl (wo_X6_deliveredAndBack cI cZ a_t a_t_st a_t_be a_t_so a_t_sv v_t_st_11 v_t_be) H → va_D A (wo_X6_deliveredAndBack cI cZ a_t a_t_st a_t_be a_t_so a_t_sv v_t_st_11 v_t_be) → va_S A s.heap H locs → lv_has ls 3 [(1, .int x1_11)] → W p l e rm_X6_deliveredAndBack s m ([.ref a_t] : List Value).toArray below meth c H locs 0 0 (MQ below (QI D (wo_X6_deliveredAndBack cI cZ a_t a_t_st a_t_be a_t_so a_t_sv q.2 v_t_be) q.1 A) ([.ref a_t] : List Value).toArray s 0 0 A) (F0 m 36 ls [])) (k : Nat) (x1_11 : Int32) (x2_11 : Int32) (v_t_st_11 : Nat → Int32) (H : Heap) (locs : List Loc) (ls : Array Slot), fX6_deliveredAndBack_L11 v_t_be K k x1_11 x2_11 v_t_st_11 = some q → va_P D vwCl (wo_X6_deliveredAndBack cI cZ a_t a_t_st a_t_be a_t_so a_t_sv v_t_st_11 v_t_be) H → va_D A (wo_X6_deliveredAndBack cI cZ a_t a_t_st a_t_be a_t_so a_t_sv v_t_st_11 v_t_be) → va_S A s.heap H locs → lv_has ls 3 [(0, .ref a_t), (1, .int x1_11), (2, .int x2_11)] → W p l e rm_X6_deliveredAndBack s m ([.ref a_t] : List Value).toArray below meth c H locs 0 0 (MQ below (QI D (wo_X6_deliveredAndBack cI cZ a_t a_t_st a_t_be a_t_so a_t_sv q.2 v_t_be) q.1 A) ([.ref a_t] : List Value).toArray s 0 0 A) (F0 m 11 ls []) := by
    intro K hKK k
    induction k with
    | zero => intro x1_11 x2_11 v_t_st_11 H locs ls hf; rw [fX6_deliveredAndBack_L11] at hf; cases hf
    | succ k ih =>
      intro x1_11 x2_11 v_t_st_11 H locs ls hf hP hD hS hl
      rw [fX6_deliveredAndBack_L11] at hf
      refine lv_iload_n hx hb dX6_deliveredAndBack_11 rfl (lv_at hl 2 rfl) ?_
      refine lv_sipush hx hb dX6_deliveredAndBack_12 sp_164 ?_
      refine lv_icmp_ge (tgt := 36) hx hb dX6_deliveredAndBack_15 (by decide) (fun hc => ?_) (fun hc => ?_)
      · replace hf := ifp hc hf
        exact hKK _ _ _ _ _ ls hf hP hD hS (lv_sub hl [1] rfl)
      · replace hf := ifn hc hf
        refine lv_aload_n hx hb dX6_deliveredAndBack_18 rfl (lv_at hl 0 rfl) ?_
        refine getO X hP inX6 0 rfl rfl 0 (by decide) (List.mem_of_getElem? (i := 1) rfl) rfl dX6_deliveredAndBack_19 ?_
        refine lv_iload_n hx hb dX6_deliveredAndBack_22 rfl (lv_at hl 2 rfl) ?_
        refine lv_aload_n hx hb dX6_deliveredAndBack_23 rfl (lv_at hl 0 rfl) ?_
        refine getO X hP inX6 0 rfl rfl 1 (by decide) (List.mem_of_getElem? (i := 2) rfl) rfl dX6_deliveredAndBack_24 ?_
        refine lv_iload_n hx hb dX6_deliveredAndBack_27 rfl (lv_at hl 2 rfl) ?_
        obtain ⟨g28, hf⟩ := grd hf
        refine aldI X hP 2 rfl g28 rfl dX6_deliveredAndBack_28 ?_
        obtain ⟨g29, hf⟩ := grd hf
        refine astI X hP hD hS 1 rfl g29 rfl dX6_deliveredAndBack_29 (wo_X6_deliveredAndBack cI cZ a_t a_t_st a_t_be a_t_so a_t_sv (upd v_t_st_11 (x2_11).toNatClampNeg (v_t_be (x2_11).toNatClampNeg)) v_t_be) rfl (fun H locs hP hD hS => ?_)
        refine lv_iinc (v := (x2_11 + nI 1)) (lv' := [(2, .int (x2_11 + nI 1)), (0, .ref a_t), (1, .int x1_11)]) hx hb dX6_deliveredAndBack_30 hl (k := 2) rfl (inc_1 _) (by decide) rfl (fun ls hl => ?_)
        refine lv_goto (tgt := 11) hx hb dX6_deliveredAndBack_33 (by decide) ?_
        exact ih _ _ _ _ _ ls hf hP hD hS (lv_sub hl [1, 2, 0] rfl)
  unfold fX6_deliveredAndBack at hf
  refine lv_aload_n hx hb dX6_deliveredAndBack_0 rfl (lv_at hl 0 rfl) ?_
  obtain ⟨q1, e1, hf⟩ := bnd hf
  refine callVV X (k_X6_control l D cI cZ a_t a_t_st a_t_be a_t_so a_t_sv  v_t_st  q1 e1) (cwV 0 X.1.2.2.2.2 gX6_deliveredAndBack_X6_control rfl rfl rfl kd_X6_control ⟨Nat.le_of_ble_eq_true rfl, Nat.le_of_ble_eq_true rfl⟩) hP hD hS hl.1 0 6 rfl rfl [0, 1] (by decide) (wo_X6_deliveredAndBack cI cZ a_t a_t_st a_t_be a_t_so a_t_sv q1 v_t_be) rfl rfl rfl rfl rfl (rest := []) rfl (Nat.le_of_ble_eq_true rfl) dX6_deliveredAndBack_1 ⟨Nat.zero_le _, Nat.zero_le _⟩ (fun H locs hP hD hS => ?_)
  refine lv_aload_n hx hb dX6_deliveredAndBack_4 rfl (lv_at hl 0 rfl) ?_
  obtain ⟨q5, e5, hf⟩ := bnd hf
  refine callVI X (k_X6_deliveredCount l D cI cZ a_t a_t_st a_t_be a_t_so a_t_sv  q1  q5 e5) (cwV 0 X.1.2.2.2.2 gX6_deliveredAndBack_X6_deliveredCount rfl rfl rfl kd_X6_deliveredCount ⟨Nat.le_of_ble_eq_true rfl, Nat.le_of_ble_eq_true rfl⟩) hP hD hS hl.1 0 6 rfl rfl [0, 1] (by decide) (wo_X6_deliveredAndBack cI cZ a_t a_t_st a_t_be a_t_so a_t_sv q1 v_t_be) rfl rfl rfl rfl rfl (rest := []) rfl (Nat.le_of_ble_eq_true rfl) dX6_deliveredAndBack_5 ⟨Nat.zero_le _, Nat.zero_le _⟩ (fun H locs hP hD hS => ?_)
  refine lv_istore_n (lv' := [(1, .int q5), (0, .ref a_t)]) hx hb dX6_deliveredAndBack_8 rfl hl (by decide) rfl (fun ls hl => ?_)
  refine lv_iconst hx hb dX6_deliveredAndBack_9 ic_0 ?_
  refine lv_istore_n (lv' := [(2, .int 0), (1, .int q5), (0, .ref a_t)]) hx hb dX6_deliveredAndBack_10 rfl hl (by decide) rfl (fun ls hl => ?_)
  refine L11 _ (fun x1_11 x2_11 v_t_st_11 H locs ls hf hP hD hS hl => ?_) FU _ _ _ _ _ ls hf hP hD hS (lv_sub hl [2, 1, 0] rfl)
  refine lv_iload_n hx hb dX6_deliveredAndBack_36 rfl (lv_at hl 0 rfl) ?_
  obtain rfl := Option.some.inj hf
  exact retI X hS hP rfl dX6_deliveredAndBack_37

abbrev wo_X6_ifCut (cI cZ : ClassId) (a_t a_t_st a_t_be a_t_so a_t_sv : Nat) (v_t_st : Nat → Int32) (v_t_be : Nat → Int32) : va_W := [(a_t, oX6 a_t_st a_t_be a_t_so a_t_sv), (a_t_st, rI cI 164 v_t_st), (a_t_be, rI cI 164 v_t_be)]
def fX6_ifCut (v_t_st : Nat → Int32) (v_t_be : Nat → Int32) (p1 : Int32) : Option (Int32 × (Nat → Int32) × (Nat → Int32)) := ((fX6_keep v_t_st v_t_be).bind (fun q1 => ((fX6_at p1 0).bind (fun q10 => (if (q10 < 0 ∨ 164 ≤ (q10).toNatClampNeg) then none else ((fX6_at p1 (nI 1)).bind (fun q21 => (if (q21 < 0 ∨ 164 ≤ (q21).toNatClampNeg) then none else ((fX6_deliveredAndBack (upd (upd v_t_st (q10).toNatClampNeg (nI 1)) (q21).toNatClampNeg (nI 1)) q1).bind (fun q27 => (some (q27.1, q27.2, q1))))))))))))
theorem kd_X6_ifCut : yX6_ifCut.cls = RX6 ∧ yX6_ifCut.cls ≠ "java/lang/invoke/MethodHandle" ∧ yX6_ifCut.cls ≠ "java/lang/invoke/VarHandle" ∧ (parseMethodDescriptor yX6_ifCut.desc).map (fun d => d.parameters.length) = some 1 := by decide +kernel
def rm_X6_ifCut : Room := { frames := 10, cells := 0, slots := 0, locals := 223 }
set_option maxHeartbeats 4000000 in
set_option maxRecDepth 100000 in
theorem k_X6_ifCut (l : Launch) (D : va_G) (cI cZ : ClassId) (a_t a_t_st a_t_be a_t_so a_t_sv : Nat) (v_t_st : Nat → Int32) (v_t_be : Nat → Int32) (p1 : Int32) (q : Int32 × (Nat → Int32) × (Nat → Int32)) (hf : fX6_ifCut v_t_st v_t_be p1 = some q) : CI l D cI cZ yX6_ifCut wsX6_ifCut rm_X6_ifCut [.ref a_t, .int p1] (wo_X6_ifCut cI cZ a_t a_t_st a_t_be a_t_so a_t_sv v_t_st v_t_be) (wo_X6_ifCut cI cZ a_t a_t_st a_t_be a_t_so a_t_sv q.2.1 q.2.2) q.1 := by
  refine CI.mk (cc := cX6_ifCut) (maxL := 2) (by decide) rfl (Nat.le_of_ble_eq_true rfl) ?_
  intro p e s m below meth c ls A X hP hD hl hS
  have hx := X.1.1
  have hb := X.1.2.1
  have hl : lv_has ls 2 [(0, .ref a_t), (1, .int p1)] := hl
  have inX6 : ∀ w ∈ u_ws RX6 TX6 4, w ∈ wsX6_ifCut := fun _ h => List.mem_cons_of_mem _ (List.mem_append_right _ h)
  unfold fX6_ifCut at hf
  refine lv_aload_n hx hb dX6_ifCut_0 rfl (lv_at hl 0 rfl) ?_
  obtain ⟨q1, e1, hf⟩ := bnd hf
  refine callVV X (k_X6_keep l D cI cZ a_t a_t_st a_t_be a_t_so a_t_sv  v_t_st v_t_be  q1 e1) (cwV 0 X.1.2.2.2.2 gX6_ifCut_X6_keep rfl rfl rfl kd_X6_keep ⟨Nat.le_of_ble_eq_true rfl, Nat.le_of_ble_eq_true rfl⟩) hP hD hS hl.1 0 6 rfl rfl [0, 1, 2] (by decide) (wo_X6_ifCut cI cZ a_t a_t_st a_t_be a_t_so a_t_sv v_t_st q1) rfl rfl rfl rfl rfl (rest := []) rfl (Nat.le_of_ble_eq_true rfl) dX6_ifCut_1 ⟨Nat.zero_le _, Nat.zero_le _⟩ (fun H locs hP hD hS => ?_)
  refine lv_aload_n hx hb dX6_ifCut_4 rfl (lv_at hl 0 rfl) ?_
  refine getO X hP inX6 0 rfl rfl 0 (by decide) (List.mem_of_getElem? (i := 1) rfl) rfl dX6_ifCut_5 ?_
  refine lv_iload_n hx hb dX6_ifCut_8 rfl (lv_at hl 1 rfl) ?_
  refine lv_iconst hx hb dX6_ifCut_9 ic_0 ?_
  obtain ⟨q10, e10, hf⟩ := bnd hf
  refine callSI X (k_X6_at l D cI cZ    p1 0 q10 e10) (va_cwS 2 X.1.2.2.2.2 gX6_ifCut_X6_at rfl rfl rfl kd_X6_at ⟨Nat.le_of_ble_eq_true rfl, Nat.le_of_ble_eq_true rfl⟩) hP hD hS hl.1 [] (by decide) (wo_X6_ifCut cI cZ a_t a_t_st a_t_be a_t_so a_t_sv v_t_st q1) rfl rfl rfl rfl rfl (rest := [.ref a_t_st]) rfl (Nat.le_of_ble_eq_true rfl) dX6_ifCut_10 ⟨Nat.zero_le _, Nat.zero_le _⟩ (fun H locs hP hD hS => ?_)
  refine lv_iconst hx hb dX6_ifCut_13 ic_1 ?_
  obtain ⟨g14, hf⟩ := grd hf
  refine astI X hP hD hS 1 rfl g14 rfl dX6_ifCut_14 (wo_X6_ifCut cI cZ a_t a_t_st a_t_be a_t_so a_t_sv (upd v_t_st (q10).toNatClampNeg (nI 1)) q1) rfl (fun H locs hP hD hS => ?_)
  refine lv_aload_n hx hb dX6_ifCut_15 rfl (lv_at hl 0 rfl) ?_
  refine getO X hP inX6 0 rfl rfl 0 (by decide) (List.mem_of_getElem? (i := 1) rfl) rfl dX6_ifCut_16 ?_
  refine lv_iload_n hx hb dX6_ifCut_19 rfl (lv_at hl 1 rfl) ?_
  refine lv_iconst hx hb dX6_ifCut_20 ic_1 ?_
  obtain ⟨q21, e21, hf⟩ := bnd hf
  refine callSI X (k_X6_at l D cI cZ    p1 (nI 1) q21 e21) (va_cwS 2 X.1.2.2.2.2 gX6_ifCut_X6_at rfl rfl rfl kd_X6_at ⟨Nat.le_of_ble_eq_true rfl, Nat.le_of_ble_eq_true rfl⟩) hP hD hS hl.1 [] (by decide) (wo_X6_ifCut cI cZ a_t a_t_st a_t_be a_t_so a_t_sv (upd v_t_st (q10).toNatClampNeg (nI 1)) q1) rfl rfl rfl rfl rfl (rest := [.ref a_t_st]) rfl (Nat.le_of_ble_eq_true rfl) dX6_ifCut_21 ⟨Nat.zero_le _, Nat.zero_le _⟩ (fun H locs hP hD hS => ?_)
  refine lv_iconst hx hb dX6_ifCut_24 ic_1 ?_
  obtain ⟨g25, hf⟩ := grd hf
  refine astI X hP hD hS 1 rfl g25 rfl dX6_ifCut_25 (wo_X6_ifCut cI cZ a_t a_t_st a_t_be a_t_so a_t_sv (upd (upd v_t_st (q10).toNatClampNeg (nI 1)) (q21).toNatClampNeg (nI 1)) q1) rfl (fun H locs hP hD hS => ?_)
  refine lv_aload_n hx hb dX6_ifCut_26 rfl (lv_at hl 0 rfl) ?_
  obtain ⟨q27, e27, hf⟩ := bnd hf
  refine callVI X (k_X6_deliveredAndBack l D cI cZ a_t a_t_st a_t_be a_t_so a_t_sv  (upd (upd v_t_st (q10).toNatClampNeg (nI 1)) (q21).toNatClampNeg (nI 1)) q1  q27 e27) (cwV 0 X.1.2.2.2.2 gX6_ifCut_X6_deliveredAndBack rfl rfl rfl kd_X6_deliveredAndBack ⟨Nat.le_of_ble_eq_true rfl, Nat.le_of_ble_eq_true rfl⟩) hP hD hS hl.1 0 6 rfl rfl [0, 1, 2] (by decide) (wo_X6_ifCut cI cZ a_t a_t_st a_t_be a_t_so a_t_sv q27.2 q1) rfl rfl rfl rfl rfl (rest := []) rfl (Nat.le_of_ble_eq_true rfl) dX6_ifCut_27 ⟨Nat.zero_le _, Nat.zero_le _⟩ (fun H locs hP hD hS => ?_)
  obtain rfl := Option.some.inj hf
  exact retI X hS hP rfl dX6_ifCut_30

abbrev wo_X6_deliveredIfCut (cI cZ : ClassId) (a_t a_t_st a_t_be a_t_so a_t_sv : Nat) (v_t_st : Nat → Int32) (v_t_be : Nat → Int32) : va_W := [(a_t, oX6 a_t_st a_t_be a_t_so a_t_sv), (a_t_st, rI cI 164 v_t_st), (a_t_be, rI cI 164 v_t_be)]
def fX6_deliveredIfCut (v_t_st : Nat → Int32) (v_t_be : Nat → Int32) (p1 : Int32) : Option (Int32 × (Nat → Int32) × (Nat → Int32)) := ((fX6_isSpan v_t_st p1).bind (fun q2 => (if q2 = true then ((fX6_ifCut v_t_st v_t_be p1).bind (fun q10 => (some (q10.1, q10.2.1, q10.2.2)))) else (some ((-2), v_t_st, v_t_be)))))
theorem kd_X6_deliveredIfCut : yX6_deliveredIfCut.cls = RX6 ∧ yX6_deliveredIfCut.cls ≠ "java/lang/invoke/MethodHandle" ∧ yX6_deliveredIfCut.cls ≠ "java/lang/invoke/VarHandle" ∧ (parseMethodDescriptor yX6_deliveredIfCut.desc).map (fun d => d.parameters.length) = some 1 := by decide +kernel
def rm_X6_deliveredIfCut : Room := { frames := 11, cells := 0, slots := 0, locals := 244 }
set_option maxHeartbeats 4000000 in
set_option maxRecDepth 100000 in
theorem k_X6_deliveredIfCut (l : Launch) (D : va_G) (cI cZ : ClassId) (a_t a_t_st a_t_be a_t_so a_t_sv : Nat) (v_t_st : Nat → Int32) (v_t_be : Nat → Int32) (p1 : Int32) (q : Int32 × (Nat → Int32) × (Nat → Int32)) (hf : fX6_deliveredIfCut v_t_st v_t_be p1 = some q) : CI l D cI cZ yX6_deliveredIfCut wsX6_deliveredIfCut rm_X6_deliveredIfCut [.ref a_t, .int p1] (wo_X6_deliveredIfCut cI cZ a_t a_t_st a_t_be a_t_so a_t_sv v_t_st v_t_be) (wo_X6_deliveredIfCut cI cZ a_t a_t_st a_t_be a_t_so a_t_sv q.2.1 q.2.2) q.1 := by
  refine CI.mk (cc := cX6_deliveredIfCut) (maxL := 2) (by decide) rfl (Nat.le_of_ble_eq_true rfl) ?_
  intro p e s m below meth c ls A X hP hD hl hS
  have hx := X.1.1
  have hb := X.1.2.1
  have hl : lv_has ls 2 [(0, .ref a_t), (1, .int p1)] := hl
  unfold fX6_deliveredIfCut at hf
  refine lv_aload_n hx hb dX6_deliveredIfCut_0 rfl (lv_at hl 0 rfl) ?_
  refine lv_iload_n hx hb dX6_deliveredIfCut_1 rfl (lv_at hl 1 rfl) ?_
  obtain ⟨q2, e2, hf⟩ := bnd hf
  refine callVI X (k_X6_isSpan l D cI cZ a_t a_t_st a_t_be a_t_so a_t_sv  v_t_st p1 q2 e2) (cwV 1 X.1.2.2.2.2 gX6_deliveredIfCut_X6_isSpan rfl rfl rfl kd_X6_isSpan ⟨Nat.le_of_ble_eq_true rfl, Nat.le_of_ble_eq_true rfl⟩) hP hD hS hl.1 0 6 rfl rfl [0, 1] (by decide) (wo_X6_deliveredIfCut cI cZ a_t a_t_st a_t_be a_t_so a_t_sv v_t_st v_t_be) rfl rfl rfl rfl rfl (rest := []) rfl (Nat.le_of_ble_eq_true rfl) dX6_deliveredIfCut_2 ⟨Nat.zero_le _, Nat.zero_le _⟩ (fun H locs hP hD hS => ?_)
  refine lv_if_eq (tgt := 16) hx hb dX6_deliveredIfCut_5 (by decide) (fun hc => ?_) (fun hc => ?_)
  · replace hf := ifn (b2i_z hc) hf
    refine lv_bipush hx hb dX6_deliveredIfCut_16 bp_m2 ?_
    obtain rfl := Option.some.inj hf
    exact retI X hS hP rfl dX6_deliveredIfCut_18
  · replace hf := ifp (b2i_nz hc) hf
    refine lv_aload_n hx hb dX6_deliveredIfCut_8 rfl (lv_at hl 0 rfl) ?_
    refine lv_iload_n hx hb dX6_deliveredIfCut_9 rfl (lv_at hl 1 rfl) ?_
    obtain ⟨q10, e10, hf⟩ := bnd hf
    refine callVI X (k_X6_ifCut l D cI cZ a_t a_t_st a_t_be a_t_so a_t_sv  v_t_st v_t_be p1 q10 e10) (cwV 1 X.1.2.2.2.2 gX6_deliveredIfCut_X6_ifCut rfl rfl rfl kd_X6_ifCut ⟨Nat.le_of_ble_eq_true rfl, Nat.le_of_ble_eq_true rfl⟩) hP hD hS hl.1 0 6 rfl rfl [0, 1, 2] (by decide) (wo_X6_deliveredIfCut cI cZ a_t a_t_st a_t_be a_t_so a_t_sv q10.2.1 q10.2.2) rfl rfl rfl rfl rfl (rest := []) rfl (Nat.le_of_ble_eq_true rfl) dX6_deliveredIfCut_10 ⟨Nat.zero_le _, Nat.zero_le _⟩ (fun H locs hP hD hS => ?_)
    refine lv_goto (tgt := 18) hx hb dX6_deliveredIfCut_13 (by decide) ?_
    obtain rfl := Option.some.inj hf
    exact retI X hS hP rfl dX6_deliveredIfCut_18

abbrev wo_X6_deliveredIfNodeFails (cI cZ : ClassId) (a_t a_t_st a_t_be a_t_so a_t_sv : Nat) (v_t_st : Nat → Int32) (v_t_be : Nat → Int32) : va_W := [(a_t, oX6 a_t_st a_t_be a_t_so a_t_sv), (a_t_st, rI cI 164 v_t_st), (a_t_be, rI cI 164 v_t_be)]
def fX6_deliveredIfNodeFails (v_t_st : Nat → Int32) (v_t_be : Nat → Int32) (p1 : Int32) : Option (Int32 × (Nat → Int32) × (Nat → Int32)) := ((fX6_isNode v_t_st p1).bind (fun q2 => (if q2 = true then ((fX6_keep v_t_st v_t_be).bind (fun q11 => (if (((nI 4) + p1) < 0 ∨ 164 ≤ (((nI 4) + p1)).toNatClampNeg) then none else ((fX6_deliveredAndBack (upd v_t_st (((nI 4) + p1)).toNatClampNeg (nI 1)) q11).bind (fun q24 => (some (q24.1, q24.2, q11))))))) else (some ((-1), v_t_st, v_t_be)))))
theorem kd_X6_deliveredIfNodeFails : yX6_deliveredIfNodeFails.cls = RX6 ∧ yX6_deliveredIfNodeFails.cls ≠ "java/lang/invoke/MethodHandle" ∧ yX6_deliveredIfNodeFails.cls ≠ "java/lang/invoke/VarHandle" ∧ (parseMethodDescriptor yX6_deliveredIfNodeFails.desc).map (fun d => d.parameters.length) = some 1 := by decide +kernel
def rm_X6_deliveredIfNodeFails : Room := { frames := 10, cells := 0, slots := 0, locals := 223 }
set_option maxHeartbeats 4000000 in
set_option maxRecDepth 100000 in
theorem k_X6_deliveredIfNodeFails (l : Launch) (D : va_G) (cI cZ : ClassId) (a_t a_t_st a_t_be a_t_so a_t_sv : Nat) (v_t_st : Nat → Int32) (v_t_be : Nat → Int32) (p1 : Int32) (q : Int32 × (Nat → Int32) × (Nat → Int32)) (hf : fX6_deliveredIfNodeFails v_t_st v_t_be p1 = some q) : CI l D cI cZ yX6_deliveredIfNodeFails wsX6_deliveredIfNodeFails rm_X6_deliveredIfNodeFails [.ref a_t, .int p1] (wo_X6_deliveredIfNodeFails cI cZ a_t a_t_st a_t_be a_t_so a_t_sv v_t_st v_t_be) (wo_X6_deliveredIfNodeFails cI cZ a_t a_t_st a_t_be a_t_so a_t_sv q.2.1 q.2.2) q.1 := by
  refine CI.mk (cc := cX6_deliveredIfNodeFails) (maxL := 2) (by decide) rfl (Nat.le_of_ble_eq_true rfl) ?_
  intro p e s m below meth c ls A X hP hD hl hS
  have hx := X.1.1
  have hb := X.1.2.1
  have hl : lv_has ls 2 [(0, .ref a_t), (1, .int p1)] := hl
  have inX6 : ∀ w ∈ u_ws RX6 TX6 4, w ∈ wsX6_deliveredIfNodeFails := fun _ h => List.mem_cons_of_mem _ (List.mem_append_right _ h)
  unfold fX6_deliveredIfNodeFails at hf
  refine lv_aload_n hx hb dX6_deliveredIfNodeFails_0 rfl (lv_at hl 0 rfl) ?_
  refine lv_iload_n hx hb dX6_deliveredIfNodeFails_1 rfl (lv_at hl 1 rfl) ?_
  obtain ⟨q2, e2, hf⟩ := bnd hf
  refine callVI X (k_X6_isNode l D cI cZ a_t a_t_st a_t_be a_t_so a_t_sv  v_t_st p1 q2 e2) (cwV 1 X.1.2.2.2.2 gX6_deliveredIfNodeFails_X6_isNode rfl rfl rfl kd_X6_isNode ⟨Nat.le_of_ble_eq_true rfl, Nat.le_of_ble_eq_true rfl⟩) hP hD hS hl.1 0 6 rfl rfl [0, 1] (by decide) (wo_X6_deliveredIfNodeFails cI cZ a_t a_t_st a_t_be a_t_so a_t_sv v_t_st v_t_be) rfl rfl rfl rfl rfl (rest := []) rfl (Nat.le_of_ble_eq_true rfl) dX6_deliveredIfNodeFails_2 ⟨Nat.zero_le _, Nat.zero_le _⟩ (fun H locs hP hD hS => ?_)
  refine lv_if_ne (tgt := 10) hx hb dX6_deliveredIfNodeFails_5 (by decide) (fun hc => ?_) (fun hc => ?_)
  · replace hf := ifp (b2i_nz hc) hf
    refine lv_aload_n hx hb dX6_deliveredIfNodeFails_10 rfl (lv_at hl 0 rfl) ?_
    obtain ⟨q11, e11, hf⟩ := bnd hf
    refine callVV X (k_X6_keep l D cI cZ a_t a_t_st a_t_be a_t_so a_t_sv  v_t_st v_t_be  q11 e11) (cwV 0 X.1.2.2.2.2 gX6_deliveredIfNodeFails_X6_keep rfl rfl rfl kd_X6_keep ⟨Nat.le_of_ble_eq_true rfl, Nat.le_of_ble_eq_true rfl⟩) hP hD hS hl.1 0 6 rfl rfl [0, 1, 2] (by decide) (wo_X6_deliveredIfNodeFails cI cZ a_t a_t_st a_t_be a_t_so a_t_sv v_t_st q11) rfl rfl rfl rfl rfl (rest := []) rfl (Nat.le_of_ble_eq_true rfl) dX6_deliveredIfNodeFails_11 ⟨Nat.zero_le _, Nat.zero_le _⟩ (fun H locs hP hD hS => ?_)
    refine lv_aload_n hx hb dX6_deliveredIfNodeFails_14 rfl (lv_at hl 0 rfl) ?_
    refine getO X hP inX6 0 rfl rfl 0 (by decide) (List.mem_of_getElem? (i := 1) rfl) rfl dX6_deliveredIfNodeFails_15 ?_
    refine lv_iconst hx hb dX6_deliveredIfNodeFails_18 ic_4 ?_
    refine lv_iload_n hx hb dX6_deliveredIfNodeFails_19 rfl (lv_at hl 1 rfl) ?_
    refine lv_iadd hx hb dX6_deliveredIfNodeFails_20 ?_
    refine lv_iconst hx hb dX6_deliveredIfNodeFails_21 ic_1 ?_
    obtain ⟨g22, hf⟩ := grd hf
    refine astI X hP hD hS 1 rfl g22 rfl dX6_deliveredIfNodeFails_22 (wo_X6_deliveredIfNodeFails cI cZ a_t a_t_st a_t_be a_t_so a_t_sv (upd v_t_st (((nI 4) + p1)).toNatClampNeg (nI 1)) q11) rfl (fun H locs hP hD hS => ?_)
    refine lv_aload_n hx hb dX6_deliveredIfNodeFails_23 rfl (lv_at hl 0 rfl) ?_
    obtain ⟨q24, e24, hf⟩ := bnd hf
    refine callVI X (k_X6_deliveredAndBack l D cI cZ a_t a_t_st a_t_be a_t_so a_t_sv  (upd v_t_st (((nI 4) + p1)).toNatClampNeg (nI 1)) q11  q24 e24) (cwV 0 X.1.2.2.2.2 gX6_deliveredIfNodeFails_X6_deliveredAndBack rfl rfl rfl kd_X6_deliveredAndBack ⟨Nat.le_of_ble_eq_true rfl, Nat.le_of_ble_eq_true rfl⟩) hP hD hS hl.1 0 6 rfl rfl [0, 1, 2] (by decide) (wo_X6_deliveredIfNodeFails cI cZ a_t a_t_st a_t_be a_t_so a_t_sv q24.2 q11) rfl rfl rfl rfl rfl (rest := []) rfl (Nat.le_of_ble_eq_true rfl) dX6_deliveredIfNodeFails_24 ⟨Nat.zero_le _, Nat.zero_le _⟩ (fun H locs hP hD hS => ?_)
    obtain rfl := Option.some.inj hf
    exact retI X hS hP rfl dX6_deliveredIfNodeFails_27
  · replace hf := ifn (b2i_z hc) hf
    refine lv_iconst hx hb dX6_deliveredIfNodeFails_8 ic_m1 ?_
    obtain rfl := Option.some.inj hf
    exact retI X hS hP rfl dX6_deliveredIfNodeFails_9

abbrev wo_X6_worstCut (cI cZ : ClassId) (a_t a_t_st a_t_be a_t_so a_t_sv : Nat) (v_t_st : Nat → Int32) (v_t_be : Nat → Int32) : va_W := [(a_t, oX6 a_t_st a_t_be a_t_so a_t_sv), (a_t_st, rI cI 164 v_t_st), (a_t_be, rI cI 164 v_t_be)]
def fX6_worstCut_L10  (K : Int32 → Int32 → Int32 → (Nat → Int32) → (Nat → Int32) → Option (Int32 × (Nat → Int32) × (Nat → Int32))) : Nat → Int32 → Int32 → Int32 → (Nat → Int32) → (Nat → Int32) → Option (Int32 × (Nat → Int32) × (Nat → Int32))
  | 0, _, _, _, _, _ => none
  | k + 1, x1_10, x2_10, x3_10, v_t_st_10, v_t_be_10 => (if (v_t_st_10 0) ≤ x3_10 then (K x1_10 x2_10 x3_10 v_t_st_10 v_t_be_10) else ((fX6_ifCut v_t_st_10 v_t_be_10 x3_10).bind (fun q22 => ((if x2_10 ≤ q22.1 then (some x1_10) else (some x3_10)).bind (fun ph38 => (if x2_10 ≤ q22.1 then (fX6_worstCut_L10 K k ph38 x2_10 (x3_10 + nI 1) q22.2.1 q22.2.2) else (fX6_worstCut_L10 K k ph38 q22.1 (x3_10 + nI 1) q22.2.1 q22.2.2)))))))
def fX6_worstCut (v_t_st : Nat → Int32) (v_t_be : Nat → Int32) : Option (Int32 × (Nat → Int32) × (Nat → Int32)) := ((fX6_ifCut v_t_st v_t_be 0).bind (fun q4 => (fX6_worstCut_L10  (fun x1_10 x2_10 x3_10 v_t_st_10 v_t_be_10 => (some (x1_10, v_t_st_10, v_t_be_10))) FU 0 q4.1 (nI 1) q4.2.1 q4.2.2)))
theorem kd_X6_worstCut : yX6_worstCut.cls = RX6 ∧ yX6_worstCut.cls ≠ "java/lang/invoke/MethodHandle" ∧ yX6_worstCut.cls ≠ "java/lang/invoke/VarHandle" ∧ (parseMethodDescriptor yX6_worstCut.desc).map (fun d => d.parameters.length) = some 0 := by decide +kernel
def rm_X6_worstCut : Room := { frames := 11, cells := 0, slots := 0, locals := 244 }
set_option maxHeartbeats 4000000 in
set_option maxRecDepth 100000 in
theorem k_X6_worstCut (l : Launch) (D : va_G) (cI cZ : ClassId) (a_t a_t_st a_t_be a_t_so a_t_sv : Nat) (v_t_st : Nat → Int32) (v_t_be : Nat → Int32) (q : Int32 × (Nat → Int32) × (Nat → Int32)) (hf : fX6_worstCut v_t_st v_t_be = some q) : CI l D cI cZ yX6_worstCut wsX6_worstCut rm_X6_worstCut [.ref a_t] (wo_X6_worstCut cI cZ a_t a_t_st a_t_be a_t_so a_t_sv v_t_st v_t_be) (wo_X6_worstCut cI cZ a_t a_t_st a_t_be a_t_so a_t_sv q.2.1 q.2.2) q.1 := by
  refine CI.mk (cc := cX6_worstCut) (maxL := 5) (by decide) rfl (Nat.le_of_ble_eq_true rfl) ?_
  intro p e s m below meth c ls A X hP hD hl hS
  have hx := X.1.1
  have hb := X.1.2.1
  have hl : lv_has ls 5 [(0, .ref a_t)] := hl
  have inX6 : ∀ w ∈ u_ws RX6 TX6 4, w ∈ wsX6_worstCut := fun _ h => List.mem_cons_of_mem _ (List.mem_append_right _ h)
  have L10 : ∀ (K : Int32 → Int32 → Int32 → (Nat → Int32) → (Nat → Int32) → Option (Int32 × (Nat → Int32) × (Nat → Int32))) (hKK : ∀ (x1_10 : Int32) (x2_10 : Int32) (x3_10 : Int32) (v_t_st_10 : Nat → Int32) (v_t_be_10 : Nat → Int32) (H : Heap) (locs : List Loc) (ls : Array Slot), K x1_10 x2_10 x3_10 v_t_st_10 v_t_be_10 = some q → va_P D vwCl (wo_X6_worstCut cI cZ a_t a_t_st a_t_be a_t_so a_t_sv v_t_st_10 v_t_be_10) H → va_D A (wo_X6_worstCut cI cZ a_t a_t_st a_t_be a_t_so a_t_sv v_t_st_10 v_t_be_10) → va_S A s.heap H locs → lv_has ls 5 [(1, .int x1_10)] → W p l e rm_X6_worstCut s m ([.ref a_t] : List Value).toArray below meth c H locs 0 0 (MQ below (QI D (wo_X6_worstCut cI cZ a_t a_t_st a_t_be a_t_so a_t_sv q.2.1 q.2.2) q.1 A) ([.ref a_t] : List Value).toArray s 0 0 A) (F0 m 58 ls [])) (k : Nat) (x1_10 : Int32) (x2_10 : Int32) (x3_10 : Int32) (v_t_st_10 : Nat → Int32) (v_t_be_10 : Nat → Int32) (H : Heap) (locs : List Loc) (ls : Array Slot), fX6_worstCut_L10 K k x1_10 x2_10 x3_10 v_t_st_10 v_t_be_10 = some q → va_P D vwCl (wo_X6_worstCut cI cZ a_t a_t_st a_t_be a_t_so a_t_sv v_t_st_10 v_t_be_10) H → va_D A (wo_X6_worstCut cI cZ a_t a_t_st a_t_be a_t_so a_t_sv v_t_st_10 v_t_be_10) → va_S A s.heap H locs → lv_has ls 5 [(0, .ref a_t), (1, .int x1_10), (2, .int x2_10), (3, .int x3_10)] → W p l e rm_X6_worstCut s m ([.ref a_t] : List Value).toArray below meth c H locs 0 0 (MQ below (QI D (wo_X6_worstCut cI cZ a_t a_t_st a_t_be a_t_so a_t_sv q.2.1 q.2.2) q.1 A) ([.ref a_t] : List Value).toArray s 0 0 A) (F0 m 10 ls []) := by
    intro K hKK k
    induction k with
    | zero => intro x1_10 x2_10 x3_10 v_t_st_10 v_t_be_10 H locs ls hf; rw [fX6_worstCut_L10] at hf; cases hf
    | succ k ih =>
      intro x1_10 x2_10 x3_10 v_t_st_10 v_t_be_10 H locs ls hf hP hD hS hl
      rw [fX6_worstCut_L10] at hf
      refine lv_iload_n hx hb dX6_worstCut_10 rfl (lv_at hl 3 rfl) ?_
      refine lv_aload_n hx hb dX6_worstCut_11 rfl (lv_at hl 0 rfl) ?_
      refine getO X hP inX6 0 rfl rfl 0 (by decide) (List.mem_of_getElem? (i := 1) rfl) rfl dX6_worstCut_12 ?_
      refine lv_iconst hx hb dX6_worstCut_15 ic_0 ?_
      refine aldI X hP 1 rfl (vin0 (by decide) (by decide)) (j := 0) sb_cl0 dX6_worstCut_16 ?_
      refine lv_icmp_ge (tgt := 58) hx hb dX6_worstCut_17 (by decide) (fun hc => ?_) (fun hc => ?_)
      · replace hf := ifp hc hf
        exact hKK _ _ _ _ _ _ _ ls hf hP hD hS (lv_sub hl [1] rfl)
      · replace hf := ifn hc hf
        refine lv_aload_n hx hb dX6_worstCut_20 rfl (lv_at hl 0 rfl) ?_
        refine lv_iload_n hx hb dX6_worstCut_21 rfl (lv_at hl 3 rfl) ?_
        obtain ⟨q22, e22, hf⟩ := bnd hf
        refine callVI X (k_X6_ifCut l D cI cZ a_t a_t_st a_t_be a_t_so a_t_sv  v_t_st_10 v_t_be_10 x3_10 q22 e22) (cwV 1 X.1.2.2.2.2 gX6_worstCut_X6_ifCut rfl rfl rfl kd_X6_ifCut ⟨Nat.le_of_ble_eq_true rfl, Nat.le_of_ble_eq_true rfl⟩) hP hD hS hl.1 0 6 rfl rfl [0, 1, 2] (by decide) (wo_X6_worstCut cI cZ a_t a_t_st a_t_be a_t_so a_t_sv q22.2.1 q22.2.2) rfl rfl rfl rfl rfl (rest := []) rfl (Nat.le_of_ble_eq_true rfl) dX6_worstCut_22 ⟨Nat.zero_le _, Nat.zero_le _⟩ (fun H locs hP hD hS => ?_)
        refine lv_istore (lv' := [(4, .int q22.1), (0, .ref a_t), (1, .int x1_10), (2, .int x2_10), (3, .int x3_10)]) hx hb dX6_worstCut_25 hl (by decide) rfl (fun ls hl => ?_)
        refine lv_iload hx hb dX6_worstCut_27 (lv_at hl 0 rfl) ?_
        refine lv_iload_n hx hb dX6_worstCut_29 rfl (lv_at hl 3 rfl) ?_
        obtain ⟨ph38, hg, hf⟩ := bnd hf
        have J38 : ∀ (H : Heap) (locs : List Loc) (ls : Array Slot), va_P D vwCl (wo_X6_worstCut cI cZ a_t a_t_st a_t_be a_t_so a_t_sv q22.2.1 q22.2.2) H → va_D A (wo_X6_worstCut cI cZ a_t a_t_st a_t_be a_t_so a_t_sv q22.2.1 q22.2.2) → va_S A s.heap H locs → lv_has ls 5 [(0, .ref a_t), (2, .int x2_10), (3, .int x3_10), (4, .int q22.1)] → W p l e rm_X6_worstCut s m ([.ref a_t] : List Value).toArray below meth c H locs 0 0 (MQ below (QI D (wo_X6_worstCut cI cZ a_t a_t_st a_t_be a_t_so a_t_sv q.2.1 q.2.2) q.1 A) ([.ref a_t] : List Value).toArray s 0 0 A) (F0 m 38 ls [.int ph38]) := by
          clear hg hP hD hS hl
          intro H locs ls hP hD hS hl
          refine lv_istore_n (lv' := [(1, .int ph38), (0, .ref a_t), (2, .int x2_10), (3, .int x3_10), (4, .int q22.1)]) hx hb dX6_worstCut_38 rfl hl (by decide) rfl (fun ls hl => ?_)
          refine lv_iload hx hb dX6_worstCut_39 (lv_at hl 4 rfl) ?_
          refine lv_iload_n hx hb dX6_worstCut_41 rfl (lv_at hl 2 rfl) ?_
          refine lv_icmp_ge (tgt := 50) hx hb dX6_worstCut_42 (by decide) (fun hc => ?_) (fun hc => ?_)
          · replace hf := ifp hc hf
            refine lv_iload_n hx hb dX6_worstCut_50 rfl (lv_at hl 2 rfl) ?_
            refine lv_istore_n (lv' := [(2, .int x2_10), (1, .int ph38), (0, .ref a_t), (3, .int x3_10), (4, .int q22.1)]) hx hb dX6_worstCut_51 rfl hl (by decide) rfl (fun ls hl => ?_)
            refine lv_iinc (v := (x3_10 + nI 1)) (lv' := [(3, .int (x3_10 + nI 1)), (2, .int x2_10), (1, .int ph38), (0, .ref a_t), (4, .int q22.1)]) hx hb dX6_worstCut_52 hl (k := 3) rfl (inc_1 _) (by decide) rfl (fun ls hl => ?_)
            refine lv_goto (tgt := 10) hx hb dX6_worstCut_55 (by decide) ?_
            exact ih _ _ _ _ _ _ _ ls hf hP hD hS (lv_sub hl [3, 2, 1, 0] rfl)
          · replace hf := ifn hc hf
            refine lv_iload hx hb dX6_worstCut_45 (lv_at hl 4 rfl) ?_
            refine lv_goto (tgt := 51) hx hb dX6_worstCut_47 (by decide) ?_
            refine lv_istore_n (lv' := [(2, .int q22.1), (1, .int ph38), (0, .ref a_t), (3, .int x3_10), (4, .int q22.1)]) hx hb dX6_worstCut_51 rfl hl (by decide) rfl (fun ls hl => ?_)
            refine lv_iinc (v := (x3_10 + nI 1)) (lv' := [(3, .int (x3_10 + nI 1)), (2, .int q22.1), (1, .int ph38), (0, .ref a_t), (4, .int q22.1)]) hx hb dX6_worstCut_52 hl (k := 3) rfl (inc_1 _) (by decide) rfl (fun ls hl => ?_)
            refine lv_goto (tgt := 10) hx hb dX6_worstCut_55 (by decide) ?_
            exact ih _ _ _ _ _ _ _ ls hf hP hD hS (lv_sub hl [3, 2, 1, 0] rfl)
        replace hf := hg
        clear hg
        refine lv_icmp_ge (tgt := 37) hx hb dX6_worstCut_30 (by decide) (fun hc => ?_) (fun hc => ?_)
        · replace hf := ifp hc hf
          refine lv_iload_n hx hb dX6_worstCut_37 rfl (lv_at hl 2 rfl) ?_
          obtain rfl := Option.some.inj hf
          exact J38 _ _ ls hP hD hS (lv_sub hl [1, 3, 4, 0] rfl)
        · replace hf := ifn hc hf
          refine lv_iload_n hx hb dX6_worstCut_33 rfl (lv_at hl 4 rfl) ?_
          refine lv_goto (tgt := 38) hx hb dX6_worstCut_34 (by decide) ?_
          obtain rfl := Option.some.inj hf
          exact J38 _ _ ls hP hD hS (lv_sub hl [1, 3, 4, 0] rfl)
  unfold fX6_worstCut at hf
  refine lv_iconst hx hb dX6_worstCut_0 ic_0 ?_
  refine lv_istore_n (lv' := [(1, .int 0), (0, .ref a_t)]) hx hb dX6_worstCut_1 rfl hl (by decide) rfl (fun ls hl => ?_)
  refine lv_aload_n hx hb dX6_worstCut_2 rfl (lv_at hl 1 rfl) ?_
  refine lv_iconst hx hb dX6_worstCut_3 ic_0 ?_
  obtain ⟨q4, e4, hf⟩ := bnd hf
  refine callVI X (k_X6_ifCut l D cI cZ a_t a_t_st a_t_be a_t_so a_t_sv  v_t_st v_t_be 0 q4 e4) (cwV 1 X.1.2.2.2.2 gX6_worstCut_X6_ifCut rfl rfl rfl kd_X6_ifCut ⟨Nat.le_of_ble_eq_true rfl, Nat.le_of_ble_eq_true rfl⟩) hP hD hS hl.1 0 6 rfl rfl [0, 1, 2] (by decide) (wo_X6_worstCut cI cZ a_t a_t_st a_t_be a_t_so a_t_sv q4.2.1 q4.2.2) rfl rfl rfl rfl rfl (rest := []) rfl (Nat.le_of_ble_eq_true rfl) dX6_worstCut_4 ⟨Nat.zero_le _, Nat.zero_le _⟩ (fun H locs hP hD hS => ?_)
  refine lv_istore_n (lv' := [(2, .int q4.1), (1, .int 0), (0, .ref a_t)]) hx hb dX6_worstCut_7 rfl hl (by decide) rfl (fun ls hl => ?_)
  refine lv_iconst hx hb dX6_worstCut_8 ic_1 ?_
  refine lv_istore_n (lv' := [(3, .int (nI 1)), (2, .int q4.1), (1, .int 0), (0, .ref a_t)]) hx hb dX6_worstCut_9 rfl hl (by decide) rfl (fun ls hl => ?_)
  refine L10 _ (fun x1_10 x2_10 x3_10 v_t_st_10 v_t_be_10 H locs ls hf hP hD hS hl => ?_) FU _ _ _ _ _ _ _ ls hf hP hD hS (lv_sub hl [3, 2, 1, 0] rfl)
  refine lv_iload_n hx hb dX6_worstCut_58 rfl (lv_at hl 0 rfl) ?_
  obtain rfl := Option.some.inj hf
  exact retI X hS hP rfl dX6_worstCut_59

abbrev wo_X6_save (cI cZ : ClassId) (a_t a_t_st a_t_be a_t_so a_t_sv : Nat) (v_t_st : Nat → Int32) (v_t_so : Nat → Int32) (v_t_sv : Nat → Int32) : va_W := [(a_t, oX6 a_t_st a_t_be a_t_so a_t_sv), (a_t_st, rI cI 164 v_t_st), (a_t_so, rI cI 328 v_t_so), (a_t_sv, rI cZ 2 v_t_sv)]
def fX6_save_L14 (v_t_st : Nat → Int32) (p1 : Int32) (K : Int32 → (Nat → Int32) → (Nat → Int32) → Option (Int32 × (Nat → Int32) × (Nat → Int32))) : Nat → Int32 → (Nat → Int32) → (Nat → Int32) → Option (Int32 × (Nat → Int32) × (Nat → Int32))
  | 0, _, _, _ => none
  | k + 1, x2_14, v_t_so_14, v_t_sv_14 => (if (nI 164) ≤ x2_14 then (K x2_14 v_t_so_14 v_t_sv_14) else (if (x2_14 < 0 ∨ 164 ≤ (x2_14).toNatClampNeg) then none else (if ((((nI 164) * p1) + x2_14) < 0 ∨ 328 ≤ ((((nI 164) * p1) + x2_14)).toNatClampNeg) then none else (fX6_save_L14 v_t_st p1 K k (x2_14 + nI 1) (upd v_t_so_14 ((((nI 164) * p1) + x2_14)).toNatClampNeg (v_t_st (x2_14).toNatClampNeg)) v_t_sv_14))))
def fX6_save (v_t_st : Nat → Int32) (v_t_so : Nat → Int32) (v_t_sv : Nat → Int32) (p1 : Int32) : Option (Int32 × (Nat → Int32) × (Nat → Int32)) := ((fX6_in p1 0 (nI 1)).bind (fun q3 => (if q3 = true then (fX6_save_L14 v_t_st p1 (fun x2_14 v_t_so_14 v_t_sv_14 => (if (p1 < 0 ∨ 2 ≤ (p1).toNatClampNeg) then none else (some ((v_t_st 3), v_t_so_14, (upd v_t_sv_14 (p1).toNatClampNeg (nI 1)))))) FU 0 v_t_so v_t_sv) else (some ((-4), v_t_so, v_t_sv)))))
theorem kd_X6_save : yX6_save.cls = RX6 ∧ yX6_save.cls ≠ "java/lang/invoke/MethodHandle" ∧ yX6_save.cls ≠ "java/lang/invoke/VarHandle" ∧ (parseMethodDescriptor yX6_save.desc).map (fun d => d.parameters.length) = some 1 := by decide +kernel
def rm_X6_save : Room := { frames := 1, cells := 0, slots := 0, locals := 22 }
set_option maxHeartbeats 4000000 in
set_option maxRecDepth 100000 in
theorem k_X6_save (l : Launch) (D : va_G) (cI cZ : ClassId) (a_t a_t_st a_t_be a_t_so a_t_sv : Nat) (v_t_st : Nat → Int32) (v_t_so : Nat → Int32) (v_t_sv : Nat → Int32) (p1 : Int32) (q : Int32 × (Nat → Int32) × (Nat → Int32)) (hf : fX6_save v_t_st v_t_so v_t_sv p1 = some q) : CI l D cI cZ yX6_save wsX6_save rm_X6_save [.ref a_t, .int p1] (wo_X6_save cI cZ a_t a_t_st a_t_be a_t_so a_t_sv v_t_st v_t_so v_t_sv) (wo_X6_save cI cZ a_t a_t_st a_t_be a_t_so a_t_sv v_t_st q.2.1 q.2.2) q.1 := by
  refine CI.mk (cc := cX6_save) (maxL := 3) (by decide) rfl (Nat.le_of_ble_eq_true rfl) ?_
  intro p e s m below meth c ls A X hP hD hl hS
  have hx := X.1.1
  have hb := X.1.2.1
  have hl : lv_has ls 3 [(0, .ref a_t), (1, .int p1)] := hl
  have inX6 : ∀ w ∈ u_ws RX6 TX6 4, w ∈ wsX6_save := fun _ h => List.mem_cons_of_mem _ (List.mem_append_right _ h)
  have L14 : ∀ (K : Int32 → (Nat → Int32) → (Nat → Int32) → Option (Int32 × (Nat → Int32) × (Nat → Int32))) (hKK : ∀ (x2_14 : Int32) (v_t_so_14 : Nat → Int32) (v_t_sv_14 : Nat → Int32) (H : Heap) (locs : List Loc) (ls : Array Slot), K x2_14 v_t_so_14 v_t_sv_14 = some q → va_P D vwCl (wo_X6_save cI cZ a_t a_t_st a_t_be a_t_so a_t_sv v_t_st v_t_so_14 v_t_sv_14) H → va_D A (wo_X6_save cI cZ a_t a_t_st a_t_be a_t_so a_t_sv v_t_st v_t_so_14 v_t_sv_14) → va_S A s.heap H locs → lv_has ls 3 [(0, .ref a_t), (1, .int p1)] → W p l e rm_X6_save s m ([.ref a_t, .int p1] : List Value).toArray below meth c H locs 0 0 (MQ below (QI D (wo_X6_save cI cZ a_t a_t_st a_t_be a_t_so a_t_sv v_t_st q.2.1 q.2.2) q.1 A) ([.ref a_t, .int p1] : List Value).toArray s 0 0 A) (F0 m 45 ls [])) (k : Nat) (x2_14 : Int32) (v_t_so_14 : Nat → Int32) (v_t_sv_14 : Nat → Int32) (H : Heap) (locs : List Loc) (ls : Array Slot), fX6_save_L14 v_t_st p1 K k x2_14 v_t_so_14 v_t_sv_14 = some q → va_P D vwCl (wo_X6_save cI cZ a_t a_t_st a_t_be a_t_so a_t_sv v_t_st v_t_so_14 v_t_sv_14) H → va_D A (wo_X6_save cI cZ a_t a_t_st a_t_be a_t_so a_t_sv v_t_st v_t_so_14 v_t_sv_14) → va_S A s.heap H locs → lv_has ls 3 [(0, .ref a_t), (1, .int p1), (2, .int x2_14)] → W p l e rm_X6_save s m ([.ref a_t, .int p1] : List Value).toArray below meth c H locs 0 0 (MQ below (QI D (wo_X6_save cI cZ a_t a_t_st a_t_be a_t_so a_t_sv v_t_st q.2.1 q.2.2) q.1 A) ([.ref a_t, .int p1] : List Value).toArray s 0 0 A) (F0 m 14 ls []) := by
    intro K hKK k
    induction k with
    | zero => intro x2_14 v_t_so_14 v_t_sv_14 H locs ls hf; rw [fX6_save_L14] at hf; cases hf
    | succ k ih =>
      intro x2_14 v_t_so_14 v_t_sv_14 H locs ls hf hP hD hS hl
      rw [fX6_save_L14] at hf
      refine lv_iload_n hx hb dX6_save_14 rfl (lv_at hl 2 rfl) ?_
      refine lv_sipush hx hb dX6_save_15 sp_164 ?_
      refine lv_icmp_ge (tgt := 45) hx hb dX6_save_18 (by decide) (fun hc => ?_) (fun hc => ?_)
      · replace hf := ifp hc hf
        exact hKK _ _ _ _ _ ls hf hP hD hS (lv_sub hl [0, 1] rfl)
      · replace hf := ifn hc hf
        refine lv_aload_n hx hb dX6_save_21 rfl (lv_at hl 0 rfl) ?_
        refine getO X hP inX6 0 rfl rfl 2 (by decide) (List.mem_of_getElem? (i := 1) rfl) rfl dX6_save_22 ?_
        refine lv_sipush hx hb dX6_save_25 sp_164 ?_
        refine lv_iload_n hx hb dX6_save_28 rfl (lv_at hl 1 rfl) ?_
        refine lv_imul hx hb dX6_save_29 ?_
        refine lv_iload_n hx hb dX6_save_30 rfl (lv_at hl 2 rfl) ?_
        refine lv_iadd hx hb dX6_save_31 ?_
        refine lv_aload_n hx hb dX6_save_32 rfl (lv_at hl 0 rfl) ?_
        refine getO X hP inX6 0 rfl rfl 0 (by decide) (List.mem_of_getElem? (i := 2) rfl) rfl dX6_save_33 ?_
        refine lv_iload_n hx hb dX6_save_36 rfl (lv_at hl 2 rfl) ?_
        obtain ⟨g37, hf⟩ := grd hf
        refine aldI X hP 1 rfl g37 rfl dX6_save_37 ?_
        obtain ⟨g38, hf⟩ := grd hf
        refine astI X hP hD hS 2 rfl g38 rfl dX6_save_38 (wo_X6_save cI cZ a_t a_t_st a_t_be a_t_so a_t_sv v_t_st (upd v_t_so_14 ((((nI 164) * p1) + x2_14)).toNatClampNeg (v_t_st (x2_14).toNatClampNeg)) v_t_sv_14) rfl (fun H locs hP hD hS => ?_)
        refine lv_iinc (v := (x2_14 + nI 1)) (lv' := [(2, .int (x2_14 + nI 1)), (0, .ref a_t), (1, .int p1)]) hx hb dX6_save_39 hl (k := 2) rfl (inc_1 _) (by decide) rfl (fun ls hl => ?_)
        refine lv_goto (tgt := 14) hx hb dX6_save_42 (by decide) ?_
        exact ih _ _ _ _ _ ls hf hP hD hS (lv_sub hl [1, 2, 0] rfl)
  unfold fX6_save at hf
  refine lv_iload_n hx hb dX6_save_0 rfl (lv_at hl 1 rfl) ?_
  refine lv_iconst hx hb dX6_save_1 ic_0 ?_
  refine lv_iconst hx hb dX6_save_2 ic_1 ?_
  obtain ⟨q3, e3, hf⟩ := bnd hf
  refine callSI X (k_X6_in l D cI cZ    p1 0 (nI 1) q3 e3) (va_cwS 3 X.1.2.2.2.2 gX6_save_X6_in rfl rfl rfl kd_X6_in ⟨Nat.le_of_ble_eq_true rfl, Nat.le_of_ble_eq_true rfl⟩) hP hD hS hl.1 [] (by decide) (wo_X6_save cI cZ a_t a_t_st a_t_be a_t_so a_t_sv v_t_st v_t_so v_t_sv) rfl rfl rfl rfl rfl (rest := []) rfl (Nat.le_of_ble_eq_true rfl) dX6_save_3 ⟨Nat.zero_le _, Nat.zero_le _⟩ (fun H locs hP hD hS => ?_)
  refine lv_if_ne (tgt := 12) hx hb dX6_save_6 (by decide) (fun hc => ?_) (fun hc => ?_)
  · replace hf := ifp (b2i_nz hc) hf
    refine lv_iconst hx hb dX6_save_12 ic_0 ?_
    refine lv_istore_n (lv' := [(2, .int 0), (0, .ref a_t), (1, .int p1)]) hx hb dX6_save_13 rfl hl (by decide) rfl (fun ls hl => ?_)
    refine L14 _ (fun x2_14 v_t_so_14 v_t_sv_14 H locs ls hf hP hD hS hl => ?_) FU _ _ _ _ _ ls hf hP hD hS (lv_sub hl [1, 2, 0] rfl)
    refine lv_aload_n hx hb dX6_save_45 rfl (lv_at hl 0 rfl) ?_
    refine getO X hP inX6 0 rfl rfl 3 (by decide) (List.mem_of_getElem? (i := 3) rfl) rfl dX6_save_46 ?_
    refine lv_iload_n hx hb dX6_save_49 rfl (lv_at hl 1 rfl) ?_
    refine lv_iconst hx hb dX6_save_50 ic_1 ?_
    obtain ⟨g51, hf⟩ := grd hf
    refine astZ X hP hD hS 3 rfl rfl g51 rfl dX6_save_51 (wo_X6_save cI cZ a_t a_t_st a_t_be a_t_so a_t_sv v_t_st v_t_so_14 (upd v_t_sv_14 (p1).toNatClampNeg (nI 1))) rfl (fun H locs hP hD hS => ?_)
    refine lv_aload_n hx hb dX6_save_52 rfl (lv_at hl 0 rfl) ?_
    refine getO X hP inX6 0 rfl rfl 0 (by decide) (List.mem_of_getElem? (i := 2) rfl) rfl dX6_save_53 ?_
    refine lv_iconst hx hb dX6_save_56 ic_3 ?_
    refine aldI X hP 1 rfl (vp_in_nI (by decide) (by decide)) (j := 3) (nI_clamp (by decide)) dX6_save_57 ?_
    obtain rfl := Option.some.inj hf
    exact retI X hS hP rfl dX6_save_58
  · replace hf := ifn (b2i_z hc) hf
    refine lv_bipush hx hb dX6_save_9 bp_m4 ?_
    obtain rfl := Option.some.inj hf
    exact retI X hS hP rfl dX6_save_11

abbrev wo_X6_restore (cI cZ : ClassId) (a_t a_t_st a_t_be a_t_so a_t_sv : Nat) (v_t_st : Nat → Int32) (v_t_so : Nat → Int32) (v_t_sv : Nat → Int32) : va_W := [(a_t, oX6 a_t_st a_t_be a_t_so a_t_sv), (a_t_st, rI cI 164 v_t_st), (a_t_so, rI cI 328 v_t_so), (a_t_sv, rI cZ 2 v_t_sv)]
def fX6_restore_L26 (v_t_so : Nat → Int32) (v_t_sv : Nat → Int32) (p1 : Int32) (K : Int32 → (Nat → Int32) → Option (Int32 × (Nat → Int32))) : Nat → Int32 → (Nat → Int32) → Option (Int32 × (Nat → Int32))
  | 0, _, _ => none
  | k + 1, x2_26, v_t_st_26 => (if (nI 164) ≤ x2_26 then (K x2_26 v_t_st_26) else (if ((((nI 164) * p1) + x2_26) < 0 ∨ 328 ≤ ((((nI 164) * p1) + x2_26)).toNatClampNeg) then none else (if (x2_26 < 0 ∨ 164 ≤ (x2_26).toNatClampNeg) then none else (fX6_restore_L26 v_t_so v_t_sv p1 K k (x2_26 + nI 1) (upd v_t_st_26 (x2_26).toNatClampNeg (v_t_so ((((nI 164) * p1) + x2_26)).toNatClampNeg))))))
def fX6_restore (v_t_st : Nat → Int32) (v_t_so : Nat → Int32) (v_t_sv : Nat → Int32) (p1 : Int32) : Option (Int32 × (Nat → Int32)) := ((fX6_in p1 0 (nI 1)).bind (fun q3 => (if q3 = true then (if (p1 < 0 ∨ 2 ≤ (p1).toNatClampNeg) then none else (if (v_t_sv (p1).toNatClampNeg) = 0 then (some ((-8), v_t_st)) else (fX6_restore_L26 v_t_so v_t_sv p1 (fun x2_26 v_t_st_26 => (some ((v_t_st_26 3), v_t_st_26))) FU 0 v_t_st))) else (some ((-4), v_t_st)))))
theorem kd_X6_restore : yX6_restore.cls = RX6 ∧ yX6_restore.cls ≠ "java/lang/invoke/MethodHandle" ∧ yX6_restore.cls ≠ "java/lang/invoke/VarHandle" ∧ (parseMethodDescriptor yX6_restore.desc).map (fun d => d.parameters.length) = some 1 := by decide +kernel
def rm_X6_restore : Room := { frames := 1, cells := 0, slots := 0, locals := 22 }
set_option maxHeartbeats 4000000 in
set_option maxRecDepth 100000 in
theorem k_X6_restore (l : Launch) (D : va_G) (cI cZ : ClassId) (a_t a_t_st a_t_be a_t_so a_t_sv : Nat) (v_t_st : Nat → Int32) (v_t_so : Nat → Int32) (v_t_sv : Nat → Int32) (p1 : Int32) (q : Int32 × (Nat → Int32)) (hf : fX6_restore v_t_st v_t_so v_t_sv p1 = some q) : CI l D cI cZ yX6_restore wsX6_restore rm_X6_restore [.ref a_t, .int p1] (wo_X6_restore cI cZ a_t a_t_st a_t_be a_t_so a_t_sv v_t_st v_t_so v_t_sv) (wo_X6_restore cI cZ a_t a_t_st a_t_be a_t_so a_t_sv q.2 v_t_so v_t_sv) q.1 := by
  refine CI.mk (cc := cX6_restore) (maxL := 3) (by decide) rfl (Nat.le_of_ble_eq_true rfl) ?_
  intro p e s m below meth c ls A X hP hD hl hS
  have hx := X.1.1
  have hb := X.1.2.1
  have hl : lv_has ls 3 [(0, .ref a_t), (1, .int p1)] := hl
  have inX6 : ∀ w ∈ u_ws RX6 TX6 4, w ∈ wsX6_restore := fun _ h => List.mem_cons_of_mem _ (List.mem_append_right _ h)
  have L26 : ∀ (K : Int32 → (Nat → Int32) → Option (Int32 × (Nat → Int32))) (hKK : ∀ (x2_26 : Int32) (v_t_st_26 : Nat → Int32) (H : Heap) (locs : List Loc) (ls : Array Slot), K x2_26 v_t_st_26 = some q → va_P D vwCl (wo_X6_restore cI cZ a_t a_t_st a_t_be a_t_so a_t_sv v_t_st_26 v_t_so v_t_sv) H → va_D A (wo_X6_restore cI cZ a_t a_t_st a_t_be a_t_so a_t_sv v_t_st_26 v_t_so v_t_sv) → va_S A s.heap H locs → lv_has ls 3 [(0, .ref a_t)] → W p l e rm_X6_restore s m ([.ref a_t, .int p1] : List Value).toArray below meth c H locs 0 0 (MQ below (QI D (wo_X6_restore cI cZ a_t a_t_st a_t_be a_t_so a_t_sv q.2 v_t_so v_t_sv) q.1 A) ([.ref a_t, .int p1] : List Value).toArray s 0 0 A) (F0 m 57 ls [])) (k : Nat) (x2_26 : Int32) (v_t_st_26 : Nat → Int32) (H : Heap) (locs : List Loc) (ls : Array Slot), fX6_restore_L26 v_t_so v_t_sv p1 K k x2_26 v_t_st_26 = some q → va_P D vwCl (wo_X6_restore cI cZ a_t a_t_st a_t_be a_t_so a_t_sv v_t_st_26 v_t_so v_t_sv) H → va_D A (wo_X6_restore cI cZ a_t a_t_st a_t_be a_t_so a_t_sv v_t_st_26 v_t_so v_t_sv) → va_S A s.heap H locs → lv_has ls 3 [(0, .ref a_t), (1, .int p1), (2, .int x2_26)] → W p l e rm_X6_restore s m ([.ref a_t, .int p1] : List Value).toArray below meth c H locs 0 0 (MQ below (QI D (wo_X6_restore cI cZ a_t a_t_st a_t_be a_t_so a_t_sv q.2 v_t_so v_t_sv) q.1 A) ([.ref a_t, .int p1] : List Value).toArray s 0 0 A) (F0 m 26 ls []) := by
    intro K hKK k
    induction k with
    | zero => intro x2_26 v_t_st_26 H locs ls hf; rw [fX6_restore_L26] at hf; cases hf
    | succ k ih =>
      intro x2_26 v_t_st_26 H locs ls hf hP hD hS hl
      rw [fX6_restore_L26] at hf
      refine lv_iload_n hx hb dX6_restore_26 rfl (lv_at hl 2 rfl) ?_
      refine lv_sipush hx hb dX6_restore_27 sp_164 ?_
      refine lv_icmp_ge (tgt := 57) hx hb dX6_restore_30 (by decide) (fun hc => ?_) (fun hc => ?_)
      · replace hf := ifp hc hf
        exact hKK _ _ _ _ ls hf hP hD hS (lv_sub hl [0] rfl)
      · replace hf := ifn hc hf
        refine lv_aload_n hx hb dX6_restore_33 rfl (lv_at hl 0 rfl) ?_
        refine getO X hP inX6 0 rfl rfl 0 (by decide) (List.mem_of_getElem? (i := 2) rfl) rfl dX6_restore_34 ?_
        refine lv_iload_n hx hb dX6_restore_37 rfl (lv_at hl 2 rfl) ?_
        refine lv_aload_n hx hb dX6_restore_38 rfl (lv_at hl 0 rfl) ?_
        refine getO X hP inX6 0 rfl rfl 2 (by decide) (List.mem_of_getElem? (i := 3) rfl) rfl dX6_restore_39 ?_
        refine lv_sipush hx hb dX6_restore_42 sp_164 ?_
        refine lv_iload_n hx hb dX6_restore_45 rfl (lv_at hl 1 rfl) ?_
        refine lv_imul hx hb dX6_restore_46 ?_
        refine lv_iload_n hx hb dX6_restore_47 rfl (lv_at hl 2 rfl) ?_
        refine lv_iadd hx hb dX6_restore_48 ?_
        obtain ⟨g49, hf⟩ := grd hf
        refine aldI X hP 2 rfl g49 rfl dX6_restore_49 ?_
        obtain ⟨g50, hf⟩ := grd hf
        refine astI X hP hD hS 1 rfl g50 rfl dX6_restore_50 (wo_X6_restore cI cZ a_t a_t_st a_t_be a_t_so a_t_sv (upd v_t_st_26 (x2_26).toNatClampNeg (v_t_so ((((nI 164) * p1) + x2_26)).toNatClampNeg)) v_t_so v_t_sv) rfl (fun H locs hP hD hS => ?_)
        refine lv_iinc (v := (x2_26 + nI 1)) (lv' := [(2, .int (x2_26 + nI 1)), (0, .ref a_t), (1, .int p1)]) hx hb dX6_restore_51 hl (k := 2) rfl (inc_1 _) (by decide) rfl (fun ls hl => ?_)
        refine lv_goto (tgt := 26) hx hb dX6_restore_54 (by decide) ?_
        exact ih _ _ _ _ ls hf hP hD hS (lv_sub hl [1, 2, 0] rfl)
  unfold fX6_restore at hf
  refine lv_iload_n hx hb dX6_restore_0 rfl (lv_at hl 1 rfl) ?_
  refine lv_iconst hx hb dX6_restore_1 ic_0 ?_
  refine lv_iconst hx hb dX6_restore_2 ic_1 ?_
  obtain ⟨q3, e3, hf⟩ := bnd hf
  refine callSI X (k_X6_in l D cI cZ    p1 0 (nI 1) q3 e3) (va_cwS 3 X.1.2.2.2.2 gX6_restore_X6_in rfl rfl rfl kd_X6_in ⟨Nat.le_of_ble_eq_true rfl, Nat.le_of_ble_eq_true rfl⟩) hP hD hS hl.1 [] (by decide) (wo_X6_restore cI cZ a_t a_t_st a_t_be a_t_so a_t_sv v_t_st v_t_so v_t_sv) rfl rfl rfl rfl rfl (rest := []) rfl (Nat.le_of_ble_eq_true rfl) dX6_restore_3 ⟨Nat.zero_le _, Nat.zero_le _⟩ (fun H locs hP hD hS => ?_)
  refine lv_if_ne (tgt := 12) hx hb dX6_restore_6 (by decide) (fun hc => ?_) (fun hc => ?_)
  · replace hf := ifp (b2i_nz hc) hf
    refine lv_aload_n hx hb dX6_restore_12 rfl (lv_at hl 0 rfl) ?_
    refine getO X hP inX6 0 rfl rfl 3 (by decide) (List.mem_of_getElem? (i := 1) rfl) rfl dX6_restore_13 ?_
    refine lv_iload_n hx hb dX6_restore_16 rfl (lv_at hl 1 rfl) ?_
    obtain ⟨g17, hf⟩ := grd hf
    refine aldZ X hP 3 rfl g17 rfl dX6_restore_17 ?_
    refine lv_if_ne (tgt := 24) hx hb dX6_restore_18 (by decide) (fun hc => ?_) (fun hc => ?_)
    · replace hf := ifn hc hf
      refine lv_iconst hx hb dX6_restore_24 ic_0 ?_
      refine lv_istore_n (lv' := [(2, .int 0), (0, .ref a_t), (1, .int p1)]) hx hb dX6_restore_25 rfl hl (by decide) rfl (fun ls hl => ?_)
      refine L26 _ (fun x2_26 v_t_st_26 H locs ls hf hP hD hS hl => ?_) FU _ _ _ _ ls hf hP hD hS (lv_sub hl [1, 2, 0] rfl)
      refine lv_aload_n hx hb dX6_restore_57 rfl (lv_at hl 0 rfl) ?_
      refine getO X hP inX6 0 rfl rfl 0 (by decide) (List.mem_of_getElem? (i := 2) rfl) rfl dX6_restore_58 ?_
      refine lv_iconst hx hb dX6_restore_61 ic_3 ?_
      refine aldI X hP 1 rfl (vp_in_nI (by decide) (by decide)) (j := 3) (nI_clamp (by decide)) dX6_restore_62 ?_
      obtain rfl := Option.some.inj hf
      exact retI X hS hP rfl dX6_restore_63
    · replace hf := ifp hc hf
      refine lv_bipush hx hb dX6_restore_21 bp_m8 ?_
      obtain rfl := Option.some.inj hf
      exact retI X hS hP rfl dX6_restore_23
  · replace hf := ifn (b2i_z hc) hf
    refine lv_bipush hx hb dX6_restore_9 bp_m4 ?_
    obtain rfl := Option.some.inj hf
    exact retI X hS hP rfl dX6_restore_11
