abbrev wo_X0_has (cI cZ : ClassId) (a_t a_t_fe a_t_se a_t_pa a_t_sl : Nat) (v_t_ex : Int32) (v_t_pa : Nat → Int32) : va_W := [(a_t, oX0 a_t_fe a_t_se a_t_pa a_t_sl v_t_ex), (a_t_pa, rI cI 16 v_t_pa)]
def fX0_has (v_t_pa : Nat → Int32) (p1 : Int32) : Option (Bool) := (if p1 < 0 then (some false) else (if (nI 16) ≤ p1 then (some false) else (if (p1 < 0 ∨ 16 ≤ (p1).toNatClampNeg) then none else (if (v_t_pa (p1).toNatClampNeg) = 0 then (some false) else (some true)))))
theorem kd_X0_has : yX0_has.cls = RX0 ∧ yX0_has.cls ≠ "java/lang/invoke/MethodHandle" ∧ yX0_has.cls ≠ "java/lang/invoke/VarHandle" ∧ (parseMethodDescriptor yX0_has.desc).map (fun d => d.parameters.length) = some 1 := by decide +kernel
def rm_X0_has : Room := { frames := 0, cells := 0, slots := 0, locals := 0 }
set_option maxHeartbeats 4000000 in
set_option maxRecDepth 100000 in
theorem k_X0_has (l : Launch) (D : va_G) (cI cZ : ClassId) (a_t a_t_fe a_t_se a_t_pa a_t_sl : Nat) (v_t_ex : Int32) (v_t_pa : Nat → Int32) (p1 : Int32) (q : Bool) (hf : fX0_has v_t_pa p1 = some q) : CI l D cI cZ yX0_has wsX0_has rm_X0_has [.ref a_t, .int p1] (wo_X0_has cI cZ a_t a_t_fe a_t_se a_t_pa a_t_sl v_t_ex v_t_pa) (wo_X0_has cI cZ a_t a_t_fe a_t_se a_t_pa a_t_sl v_t_ex v_t_pa) (b2i q) := by
  refine CI.mk (cc := cX0_has) (maxL := 2) (by decide) rfl (Nat.le_of_ble_eq_true rfl) ?_
  intro p e s m below meth c ls A X hP hD hl hS
  have hx := X.1.1
  have hb := X.1.2.1
  have hl : lv_has ls 2 [(0, .ref a_t), (1, .int p1)] := hl
  have inX0 : ∀ w ∈ u_ws RX0 TX0 5, w ∈ wsX0_has := fun _ h => List.mem_cons_of_mem _ (List.mem_append_right _ h)
  unfold fX0_has at hf
  refine lv_iload_n hx hb dX0_has_0 rfl (lv_at hl 1 rfl) ?_
  refine lv_if_lt (tgt := 23) hx hb dX0_has_1 (by decide) (fun hc => ?_) (fun hc => ?_)
  · replace hf := ifp hc hf
    refine lv_iconst hx hb dX0_has_23 ic_0 ?_
    obtain rfl := Option.some.inj hf
    exact retB X hS hP rfl rfl dX0_has_24
  · replace hf := ifn hc hf
    refine lv_iload_n hx hb dX0_has_4 rfl (lv_at hl 1 rfl) ?_
    refine lv_bipush hx hb dX0_has_5 bp_16 ?_
    refine lv_icmp_ge (tgt := 23) hx hb dX0_has_7 (by decide) (fun hc => ?_) (fun hc => ?_)
    · replace hf := ifp hc hf
      refine lv_iconst hx hb dX0_has_23 ic_0 ?_
      obtain rfl := Option.some.inj hf
      exact retB X hS hP rfl rfl dX0_has_24
    · replace hf := ifn hc hf
      refine lv_aload_n hx hb dX0_has_10 rfl (lv_at hl 0 rfl) ?_
      refine getO X hP inX0 0 rfl rfl 2 (by decide) (List.mem_of_getElem? (i := 1) rfl) rfl dX0_has_11 ?_
      refine lv_iload_n hx hb dX0_has_14 rfl (lv_at hl 1 rfl) ?_
      obtain ⟨g15, hf⟩ := grd hf
      refine aldI X hP 1 rfl g15 rfl dX0_has_15 ?_
      refine lv_if_eq (tgt := 23) hx hb dX0_has_16 (by decide) (fun hc => ?_) (fun hc => ?_)
      · replace hf := ifp hc hf
        refine lv_iconst hx hb dX0_has_23 ic_0 ?_
        obtain rfl := Option.some.inj hf
        exact retB X hS hP rfl rfl dX0_has_24
      · replace hf := ifn hc hf
        refine lv_iconst hx hb dX0_has_19 ic_1 ?_
        refine lv_goto (tgt := 24) hx hb dX0_has_20 (by decide) ?_
        obtain rfl := Option.some.inj hf
        exact retB X hS hP rfl rfl dX0_has_24

abbrev wo_X0_firstEndOf (cI cZ : ClassId) (a_t a_t_fe a_t_se a_t_pa a_t_sl : Nat) (v_t_ex : Int32) (v_t_fe : Nat → Int32) (v_t_pa : Nat → Int32) : va_W := [(a_t, oX0 a_t_fe a_t_se a_t_pa a_t_sl v_t_ex), (a_t_fe, rI cI 16 v_t_fe), (a_t_pa, rI cI 16 v_t_pa)]
def fX0_firstEndOf (v_t_fe : Nat → Int32) (v_t_pa : Nat → Int32) (p1 : Int32) : Option (Int32) := ((fX0_has v_t_pa p1).bind (fun q2 => (if q2 = true then (if (p1 < 0 ∨ 16 ≤ (p1).toNatClampNeg) then none else (some (v_t_fe (p1).toNatClampNeg))) else (some 0))))
theorem kd_X0_firstEndOf : yX0_firstEndOf.cls = RX0 ∧ yX0_firstEndOf.cls ≠ "java/lang/invoke/MethodHandle" ∧ yX0_firstEndOf.cls ≠ "java/lang/invoke/VarHandle" ∧ (parseMethodDescriptor yX0_firstEndOf.desc).map (fun d => d.parameters.length) = some 1 := by decide +kernel
def rm_X0_firstEndOf : Room := { frames := 1, cells := 0, slots := 0, locals := 21 }
set_option maxHeartbeats 4000000 in
set_option maxRecDepth 100000 in
theorem k_X0_firstEndOf (l : Launch) (D : va_G) (cI cZ : ClassId) (a_t a_t_fe a_t_se a_t_pa a_t_sl : Nat) (v_t_ex : Int32) (v_t_fe : Nat → Int32) (v_t_pa : Nat → Int32) (p1 : Int32) (q : Int32) (hf : fX0_firstEndOf v_t_fe v_t_pa p1 = some q) : CI l D cI cZ yX0_firstEndOf wsX0_firstEndOf rm_X0_firstEndOf [.ref a_t, .int p1] (wo_X0_firstEndOf cI cZ a_t a_t_fe a_t_se a_t_pa a_t_sl v_t_ex v_t_fe v_t_pa) (wo_X0_firstEndOf cI cZ a_t a_t_fe a_t_se a_t_pa a_t_sl v_t_ex v_t_fe v_t_pa) q := by
  refine CI.mk (cc := cX0_firstEndOf) (maxL := 2) (by decide) rfl (Nat.le_of_ble_eq_true rfl) ?_
  intro p e s m below meth c ls A X hP hD hl hS
  have hx := X.1.1
  have hb := X.1.2.1
  have hl : lv_has ls 2 [(0, .ref a_t), (1, .int p1)] := hl
  have inX0 : ∀ w ∈ u_ws RX0 TX0 5, w ∈ wsX0_firstEndOf := fun _ h => List.mem_cons_of_mem _ (List.mem_append_right _ h)
  unfold fX0_firstEndOf at hf
  refine lv_aload_n hx hb dX0_firstEndOf_0 rfl (lv_at hl 0 rfl) ?_
  refine lv_iload_n hx hb dX0_firstEndOf_1 rfl (lv_at hl 1 rfl) ?_
  obtain ⟨q2, e2, hf⟩ := bnd hf
  refine callVI X (k_X0_has l D cI cZ a_t a_t_fe a_t_se a_t_pa a_t_sl  v_t_ex v_t_pa p1 q2 e2) (cwV 1 X.1.2.2.2.2 gX0_firstEndOf_X0_has rfl rfl rfl kd_X0_has ⟨Nat.le_of_ble_eq_true rfl, Nat.le_of_ble_eq_true rfl⟩) hP hD hS hl.1 0 0 rfl rfl [0, 2] (by decide) (wo_X0_firstEndOf cI cZ a_t a_t_fe a_t_se a_t_pa a_t_sl v_t_ex v_t_fe v_t_pa) rfl rfl rfl rfl rfl (rest := []) rfl (Nat.le_of_ble_eq_true rfl) dX0_firstEndOf_2 ⟨Nat.zero_le _, Nat.zero_le _⟩ (fun H locs hP hD hS => ?_)
  refine lv_if_eq (tgt := 17) hx hb dX0_firstEndOf_5 (by decide) (fun hc => ?_) (fun hc => ?_)
  · replace hf := ifn (b2i_z hc) hf
    refine lv_iconst hx hb dX0_firstEndOf_17 ic_0 ?_
    obtain rfl := Option.some.inj hf
    exact retI X hS hP rfl dX0_firstEndOf_18
  · replace hf := ifp (b2i_nz hc) hf
    refine lv_aload_n hx hb dX0_firstEndOf_8 rfl (lv_at hl 0 rfl) ?_
    refine getO X hP inX0 0 rfl rfl 0 (by decide) (List.mem_of_getElem? (i := 1) rfl) rfl dX0_firstEndOf_9 ?_
    refine lv_iload_n hx hb dX0_firstEndOf_12 rfl (lv_at hl 1 rfl) ?_
    obtain ⟨g13, hf⟩ := grd hf
    refine aldI X hP 1 rfl g13 rfl dX0_firstEndOf_13 ?_
    refine lv_goto (tgt := 18) hx hb dX0_firstEndOf_14 (by decide) ?_
    obtain rfl := Option.some.inj hf
    exact retI X hS hP rfl dX0_firstEndOf_18

abbrev wo_X0_secondEndOf (cI cZ : ClassId) (a_t a_t_fe a_t_se a_t_pa a_t_sl : Nat) (v_t_ex : Int32) (v_t_se : Nat → Int32) (v_t_pa : Nat → Int32) : va_W := [(a_t, oX0 a_t_fe a_t_se a_t_pa a_t_sl v_t_ex), (a_t_se, rI cI 16 v_t_se), (a_t_pa, rI cI 16 v_t_pa)]
def fX0_secondEndOf (v_t_se : Nat → Int32) (v_t_pa : Nat → Int32) (p1 : Int32) : Option (Int32) := ((fX0_has v_t_pa p1).bind (fun q2 => (if q2 = true then (if (p1 < 0 ∨ 16 ≤ (p1).toNatClampNeg) then none else (some (v_t_se (p1).toNatClampNeg))) else (some 0))))
theorem kd_X0_secondEndOf : yX0_secondEndOf.cls = RX0 ∧ yX0_secondEndOf.cls ≠ "java/lang/invoke/MethodHandle" ∧ yX0_secondEndOf.cls ≠ "java/lang/invoke/VarHandle" ∧ (parseMethodDescriptor yX0_secondEndOf.desc).map (fun d => d.parameters.length) = some 1 := by decide +kernel
def rm_X0_secondEndOf : Room := { frames := 1, cells := 0, slots := 0, locals := 21 }
set_option maxHeartbeats 4000000 in
set_option maxRecDepth 100000 in
theorem k_X0_secondEndOf (l : Launch) (D : va_G) (cI cZ : ClassId) (a_t a_t_fe a_t_se a_t_pa a_t_sl : Nat) (v_t_ex : Int32) (v_t_se : Nat → Int32) (v_t_pa : Nat → Int32) (p1 : Int32) (q : Int32) (hf : fX0_secondEndOf v_t_se v_t_pa p1 = some q) : CI l D cI cZ yX0_secondEndOf wsX0_secondEndOf rm_X0_secondEndOf [.ref a_t, .int p1] (wo_X0_secondEndOf cI cZ a_t a_t_fe a_t_se a_t_pa a_t_sl v_t_ex v_t_se v_t_pa) (wo_X0_secondEndOf cI cZ a_t a_t_fe a_t_se a_t_pa a_t_sl v_t_ex v_t_se v_t_pa) q := by
  refine CI.mk (cc := cX0_secondEndOf) (maxL := 2) (by decide) rfl (Nat.le_of_ble_eq_true rfl) ?_
  intro p e s m below meth c ls A X hP hD hl hS
  have hx := X.1.1
  have hb := X.1.2.1
  have hl : lv_has ls 2 [(0, .ref a_t), (1, .int p1)] := hl
  have inX0 : ∀ w ∈ u_ws RX0 TX0 5, w ∈ wsX0_secondEndOf := fun _ h => List.mem_cons_of_mem _ (List.mem_append_right _ h)
  unfold fX0_secondEndOf at hf
  refine lv_aload_n hx hb dX0_secondEndOf_0 rfl (lv_at hl 0 rfl) ?_
  refine lv_iload_n hx hb dX0_secondEndOf_1 rfl (lv_at hl 1 rfl) ?_
  obtain ⟨q2, e2, hf⟩ := bnd hf
  refine callVI X (k_X0_has l D cI cZ a_t a_t_fe a_t_se a_t_pa a_t_sl  v_t_ex v_t_pa p1 q2 e2) (cwV 1 X.1.2.2.2.2 gX0_secondEndOf_X0_has rfl rfl rfl kd_X0_has ⟨Nat.le_of_ble_eq_true rfl, Nat.le_of_ble_eq_true rfl⟩) hP hD hS hl.1 0 0 rfl rfl [0, 2] (by decide) (wo_X0_secondEndOf cI cZ a_t a_t_fe a_t_se a_t_pa a_t_sl v_t_ex v_t_se v_t_pa) rfl rfl rfl rfl rfl (rest := []) rfl (Nat.le_of_ble_eq_true rfl) dX0_secondEndOf_2 ⟨Nat.zero_le _, Nat.zero_le _⟩ (fun H locs hP hD hS => ?_)
  refine lv_if_eq (tgt := 17) hx hb dX0_secondEndOf_5 (by decide) (fun hc => ?_) (fun hc => ?_)
  · replace hf := ifn (b2i_z hc) hf
    refine lv_iconst hx hb dX0_secondEndOf_17 ic_0 ?_
    obtain rfl := Option.some.inj hf
    exact retI X hS hP rfl dX0_secondEndOf_18
  · replace hf := ifp (b2i_nz hc) hf
    refine lv_aload_n hx hb dX0_secondEndOf_8 rfl (lv_at hl 0 rfl) ?_
    refine getO X hP inX0 0 rfl rfl 1 (by decide) (List.mem_of_getElem? (i := 1) rfl) rfl dX0_secondEndOf_9 ?_
    refine lv_iload_n hx hb dX0_secondEndOf_12 rfl (lv_at hl 1 rfl) ?_
    obtain ⟨g13, hf⟩ := grd hf
    refine aldI X hP 1 rfl g13 rfl dX0_secondEndOf_13 ?_
    refine lv_goto (tgt := 18) hx hb dX0_secondEndOf_14 (by decide) ?_
    obtain rfl := Option.some.inj hf
    exact retI X hS hP rfl dX0_secondEndOf_18

abbrev wo_X0_pathOf (cI cZ : ClassId) (a_t a_t_fe a_t_se a_t_pa a_t_sl : Nat) (v_t_ex : Int32) (v_t_pa : Nat → Int32) : va_W := [(a_t, oX0 a_t_fe a_t_se a_t_pa a_t_sl v_t_ex), (a_t_pa, rI cI 16 v_t_pa)]
def fX0_pathOf (v_t_pa : Nat → Int32) (p1 : Int32) : Option (Int32) := ((fX0_has v_t_pa p1).bind (fun q2 => (if q2 = true then (if (p1 < 0 ∨ 16 ≤ (p1).toNatClampNeg) then none else (some (v_t_pa (p1).toNatClampNeg))) else (some 0))))
theorem kd_X0_pathOf : yX0_pathOf.cls = RX0 ∧ yX0_pathOf.cls ≠ "java/lang/invoke/MethodHandle" ∧ yX0_pathOf.cls ≠ "java/lang/invoke/VarHandle" ∧ (parseMethodDescriptor yX0_pathOf.desc).map (fun d => d.parameters.length) = some 1 := by decide +kernel
def rm_X0_pathOf : Room := { frames := 1, cells := 0, slots := 0, locals := 21 }
set_option maxHeartbeats 4000000 in
set_option maxRecDepth 100000 in
theorem k_X0_pathOf (l : Launch) (D : va_G) (cI cZ : ClassId) (a_t a_t_fe a_t_se a_t_pa a_t_sl : Nat) (v_t_ex : Int32) (v_t_pa : Nat → Int32) (p1 : Int32) (q : Int32) (hf : fX0_pathOf v_t_pa p1 = some q) : CI l D cI cZ yX0_pathOf wsX0_pathOf rm_X0_pathOf [.ref a_t, .int p1] (wo_X0_pathOf cI cZ a_t a_t_fe a_t_se a_t_pa a_t_sl v_t_ex v_t_pa) (wo_X0_pathOf cI cZ a_t a_t_fe a_t_se a_t_pa a_t_sl v_t_ex v_t_pa) q := by
  refine CI.mk (cc := cX0_pathOf) (maxL := 2) (by decide) rfl (Nat.le_of_ble_eq_true rfl) ?_
  intro p e s m below meth c ls A X hP hD hl hS
  have hx := X.1.1
  have hb := X.1.2.1
  have hl : lv_has ls 2 [(0, .ref a_t), (1, .int p1)] := hl
  have inX0 : ∀ w ∈ u_ws RX0 TX0 5, w ∈ wsX0_pathOf := fun _ h => List.mem_cons_of_mem _ (List.mem_append_right _ h)
  unfold fX0_pathOf at hf
  refine lv_aload_n hx hb dX0_pathOf_0 rfl (lv_at hl 0 rfl) ?_
  refine lv_iload_n hx hb dX0_pathOf_1 rfl (lv_at hl 1 rfl) ?_
  obtain ⟨q2, e2, hf⟩ := bnd hf
  refine callVI X (k_X0_has l D cI cZ a_t a_t_fe a_t_se a_t_pa a_t_sl  v_t_ex v_t_pa p1 q2 e2) (cwV 1 X.1.2.2.2.2 gX0_pathOf_X0_has rfl rfl rfl kd_X0_has ⟨Nat.le_of_ble_eq_true rfl, Nat.le_of_ble_eq_true rfl⟩) hP hD hS hl.1 0 0 rfl rfl [0, 1] (by decide) (wo_X0_pathOf cI cZ a_t a_t_fe a_t_se a_t_pa a_t_sl v_t_ex v_t_pa) rfl rfl rfl rfl rfl (rest := []) rfl (Nat.le_of_ble_eq_true rfl) dX0_pathOf_2 ⟨Nat.zero_le _, Nat.zero_le _⟩ (fun H locs hP hD hS => ?_)
  refine lv_if_eq (tgt := 17) hx hb dX0_pathOf_5 (by decide) (fun hc => ?_) (fun hc => ?_)
  · replace hf := ifn (b2i_z hc) hf
    refine lv_iconst hx hb dX0_pathOf_17 ic_0 ?_
    obtain rfl := Option.some.inj hf
    exact retI X hS hP rfl dX0_pathOf_18
  · replace hf := ifp (b2i_nz hc) hf
    refine lv_aload_n hx hb dX0_pathOf_8 rfl (lv_at hl 0 rfl) ?_
    refine getO X hP inX0 0 rfl rfl 2 (by decide) (List.mem_of_getElem? (i := 1) rfl) rfl dX0_pathOf_9 ?_
    refine lv_iload_n hx hb dX0_pathOf_12 rfl (lv_at hl 1 rfl) ?_
    obtain ⟨g13, hf⟩ := grd hf
    refine aldI X hP 1 rfl g13 rfl dX0_pathOf_13 ?_
    refine lv_goto (tgt := 18) hx hb dX0_pathOf_14 (by decide) ?_
    obtain rfl := Option.some.inj hf
    exact retI X hS hP rfl dX0_pathOf_18

abbrev wo_X0_isExtra (cI cZ : ClassId) (a_t a_t_fe a_t_se a_t_pa a_t_sl : Nat) (v_t_ex : Int32) : va_W := [(a_t, oX0 a_t_fe a_t_se a_t_pa a_t_sl v_t_ex)]
def fX0_isExtra (v_t_ex : Int32) (p1 : Int32) : Option (Bool) := ((fX5_contains v_t_ex p1).bind (fun q5 => (some q5)))
theorem kd_X0_isExtra : yX0_isExtra.cls = RX0 ∧ yX0_isExtra.cls ≠ "java/lang/invoke/MethodHandle" ∧ yX0_isExtra.cls ≠ "java/lang/invoke/VarHandle" ∧ (parseMethodDescriptor yX0_isExtra.desc).map (fun d => d.parameters.length) = some 1 := by decide +kernel
def rm_X0_isExtra : Room := { frames := 1, cells := 0, slots := 0, locals := 21 }
set_option maxHeartbeats 4000000 in
set_option maxRecDepth 100000 in
theorem k_X0_isExtra (l : Launch) (D : va_G) (cI cZ : ClassId) (a_t a_t_fe a_t_se a_t_pa a_t_sl : Nat) (v_t_ex : Int32) (p1 : Int32) (q : Bool) (hf : fX0_isExtra v_t_ex p1 = some q) : CI l D cI cZ yX0_isExtra wsX0_isExtra rm_X0_isExtra [.ref a_t, .int p1] (wo_X0_isExtra cI cZ a_t a_t_fe a_t_se a_t_pa a_t_sl v_t_ex) (wo_X0_isExtra cI cZ a_t a_t_fe a_t_se a_t_pa a_t_sl v_t_ex) (b2i q) := by
  refine CI.mk (cc := cX0_isExtra) (maxL := 2) (by decide) rfl (Nat.le_of_ble_eq_true rfl) ?_
  intro p e s m below meth c ls A X hP hD hl hS
  have hx := X.1.1
  have hb := X.1.2.1
  have hl : lv_has ls 2 [(0, .ref a_t), (1, .int p1)] := hl
  have inX0 : ∀ w ∈ u_ws RX0 TX0 5, w ∈ wsX0_isExtra := fun _ h => List.mem_cons_of_mem _ (List.mem_append_right _ h)
  unfold fX0_isExtra at hf
  refine lv_aload_n hx hb dX0_isExtra_0 rfl (lv_at hl 0 rfl) ?_
  refine getO X hP inX0 0 rfl rfl 4 (by decide) (List.mem_of_getElem? (i := 1) rfl) rfl dX0_isExtra_1 ?_
  refine lv_iload_n hx hb dX0_isExtra_4 rfl (lv_at hl 1 rfl) ?_
  obtain ⟨q5, e5, hf⟩ := bnd hf
  refine callNI X (k_X5_contains l D cI cZ    v_t_ex p1 q5 e5) ⟨va_cnB 2 X.1.2.2.2.2 gX0_isExtra_X5_contains_n32 rfl rfl rfl (X.2.2.2.2.1.ml 8 rfl) (X.1.2.2.2.2 _ (List.mem_of_getElem? (i := 3) rfl)) kd_X5_contains ⟨Nat.le_of_ble_eq_true rfl, Nat.le_of_ble_eq_true rfl⟩, X.1.2.2.2.2 _ (List.mem_of_getElem? (i := 2) rfl), trivial⟩ hP hD hS hl.1 [] (by decide) (wo_X0_isExtra cI cZ a_t a_t_fe a_t_se a_t_pa a_t_sl v_t_ex) rfl rfl rfl rfl rfl (rest := []) rfl (Nat.le_of_ble_eq_true rfl) dX0_isExtra_5 ⟨Nat.zero_le _, Nat.zero_le _⟩ (fun H locs hP hD hS => ?_)
  obtain rfl := Option.some.inj hf
  exact retB X hS hP (b2i_nar _) rfl dX0_isExtra_8

abbrev wo_X0_count (cI cZ : ClassId) (a_t a_t_fe a_t_se a_t_pa a_t_sl : Nat) (v_t_ex : Int32) (v_t_pa : Nat → Int32) : va_W := [(a_t, oX0 a_t_fe a_t_se a_t_pa a_t_sl v_t_ex), (a_t_pa, rI cI 16 v_t_pa)]
def fX0_count_L4 (v_t_pa : Nat → Int32) (K : Int32 → Int32 → Option (Int32)) : Nat → Int32 → Int32 → Option (Int32)
  | 0, _, _ => none
  | k + 1, x1_4, x2_4 => (if (nI 16) ≤ x2_4 then (K x1_4 x2_4) else ((fX0_has v_t_pa x2_4).bind (fun q12 => (if q12 = true then (fX0_count_L4 v_t_pa K k (x1_4 + nI 1) (x2_4 + nI 1)) else (fX0_count_L4 v_t_pa K k x1_4 (x2_4 + nI 1))))))
def fX0_count (v_t_pa : Nat → Int32) : Option (Int32) := (fX0_count_L4 v_t_pa (fun x1_4 x2_4 => (some x1_4)) FU 0 0)
theorem kd_X0_count : yX0_count.cls = RX0 ∧ yX0_count.cls ≠ "java/lang/invoke/MethodHandle" ∧ yX0_count.cls ≠ "java/lang/invoke/VarHandle" ∧ (parseMethodDescriptor yX0_count.desc).map (fun d => d.parameters.length) = some 0 := by decide +kernel
def rm_X0_count : Room := { frames := 1, cells := 0, slots := 0, locals := 21 }
set_option maxHeartbeats 4000000 in
set_option maxRecDepth 100000 in
theorem k_X0_count (l : Launch) (D : va_G) (cI cZ : ClassId) (a_t a_t_fe a_t_se a_t_pa a_t_sl : Nat) (v_t_ex : Int32) (v_t_pa : Nat → Int32) (q : Int32) (hf : fX0_count v_t_pa = some q) : CI l D cI cZ yX0_count wsX0_count rm_X0_count [.ref a_t] (wo_X0_count cI cZ a_t a_t_fe a_t_se a_t_pa a_t_sl v_t_ex v_t_pa) (wo_X0_count cI cZ a_t a_t_fe a_t_se a_t_pa a_t_sl v_t_ex v_t_pa) q := by
  refine CI.mk (cc := cX0_count) (maxL := 3) (by decide) rfl (Nat.le_of_ble_eq_true rfl) ?_
  intro p e s m below meth c ls A X hP hD hl hS
  have hx := X.1.1
  have hb := X.1.2.1
  have hl : lv_has ls 3 [(0, .ref a_t)] := hl
  have L4 : ∀ (K : Int32 → Int32 → Option (Int32)) (hKK : ∀ (x1_4 : Int32) (x2_4 : Int32) (H : Heap) (locs : List Loc) (ls : Array Slot), K x1_4 x2_4 = some q → va_P D vwCl (wo_X0_count cI cZ a_t a_t_fe a_t_se a_t_pa a_t_sl v_t_ex v_t_pa) H → va_D A (wo_X0_count cI cZ a_t a_t_fe a_t_se a_t_pa a_t_sl v_t_ex v_t_pa) → va_S A s.heap H locs → lv_has ls 3 [(1, .int x1_4)] → W p l e rm_X0_count s m ([.ref a_t] : List Value).toArray below meth c H locs 0 0 (MQ below (QI D (wo_X0_count cI cZ a_t a_t_fe a_t_se a_t_pa a_t_sl v_t_ex v_t_pa) q A) ([.ref a_t] : List Value).toArray s 0 0 A) (F0 m 27 ls [])) (k : Nat) (x1_4 : Int32) (x2_4 : Int32) (H : Heap) (locs : List Loc) (ls : Array Slot), fX0_count_L4 v_t_pa K k x1_4 x2_4 = some q → va_P D vwCl (wo_X0_count cI cZ a_t a_t_fe a_t_se a_t_pa a_t_sl v_t_ex v_t_pa) H → va_D A (wo_X0_count cI cZ a_t a_t_fe a_t_se a_t_pa a_t_sl v_t_ex v_t_pa) → va_S A s.heap H locs → lv_has ls 3 [(0, .ref a_t), (1, .int x1_4), (2, .int x2_4)] → W p l e rm_X0_count s m ([.ref a_t] : List Value).toArray below meth c H locs 0 0 (MQ below (QI D (wo_X0_count cI cZ a_t a_t_fe a_t_se a_t_pa a_t_sl v_t_ex v_t_pa) q A) ([.ref a_t] : List Value).toArray s 0 0 A) (F0 m 4 ls []) := by
    intro K hKK k
    induction k with
    | zero => intro x1_4 x2_4 H locs ls hf; rw [fX0_count_L4] at hf; cases hf
    | succ k ih =>
      intro x1_4 x2_4 H locs ls hf hP hD hS hl
      rw [fX0_count_L4] at hf
      refine lv_iload_n hx hb dX0_count_4 rfl (lv_at hl 2 rfl) ?_
      refine lv_bipush hx hb dX0_count_5 bp_16 ?_
      refine lv_icmp_ge (tgt := 27) hx hb dX0_count_7 (by decide) (fun hc => ?_) (fun hc => ?_)
      · replace hf := ifp hc hf
        exact hKK _ _ _ _ ls hf hP hD hS (lv_sub hl [1] rfl)
      · replace hf := ifn hc hf
        refine lv_aload_n hx hb dX0_count_10 rfl (lv_at hl 0 rfl) ?_
        refine lv_iload_n hx hb dX0_count_11 rfl (lv_at hl 2 rfl) ?_
        obtain ⟨q12, e12, hf⟩ := bnd hf
        refine callVI X (k_X0_has l D cI cZ a_t a_t_fe a_t_se a_t_pa a_t_sl  v_t_ex v_t_pa x2_4 q12 e12) (cwV 1 X.1.2.2.2.2 gX0_count_X0_has rfl rfl rfl kd_X0_has ⟨Nat.le_of_ble_eq_true rfl, Nat.le_of_ble_eq_true rfl⟩) hP hD hS hl.1 0 0 rfl rfl [0, 1] (by decide) (wo_X0_count cI cZ a_t a_t_fe a_t_se a_t_pa a_t_sl v_t_ex v_t_pa) rfl rfl rfl rfl rfl (rest := []) rfl (Nat.le_of_ble_eq_true rfl) dX0_count_12 ⟨Nat.zero_le _, Nat.zero_le _⟩ (fun H locs hP hD hS => ?_)
        refine lv_if_eq (tgt := 21) hx hb dX0_count_15 (by decide) (fun hc => ?_) (fun hc => ?_)
        · replace hf := ifn (b2i_z hc) hf
          refine lv_iinc (v := (x2_4 + nI 1)) (lv' := [(2, .int (x2_4 + nI 1)), (0, .ref a_t), (1, .int x1_4)]) hx hb dX0_count_21 hl (k := 2) rfl (inc_1 _) (by decide) rfl (fun ls hl => ?_)
          refine lv_goto (tgt := 4) hx hb dX0_count_24 (by decide) ?_
          exact ih _ _ _ _ ls hf hP hD hS (lv_sub hl [1, 2, 0] rfl)
        · replace hf := ifp (b2i_nz hc) hf
          refine lv_iinc (v := (x1_4 + nI 1)) (lv' := [(1, .int (x1_4 + nI 1)), (0, .ref a_t), (2, .int x2_4)]) hx hb dX0_count_18 hl (k := 1) rfl (inc_1 _) (by decide) rfl (fun ls hl => ?_)
          refine lv_iinc (v := (x2_4 + nI 1)) (lv' := [(2, .int (x2_4 + nI 1)), (1, .int (x1_4 + nI 1)), (0, .ref a_t)]) hx hb dX0_count_21 hl (k := 2) rfl (inc_1 _) (by decide) rfl (fun ls hl => ?_)
          refine lv_goto (tgt := 4) hx hb dX0_count_24 (by decide) ?_
          exact ih _ _ _ _ ls hf hP hD hS (lv_sub hl [2, 1, 0] rfl)
  unfold fX0_count at hf
  refine lv_iconst hx hb dX0_count_0 ic_0 ?_
  refine lv_istore_n (lv' := [(1, .int 0), (0, .ref a_t)]) hx hb dX0_count_1 rfl hl (by decide) rfl (fun ls hl => ?_)
  refine lv_iconst hx hb dX0_count_2 ic_0 ?_
  refine lv_istore_n (lv' := [(2, .int 0), (1, .int 0), (0, .ref a_t)]) hx hb dX0_count_3 rfl hl (by decide) rfl (fun ls hl => ?_)
  refine L4 _ (fun x1_4 x2_4 H locs ls hf hP hD hS hl => ?_) FU _ _ _ _ ls hf hP hD hS (lv_sub hl [2, 1, 0] rfl)
  refine lv_iload_n hx hb dX0_count_27 rfl (lv_at hl 0 rfl) ?_
  obtain rfl := Option.some.inj hf
  exact retI X hS hP rfl dX0_count_28

abbrev wo_X0_smallestFreeNumber (cI cZ : ClassId) (a_t a_t_fe a_t_se a_t_pa a_t_sl : Nat) (v_t_ex : Int32) (v_t_pa : Nat → Int32) : va_W := [(a_t, oX0 a_t_fe a_t_se a_t_pa a_t_sl v_t_ex), (a_t_pa, rI cI 16 v_t_pa)]
def fX0_smallestFreeNumber_L2 (v_t_pa : Nat → Int32) (K : Int32 → Option (Int32)) : Nat → Int32 → Option (Int32)
  | 0, _ => none
  | k + 1, x1_2 => (if (nI 16) ≤ x1_2 then (K x1_2) else ((fX0_has v_t_pa x1_2).bind (fun q10 => (if q10 = true then (fX0_smallestFreeNumber_L2 v_t_pa K k (x1_2 + nI 1)) else (some x1_2)))))
def fX0_smallestFreeNumber (v_t_pa : Nat → Int32) : Option (Int32) := (fX0_smallestFreeNumber_L2 v_t_pa (fun x1_2 => (some (-9))) FU 0)
theorem kd_X0_smallestFreeNumber : yX0_smallestFreeNumber.cls = RX0 ∧ yX0_smallestFreeNumber.cls ≠ "java/lang/invoke/MethodHandle" ∧ yX0_smallestFreeNumber.cls ≠ "java/lang/invoke/VarHandle" ∧ (parseMethodDescriptor yX0_smallestFreeNumber.desc).map (fun d => d.parameters.length) = some 0 := by decide +kernel
def rm_X0_smallestFreeNumber : Room := { frames := 1, cells := 0, slots := 0, locals := 21 }
set_option maxHeartbeats 4000000 in
set_option maxRecDepth 100000 in
theorem k_X0_smallestFreeNumber (l : Launch) (D : va_G) (cI cZ : ClassId) (a_t a_t_fe a_t_se a_t_pa a_t_sl : Nat) (v_t_ex : Int32) (v_t_pa : Nat → Int32) (q : Int32) (hf : fX0_smallestFreeNumber v_t_pa = some q) : CI l D cI cZ yX0_smallestFreeNumber wsX0_smallestFreeNumber rm_X0_smallestFreeNumber [.ref a_t] (wo_X0_smallestFreeNumber cI cZ a_t a_t_fe a_t_se a_t_pa a_t_sl v_t_ex v_t_pa) (wo_X0_smallestFreeNumber cI cZ a_t a_t_fe a_t_se a_t_pa a_t_sl v_t_ex v_t_pa) q := by
  refine CI.mk (cc := cX0_smallestFreeNumber) (maxL := 2) (by decide) rfl (Nat.le_of_ble_eq_true rfl) ?_
  intro p e s m below meth c ls A X hP hD hl hS
  have hx := X.1.1
  have hb := X.1.2.1
  have hl : lv_has ls 2 [(0, .ref a_t)] := hl
  have L2 : ∀ (K : Int32 → Option (Int32)) (hKK : ∀ (x1_2 : Int32) (H : Heap) (locs : List Loc) (ls : Array Slot), K x1_2 = some q → va_P D vwCl (wo_X0_smallestFreeNumber cI cZ a_t a_t_fe a_t_se a_t_pa a_t_sl v_t_ex v_t_pa) H → va_D A (wo_X0_smallestFreeNumber cI cZ a_t a_t_fe a_t_se a_t_pa a_t_sl v_t_ex v_t_pa) → va_S A s.heap H locs → lv_has ls 2 [] → W p l e rm_X0_smallestFreeNumber s m ([.ref a_t] : List Value).toArray below meth c H locs 0 0 (MQ below (QI D (wo_X0_smallestFreeNumber cI cZ a_t a_t_fe a_t_se a_t_pa a_t_sl v_t_ex v_t_pa) q A) ([.ref a_t] : List Value).toArray s 0 0 A) (F0 m 24 ls [])) (k : Nat) (x1_2 : Int32) (H : Heap) (locs : List Loc) (ls : Array Slot), fX0_smallestFreeNumber_L2 v_t_pa K k x1_2 = some q → va_P D vwCl (wo_X0_smallestFreeNumber cI cZ a_t a_t_fe a_t_se a_t_pa a_t_sl v_t_ex v_t_pa) H → va_D A (wo_X0_smallestFreeNumber cI cZ a_t a_t_fe a_t_se a_t_pa a_t_sl v_t_ex v_t_pa) → va_S A s.heap H locs → lv_has ls 2 [(0, .ref a_t), (1, .int x1_2)] → W p l e rm_X0_smallestFreeNumber s m ([.ref a_t] : List Value).toArray below meth c H locs 0 0 (MQ below (QI D (wo_X0_smallestFreeNumber cI cZ a_t a_t_fe a_t_se a_t_pa a_t_sl v_t_ex v_t_pa) q A) ([.ref a_t] : List Value).toArray s 0 0 A) (F0 m 2 ls []) := by
    intro K hKK k
    induction k with
    | zero => intro x1_2 H locs ls hf; rw [fX0_smallestFreeNumber_L2] at hf; cases hf
    | succ k ih =>
      intro x1_2 H locs ls hf hP hD hS hl
      rw [fX0_smallestFreeNumber_L2] at hf
      refine lv_iload_n hx hb dX0_smallestFreeNumber_2 rfl (lv_at hl 1 rfl) ?_
      refine lv_bipush hx hb dX0_smallestFreeNumber_3 bp_16 ?_
      refine lv_icmp_ge (tgt := 24) hx hb dX0_smallestFreeNumber_5 (by decide) (fun hc => ?_) (fun hc => ?_)
      · replace hf := ifp hc hf
        exact hKK _ _ _ ls hf hP hD hS (lv_sub hl [] rfl)
      · replace hf := ifn hc hf
        refine lv_aload_n hx hb dX0_smallestFreeNumber_8 rfl (lv_at hl 0 rfl) ?_
        refine lv_iload_n hx hb dX0_smallestFreeNumber_9 rfl (lv_at hl 1 rfl) ?_
        obtain ⟨q10, e10, hf⟩ := bnd hf
        refine callVI X (k_X0_has l D cI cZ a_t a_t_fe a_t_se a_t_pa a_t_sl  v_t_ex v_t_pa x1_2 q10 e10) (cwV 1 X.1.2.2.2.2 gX0_smallestFreeNumber_X0_has rfl rfl rfl kd_X0_has ⟨Nat.le_of_ble_eq_true rfl, Nat.le_of_ble_eq_true rfl⟩) hP hD hS hl.1 0 0 rfl rfl [0, 1] (by decide) (wo_X0_smallestFreeNumber cI cZ a_t a_t_fe a_t_se a_t_pa a_t_sl v_t_ex v_t_pa) rfl rfl rfl rfl rfl (rest := []) rfl (Nat.le_of_ble_eq_true rfl) dX0_smallestFreeNumber_10 ⟨Nat.zero_le _, Nat.zero_le _⟩ (fun H locs hP hD hS => ?_)
        refine lv_if_ne (tgt := 18) hx hb dX0_smallestFreeNumber_13 (by decide) (fun hc => ?_) (fun hc => ?_)
        · replace hf := ifp (b2i_nz hc) hf
          refine lv_iinc (v := (x1_2 + nI 1)) (lv' := [(1, .int (x1_2 + nI 1)), (0, .ref a_t)]) hx hb dX0_smallestFreeNumber_18 hl (k := 1) rfl (inc_1 _) (by decide) rfl (fun ls hl => ?_)
          refine lv_goto (tgt := 2) hx hb dX0_smallestFreeNumber_21 (by decide) ?_
          exact ih _ _ _ ls hf hP hD hS (lv_sub hl [1, 0] rfl)
        · replace hf := ifn (b2i_z hc) hf
          refine lv_iload_n hx hb dX0_smallestFreeNumber_16 rfl (lv_at hl 1 rfl) ?_
          obtain rfl := Option.some.inj hf
          exact retI X hS hP rfl dX0_smallestFreeNumber_17
  unfold fX0_smallestFreeNumber at hf
  refine lv_iconst hx hb dX0_smallestFreeNumber_0 ic_0 ?_
  refine lv_istore_n (lv' := [(1, .int 0), (0, .ref a_t)]) hx hb dX0_smallestFreeNumber_1 rfl hl (by decide) rfl (fun ls hl => ?_)
  refine L2 _ (fun x1_2 H locs ls hf hP hD hS hl => ?_) FU _ _ _ ls hf hP hD hS (lv_sub hl [1, 0] rfl)
  refine lv_bipush hx hb dX0_smallestFreeNumber_24 bp_m9 ?_
  obtain rfl := Option.some.inj hf
  exact retI X hS hP rfl dX0_smallestFreeNumber_26

abbrev wo_X0_crossing (cI cZ : ClassId) (a_t a_t_fe a_t_se a_t_pa a_t_sl : Nat) (v_t_ex : Int32) (v_t_pa : Nat → Int32) : va_W := [(a_t, oX0 a_t_fe a_t_se a_t_pa a_t_sl v_t_ex), (a_t_pa, rI cI 16 v_t_pa)]
def fX0_crossing_L4 (v_t_pa : Nat → Int32) (p1 : Int32) (K : Int32 → Int32 → Option (Int32)) : Nat → Int32 → Int32 → Option (Int32)
  | 0, _, _ => none
  | k + 1, x2_4, x3_4 => (if (nI 16) ≤ x3_4 then (K x2_4 x3_4) else (if (x3_4 < 0 ∨ 16 ≤ (x3_4).toNatClampNeg) then none else (if ((v_t_pa (x3_4).toNatClampNeg) &&& p1) = 0 then (fX0_crossing_L4 v_t_pa p1 K k x2_4 (x3_4 + nI 1)) else (fX0_crossing_L4 v_t_pa p1 K k (x2_4 ||| ((nI 1) <<< (x3_4 &&& 31))) (x3_4 + nI 1)))))
def fX0_crossing (v_t_pa : Nat → Int32) (p1 : Int32) : Option (Int32) := (fX0_crossing_L4 v_t_pa p1 (fun x2_4 x3_4 => (some x2_4)) FU 0 0)
theorem kd_X0_crossing : yX0_crossing.cls = RX0 ∧ yX0_crossing.cls ≠ "java/lang/invoke/MethodHandle" ∧ yX0_crossing.cls ≠ "java/lang/invoke/VarHandle" ∧ (parseMethodDescriptor yX0_crossing.desc).map (fun d => d.parameters.length) = some 1 := by decide +kernel
def rm_X0_crossing : Room := { frames := 0, cells := 0, slots := 0, locals := 0 }
set_option maxHeartbeats 4000000 in
set_option maxRecDepth 100000 in
theorem k_X0_crossing (l : Launch) (D : va_G) (cI cZ : ClassId) (a_t a_t_fe a_t_se a_t_pa a_t_sl : Nat) (v_t_ex : Int32) (v_t_pa : Nat → Int32) (p1 : Int32) (q : Int32) (hf : fX0_crossing v_t_pa p1 = some q) : CI l D cI cZ yX0_crossing wsX0_crossing rm_X0_crossing [.ref a_t, .int p1] (wo_X0_crossing cI cZ a_t a_t_fe a_t_se a_t_pa a_t_sl v_t_ex v_t_pa) (wo_X0_crossing cI cZ a_t a_t_fe a_t_se a_t_pa a_t_sl v_t_ex v_t_pa) q := by
  refine CI.mk (cc := cX0_crossing) (maxL := 4) (by decide) rfl (Nat.le_of_ble_eq_true rfl) ?_
  intro p e s m below meth c ls A X hP hD hl hS
  have hx := X.1.1
  have hb := X.1.2.1
  have hl : lv_has ls 4 [(0, .ref a_t), (1, .int p1)] := hl
  have inX0 : ∀ w ∈ u_ws RX0 TX0 5, w ∈ wsX0_crossing := fun _ h => List.mem_cons_of_mem _ (List.mem_append_right _ h)
  have L4 : ∀ (K : Int32 → Int32 → Option (Int32)) (hKK : ∀ (x2_4 : Int32) (x3_4 : Int32) (H : Heap) (locs : List Loc) (ls : Array Slot), K x2_4 x3_4 = some q → va_P D vwCl (wo_X0_crossing cI cZ a_t a_t_fe a_t_se a_t_pa a_t_sl v_t_ex v_t_pa) H → va_D A (wo_X0_crossing cI cZ a_t a_t_fe a_t_se a_t_pa a_t_sl v_t_ex v_t_pa) → va_S A s.heap H locs → lv_has ls 4 [(2, .int x2_4)] → W p l e rm_X0_crossing s m ([.ref a_t, .int p1] : List Value).toArray below meth c H locs 0 0 (MQ below (QI D (wo_X0_crossing cI cZ a_t a_t_fe a_t_se a_t_pa a_t_sl v_t_ex v_t_pa) q A) ([.ref a_t, .int p1] : List Value).toArray s 0 0 A) (F0 m 33 ls [])) (k : Nat) (x2_4 : Int32) (x3_4 : Int32) (H : Heap) (locs : List Loc) (ls : Array Slot), fX0_crossing_L4 v_t_pa p1 K k x2_4 x3_4 = some q → va_P D vwCl (wo_X0_crossing cI cZ a_t a_t_fe a_t_se a_t_pa a_t_sl v_t_ex v_t_pa) H → va_D A (wo_X0_crossing cI cZ a_t a_t_fe a_t_se a_t_pa a_t_sl v_t_ex v_t_pa) → va_S A s.heap H locs → lv_has ls 4 [(0, .ref a_t), (1, .int p1), (2, .int x2_4), (3, .int x3_4)] → W p l e rm_X0_crossing s m ([.ref a_t, .int p1] : List Value).toArray below meth c H locs 0 0 (MQ below (QI D (wo_X0_crossing cI cZ a_t a_t_fe a_t_se a_t_pa a_t_sl v_t_ex v_t_pa) q A) ([.ref a_t, .int p1] : List Value).toArray s 0 0 A) (F0 m 4 ls []) := by
    intro K hKK k
    induction k with
    | zero => intro x2_4 x3_4 H locs ls hf; rw [fX0_crossing_L4] at hf; cases hf
    | succ k ih =>
      intro x2_4 x3_4 H locs ls hf hP hD hS hl
      rw [fX0_crossing_L4] at hf
      refine lv_iload_n hx hb dX0_crossing_4 rfl (lv_at hl 3 rfl) ?_
      refine lv_bipush hx hb dX0_crossing_5 bp_16 ?_
      refine lv_icmp_ge (tgt := 33) hx hb dX0_crossing_7 (by decide) (fun hc => ?_) (fun hc => ?_)
      · replace hf := ifp hc hf
        exact hKK _ _ _ _ ls hf hP hD hS (lv_sub hl [2] rfl)
      · replace hf := ifn hc hf
        refine lv_aload_n hx hb dX0_crossing_10 rfl (lv_at hl 0 rfl) ?_
        refine getO X hP inX0 0 rfl rfl 2 (by decide) (List.mem_of_getElem? (i := 1) rfl) rfl dX0_crossing_11 ?_
        refine lv_iload_n hx hb dX0_crossing_14 rfl (lv_at hl 3 rfl) ?_
        obtain ⟨g15, hf⟩ := grd hf
        refine aldI X hP 1 rfl g15 rfl dX0_crossing_15 ?_
        refine lv_iload_n hx hb dX0_crossing_16 rfl (lv_at hl 1 rfl) ?_
        refine lv_iand hx hb dX0_crossing_17 ?_
        refine lv_if_eq (tgt := 27) hx hb dX0_crossing_18 (by decide) (fun hc => ?_) (fun hc => ?_)
        · replace hf := ifp hc hf
          refine lv_iinc (v := (x3_4 + nI 1)) (lv' := [(3, .int (x3_4 + nI 1)), (0, .ref a_t), (1, .int p1), (2, .int x2_4)]) hx hb dX0_crossing_27 hl (k := 3) rfl (inc_1 _) (by decide) rfl (fun ls hl => ?_)
          refine lv_goto (tgt := 4) hx hb dX0_crossing_30 (by decide) ?_
          exact ih _ _ _ _ ls hf hP hD hS (lv_sub hl [1, 2, 3, 0] rfl)
        · replace hf := ifn hc hf
          refine lv_iload_n hx hb dX0_crossing_21 rfl (lv_at hl 2 rfl) ?_
          refine lv_iconst hx hb dX0_crossing_22 ic_1 ?_
          refine lv_iload_n hx hb dX0_crossing_23 rfl (lv_at hl 3 rfl) ?_
          refine lv_ishl hx hb dX0_crossing_24 ?_
          refine lv_ior hx hb dX0_crossing_25 ?_
          refine lv_istore_n (lv' := [(2, .int (x2_4 ||| ((nI 1) <<< (x3_4 &&& 31)))), (0, .ref a_t), (1, .int p1), (3, .int x3_4)]) hx hb dX0_crossing_26 rfl hl (by decide) rfl (fun ls hl => ?_)
          refine lv_iinc (v := (x3_4 + nI 1)) (lv' := [(3, .int (x3_4 + nI 1)), (2, .int (x2_4 ||| ((nI 1) <<< (x3_4 &&& 31)))), (0, .ref a_t), (1, .int p1)]) hx hb dX0_crossing_27 hl (k := 3) rfl (inc_1 _) (by decide) rfl (fun ls hl => ?_)
          refine lv_goto (tgt := 4) hx hb dX0_crossing_30 (by decide) ?_
          exact ih _ _ _ _ ls hf hP hD hS (lv_sub hl [2, 3, 1, 0] rfl)
  unfold fX0_crossing at hf
  refine lv_iconst hx hb dX0_crossing_0 ic_0 ?_
  refine lv_istore_n (lv' := [(2, .int 0), (0, .ref a_t), (1, .int p1)]) hx hb dX0_crossing_1 rfl hl (by decide) rfl (fun ls hl => ?_)
  refine lv_iconst hx hb dX0_crossing_2 ic_0 ?_
  refine lv_istore_n (lv' := [(3, .int 0), (2, .int 0), (0, .ref a_t), (1, .int p1)]) hx hb dX0_crossing_3 rfl hl (by decide) rfl (fun ls hl => ?_)
  refine L4 _ (fun x2_4 x3_4 H locs ls hf hP hD hS hl => ?_) FU _ _ _ _ ls hf hP hD hS (lv_sub hl [2, 3, 1, 0] rfl)
  refine lv_iload_n hx hb dX0_crossing_33 rfl (lv_at hl 0 rfl) ?_
  obtain rfl := Option.some.inj hf
  exact retI X hS hP rfl dX0_crossing_34

abbrev wo_X0_slotsUsed (cI cZ : ClassId) (a_t a_t_fe a_t_se a_t_pa a_t_sl : Nat) (v_t_ex : Int32) (v_t_pa : Nat → Int32) (v_t_sl : Nat → Int32) : va_W := [(a_t, oX0 a_t_fe a_t_se a_t_pa a_t_sl v_t_ex), (a_t_pa, rI cI 16 v_t_pa), (a_t_sl, rI cI 16 v_t_sl)]
def fX0_slotsUsed_L5 (v_t_ex : Int32) (v_t_pa : Nat → Int32) (v_t_sl : Nat → Int32) (p1 : Int32) (p2 : Int32) (K : Int32 → Int32 → Option (Int32)) : Nat → Int32 → Int32 → Option (Int32)
  | 0, _, _ => none
  | k + 1, x3_5, x4_5 => (if (nI 16) ≤ x4_5 then (K x3_5 x4_5) else (if (x4_5 < 0 ∨ 16 ≤ (x4_5).toNatClampNeg) then none else (if ((v_t_pa (x4_5).toNatClampNeg) &&& p1) = 0 then (fX0_slotsUsed_L5 v_t_ex v_t_pa v_t_sl p1 p2 K k x3_5 (x4_5 + nI 1)) else ((fX0_isExtra v_t_ex x4_5).bind (fun q27 => (if (b2i q27) = p2 then (if (x4_5 < 0 ∨ 16 ≤ (x4_5).toNatClampNeg) then none else (fX0_slotsUsed_L5 v_t_ex v_t_pa v_t_sl p1 p2 K k (x3_5 ||| ((nI 1) <<< ((v_t_sl (x4_5).toNatClampNeg) &&& 31))) (x4_5 + nI 1))) else (fX0_slotsUsed_L5 v_t_ex v_t_pa v_t_sl p1 p2 K k x3_5 (x4_5 + nI 1))))))))
def fX0_slotsUsed (v_t_ex : Int32) (v_t_pa : Nat → Int32) (v_t_sl : Nat → Int32) (p1 : Int32) (p2 : Int32) : Option (Int32) := (fX0_slotsUsed_L5 v_t_ex v_t_pa v_t_sl p1 p2 (fun x3_5 x4_5 => (some x3_5)) FU 0 0)
theorem kd_X0_slotsUsed : yX0_slotsUsed.cls = RX0 ∧ yX0_slotsUsed.cls ≠ "java/lang/invoke/MethodHandle" ∧ yX0_slotsUsed.cls ≠ "java/lang/invoke/VarHandle" ∧ (parseMethodDescriptor yX0_slotsUsed.desc).map (fun d => d.parameters.length) = some 2 := by decide +kernel
def rm_X0_slotsUsed : Room := { frames := 2, cells := 0, slots := 0, locals := 42 }
set_option maxHeartbeats 4000000 in
set_option maxRecDepth 100000 in
theorem k_X0_slotsUsed (l : Launch) (D : va_G) (cI cZ : ClassId) (a_t a_t_fe a_t_se a_t_pa a_t_sl : Nat) (v_t_ex : Int32) (v_t_pa : Nat → Int32) (v_t_sl : Nat → Int32) (p1 : Int32) (p2 : Int32) (q : Int32) (hf : fX0_slotsUsed v_t_ex v_t_pa v_t_sl p1 p2 = some q) : CI l D cI cZ yX0_slotsUsed wsX0_slotsUsed rm_X0_slotsUsed [.ref a_t, .int p1, .int p2] (wo_X0_slotsUsed cI cZ a_t a_t_fe a_t_se a_t_pa a_t_sl v_t_ex v_t_pa v_t_sl) (wo_X0_slotsUsed cI cZ a_t a_t_fe a_t_se a_t_pa a_t_sl v_t_ex v_t_pa v_t_sl) q := by
  refine CI.mk (cc := cX0_slotsUsed) (maxL := 5) (by decide) rfl (Nat.le_of_ble_eq_true rfl) ?_
  intro p e s m below meth c ls A X hP hD hl hS
  have hx := X.1.1
  have hb := X.1.2.1
  have hl : lv_has ls 5 [(0, .ref a_t), (1, .int p1), (2, .int p2)] := hl
  have inX0 : ∀ w ∈ u_ws RX0 TX0 5, w ∈ wsX0_slotsUsed := fun _ h => List.mem_cons_of_mem _ (List.mem_append_right _ h)
  have L5 : ∀ (K : Int32 → Int32 → Option (Int32)) (hKK : ∀ (x3_5 : Int32) (x4_5 : Int32) (H : Heap) (locs : List Loc) (ls : Array Slot), K x3_5 x4_5 = some q → va_P D vwCl (wo_X0_slotsUsed cI cZ a_t a_t_fe a_t_se a_t_pa a_t_sl v_t_ex v_t_pa v_t_sl) H → va_D A (wo_X0_slotsUsed cI cZ a_t a_t_fe a_t_se a_t_pa a_t_sl v_t_ex v_t_pa v_t_sl) → va_S A s.heap H locs → lv_has ls 5 [(3, .int x3_5)] → W p l e rm_X0_slotsUsed s m ([.ref a_t, .int p1, .int p2] : List Value).toArray below meth c H locs 0 0 (MQ below (QI D (wo_X0_slotsUsed cI cZ a_t a_t_fe a_t_se a_t_pa a_t_sl v_t_ex v_t_pa v_t_sl) q A) ([.ref a_t, .int p1, .int p2] : List Value).toArray s 0 0 A) (F0 m 52 ls [])) (k : Nat) (x3_5 : Int32) (x4_5 : Int32) (H : Heap) (locs : List Loc) (ls : Array Slot), fX0_slotsUsed_L5 v_t_ex v_t_pa v_t_sl p1 p2 K k x3_5 x4_5 = some q → va_P D vwCl (wo_X0_slotsUsed cI cZ a_t a_t_fe a_t_se a_t_pa a_t_sl v_t_ex v_t_pa v_t_sl) H → va_D A (wo_X0_slotsUsed cI cZ a_t a_t_fe a_t_se a_t_pa a_t_sl v_t_ex v_t_pa v_t_sl) → va_S A s.heap H locs → lv_has ls 5 [(0, .ref a_t), (1, .int p1), (2, .int p2), (3, .int x3_5), (4, .int x4_5)] → W p l e rm_X0_slotsUsed s m ([.ref a_t, .int p1, .int p2] : List Value).toArray below meth c H locs 0 0 (MQ below (QI D (wo_X0_slotsUsed cI cZ a_t a_t_fe a_t_se a_t_pa a_t_sl v_t_ex v_t_pa v_t_sl) q A) ([.ref a_t, .int p1, .int p2] : List Value).toArray s 0 0 A) (F0 m 5 ls []) := by
    intro K hKK k
    induction k with
    | zero => intro x3_5 x4_5 H locs ls hf; rw [fX0_slotsUsed_L5] at hf; cases hf
    | succ k ih =>
      intro x3_5 x4_5 H locs ls hf hP hD hS hl
      rw [fX0_slotsUsed_L5] at hf
      refine lv_iload hx hb dX0_slotsUsed_5 (lv_at hl 4 rfl) ?_
      refine lv_bipush hx hb dX0_slotsUsed_7 bp_16 ?_
      refine lv_icmp_ge (tgt := 52) hx hb dX0_slotsUsed_9 (by decide) (fun hc => ?_) (fun hc => ?_)
      · replace hf := ifp hc hf
        exact hKK _ _ _ _ ls hf hP hD hS (lv_sub hl [3] rfl)
      · replace hf := ifn hc hf
        refine lv_aload_n hx hb dX0_slotsUsed_12 rfl (lv_at hl 0 rfl) ?_
        refine getO X hP inX0 0 rfl rfl 2 (by decide) (List.mem_of_getElem? (i := 1) rfl) rfl dX0_slotsUsed_13 ?_
        refine lv_iload hx hb dX0_slotsUsed_16 (lv_at hl 4 rfl) ?_
        obtain ⟨g18, hf⟩ := grd hf
        refine aldI X hP 1 rfl g18 rfl dX0_slotsUsed_18 ?_
        refine lv_iload_n hx hb dX0_slotsUsed_19 rfl (lv_at hl 1 rfl) ?_
        refine lv_iand hx hb dX0_slotsUsed_20 ?_
        refine lv_if_eq (tgt := 46) hx hb dX0_slotsUsed_21 (by decide) (fun hc => ?_) (fun hc => ?_)
        · replace hf := ifp hc hf
          refine lv_iinc (v := (x4_5 + nI 1)) (lv' := [(4, .int (x4_5 + nI 1)), (0, .ref a_t), (1, .int p1), (2, .int p2), (3, .int x3_5)]) hx hb dX0_slotsUsed_46 hl (k := 4) rfl (inc_1 _) (by decide) rfl (fun ls hl => ?_)
          refine lv_goto (tgt := 5) hx hb dX0_slotsUsed_49 (by decide) ?_
          exact ih _ _ _ _ ls hf hP hD hS (lv_sub hl [1, 2, 3, 4, 0] rfl)
        · replace hf := ifn hc hf
          refine lv_aload_n hx hb dX0_slotsUsed_24 rfl (lv_at hl 0 rfl) ?_
          refine lv_iload hx hb dX0_slotsUsed_25 (lv_at hl 4 rfl) ?_
          obtain ⟨q27, e27, hf⟩ := bnd hf
          refine callVI X (k_X0_isExtra l D cI cZ a_t a_t_fe a_t_se a_t_pa a_t_sl  v_t_ex x4_5 q27 e27) (cwV 1 X.1.2.2.2.2 gX0_slotsUsed_X0_isExtra rfl rfl rfl kd_X0_isExtra ⟨Nat.le_of_ble_eq_true rfl, Nat.le_of_ble_eq_true rfl⟩) hP hD hS hl.1 0 0 rfl rfl [0] (by decide) (wo_X0_slotsUsed cI cZ a_t a_t_fe a_t_se a_t_pa a_t_sl v_t_ex v_t_pa v_t_sl) rfl rfl rfl rfl rfl (rest := []) rfl (Nat.le_of_ble_eq_true rfl) dX0_slotsUsed_27 ⟨Nat.zero_le _, Nat.zero_le _⟩ (fun H locs hP hD hS => ?_)
          refine lv_iload_n hx hb dX0_slotsUsed_30 rfl (lv_at hl 2 rfl) ?_
          refine lv_icmp_ne (tgt := 46) hx hb dX0_slotsUsed_31 (by decide) (fun hc => ?_) (fun hc => ?_)
          · replace hf := ifn hc hf
            refine lv_iinc (v := (x4_5 + nI 1)) (lv' := [(4, .int (x4_5 + nI 1)), (0, .ref a_t), (1, .int p1), (2, .int p2), (3, .int x3_5)]) hx hb dX0_slotsUsed_46 hl (k := 4) rfl (inc_1 _) (by decide) rfl (fun ls hl => ?_)
            refine lv_goto (tgt := 5) hx hb dX0_slotsUsed_49 (by decide) ?_
            exact ih _ _ _ _ ls hf hP hD hS (lv_sub hl [1, 2, 3, 4, 0] rfl)
          · replace hf := ifp hc hf
            refine lv_iload_n hx hb dX0_slotsUsed_34 rfl (lv_at hl 3 rfl) ?_
            refine lv_iconst hx hb dX0_slotsUsed_35 ic_1 ?_
            refine lv_aload_n hx hb dX0_slotsUsed_36 rfl (lv_at hl 0 rfl) ?_
            refine getO X hP inX0 0 rfl rfl 3 (by decide) (List.mem_of_getElem? (i := 2) rfl) rfl dX0_slotsUsed_37 ?_
            refine lv_iload hx hb dX0_slotsUsed_40 (lv_at hl 4 rfl) ?_
            obtain ⟨g42, hf⟩ := grd hf
            refine aldI X hP 2 rfl g42 rfl dX0_slotsUsed_42 ?_
            refine lv_ishl hx hb dX0_slotsUsed_43 ?_
            refine lv_ior hx hb dX0_slotsUsed_44 ?_
            refine lv_istore_n (lv' := [(3, .int (x3_5 ||| ((nI 1) <<< ((v_t_sl (x4_5).toNatClampNeg) &&& 31)))), (0, .ref a_t), (1, .int p1), (2, .int p2), (4, .int x4_5)]) hx hb dX0_slotsUsed_45 rfl hl (by decide) rfl (fun ls hl => ?_)
            refine lv_iinc (v := (x4_5 + nI 1)) (lv' := [(4, .int (x4_5 + nI 1)), (3, .int (x3_5 ||| ((nI 1) <<< ((v_t_sl (x4_5).toNatClampNeg) &&& 31)))), (0, .ref a_t), (1, .int p1), (2, .int p2)]) hx hb dX0_slotsUsed_46 hl (k := 4) rfl (inc_1 _) (by decide) rfl (fun ls hl => ?_)
            refine lv_goto (tgt := 5) hx hb dX0_slotsUsed_49 (by decide) ?_
            exact ih _ _ _ _ ls hf hP hD hS (lv_sub hl [2, 3, 4, 1, 0] rfl)
  unfold fX0_slotsUsed at hf
  refine lv_iconst hx hb dX0_slotsUsed_0 ic_0 ?_
  refine lv_istore_n (lv' := [(3, .int 0), (0, .ref a_t), (1, .int p1), (2, .int p2)]) hx hb dX0_slotsUsed_1 rfl hl (by decide) rfl (fun ls hl => ?_)
  refine lv_iconst hx hb dX0_slotsUsed_2 ic_0 ?_
  refine lv_istore (lv' := [(4, .int 0), (3, .int 0), (0, .ref a_t), (1, .int p1), (2, .int p2)]) hx hb dX0_slotsUsed_3 hl (by decide) rfl (fun ls hl => ?_)
  refine L5 _ (fun x3_5 x4_5 H locs ls hf hP hD hS hl => ?_) FU _ _ _ _ ls hf hP hD hS (lv_sub hl [2, 3, 4, 1, 0] rfl)
  refine lv_iload_n hx hb dX0_slotsUsed_52 rfl (lv_at hl 0 rfl) ?_
  obtain rfl := Option.some.inj hf
  exact retI X hS hP rfl dX0_slotsUsed_53

abbrev wo_X0_putEnds (cI cZ : ClassId) (a_t a_t_fe a_t_se a_t_pa a_t_sl : Nat) (v_t_ex : Int32) (v_t_fe : Nat → Int32) (v_t_se : Nat → Int32) : va_W := [(a_t, oX0 a_t_fe a_t_se a_t_pa a_t_sl v_t_ex), (a_t_fe, rI cI 16 v_t_fe), (a_t_se, rI cI 16 v_t_se)]
def fX0_putEnds (v_t_fe : Nat → Int32) (v_t_se : Nat → Int32) (p1 : Int32) (p2 : Int32) (p3 : Int32) : Option ((Nat → Int32) × (Nat → Int32)) := (if p1 < 0 then (some (v_t_fe, v_t_se)) else (if (nI 16) ≤ p1 then (some (v_t_fe, v_t_se)) else (if (p1 < 0 ∨ 16 ≤ (p1).toNatClampNeg) then none else (if (p1 < 0 ∨ 16 ≤ (p1).toNatClampNeg) then none else (some ((upd v_t_fe (p1).toNatClampNeg p2), (upd v_t_se (p1).toNatClampNeg p3)))))))
theorem kd_X0_putEnds : yX0_putEnds.cls = RX0 ∧ yX0_putEnds.cls ≠ "java/lang/invoke/MethodHandle" ∧ yX0_putEnds.cls ≠ "java/lang/invoke/VarHandle" ∧ (parseMethodDescriptor yX0_putEnds.desc).map (fun d => d.parameters.length) = some 3 := by decide +kernel
def rm_X0_putEnds : Room := { frames := 0, cells := 0, slots := 0, locals := 0 }
set_option maxHeartbeats 4000000 in
set_option maxRecDepth 100000 in
theorem k_X0_putEnds (l : Launch) (D : va_G) (cI cZ : ClassId) (a_t a_t_fe a_t_se a_t_pa a_t_sl : Nat) (v_t_ex : Int32) (v_t_fe : Nat → Int32) (v_t_se : Nat → Int32) (p1 : Int32) (p2 : Int32) (p3 : Int32) (q : (Nat → Int32) × (Nat → Int32)) (hf : fX0_putEnds v_t_fe v_t_se p1 p2 p3 = some q) : CV l D cI cZ yX0_putEnds wsX0_putEnds rm_X0_putEnds [.ref a_t, .int p1, .int p2, .int p3] (wo_X0_putEnds cI cZ a_t a_t_fe a_t_se a_t_pa a_t_sl v_t_ex v_t_fe v_t_se) (wo_X0_putEnds cI cZ a_t a_t_fe a_t_se a_t_pa a_t_sl v_t_ex q.1 q.2) := by
  refine CV.mk (cc := cX0_putEnds) (maxL := 4) (by decide) rfl (Nat.le_of_ble_eq_true rfl) ?_
  intro p e s m below meth c ls A X hP hD hl hS
  have hx := X.1.1
  have hb := X.1.2.1
  have hl : lv_has ls 4 [(0, .ref a_t), (1, .int p1), (2, .int p2), (3, .int p3)] := hl
  have inX0 : ∀ w ∈ u_ws RX0 TX0 5, w ∈ wsX0_putEnds := fun _ h => List.mem_cons_of_mem _ (List.mem_append_right _ h)
  unfold fX0_putEnds at hf
  refine lv_iload_n hx hb dX0_putEnds_0 rfl (lv_at hl 1 rfl) ?_
  refine lv_if_lt (tgt := 24) hx hb dX0_putEnds_1 (by decide) (fun hc => ?_) (fun hc => ?_)
  · replace hf := ifp hc hf
    obtain rfl := Option.some.inj hf
    exact retV X hS hP dX0_putEnds_24
  · replace hf := ifn hc hf
    refine lv_iload_n hx hb dX0_putEnds_4 rfl (lv_at hl 1 rfl) ?_
    refine lv_bipush hx hb dX0_putEnds_5 bp_16 ?_
    refine lv_icmp_ge (tgt := 24) hx hb dX0_putEnds_7 (by decide) (fun hc => ?_) (fun hc => ?_)
    · replace hf := ifp hc hf
      obtain rfl := Option.some.inj hf
      exact retV X hS hP dX0_putEnds_24
    · replace hf := ifn hc hf
      refine lv_aload_n hx hb dX0_putEnds_10 rfl (lv_at hl 0 rfl) ?_
      refine getO X hP inX0 0 rfl rfl 0 (by decide) (List.mem_of_getElem? (i := 1) rfl) rfl dX0_putEnds_11 ?_
      refine lv_iload_n hx hb dX0_putEnds_14 rfl (lv_at hl 1 rfl) ?_
      refine lv_iload_n hx hb dX0_putEnds_15 rfl (lv_at hl 2 rfl) ?_
      obtain ⟨g16, hf⟩ := grd hf
      refine astI X hP hD hS 1 rfl g16 rfl dX0_putEnds_16 (wo_X0_putEnds cI cZ a_t a_t_fe a_t_se a_t_pa a_t_sl v_t_ex (upd v_t_fe (p1).toNatClampNeg p2) v_t_se) rfl (fun H locs hP hD hS => ?_)
      refine lv_aload_n hx hb dX0_putEnds_17 rfl (lv_at hl 0 rfl) ?_
      refine getO X hP inX0 0 rfl rfl 1 (by decide) (List.mem_of_getElem? (i := 2) rfl) rfl dX0_putEnds_18 ?_
      refine lv_iload_n hx hb dX0_putEnds_21 rfl (lv_at hl 1 rfl) ?_
      refine lv_iload_n hx hb dX0_putEnds_22 rfl (lv_at hl 3 rfl) ?_
      obtain ⟨g23, hf⟩ := grd hf
      refine astI X hP hD hS 2 rfl g23 rfl dX0_putEnds_23 (wo_X0_putEnds cI cZ a_t a_t_fe a_t_se a_t_pa a_t_sl v_t_ex (upd v_t_fe (p1).toNatClampNeg p2) (upd v_t_se (p1).toNatClampNeg p3)) rfl (fun H locs hP hD hS => ?_)
      obtain rfl := Option.some.inj hf
      exact retV X hS hP dX0_putEnds_24

abbrev wo_X0_putRoute (cI cZ : ClassId) (a_t a_t_fe a_t_se a_t_pa a_t_sl : Nat) (v_t_ex : Int32) (v_t_pa : Nat → Int32) (v_t_sl : Nat → Int32) : va_W := [(a_t, oX0 a_t_fe a_t_se a_t_pa a_t_sl v_t_ex), (a_t_pa, rI cI 16 v_t_pa), (a_t_sl, rI cI 16 v_t_sl)]
def fX0_putRoute (v_t_ex : Int32) (v_t_pa : Nat → Int32) (v_t_sl : Nat → Int32) (p1 : Int32) (p2 : Int32) (p3 : Int32) (p4 : Int32) : Option (Int32 × (Nat → Int32) × (Nat → Int32)) := (if p1 < 0 then (some (v_t_ex, v_t_pa, v_t_sl)) else (if (nI 16) ≤ p1 then (some (v_t_ex, v_t_pa, v_t_sl)) else (if (p1 < 0 ∨ 16 ≤ (p1).toNatClampNeg) then none else (if (p1 < 0 ∨ 16 ≤ (p1).toNatClampNeg) then none else ((fX5_marked v_t_ex p1 p4).bind (fun q32 => (some (q32, (upd v_t_pa (p1).toNatClampNeg p2), (upd v_t_sl (p1).toNatClampNeg p3)))))))))
theorem kd_X0_putRoute : yX0_putRoute.cls = RX0 ∧ yX0_putRoute.cls ≠ "java/lang/invoke/MethodHandle" ∧ yX0_putRoute.cls ≠ "java/lang/invoke/VarHandle" ∧ (parseMethodDescriptor yX0_putRoute.desc).map (fun d => d.parameters.length) = some 4 := by decide +kernel
def rm_X0_putRoute : Room := { frames := 1, cells := 0, slots := 0, locals := 22 }
set_option maxHeartbeats 4000000 in
set_option maxRecDepth 100000 in
theorem k_X0_putRoute (l : Launch) (D : va_G) (cI cZ : ClassId) (a_t a_t_fe a_t_se a_t_pa a_t_sl : Nat) (v_t_ex : Int32) (v_t_pa : Nat → Int32) (v_t_sl : Nat → Int32) (p1 : Int32) (p2 : Int32) (p3 : Int32) (p4 : Int32) (q : Int32 × (Nat → Int32) × (Nat → Int32)) (hf : fX0_putRoute v_t_ex v_t_pa v_t_sl p1 p2 p3 p4 = some q) : CV l D cI cZ yX0_putRoute wsX0_putRoute rm_X0_putRoute [.ref a_t, .int p1, .int p2, .int p3, .int p4] (wo_X0_putRoute cI cZ a_t a_t_fe a_t_se a_t_pa a_t_sl v_t_ex v_t_pa v_t_sl) (wo_X0_putRoute cI cZ a_t a_t_fe a_t_se a_t_pa a_t_sl q.1 q.2.1 q.2.2) := by
  refine CV.mk (cc := cX0_putRoute) (maxL := 5) (by decide) rfl (Nat.le_of_ble_eq_true rfl) ?_
  intro p e s m below meth c ls A X hP hD hl hS
  have hx := X.1.1
  have hb := X.1.2.1
  have hl : lv_has ls 5 [(0, .ref a_t), (1, .int p1), (2, .int p2), (3, .int p3), (4, .int p4)] := hl
  have inX0 : ∀ w ∈ u_ws RX0 TX0 5, w ∈ wsX0_putRoute := fun _ h => List.mem_cons_of_mem _ (List.mem_append_right _ h)
  unfold fX0_putRoute at hf
  refine lv_iload_n hx hb dX0_putRoute_0 rfl (lv_at hl 1 rfl) ?_
  refine lv_if_lt (tgt := 38) hx hb dX0_putRoute_1 (by decide) (fun hc => ?_) (fun hc => ?_)
  · replace hf := ifp hc hf
    obtain rfl := Option.some.inj hf
    exact retV X hS hP dX0_putRoute_38
  · replace hf := ifn hc hf
    refine lv_iload_n hx hb dX0_putRoute_4 rfl (lv_at hl 1 rfl) ?_
    refine lv_bipush hx hb dX0_putRoute_5 bp_16 ?_
    refine lv_icmp_ge (tgt := 38) hx hb dX0_putRoute_7 (by decide) (fun hc => ?_) (fun hc => ?_)
    · replace hf := ifp hc hf
      obtain rfl := Option.some.inj hf
      exact retV X hS hP dX0_putRoute_38
    · replace hf := ifn hc hf
      refine lv_aload_n hx hb dX0_putRoute_10 rfl (lv_at hl 0 rfl) ?_
      refine getO X hP inX0 0 rfl rfl 2 (by decide) (List.mem_of_getElem? (i := 1) rfl) rfl dX0_putRoute_11 ?_
      refine lv_iload_n hx hb dX0_putRoute_14 rfl (lv_at hl 1 rfl) ?_
      refine lv_iload_n hx hb dX0_putRoute_15 rfl (lv_at hl 2 rfl) ?_
      obtain ⟨g16, hf⟩ := grd hf
      refine astI X hP hD hS 1 rfl g16 rfl dX0_putRoute_16 (wo_X0_putRoute cI cZ a_t a_t_fe a_t_se a_t_pa a_t_sl v_t_ex (upd v_t_pa (p1).toNatClampNeg p2) v_t_sl) rfl (fun H locs hP hD hS => ?_)
      refine lv_aload_n hx hb dX0_putRoute_17 rfl (lv_at hl 0 rfl) ?_
      refine getO X hP inX0 0 rfl rfl 3 (by decide) (List.mem_of_getElem? (i := 2) rfl) rfl dX0_putRoute_18 ?_
      refine lv_iload_n hx hb dX0_putRoute_21 rfl (lv_at hl 1 rfl) ?_
      refine lv_iload_n hx hb dX0_putRoute_22 rfl (lv_at hl 3 rfl) ?_
      obtain ⟨g23, hf⟩ := grd hf
      refine astI X hP hD hS 2 rfl g23 rfl dX0_putRoute_23 (wo_X0_putRoute cI cZ a_t a_t_fe a_t_se a_t_pa a_t_sl v_t_ex (upd v_t_pa (p1).toNatClampNeg p2) (upd v_t_sl (p1).toNatClampNeg p3)) rfl (fun H locs hP hD hS => ?_)
      refine lv_aload_n hx hb dX0_putRoute_24 rfl (lv_at hl 0 rfl) ?_
      refine lv_aload_n hx hb dX0_putRoute_25 rfl (lv_at hl 0 rfl) ?_
      refine getO X hP inX0 0 rfl rfl 4 (by decide) (List.mem_of_getElem? (i := 3) rfl) rfl dX0_putRoute_26 ?_
      refine lv_iload_n hx hb dX0_putRoute_29 rfl (lv_at hl 1 rfl) ?_
      refine lv_iload hx hb dX0_putRoute_30 (lv_at hl 4 rfl) ?_
      obtain ⟨q32, e32, hf⟩ := bnd hf
      refine callNI X (k_X5_marked l D cI cZ    v_t_ex p1 p4 q32 e32) ⟨va_cnB 3 X.1.2.2.2.2 gX0_putRoute_X5_marked_n39 rfl rfl rfl (X.2.2.2.2.1.ml 9 rfl) (X.1.2.2.2.2 _ (List.mem_of_getElem? (i := 5) rfl)) kd_X5_marked ⟨Nat.le_of_ble_eq_true rfl, Nat.le_of_ble_eq_true rfl⟩, X.1.2.2.2.2 _ (List.mem_of_getElem? (i := 4) rfl), trivial⟩ hP hD hS hl.1 [] (by decide) (wo_X0_putRoute cI cZ a_t a_t_fe a_t_se a_t_pa a_t_sl v_t_ex (upd v_t_pa (p1).toNatClampNeg p2) (upd v_t_sl (p1).toNatClampNeg p3)) rfl rfl rfl rfl rfl (rest := [.ref a_t]) rfl (Nat.le_of_ble_eq_true rfl) dX0_putRoute_32 ⟨Nat.zero_le _, Nat.zero_le _⟩ (fun H locs hP hD hS => ?_)
      refine putO X hP hD hS inX0 tyX0 tyX0_ok nmX0 0 rfl rfl 4 (by decide) (List.mem_of_getElem? (i := 3) rfl) rfl rfl rfl (Nat.le_of_ble_eq_true rfl) dX0_putRoute_35 (wo_X0_putRoute cI cZ a_t a_t_fe a_t_se a_t_pa a_t_sl q32 (upd v_t_pa (p1).toNatClampNeg p2) (upd v_t_sl (p1).toNatClampNeg p3)) rfl (fun H locs hP hD hS => ?_)
      obtain rfl := Option.some.inj hf
      exact retV X hS hP dX0_putRoute_38

abbrev wo_X0_takeAway (cI cZ : ClassId) (a_t a_t_fe a_t_se a_t_pa a_t_sl : Nat) (v_t_ex : Int32) (v_t_pa : Nat → Int32) (v_t_sl : Nat → Int32) : va_W := [(a_t, oX0 a_t_fe a_t_se a_t_pa a_t_sl v_t_ex), (a_t_pa, rI cI 16 v_t_pa), (a_t_sl, rI cI 16 v_t_sl)]
def fX0_takeAway (v_t_ex : Int32) (v_t_pa : Nat → Int32) (v_t_sl : Nat → Int32) (p1 : Int32) : Option (Int32 × (Nat → Int32) × (Nat → Int32)) := ((fX0_putRoute v_t_ex v_t_pa v_t_sl p1 0 0 0).bind (fun q5 => (some (q5.1, q5.2.1, q5.2.2))))
theorem kd_X0_takeAway : yX0_takeAway.cls = RX0 ∧ yX0_takeAway.cls ≠ "java/lang/invoke/MethodHandle" ∧ yX0_takeAway.cls ≠ "java/lang/invoke/VarHandle" ∧ (parseMethodDescriptor yX0_takeAway.desc).map (fun d => d.parameters.length) = some 1 := by decide +kernel
def rm_X0_takeAway : Room := { frames := 2, cells := 0, slots := 0, locals := 46 }
set_option maxHeartbeats 4000000 in
set_option maxRecDepth 100000 in
theorem k_X0_takeAway (l : Launch) (D : va_G) (cI cZ : ClassId) (a_t a_t_fe a_t_se a_t_pa a_t_sl : Nat) (v_t_ex : Int32) (v_t_pa : Nat → Int32) (v_t_sl : Nat → Int32) (p1 : Int32) (q : Int32 × (Nat → Int32) × (Nat → Int32)) (hf : fX0_takeAway v_t_ex v_t_pa v_t_sl p1 = some q) : CV l D cI cZ yX0_takeAway wsX0_takeAway rm_X0_takeAway [.ref a_t, .int p1] (wo_X0_takeAway cI cZ a_t a_t_fe a_t_se a_t_pa a_t_sl v_t_ex v_t_pa v_t_sl) (wo_X0_takeAway cI cZ a_t a_t_fe a_t_se a_t_pa a_t_sl q.1 q.2.1 q.2.2) := by
  refine CV.mk (cc := cX0_takeAway) (maxL := 2) (by decide) rfl (Nat.le_of_ble_eq_true rfl) ?_
  intro p e s m below meth c ls A X hP hD hl hS
  have hx := X.1.1
  have hb := X.1.2.1
  have hl : lv_has ls 2 [(0, .ref a_t), (1, .int p1)] := hl
  unfold fX0_takeAway at hf
  refine lv_aload_n hx hb dX0_takeAway_0 rfl (lv_at hl 0 rfl) ?_
  refine lv_iload_n hx hb dX0_takeAway_1 rfl (lv_at hl 1 rfl) ?_
  refine lv_iconst hx hb dX0_takeAway_2 ic_0 ?_
  refine lv_iconst hx hb dX0_takeAway_3 ic_0 ?_
  refine lv_iconst hx hb dX0_takeAway_4 ic_0 ?_
  obtain ⟨q5, e5, hf⟩ := bnd hf
  refine callVV X (k_X0_putRoute l D cI cZ a_t a_t_fe a_t_se a_t_pa a_t_sl  v_t_ex v_t_pa v_t_sl p1 0 0 0 q5 e5) (cwV 4 X.1.2.2.2.2 gX0_takeAway_X0_putRoute rfl rfl rfl kd_X0_putRoute ⟨Nat.le_of_ble_eq_true rfl, Nat.le_of_ble_eq_true rfl⟩) hP hD hS hl.1 0 0 rfl rfl [0, 1, 2] (by decide) (wo_X0_takeAway cI cZ a_t a_t_fe a_t_se a_t_pa a_t_sl q5.1 q5.2.1 q5.2.2) rfl rfl rfl rfl rfl (rest := []) rfl (Nat.le_of_ble_eq_true rfl) dX0_takeAway_5 ⟨Nat.zero_le _, Nat.zero_le _⟩ (fun H locs hP hD hS => ?_)
  obtain rfl := Option.some.inj hf
  exact retV X hS hP dX0_takeAway_8

abbrev wo_X0_takeAllAway (cI cZ : ClassId) (a_t a_t_fe a_t_se a_t_pa a_t_sl : Nat) (v_t_ex : Int32) (v_t_pa : Nat → Int32) : va_W := [(a_t, oX0 a_t_fe a_t_se a_t_pa a_t_sl v_t_ex), (a_t_pa, rI cI 16 v_t_pa)]
def fX0_takeAllAway (v_t_ex : Int32) (v_t_pa : Nat → Int32) : Option (Int32 × (Nat → Int32)) := ((fX5_clearRow v_t_pa 16).bind (fun q4 => (some (0, q4))))
theorem kd_X0_takeAllAway : yX0_takeAllAway.cls = RX0 ∧ yX0_takeAllAway.cls ≠ "java/lang/invoke/MethodHandle" ∧ yX0_takeAllAway.cls ≠ "java/lang/invoke/VarHandle" ∧ (parseMethodDescriptor yX0_takeAllAway.desc).map (fun d => d.parameters.length) = some 0 := by decide +kernel
def rm_X0_takeAllAway : Room := { frames := 1, cells := 0, slots := 0, locals := 21 }
set_option maxHeartbeats 4000000 in
set_option maxRecDepth 100000 in
theorem k_X0_takeAllAway (l : Launch) (D : va_G) (cI cZ : ClassId) (a_t a_t_fe a_t_se a_t_pa a_t_sl : Nat) (v_t_ex : Int32) (v_t_pa : Nat → Int32) (q : Int32 × (Nat → Int32)) (hf : fX0_takeAllAway v_t_ex v_t_pa = some q) : CV l D cI cZ yX0_takeAllAway wsX0_takeAllAway rm_X0_takeAllAway [.ref a_t] (wo_X0_takeAllAway cI cZ a_t a_t_fe a_t_se a_t_pa a_t_sl v_t_ex v_t_pa) (wo_X0_takeAllAway cI cZ a_t a_t_fe a_t_se a_t_pa a_t_sl q.1 q.2) := by
  refine CV.mk (cc := cX0_takeAllAway) (maxL := 1) (by decide) rfl (Nat.le_of_ble_eq_true rfl) ?_
  intro p e s m below meth c ls A X hP hD hl hS
  have hx := X.1.1
  have hb := X.1.2.1
  have hl : lv_has ls 1 [(0, .ref a_t)] := hl
  have inX0 : ∀ w ∈ u_ws RX0 TX0 5, w ∈ wsX0_takeAllAway := fun _ h => List.mem_cons_of_mem _ (List.mem_append_right _ h)
  unfold fX0_takeAllAway at hf
  refine lv_aload_n hx hb dX0_takeAllAway_0 rfl (lv_at hl 0 rfl) ?_
  refine getO X hP inX0 0 rfl rfl 2 (by decide) (List.mem_of_getElem? (i := 1) rfl) rfl dX0_takeAllAway_1 ?_
  obtain ⟨q4, e4, hf⟩ := bnd hf
  refine callNV X (k_X5_clearRow l D cI cZ a_t_pa 16 v_t_pa  q4 e4) ⟨va_cnB 1 X.1.2.2.2.2 gX0_takeAllAway_X5_clearRow_n47 rfl rfl rfl (X.2.2.2.2.1.ml 6 rfl) (X.1.2.2.2.2 _ (List.mem_of_getElem? (i := 4) rfl)) kd_X5_clearRow ⟨Nat.le_of_ble_eq_true rfl, Nat.le_of_ble_eq_true rfl⟩, X.1.2.2.2.2 _ (List.mem_of_getElem? (i := 3) rfl), trivial⟩ hP hD hS hl.1 [1] (by decide) (wo_X0_takeAllAway cI cZ a_t a_t_fe a_t_se a_t_pa a_t_sl v_t_ex q4) rfl rfl rfl rfl rfl (rest := []) rfl (Nat.le_of_ble_eq_true rfl) dX0_takeAllAway_4 ⟨Nat.zero_le _, Nat.zero_le _⟩ (fun H locs hP hD hS => ?_)
  refine lv_aload_n hx hb dX0_takeAllAway_7 rfl (lv_at hl 0 rfl) ?_
  refine lv_iconst hx hb dX0_takeAllAway_8 ic_0 ?_
  refine putO X hP hD hS inX0 tyX0 tyX0_ok nmX0 0 rfl rfl 4 (by decide) (List.mem_of_getElem? (i := 2) rfl) rfl rfl rfl (Nat.le_of_ble_eq_true rfl) dX0_takeAllAway_9 (wo_X0_takeAllAway cI cZ a_t a_t_fe a_t_se a_t_pa a_t_sl 0 q4) rfl (fun H locs hP hD hS => ?_)
  obtain rfl := Option.some.inj hf
  exact retV X hS hP dX0_takeAllAway_12

abbrev wo_X0_copyFrom (cI cZ : ClassId) (a_t a_t_fe a_t_se a_t_pa a_t_sl a_o a_o_fe a_o_se a_o_pa a_o_sl : Nat) (v_t_ex : Int32) (v_t_fe : Nat → Int32) (v_t_se : Nat → Int32) (v_t_pa : Nat → Int32) (v_t_sl : Nat → Int32) (v_o_ex : Int32) (v_o_fe : Nat → Int32) (v_o_se : Nat → Int32) (v_o_pa : Nat → Int32) (v_o_sl : Nat → Int32) : va_W := [(a_t, oX0 a_t_fe a_t_se a_t_pa a_t_sl v_t_ex), (a_t_fe, rI cI 16 v_t_fe), (a_t_se, rI cI 16 v_t_se), (a_t_pa, rI cI 16 v_t_pa), (a_t_sl, rI cI 16 v_t_sl), (a_o, oX0 a_o_fe a_o_se a_o_pa a_o_sl v_o_ex), (a_o_fe, rI cI 16 v_o_fe), (a_o_se, rI cI 16 v_o_se), (a_o_pa, rI cI 16 v_o_pa), (a_o_sl, rI cI 16 v_o_sl)]
def fX0_copyFrom (v_t_ex : Int32) (v_t_fe : Nat → Int32) (v_t_se : Nat → Int32) (v_t_pa : Nat → Int32) (v_t_sl : Nat → Int32) (v_o_ex : Int32) (v_o_fe : Nat → Int32) (v_o_se : Nat → Int32) (v_o_pa : Nat → Int32) (v_o_sl : Nat → Int32) : Option (Int32 × (Nat → Int32) × (Nat → Int32) × (Nat → Int32) × (Nat → Int32)) := ((fX5_copyRow v_o_fe v_t_fe 16 16).bind (fun q8 => ((fX5_copyRow v_o_se v_t_se 16 16).bind (fun q19 => ((fX5_copyRow v_o_pa v_t_pa 16 16).bind (fun q30 => ((fX5_copyRow v_o_sl v_t_sl 16 16).bind (fun q41 => (some (v_o_ex, q8, q19, q30, q41))))))))))
theorem kd_X0_copyFrom : yX0_copyFrom.cls = RX0 ∧ yX0_copyFrom.cls ≠ "java/lang/invoke/MethodHandle" ∧ yX0_copyFrom.cls ≠ "java/lang/invoke/VarHandle" ∧ (parseMethodDescriptor yX0_copyFrom.desc).map (fun d => d.parameters.length) = some 1 := by decide +kernel
def rm_X0_copyFrom : Room := { frames := 1, cells := 0, slots := 0, locals := 22 }
set_option maxHeartbeats 4000000 in
set_option maxRecDepth 100000 in
theorem k_X0_copyFrom (l : Launch) (D : va_G) (cI cZ : ClassId) (a_t a_t_fe a_t_se a_t_pa a_t_sl a_o a_o_fe a_o_se a_o_pa a_o_sl : Nat) (v_t_ex : Int32) (v_t_fe : Nat → Int32) (v_t_se : Nat → Int32) (v_t_pa : Nat → Int32) (v_t_sl : Nat → Int32) (v_o_ex : Int32) (v_o_fe : Nat → Int32) (v_o_se : Nat → Int32) (v_o_pa : Nat → Int32) (v_o_sl : Nat → Int32) (q : Int32 × (Nat → Int32) × (Nat → Int32) × (Nat → Int32) × (Nat → Int32)) (hf : fX0_copyFrom v_t_ex v_t_fe v_t_se v_t_pa v_t_sl v_o_ex v_o_fe v_o_se v_o_pa v_o_sl = some q) : CV l D cI cZ yX0_copyFrom wsX0_copyFrom rm_X0_copyFrom [.ref a_t, .ref a_o] (wo_X0_copyFrom cI cZ a_t a_t_fe a_t_se a_t_pa a_t_sl a_o a_o_fe a_o_se a_o_pa a_o_sl v_t_ex v_t_fe v_t_se v_t_pa v_t_sl v_o_ex v_o_fe v_o_se v_o_pa v_o_sl) (wo_X0_copyFrom cI cZ a_t a_t_fe a_t_se a_t_pa a_t_sl a_o a_o_fe a_o_se a_o_pa a_o_sl q.1 q.2.1 q.2.2.1 q.2.2.2.1 q.2.2.2.2 v_o_ex v_o_fe v_o_se v_o_pa v_o_sl) := by
  refine CV.mk (cc := cX0_copyFrom) (maxL := 2) (by decide) rfl (Nat.le_of_ble_eq_true rfl) ?_
  intro p e s m below meth c ls A X hP hD hl hS
  have hx := X.1.1
  have hb := X.1.2.1
  have hl : lv_has ls 2 [(0, .ref a_t), (1, .ref a_o)] := hl
  have inX0 : ∀ w ∈ u_ws RX0 TX0 5, w ∈ wsX0_copyFrom := fun _ h => List.mem_cons_of_mem _ (List.mem_append_right _ h)
  unfold fX0_copyFrom at hf
  refine lv_aload_n hx hb dX0_copyFrom_0 rfl (lv_at hl 1 rfl) ?_
  refine getO X hP inX0 5 rfl rfl 0 (by decide) (List.mem_of_getElem? (i := 1) rfl) rfl dX0_copyFrom_1 ?_
  refine lv_aload_n hx hb dX0_copyFrom_4 rfl (lv_at hl 0 rfl) ?_
  refine getO X hP inX0 0 rfl rfl 0 (by decide) (List.mem_of_getElem? (i := 1) rfl) rfl dX0_copyFrom_5 ?_
  obtain ⟨q8, e8, hf⟩ := bnd hf
  refine callNV X (k_X5_copyRow l D cI cZ a_o_fe a_t_fe 16 16 v_o_fe v_t_fe  q8 e8) ⟨va_cnB 2 X.1.2.2.2.2 gX0_copyFrom_X5_copyRow_n51 rfl rfl rfl (X.2.2.2.2.1.ml 12 rfl) (X.1.2.2.2.2 _ (List.mem_of_getElem? (i := 7) rfl)) kd_X5_copyRow ⟨Nat.le_of_ble_eq_true rfl, Nat.le_of_ble_eq_true rfl⟩, X.1.2.2.2.2 _ (List.mem_of_getElem? (i := 6) rfl), trivial⟩ hP hD hS hl.1 [6, 1] (by decide) (wo_X0_copyFrom cI cZ a_t a_t_fe a_t_se a_t_pa a_t_sl a_o a_o_fe a_o_se a_o_pa a_o_sl v_t_ex q8 v_t_se v_t_pa v_t_sl v_o_ex v_o_fe v_o_se v_o_pa v_o_sl) rfl rfl rfl rfl rfl (rest := []) rfl (Nat.le_of_ble_eq_true rfl) dX0_copyFrom_8 ⟨Nat.zero_le _, Nat.zero_le _⟩ (fun H locs hP hD hS => ?_)
  refine lv_aload_n hx hb dX0_copyFrom_11 rfl (lv_at hl 1 rfl) ?_
  refine getO X hP inX0 5 rfl rfl 1 (by decide) (List.mem_of_getElem? (i := 2) rfl) rfl dX0_copyFrom_12 ?_
  refine lv_aload_n hx hb dX0_copyFrom_15 rfl (lv_at hl 0 rfl) ?_
  refine getO X hP inX0 0 rfl rfl 1 (by decide) (List.mem_of_getElem? (i := 2) rfl) rfl dX0_copyFrom_16 ?_
  obtain ⟨q19, e19, hf⟩ := bnd hf
  refine callNV X (k_X5_copyRow l D cI cZ a_o_se a_t_se 16 16 v_o_se v_t_se  q19 e19) ⟨va_cnB 2 X.1.2.2.2.2 gX0_copyFrom_X5_copyRow_n51 rfl rfl rfl (X.2.2.2.2.1.ml 12 rfl) (X.1.2.2.2.2 _ (List.mem_of_getElem? (i := 7) rfl)) kd_X5_copyRow ⟨Nat.le_of_ble_eq_true rfl, Nat.le_of_ble_eq_true rfl⟩, X.1.2.2.2.2 _ (List.mem_of_getElem? (i := 6) rfl), trivial⟩ hP hD hS hl.1 [7, 2] (by decide) (wo_X0_copyFrom cI cZ a_t a_t_fe a_t_se a_t_pa a_t_sl a_o a_o_fe a_o_se a_o_pa a_o_sl v_t_ex q8 q19 v_t_pa v_t_sl v_o_ex v_o_fe v_o_se v_o_pa v_o_sl) rfl rfl rfl rfl rfl (rest := []) rfl (Nat.le_of_ble_eq_true rfl) dX0_copyFrom_19 ⟨Nat.zero_le _, Nat.zero_le _⟩ (fun H locs hP hD hS => ?_)
  refine lv_aload_n hx hb dX0_copyFrom_22 rfl (lv_at hl 1 rfl) ?_
  refine getO X hP inX0 5 rfl rfl 2 (by decide) (List.mem_of_getElem? (i := 3) rfl) rfl dX0_copyFrom_23 ?_
  refine lv_aload_n hx hb dX0_copyFrom_26 rfl (lv_at hl 0 rfl) ?_
  refine getO X hP inX0 0 rfl rfl 2 (by decide) (List.mem_of_getElem? (i := 3) rfl) rfl dX0_copyFrom_27 ?_
  obtain ⟨q30, e30, hf⟩ := bnd hf
  refine callNV X (k_X5_copyRow l D cI cZ a_o_pa a_t_pa 16 16 v_o_pa v_t_pa  q30 e30) ⟨va_cnB 2 X.1.2.2.2.2 gX0_copyFrom_X5_copyRow_n51 rfl rfl rfl (X.2.2.2.2.1.ml 12 rfl) (X.1.2.2.2.2 _ (List.mem_of_getElem? (i := 7) rfl)) kd_X5_copyRow ⟨Nat.le_of_ble_eq_true rfl, Nat.le_of_ble_eq_true rfl⟩, X.1.2.2.2.2 _ (List.mem_of_getElem? (i := 6) rfl), trivial⟩ hP hD hS hl.1 [8, 3] (by decide) (wo_X0_copyFrom cI cZ a_t a_t_fe a_t_se a_t_pa a_t_sl a_o a_o_fe a_o_se a_o_pa a_o_sl v_t_ex q8 q19 q30 v_t_sl v_o_ex v_o_fe v_o_se v_o_pa v_o_sl) rfl rfl rfl rfl rfl (rest := []) rfl (Nat.le_of_ble_eq_true rfl) dX0_copyFrom_30 ⟨Nat.zero_le _, Nat.zero_le _⟩ (fun H locs hP hD hS => ?_)
  refine lv_aload_n hx hb dX0_copyFrom_33 rfl (lv_at hl 1 rfl) ?_
  refine getO X hP inX0 5 rfl rfl 3 (by decide) (List.mem_of_getElem? (i := 4) rfl) rfl dX0_copyFrom_34 ?_
  refine lv_aload_n hx hb dX0_copyFrom_37 rfl (lv_at hl 0 rfl) ?_
  refine getO X hP inX0 0 rfl rfl 3 (by decide) (List.mem_of_getElem? (i := 4) rfl) rfl dX0_copyFrom_38 ?_
  obtain ⟨q41, e41, hf⟩ := bnd hf
  refine callNV X (k_X5_copyRow l D cI cZ a_o_sl a_t_sl 16 16 v_o_sl v_t_sl  q41 e41) ⟨va_cnB 2 X.1.2.2.2.2 gX0_copyFrom_X5_copyRow_n51 rfl rfl rfl (X.2.2.2.2.1.ml 12 rfl) (X.1.2.2.2.2 _ (List.mem_of_getElem? (i := 7) rfl)) kd_X5_copyRow ⟨Nat.le_of_ble_eq_true rfl, Nat.le_of_ble_eq_true rfl⟩, X.1.2.2.2.2 _ (List.mem_of_getElem? (i := 6) rfl), trivial⟩ hP hD hS hl.1 [9, 4] (by decide) (wo_X0_copyFrom cI cZ a_t a_t_fe a_t_se a_t_pa a_t_sl a_o a_o_fe a_o_se a_o_pa a_o_sl v_t_ex q8 q19 q30 q41 v_o_ex v_o_fe v_o_se v_o_pa v_o_sl) rfl rfl rfl rfl rfl (rest := []) rfl (Nat.le_of_ble_eq_true rfl) dX0_copyFrom_41 ⟨Nat.zero_le _, Nat.zero_le _⟩ (fun H locs hP hD hS => ?_)
  refine lv_aload_n hx hb dX0_copyFrom_44 rfl (lv_at hl 0 rfl) ?_
  refine lv_aload_n hx hb dX0_copyFrom_45 rfl (lv_at hl 1 rfl) ?_
  refine getO X hP inX0 5 rfl rfl 4 (by decide) (List.mem_of_getElem? (i := 5) rfl) rfl dX0_copyFrom_46 ?_
  refine putO X hP hD hS inX0 tyX0 tyX0_ok nmX0 0 rfl rfl 4 (by decide) (List.mem_of_getElem? (i := 5) rfl) rfl rfl rfl (Nat.le_of_ble_eq_true rfl) dX0_copyFrom_49 (wo_X0_copyFrom cI cZ a_t a_t_fe a_t_se a_t_pa a_t_sl a_o a_o_fe a_o_se a_o_pa a_o_sl v_o_ex q8 q19 q30 q41 v_o_ex v_o_fe v_o_se v_o_pa v_o_sl) rfl (fun H locs hP hD hS => ?_)
  obtain rfl := Option.some.inj hf
  exact retV X hS hP dX0_copyFrom_52
