abbrev wo_X5_contains (cI cZ : ClassId) : va_W := []
def fX5_contains (p0 : Int32) (p1 : Int32) : Option (Bool) := (if (p0 &&& ((nI 1) <<< (p1 &&& 31))) = 0 then (some false) else (some true))
theorem kd_X5_contains : yX5_contains.cls ≠ "java/lang/invoke/MethodHandle" ∧ yX5_contains.cls ≠ "java/lang/invoke/VarHandle" ∧ (parseMethodDescriptor yX5_contains.desc).map (fun d => d.parameters.length) = some 2 := by decide +kernel
def rm_X5_contains : Room := { frames := 0, cells := 0, slots := 0, locals := 0 }
set_option maxHeartbeats 4000000 in
set_option maxRecDepth 100000 in
theorem k_X5_contains (l : Launch) (D : va_G) (cI cZ : ClassId) (p0 : Int32) (p1 : Int32) (q : Bool) (hf : fX5_contains p0 p1 = some q) : CI l D cI cZ yX5_contains wsX5_contains rm_X5_contains [.int p0, .int p1] (wo_X5_contains cI cZ) (wo_X5_contains cI cZ) (b2i q) := by
  refine CI.mk (cc := cX5_contains) (maxL := 2) (by decide) rfl (Nat.le_of_ble_eq_true rfl) ?_
  intro p e s m below meth c ls A X hP hD hl hS
  have hx := X.1.1
  have hb := X.1.2.1
  have hl : lv_has ls 2 [(0, .int p0), (1, .int p1)] := hl
  unfold fX5_contains at hf
  refine lv_iload_n hx hb dX5_contains_0 rfl (lv_at hl 0 rfl) ?_
  refine lv_iconst hx hb dX5_contains_1 ic_1 ?_
  refine lv_iload_n hx hb dX5_contains_2 rfl (lv_at hl 1 rfl) ?_
  refine lv_ishl hx hb dX5_contains_3 ?_
  refine lv_iand hx hb dX5_contains_4 ?_
  refine lv_if_eq (tgt := 12) hx hb dX5_contains_5 (by decide) (fun hc => ?_) (fun hc => ?_)
  · replace hf := ifp hc hf
    refine lv_iconst hx hb dX5_contains_12 ic_0 ?_
    obtain rfl := Option.some.inj hf
    exact retB X hS hP rfl rfl dX5_contains_13
  · replace hf := ifn hc hf
    refine lv_iconst hx hb dX5_contains_8 ic_1 ?_
    refine lv_goto (tgt := 13) hx hb dX5_contains_9 (by decide) ?_
    obtain rfl := Option.some.inj hf
    exact retB X hS hP rfl rfl dX5_contains_13

abbrev wo_X5_marked (cI cZ : ClassId) : va_W := []
def fX5_marked (p0 : Int32) (p1 : Int32) (p2 : Int32) : Option (Int32) := (if p2 = 0 then (some (p0 &&& (((nI 1) <<< (p1 &&& 31)) ^^^ (-1)))) else (some (p0 ||| ((nI 1) <<< (p1 &&& 31)))))
theorem kd_X5_marked : yX5_marked.cls ≠ "java/lang/invoke/MethodHandle" ∧ yX5_marked.cls ≠ "java/lang/invoke/VarHandle" ∧ (parseMethodDescriptor yX5_marked.desc).map (fun d => d.parameters.length) = some 3 := by decide +kernel
def rm_X5_marked : Room := { frames := 0, cells := 0, slots := 0, locals := 0 }
set_option maxHeartbeats 4000000 in
set_option maxRecDepth 100000 in
theorem k_X5_marked (l : Launch) (D : va_G) (cI cZ : ClassId) (p0 : Int32) (p1 : Int32) (p2 : Int32) (q : Int32) (hf : fX5_marked p0 p1 p2 = some q) : CI l D cI cZ yX5_marked wsX5_marked rm_X5_marked [.int p0, .int p1, .int p2] (wo_X5_marked cI cZ) (wo_X5_marked cI cZ) q := by
  refine CI.mk (cc := cX5_marked) (maxL := 3) (by decide) rfl (Nat.le_of_ble_eq_true rfl) ?_
  intro p e s m below meth c ls A X hP hD hl hS
  have hx := X.1.1
  have hb := X.1.2.1
  have hl : lv_has ls 3 [(0, .int p0), (1, .int p1), (2, .int p2)] := hl
  unfold fX5_marked at hf
  refine lv_iload_n hx hb dX5_marked_0 rfl (lv_at hl 2 rfl) ?_
  refine lv_if_eq (tgt := 12) hx hb dX5_marked_1 (by decide) (fun hc => ?_) (fun hc => ?_)
  · replace hf := ifp hc hf
    refine lv_iload_n hx hb dX5_marked_12 rfl (lv_at hl 0 rfl) ?_
    refine lv_iconst hx hb dX5_marked_13 ic_1 ?_
    refine lv_iload_n hx hb dX5_marked_14 rfl (lv_at hl 1 rfl) ?_
    refine lv_ishl hx hb dX5_marked_15 ?_
    refine lv_iconst hx hb dX5_marked_16 ic_m1 ?_
    refine lv_ixor hx hb dX5_marked_17 ?_
    refine lv_iand hx hb dX5_marked_18 ?_
    obtain rfl := Option.some.inj hf
    exact retI X hS hP rfl dX5_marked_19
  · replace hf := ifn hc hf
    refine lv_iload_n hx hb dX5_marked_4 rfl (lv_at hl 0 rfl) ?_
    refine lv_iconst hx hb dX5_marked_5 ic_1 ?_
    refine lv_iload_n hx hb dX5_marked_6 rfl (lv_at hl 1 rfl) ?_
    refine lv_ishl hx hb dX5_marked_7 ?_
    refine lv_ior hx hb dX5_marked_8 ?_
    refine lv_goto (tgt := 19) hx hb dX5_marked_9 (by decide) ?_
    obtain rfl := Option.some.inj hf
    exact retI X hS hP rfl dX5_marked_19

abbrev wo_X5_clearRow (cI cZ : ClassId) (a_x : Nat) (n_x : Nat) (v_x : Nat → Int32) : va_W := [(a_x, rI cI n_x v_x)]
def fX5_clearRow_L2 (n_x : Nat) (K : Int32 → (Nat → Int32) → Option ((Nat → Int32))) : Nat → Int32 → (Nat → Int32) → Option ((Nat → Int32))
  | 0, _, _ => none
  | k + 1, x1_2, v_x_2 => (if (nI n_x) ≤ x1_2 then (K x1_2 v_x_2) else (if (x1_2 < 0 ∨ n_x ≤ (x1_2).toNatClampNeg) then none else (fX5_clearRow_L2 n_x K k (x1_2 + nI 1) (upd v_x_2 (x1_2).toNatClampNeg 0))))
def fX5_clearRow (v_x : Nat → Int32) (n_x : Nat) : Option ((Nat → Int32)) := (fX5_clearRow_L2 n_x (fun x1_2 v_x_2 => (some v_x_2)) FU 0 v_x)
theorem kd_X5_clearRow : yX5_clearRow.cls ≠ "java/lang/invoke/MethodHandle" ∧ yX5_clearRow.cls ≠ "java/lang/invoke/VarHandle" ∧ (parseMethodDescriptor yX5_clearRow.desc).map (fun d => d.parameters.length) = some 1 := by decide +kernel
def rm_X5_clearRow : Room := { frames := 0, cells := 0, slots := 0, locals := 0 }
set_option maxHeartbeats 4000000 in
set_option maxRecDepth 100000 in
theorem k_X5_clearRow (l : Launch) (D : va_G) (cI cZ : ClassId) (a_x : Nat) (n_x : Nat) (v_x : Nat → Int32) (q : (Nat → Int32)) (hf : fX5_clearRow v_x n_x = some q) : CV l D cI cZ yX5_clearRow wsX5_clearRow rm_X5_clearRow [.ref a_x] (wo_X5_clearRow cI cZ a_x n_x v_x) (wo_X5_clearRow cI cZ a_x n_x q) := by
  refine CV.mk (cc := cX5_clearRow) (maxL := 2) (by decide) rfl (Nat.le_of_ble_eq_true rfl) ?_
  intro p e s m below meth c ls A X hP hD hl hS
  have hx := X.1.1
  have hb := X.1.2.1
  have hl : lv_has ls 2 [(0, .ref a_x)] := hl
  have L2 : ∀ (K : Int32 → (Nat → Int32) → Option ((Nat → Int32))) (hKK : ∀ (x1_2 : Int32) (v_x_2 : Nat → Int32) (H : Heap) (locs : List Loc) (ls : Array Slot), K x1_2 v_x_2 = some q → va_P D vwCl (wo_X5_clearRow cI cZ a_x n_x v_x_2) H → va_D A (wo_X5_clearRow cI cZ a_x n_x v_x_2) → va_S A s.heap H locs → lv_has ls 2 [] → W p l e rm_X5_clearRow s m ([.ref a_x] : List Value).toArray below meth c H locs 0 0 (MQ below (QV D (wo_X5_clearRow cI cZ a_x n_x q) A) ([.ref a_x] : List Value).toArray s 0 0 A) (F0 m 18 ls [])) (k : Nat) (x1_2 : Int32) (v_x_2 : Nat → Int32) (H : Heap) (locs : List Loc) (ls : Array Slot), fX5_clearRow_L2 n_x K k x1_2 v_x_2 = some q → va_P D vwCl (wo_X5_clearRow cI cZ a_x n_x v_x_2) H → va_D A (wo_X5_clearRow cI cZ a_x n_x v_x_2) → va_S A s.heap H locs → lv_has ls 2 [(0, .ref a_x), (1, .int x1_2)] → W p l e rm_X5_clearRow s m ([.ref a_x] : List Value).toArray below meth c H locs 0 0 (MQ below (QV D (wo_X5_clearRow cI cZ a_x n_x q) A) ([.ref a_x] : List Value).toArray s 0 0 A) (F0 m 2 ls []) := by
    intro K hKK k
    induction k with
    | zero => intro x1_2 v_x_2 H locs ls hf; rw [fX5_clearRow_L2] at hf; cases hf
    | succ k ih =>
      intro x1_2 v_x_2 H locs ls hf hP hD hS hl
      rw [fX5_clearRow_L2] at hf
      refine lv_iload_n hx hb dX5_clearRow_2 rfl (lv_at hl 1 rfl) ?_
      refine lv_aload_n hx hb dX5_clearRow_3 rfl (lv_at hl 0 rfl) ?_
      refine alenR X hP 0 rfl dX5_clearRow_4 ?_
      refine lv_icmp_ge (tgt := 18) hx hb dX5_clearRow_5 (by decide) (fun hc => ?_) (fun hc => ?_)
      · replace hf := ifp hc hf
        exact hKK _ _ _ _ ls hf hP hD hS (lv_sub hl [] rfl)
      · replace hf := ifn hc hf
        refine lv_aload_n hx hb dX5_clearRow_8 rfl (lv_at hl 0 rfl) ?_
        refine lv_iload_n hx hb dX5_clearRow_9 rfl (lv_at hl 1 rfl) ?_
        refine lv_iconst hx hb dX5_clearRow_10 ic_0 ?_
        obtain ⟨g11, hf⟩ := grd hf
        refine astI X hP hD hS 0 rfl g11 rfl dX5_clearRow_11 (wo_X5_clearRow cI cZ a_x n_x (upd v_x_2 (x1_2).toNatClampNeg 0)) rfl (fun H locs hP hD hS => ?_)
        refine lv_iinc (v := (x1_2 + nI 1)) (lv' := [(1, .int (x1_2 + nI 1)), (0, .ref a_x)]) hx hb dX5_clearRow_12 hl (k := 1) rfl (inc_1 _) (by decide) rfl (fun ls hl => ?_)
        refine lv_goto (tgt := 2) hx hb dX5_clearRow_15 (by decide) ?_
        exact ih _ _ _ _ ls hf hP hD hS (lv_sub hl [1, 0] rfl)
  unfold fX5_clearRow at hf
  refine lv_iconst hx hb dX5_clearRow_0 ic_0 ?_
  refine lv_istore_n (lv' := [(1, .int 0), (0, .ref a_x)]) hx hb dX5_clearRow_1 rfl hl (by decide) rfl (fun ls hl => ?_)
  refine L2 _ (fun x1_2 v_x_2 H locs ls hf hP hD hS hl => ?_) FU _ _ _ _ ls hf hP hD hS (lv_sub hl [1, 0] rfl)
  obtain rfl := Option.some.inj hf
  exact retV X hS hP dX5_clearRow_18

abbrev wo_X5_copyRow (cI cZ : ClassId) (a_x a_y : Nat) (n_x : Nat) (n_y : Nat) (v_x : Nat → Int32) (v_y : Nat → Int32) : va_W := [(a_x, rI cI n_x v_x), (a_y, rI cI n_y v_y)]
def fX5_copyRow_L2 (v_x : Nat → Int32) (n_x : Nat) (n_y : Nat) (K : Int32 → (Nat → Int32) → Option ((Nat → Int32))) : Nat → Int32 → (Nat → Int32) → Option ((Nat → Int32))
  | 0, _, _ => none
  | k + 1, x2_2, v_y_2 => (if (nI n_x) ≤ x2_2 then (K x2_2 v_y_2) else (if (nI n_y) ≤ x2_2 then (K x2_2 v_y_2) else (if (x2_2 < 0 ∨ n_x ≤ (x2_2).toNatClampNeg) then none else (if (x2_2 < 0 ∨ n_y ≤ (x2_2).toNatClampNeg) then none else (fX5_copyRow_L2 v_x n_x n_y K k (x2_2 + nI 1) (upd v_y_2 (x2_2).toNatClampNeg (v_x (x2_2).toNatClampNeg)))))))
def fX5_copyRow (v_x : Nat → Int32) (v_y : Nat → Int32) (n_x : Nat) (n_y : Nat) : Option ((Nat → Int32)) := (fX5_copyRow_L2 v_x n_x n_y (fun x2_2 v_y_2 => (some v_y_2)) FU 0 v_y)
theorem kd_X5_copyRow : yX5_copyRow.cls ≠ "java/lang/invoke/MethodHandle" ∧ yX5_copyRow.cls ≠ "java/lang/invoke/VarHandle" ∧ (parseMethodDescriptor yX5_copyRow.desc).map (fun d => d.parameters.length) = some 2 := by decide +kernel
def rm_X5_copyRow : Room := { frames := 0, cells := 0, slots := 0, locals := 0 }
set_option maxHeartbeats 4000000 in
set_option maxRecDepth 100000 in
theorem k_X5_copyRow (l : Launch) (D : va_G) (cI cZ : ClassId) (a_x a_y : Nat) (n_x : Nat) (n_y : Nat) (v_x : Nat → Int32) (v_y : Nat → Int32) (q : (Nat → Int32)) (hf : fX5_copyRow v_x v_y n_x n_y = some q) : CV l D cI cZ yX5_copyRow wsX5_copyRow rm_X5_copyRow [.ref a_x, .ref a_y] (wo_X5_copyRow cI cZ a_x a_y n_x n_y v_x v_y) (wo_X5_copyRow cI cZ a_x a_y n_x n_y v_x q) := by
  refine CV.mk (cc := cX5_copyRow) (maxL := 3) (by decide) rfl (Nat.le_of_ble_eq_true rfl) ?_
  intro p e s m below meth c ls A X hP hD hl hS
  have hx := X.1.1
  have hb := X.1.2.1
  have hl : lv_has ls 3 [(0, .ref a_x), (1, .ref a_y)] := hl
  have L2 : ∀ (K : Int32 → (Nat → Int32) → Option ((Nat → Int32))) (hKK : ∀ (x2_2 : Int32) (v_y_2 : Nat → Int32) (H : Heap) (locs : List Loc) (ls : Array Slot), K x2_2 v_y_2 = some q → va_P D vwCl (wo_X5_copyRow cI cZ a_x a_y n_x n_y v_x v_y_2) H → va_D A (wo_X5_copyRow cI cZ a_x a_y n_x n_y v_x v_y_2) → va_S A s.heap H locs → lv_has ls 3 [] → W p l e rm_X5_copyRow s m ([.ref a_x, .ref a_y] : List Value).toArray below meth c H locs 0 0 (MQ below (QV D (wo_X5_copyRow cI cZ a_x a_y n_x n_y v_x q) A) ([.ref a_x, .ref a_y] : List Value).toArray s 0 0 A) (F0 m 26 ls [])) (k : Nat) (x2_2 : Int32) (v_y_2 : Nat → Int32) (H : Heap) (locs : List Loc) (ls : Array Slot), fX5_copyRow_L2 v_x n_x n_y K k x2_2 v_y_2 = some q → va_P D vwCl (wo_X5_copyRow cI cZ a_x a_y n_x n_y v_x v_y_2) H → va_D A (wo_X5_copyRow cI cZ a_x a_y n_x n_y v_x v_y_2) → va_S A s.heap H locs → lv_has ls 3 [(0, .ref a_x), (1, .ref a_y), (2, .int x2_2)] → W p l e rm_X5_copyRow s m ([.ref a_x, .ref a_y] : List Value).toArray below meth c H locs 0 0 (MQ below (QV D (wo_X5_copyRow cI cZ a_x a_y n_x n_y v_x q) A) ([.ref a_x, .ref a_y] : List Value).toArray s 0 0 A) (F0 m 2 ls []) := by
    intro K hKK k
    induction k with
    | zero => intro x2_2 v_y_2 H locs ls hf; rw [fX5_copyRow_L2] at hf; cases hf
    | succ k ih =>
      intro x2_2 v_y_2 H locs ls hf hP hD hS hl
      rw [fX5_copyRow_L2] at hf
      refine lv_iload_n hx hb dX5_copyRow_2 rfl (lv_at hl 2 rfl) ?_
      refine lv_aload_n hx hb dX5_copyRow_3 rfl (lv_at hl 0 rfl) ?_
      refine alenR X hP 0 rfl dX5_copyRow_4 ?_
      refine lv_icmp_ge (tgt := 26) hx hb dX5_copyRow_5 (by decide) (fun hc => ?_) (fun hc => ?_)
      · replace hf := ifp hc hf
        exact hKK _ _ _ _ ls hf hP hD hS (lv_sub hl [] rfl)
      · replace hf := ifn hc hf
        refine lv_iload_n hx hb dX5_copyRow_8 rfl (lv_at hl 2 rfl) ?_
        refine lv_aload_n hx hb dX5_copyRow_9 rfl (lv_at hl 1 rfl) ?_
        refine alenR X hP 1 rfl dX5_copyRow_10 ?_
        refine lv_icmp_ge (tgt := 26) hx hb dX5_copyRow_11 (by decide) (fun hc => ?_) (fun hc => ?_)
        · replace hf := ifp hc hf
          exact hKK _ _ _ _ ls hf hP hD hS (lv_sub hl [] rfl)
        · replace hf := ifn hc hf
          refine lv_aload_n hx hb dX5_copyRow_14 rfl (lv_at hl 1 rfl) ?_
          refine lv_iload_n hx hb dX5_copyRow_15 rfl (lv_at hl 2 rfl) ?_
          refine lv_aload_n hx hb dX5_copyRow_16 rfl (lv_at hl 0 rfl) ?_
          refine lv_iload_n hx hb dX5_copyRow_17 rfl (lv_at hl 2 rfl) ?_
          obtain ⟨g18, hf⟩ := grd hf
          refine aldI X hP 0 rfl g18 rfl dX5_copyRow_18 ?_
          obtain ⟨g19, hf⟩ := grd hf
          refine astI X hP hD hS 1 rfl g19 rfl dX5_copyRow_19 (wo_X5_copyRow cI cZ a_x a_y n_x n_y v_x (upd v_y_2 (x2_2).toNatClampNeg (v_x (x2_2).toNatClampNeg))) rfl (fun H locs hP hD hS => ?_)
          refine lv_iinc (v := (x2_2 + nI 1)) (lv' := [(2, .int (x2_2 + nI 1)), (0, .ref a_x), (1, .ref a_y)]) hx hb dX5_copyRow_20 hl (k := 2) rfl (inc_1 _) (by decide) rfl (fun ls hl => ?_)
          refine lv_goto (tgt := 2) hx hb dX5_copyRow_23 (by decide) ?_
          exact ih _ _ _ _ ls hf hP hD hS (lv_sub hl [1, 2, 0] rfl)
  unfold fX5_copyRow at hf
  refine lv_iconst hx hb dX5_copyRow_0 ic_0 ?_
  refine lv_istore_n (lv' := [(2, .int 0), (0, .ref a_x), (1, .ref a_y)]) hx hb dX5_copyRow_1 rfl hl (by decide) rfl (fun ls hl => ?_)
  refine L2 _ (fun x2_2 v_y_2 H locs ls hf hP hD hS hl => ?_) FU _ _ _ _ ls hf hP hD hS (lv_sub hl [1, 2, 0] rfl)
  obtain rfl := Option.some.inj hf
  exact retV X hS hP dX5_copyRow_26

abbrev wo_X2_hasSpan (cI cZ : ClassId) (a_t : Nat) (v_t_nd : Int32) (v_t_sn : Int32) : va_W := [(a_t, oX2 v_t_nd v_t_sn)]
def fX2_hasSpan (v_t_nd : Int32) (p1 : Int32) : Option (Bool) := (if p1 < 0 then (some false) else (if v_t_nd ≤ p1 then (some false) else (some true)))
theorem kd_X2_hasSpan : yX2_hasSpan.cls = RX2 ∧ yX2_hasSpan.cls ≠ "java/lang/invoke/MethodHandle" ∧ yX2_hasSpan.cls ≠ "java/lang/invoke/VarHandle" ∧ (parseMethodDescriptor yX2_hasSpan.desc).map (fun d => d.parameters.length) = some 1 := by decide +kernel
def rm_X2_hasSpan : Room := { frames := 0, cells := 0, slots := 0, locals := 0 }
set_option maxHeartbeats 4000000 in
set_option maxRecDepth 100000 in
theorem k_X2_hasSpan (l : Launch) (D : va_G) (cI cZ : ClassId) (a_t : Nat) (v_t_nd : Int32) (v_t_sn : Int32) (p1 : Int32) (q : Bool) (hf : fX2_hasSpan v_t_nd p1 = some q) : CI l D cI cZ yX2_hasSpan wsX2_hasSpan rm_X2_hasSpan [.ref a_t, .int p1] (wo_X2_hasSpan cI cZ a_t v_t_nd v_t_sn) (wo_X2_hasSpan cI cZ a_t v_t_nd v_t_sn) (b2i q) := by
  refine CI.mk (cc := cX2_hasSpan) (maxL := 2) (by decide) rfl (Nat.le_of_ble_eq_true rfl) ?_
  intro p e s m below meth c ls A X hP hD hl hS
  have hx := X.1.1
  have hb := X.1.2.1
  have hl : lv_has ls 2 [(0, .ref a_t), (1, .int p1)] := hl
  have inX2 : ∀ w ∈ u_ws RX2 TX2 2, w ∈ wsX2_hasSpan := fun _ h => List.mem_cons_of_mem _ (List.mem_append_right _ h)
  unfold fX2_hasSpan at hf
  refine lv_iload_n hx hb dX2_hasSpan_0 rfl (lv_at hl 1 rfl) ?_
  refine lv_if_lt (tgt := 16) hx hb dX2_hasSpan_1 (by decide) (fun hc => ?_) (fun hc => ?_)
  · replace hf := ifp hc hf
    refine lv_iconst hx hb dX2_hasSpan_16 ic_0 ?_
    obtain rfl := Option.some.inj hf
    exact retB X hS hP rfl rfl dX2_hasSpan_17
  · replace hf := ifn hc hf
    refine lv_iload_n hx hb dX2_hasSpan_4 rfl (lv_at hl 1 rfl) ?_
    refine lv_aload_n hx hb dX2_hasSpan_5 rfl (lv_at hl 0 rfl) ?_
    refine getO X hP inX2 0 rfl rfl 0 (by decide) (List.mem_of_getElem? (i := 1) rfl) rfl dX2_hasSpan_6 ?_
    refine lv_icmp_ge (tgt := 16) hx hb dX2_hasSpan_9 (by decide) (fun hc => ?_) (fun hc => ?_)
    · replace hf := ifp hc hf
      refine lv_iconst hx hb dX2_hasSpan_16 ic_0 ?_
      obtain rfl := Option.some.inj hf
      exact retB X hS hP rfl rfl dX2_hasSpan_17
    · replace hf := ifn hc hf
      refine lv_iconst hx hb dX2_hasSpan_12 ic_1 ?_
      refine lv_goto (tgt := 17) hx hb dX2_hasSpan_13 (by decide) ?_
      obtain rfl := Option.some.inj hf
      exact retB X hS hP rfl rfl dX2_hasSpan_17

abbrev wo_X2_hasNode (cI cZ : ClassId) (a_t : Nat) (v_t_nd : Int32) (v_t_sn : Int32) : va_W := [(a_t, oX2 v_t_nd v_t_sn)]
def fX2_hasNode (v_t_nd : Int32) (p1 : Int32) : Option (Bool) := (if p1 < 0 then (some false) else (if v_t_nd ≤ p1 then (some false) else (some true)))
theorem kd_X2_hasNode : yX2_hasNode.cls = RX2 ∧ yX2_hasNode.cls ≠ "java/lang/invoke/MethodHandle" ∧ yX2_hasNode.cls ≠ "java/lang/invoke/VarHandle" ∧ (parseMethodDescriptor yX2_hasNode.desc).map (fun d => d.parameters.length) = some 1 := by decide +kernel
def rm_X2_hasNode : Room := { frames := 0, cells := 0, slots := 0, locals := 0 }
set_option maxHeartbeats 4000000 in
set_option maxRecDepth 100000 in
theorem k_X2_hasNode (l : Launch) (D : va_G) (cI cZ : ClassId) (a_t : Nat) (v_t_nd : Int32) (v_t_sn : Int32) (p1 : Int32) (q : Bool) (hf : fX2_hasNode v_t_nd p1 = some q) : CI l D cI cZ yX2_hasNode wsX2_hasNode rm_X2_hasNode [.ref a_t, .int p1] (wo_X2_hasNode cI cZ a_t v_t_nd v_t_sn) (wo_X2_hasNode cI cZ a_t v_t_nd v_t_sn) (b2i q) := by
  refine CI.mk (cc := cX2_hasNode) (maxL := 2) (by decide) rfl (Nat.le_of_ble_eq_true rfl) ?_
  intro p e s m below meth c ls A X hP hD hl hS
  have hx := X.1.1
  have hb := X.1.2.1
  have hl : lv_has ls 2 [(0, .ref a_t), (1, .int p1)] := hl
  have inX2 : ∀ w ∈ u_ws RX2 TX2 2, w ∈ wsX2_hasNode := fun _ h => List.mem_cons_of_mem _ (List.mem_append_right _ h)
  unfold fX2_hasNode at hf
  refine lv_iload_n hx hb dX2_hasNode_0 rfl (lv_at hl 1 rfl) ?_
  refine lv_if_lt (tgt := 16) hx hb dX2_hasNode_1 (by decide) (fun hc => ?_) (fun hc => ?_)
  · replace hf := ifp hc hf
    refine lv_iconst hx hb dX2_hasNode_16 ic_0 ?_
    obtain rfl := Option.some.inj hf
    exact retB X hS hP rfl rfl dX2_hasNode_17
  · replace hf := ifn hc hf
    refine lv_iload_n hx hb dX2_hasNode_4 rfl (lv_at hl 1 rfl) ?_
    refine lv_aload_n hx hb dX2_hasNode_5 rfl (lv_at hl 0 rfl) ?_
    refine getO X hP inX2 0 rfl rfl 0 (by decide) (List.mem_of_getElem? (i := 1) rfl) rfl dX2_hasNode_6 ?_
    refine lv_icmp_ge (tgt := 16) hx hb dX2_hasNode_9 (by decide) (fun hc => ?_) (fun hc => ?_)
    · replace hf := ifp hc hf
      refine lv_iconst hx hb dX2_hasNode_16 ic_0 ?_
      obtain rfl := Option.some.inj hf
      exact retB X hS hP rfl rfl dX2_hasNode_17
    · replace hf := ifn hc hf
      refine lv_iconst hx hb dX2_hasNode_12 ic_1 ?_
      refine lv_goto (tgt := 17) hx hb dX2_hasNode_13 (by decide) ?_
      obtain rfl := Option.some.inj hf
      exact retB X hS hP rfl rfl dX2_hasNode_17

abbrev wo_X2_nodeAfter (cI cZ : ClassId) (a_t : Nat) (v_t_nd : Int32) (v_t_sn : Int32) : va_W := [(a_t, oX2 v_t_nd v_t_sn)]
def fX2_nodeAfter (v_t_nd : Int32) (p1 : Int32) : Option (Int32) := (if v_t_nd ≤ (p1 + (nI 1)) then (some 0) else (some (p1 + (nI 1))))
theorem kd_X2_nodeAfter : yX2_nodeAfter.cls = RX2 ∧ yX2_nodeAfter.cls ≠ "java/lang/invoke/MethodHandle" ∧ yX2_nodeAfter.cls ≠ "java/lang/invoke/VarHandle" ∧ (parseMethodDescriptor yX2_nodeAfter.desc).map (fun d => d.parameters.length) = some 1 := by decide +kernel
def rm_X2_nodeAfter : Room := { frames := 0, cells := 0, slots := 0, locals := 0 }
set_option maxHeartbeats 4000000 in
set_option maxRecDepth 100000 in
theorem k_X2_nodeAfter (l : Launch) (D : va_G) (cI cZ : ClassId) (a_t : Nat) (v_t_nd : Int32) (v_t_sn : Int32) (p1 : Int32) (q : Int32) (hf : fX2_nodeAfter v_t_nd p1 = some q) : CI l D cI cZ yX2_nodeAfter wsX2_nodeAfter rm_X2_nodeAfter [.ref a_t, .int p1] (wo_X2_nodeAfter cI cZ a_t v_t_nd v_t_sn) (wo_X2_nodeAfter cI cZ a_t v_t_nd v_t_sn) q := by
  refine CI.mk (cc := cX2_nodeAfter) (maxL := 2) (by decide) rfl (Nat.le_of_ble_eq_true rfl) ?_
  intro p e s m below meth c ls A X hP hD hl hS
  have hx := X.1.1
  have hb := X.1.2.1
  have hl : lv_has ls 2 [(0, .ref a_t), (1, .int p1)] := hl
  have inX2 : ∀ w ∈ u_ws RX2 TX2 2, w ∈ wsX2_nodeAfter := fun _ h => List.mem_cons_of_mem _ (List.mem_append_right _ h)
  unfold fX2_nodeAfter at hf
  refine lv_iload_n hx hb dX2_nodeAfter_0 rfl (lv_at hl 1 rfl) ?_
  refine lv_iconst hx hb dX2_nodeAfter_1 ic_1 ?_
  refine lv_iadd hx hb dX2_nodeAfter_2 ?_
  refine lv_aload_n hx hb dX2_nodeAfter_3 rfl (lv_at hl 0 rfl) ?_
  refine getO X hP inX2 0 rfl rfl 0 (by decide) (List.mem_of_getElem? (i := 1) rfl) rfl dX2_nodeAfter_4 ?_
  refine lv_icmp_ge (tgt := 16) hx hb dX2_nodeAfter_7 (by decide) (fun hc => ?_) (fun hc => ?_)
  · replace hf := ifp hc hf
    refine lv_iconst hx hb dX2_nodeAfter_16 ic_0 ?_
    obtain rfl := Option.some.inj hf
    exact retI X hS hP rfl dX2_nodeAfter_17
  · replace hf := ifn hc hf
    refine lv_iload_n hx hb dX2_nodeAfter_10 rfl (lv_at hl 1 rfl) ?_
    refine lv_iconst hx hb dX2_nodeAfter_11 ic_1 ?_
    refine lv_iadd hx hb dX2_nodeAfter_12 ?_
    refine lv_goto (tgt := 17) hx hb dX2_nodeAfter_13 (by decide) ?_
    obtain rfl := Option.some.inj hf
    exact retI X hS hP rfl dX2_nodeAfter_17

abbrev wo_X2_spansAt (cI cZ : ClassId) (a_t : Nat) (v_t_nd : Int32) (v_t_sn : Int32) : va_W := [(a_t, oX2 v_t_nd v_t_sn)]
def fX2_spansAt (v_t_nd : Int32) (p1 : Int32) : Option (Int32) := ((if p1 ≤ 0 then (some (v_t_nd - (nI 1))) else (some (p1 - (nI 1)))).bind (fun ph16 => (some (((nI 1) <<< (p1 &&& 31)) ||| ((nI 1) <<< (ph16 &&& 31))))))
theorem kd_X2_spansAt : yX2_spansAt.cls = RX2 ∧ yX2_spansAt.cls ≠ "java/lang/invoke/MethodHandle" ∧ yX2_spansAt.cls ≠ "java/lang/invoke/VarHandle" ∧ (parseMethodDescriptor yX2_spansAt.desc).map (fun d => d.parameters.length) = some 1 := by decide +kernel
def rm_X2_spansAt : Room := { frames := 0, cells := 0, slots := 0, locals := 0 }
set_option maxHeartbeats 4000000 in
set_option maxRecDepth 100000 in
theorem k_X2_spansAt (l : Launch) (D : va_G) (cI cZ : ClassId) (a_t : Nat) (v_t_nd : Int32) (v_t_sn : Int32) (p1 : Int32) (q : Int32) (hf : fX2_spansAt v_t_nd p1 = some q) : CI l D cI cZ yX2_spansAt wsX2_spansAt rm_X2_spansAt [.ref a_t, .int p1] (wo_X2_spansAt cI cZ a_t v_t_nd v_t_sn) (wo_X2_spansAt cI cZ a_t v_t_nd v_t_sn) q := by
  refine CI.mk (cc := cX2_spansAt) (maxL := 3) (by decide) rfl (Nat.le_of_ble_eq_true rfl) ?_
  intro p e s m below meth c ls A X hP hD hl hS
  have hx := X.1.1
  have hb := X.1.2.1
  have hl : lv_has ls 3 [(0, .ref a_t), (1, .int p1)] := hl
  have inX2 : ∀ w ∈ u_ws RX2 TX2 2, w ∈ wsX2_spansAt := fun _ h => List.mem_cons_of_mem _ (List.mem_append_right _ h)
  unfold fX2_spansAt at hf
  refine lv_iload_n hx hb dX2_spansAt_0 rfl (lv_at hl 1 rfl) ?_
  obtain ⟨ph16, hg, hf⟩ := bnd hf
  have J16 : ∀ (H : Heap) (locs : List Loc) (ls : Array Slot), va_P D vwCl (wo_X2_spansAt cI cZ a_t v_t_nd v_t_sn) H → va_D A (wo_X2_spansAt cI cZ a_t v_t_nd v_t_sn) → va_S A s.heap H locs → lv_has ls 3 [(1, .int p1)] → W p l e rm_X2_spansAt s m ([.ref a_t, .int p1] : List Value).toArray below meth c H locs 0 0 (MQ below (QI D (wo_X2_spansAt cI cZ a_t v_t_nd v_t_sn) q A) ([.ref a_t, .int p1] : List Value).toArray s 0 0 A) (F0 m 16 ls [.int ph16]) := by
    clear hg hP hD hS hl
    intro H locs ls hP hD hS hl
    refine lv_istore_n (lv' := [(2, .int ph16), (1, .int p1)]) hx hb dX2_spansAt_16 rfl hl (by decide) rfl (fun ls hl => ?_)
    refine lv_iconst hx hb dX2_spansAt_17 ic_1 ?_
    refine lv_iload_n hx hb dX2_spansAt_18 rfl (lv_at hl 1 rfl) ?_
    refine lv_ishl hx hb dX2_spansAt_19 ?_
    refine lv_iconst hx hb dX2_spansAt_20 ic_1 ?_
    refine lv_iload_n hx hb dX2_spansAt_21 rfl (lv_at hl 0 rfl) ?_
    refine lv_ishl hx hb dX2_spansAt_22 ?_
    refine lv_ior hx hb dX2_spansAt_23 ?_
    obtain rfl := Option.some.inj hf
    exact retI X hS hP rfl dX2_spansAt_24
  replace hf := hg
  clear hg
  refine lv_if_le (tgt := 10) hx hb dX2_spansAt_1 (by decide) (fun hc => ?_) (fun hc => ?_)
  · replace hf := ifp hc hf
    refine lv_aload_n hx hb dX2_spansAt_10 rfl (lv_at hl 0 rfl) ?_
    refine getO X hP inX2 0 rfl rfl 0 (by decide) (List.mem_of_getElem? (i := 1) rfl) rfl dX2_spansAt_11 ?_
    refine lv_iconst hx hb dX2_spansAt_14 ic_1 ?_
    refine lv_isub hx hb dX2_spansAt_15 ?_
    obtain rfl := Option.some.inj hf
    exact J16 _ _ ls hP hD hS (lv_sub hl [1] rfl)
  · replace hf := ifn hc hf
    refine lv_iload_n hx hb dX2_spansAt_4 rfl (lv_at hl 1 rfl) ?_
    refine lv_iconst hx hb dX2_spansAt_5 ic_1 ?_
    refine lv_isub hx hb dX2_spansAt_6 ?_
    refine lv_goto (tgt := 16) hx hb dX2_spansAt_7 (by decide) ?_
    obtain rfl := Option.some.inj hf
    exact J16 _ _ ls hP hD hS (lv_sub hl [1] rfl)

abbrev wo_X2_route (cI cZ : ClassId) (a_t : Nat) (v_t_nd : Int32) (v_t_sn : Int32) : va_W := [(a_t, oX2 v_t_nd v_t_sn)]
def fX2_route_L9 (v_t_nd : Int32) (p1 : Int32) (p2 : Int32) (p3 : Int32) (K : Int32 → Int32 → Int32 → Option (Int32)) : Nat → Int32 → Int32 → Int32 → Option (Int32)
  | 0, _, _, _ => none
  | k + 1, x4_9, x5_9, x6_9 => (if v_t_nd ≤ x6_9 then (K x4_9 x5_9 x6_9) else (if x5_9 = p2 then (K x4_9 x5_9 x6_9) else ((fX2_nodeAfter v_t_nd x5_9).bind (fun q36 => (fX2_route_L9 v_t_nd p1 p2 p3 K k (x4_9 ||| ((nI 1) <<< (x5_9 &&& 31))) q36 (x6_9 + nI 1))))))
def fX2_route (v_t_nd : Int32) (p1 : Int32) (p2 : Int32) (p3 : Int32) : Option (Int32) := (fX2_route_L9 v_t_nd p1 p2 p3 (fun x4_9 x5_9 x6_9 => (if p3 = 0 then (some ((((nI 1) <<< (v_t_nd &&& 31)) - (nI 1)) &&& (x4_9 ^^^ (-1)))) else (some x4_9))) FU 0 p1 0)
theorem kd_X2_route : yX2_route.cls = RX2 ∧ yX2_route.cls ≠ "java/lang/invoke/MethodHandle" ∧ yX2_route.cls ≠ "java/lang/invoke/VarHandle" ∧ (parseMethodDescriptor yX2_route.desc).map (fun d => d.parameters.length) = some 3 := by decide +kernel
def rm_X2_route : Room := { frames := 1, cells := 0, slots := 0, locals := 21 }
set_option maxHeartbeats 4000000 in
set_option maxRecDepth 100000 in
theorem k_X2_route (l : Launch) (D : va_G) (cI cZ : ClassId) (a_t : Nat) (v_t_nd : Int32) (v_t_sn : Int32) (p1 : Int32) (p2 : Int32) (p3 : Int32) (q : Int32) (hf : fX2_route v_t_nd p1 p2 p3 = some q) : CI l D cI cZ yX2_route wsX2_route rm_X2_route [.ref a_t, .int p1, .int p2, .int p3] (wo_X2_route cI cZ a_t v_t_nd v_t_sn) (wo_X2_route cI cZ a_t v_t_nd v_t_sn) q := by
  refine CI.mk (cc := cX2_route) (maxL := 7) (by decide) rfl (Nat.le_of_ble_eq_true rfl) ?_
  intro p e s m below meth c ls A X hP hD hl hS
  have hx := X.1.1
  have hb := X.1.2.1
  have hl : lv_has ls 7 [(0, .ref a_t), (1, .int p1), (2, .int p2), (3, .int p3)] := hl
  have inX2 : ∀ w ∈ u_ws RX2 TX2 2, w ∈ wsX2_route := fun _ h => List.mem_cons_of_mem _ (List.mem_append_right _ h)
  have L9 : ∀ (K : Int32 → Int32 → Int32 → Option (Int32)) (hKK : ∀ (x4_9 : Int32) (x5_9 : Int32) (x6_9 : Int32) (H : Heap) (locs : List Loc) (ls : Array Slot), K x4_9 x5_9 x6_9 = some q → va_P D vwCl (wo_X2_route cI cZ a_t v_t_nd v_t_sn) H → va_D A (wo_X2_route cI cZ a_t v_t_nd v_t_sn) → va_S A s.heap H locs → lv_has ls 7 [(0, .ref a_t), (3, .int p3), (4, .int x4_9)] → W p l e rm_X2_route s m ([.ref a_t, .int p1, .int p2, .int p3] : List Value).toArray below meth c H locs 0 0 (MQ below (QI D (wo_X2_route cI cZ a_t v_t_nd v_t_sn) q A) ([.ref a_t, .int p1, .int p2, .int p3] : List Value).toArray s 0 0 A) (F0 m 47 ls [])) (k : Nat) (x4_9 : Int32) (x5_9 : Int32) (x6_9 : Int32) (H : Heap) (locs : List Loc) (ls : Array Slot), fX2_route_L9 v_t_nd p1 p2 p3 K k x4_9 x5_9 x6_9 = some q → va_P D vwCl (wo_X2_route cI cZ a_t v_t_nd v_t_sn) H → va_D A (wo_X2_route cI cZ a_t v_t_nd v_t_sn) → va_S A s.heap H locs → lv_has ls 7 [(0, .ref a_t), (2, .int p2), (3, .int p3), (4, .int x4_9), (5, .int x5_9), (6, .int x6_9)] → W p l e rm_X2_route s m ([.ref a_t, .int p1, .int p2, .int p3] : List Value).toArray below meth c H locs 0 0 (MQ below (QI D (wo_X2_route cI cZ a_t v_t_nd v_t_sn) q A) ([.ref a_t, .int p1, .int p2, .int p3] : List Value).toArray s 0 0 A) (F0 m 9 ls []) := by
    intro K hKK k
    induction k with
    | zero => intro x4_9 x5_9 x6_9 H locs ls hf; rw [fX2_route_L9] at hf; cases hf
    | succ k ih =>
      intro x4_9 x5_9 x6_9 H locs ls hf hP hD hS hl
      rw [fX2_route_L9] at hf
      refine lv_iload hx hb dX2_route_9 (lv_at hl 5 rfl) ?_
      refine lv_aload_n hx hb dX2_route_11 rfl (lv_at hl 0 rfl) ?_
      refine getO X hP inX2 0 rfl rfl 0 (by decide) (List.mem_of_getElem? (i := 1) rfl) rfl dX2_route_12 ?_
      refine lv_icmp_ge (tgt := 47) hx hb dX2_route_15 (by decide) (fun hc => ?_) (fun hc => ?_)
      · replace hf := ifp hc hf
        exact hKK _ _ _ _ _ ls hf hP hD hS (lv_sub hl [0, 2, 3] rfl)
      · replace hf := ifn hc hf
        refine lv_iload hx hb dX2_route_18 (lv_at hl 4 rfl) ?_
        refine lv_iload_n hx hb dX2_route_20 rfl (lv_at hl 1 rfl) ?_
        refine lv_icmp_eq (tgt := 47) hx hb dX2_route_21 (by decide) (fun hc => ?_) (fun hc => ?_)
        · replace hf := ifp hc hf
          exact hKK _ _ _ _ _ ls hf hP hD hS (lv_sub hl [0, 2, 3] rfl)
        · replace hf := ifn hc hf
          refine lv_iload hx hb dX2_route_24 (lv_at hl 3 rfl) ?_
          refine lv_iconst hx hb dX2_route_26 ic_1 ?_
          refine lv_iload hx hb dX2_route_27 (lv_at hl 4 rfl) ?_
          refine lv_ishl hx hb dX2_route_29 ?_
          refine lv_ior hx hb dX2_route_30 ?_
          refine lv_istore (lv' := [(4, .int (x4_9 ||| ((nI 1) <<< (x5_9 &&& 31)))), (0, .ref a_t), (2, .int p2), (3, .int p3), (5, .int x5_9), (6, .int x6_9)]) hx hb dX2_route_31 hl (by decide) rfl (fun ls hl => ?_)
          refine lv_aload_n hx hb dX2_route_33 rfl (lv_at hl 1 rfl) ?_
          refine lv_iload hx hb dX2_route_34 (lv_at hl 4 rfl) ?_
          obtain ⟨q36, e36, hf⟩ := bnd hf
          refine callVI X (k_X2_nodeAfter l D cI cZ a_t  v_t_nd v_t_sn x5_9 q36 e36) (cwV 1 X.1.2.2.2.2 gX2_route_X2_nodeAfter rfl rfl rfl kd_X2_nodeAfter ⟨Nat.le_of_ble_eq_true rfl, Nat.le_of_ble_eq_true rfl⟩) hP hD hS hl.1 0 2 rfl rfl [0] (by decide) (wo_X2_route cI cZ a_t v_t_nd v_t_sn) rfl rfl rfl rfl rfl (rest := []) rfl (Nat.le_of_ble_eq_true rfl) dX2_route_36 ⟨Nat.zero_le _, Nat.zero_le _⟩ (fun H locs hP hD hS => ?_)
          refine lv_istore (lv' := [(5, .int q36), (4, .int (x4_9 ||| ((nI 1) <<< (x5_9 &&& 31)))), (0, .ref a_t), (2, .int p2), (3, .int p3), (6, .int x6_9)]) hx hb dX2_route_39 hl (by decide) rfl (fun ls hl => ?_)
          refine lv_iinc (v := (x6_9 + nI 1)) (lv' := [(6, .int (x6_9 + nI 1)), (5, .int q36), (4, .int (x4_9 ||| ((nI 1) <<< (x5_9 &&& 31)))), (0, .ref a_t), (2, .int p2), (3, .int p3)]) hx hb dX2_route_41 hl (k := 5) rfl (inc_1 _) (by decide) rfl (fun ls hl => ?_)
          refine lv_goto (tgt := 9) hx hb dX2_route_44 (by decide) ?_
          exact ih _ _ _ _ _ ls hf hP hD hS (lv_sub hl [3, 4, 5, 2, 1, 0] rfl)
  unfold fX2_route at hf
  refine lv_iconst hx hb dX2_route_0 ic_0 ?_
  refine lv_istore (lv' := [(4, .int 0), (0, .ref a_t), (1, .int p1), (2, .int p2), (3, .int p3)]) hx hb dX2_route_1 hl (by decide) rfl (fun ls hl => ?_)
  refine lv_iload_n hx hb dX2_route_3 rfl (lv_at hl 2 rfl) ?_
  refine lv_istore (lv' := [(5, .int p1), (4, .int 0), (0, .ref a_t), (1, .int p1), (2, .int p2), (3, .int p3)]) hx hb dX2_route_4 hl (by decide) rfl (fun ls hl => ?_)
  refine lv_iconst hx hb dX2_route_6 ic_0 ?_
  refine lv_istore (lv' := [(6, .int 0), (5, .int p1), (4, .int 0), (0, .ref a_t), (1, .int p1), (2, .int p2), (3, .int p3)]) hx hb dX2_route_7 hl (by decide) rfl (fun ls hl => ?_)
  refine L9 _ (fun x4_9 x5_9 x6_9 H locs ls hf hP hD hS hl => ?_) FU _ _ _ _ _ ls hf hP hD hS (lv_sub hl [3, 5, 6, 2, 1, 0] rfl)
  refine lv_iconst hx hb dX2_route_47 ic_1 ?_
  refine lv_aload_n hx hb dX2_route_48 rfl (lv_at hl 0 rfl) ?_
  refine getO X hP inX2 0 rfl rfl 0 (by decide) (List.mem_of_getElem? (i := 1) rfl) rfl dX2_route_49 ?_
  refine lv_ishl hx hb dX2_route_52 ?_
  refine lv_iconst hx hb dX2_route_53 ic_1 ?_
  refine lv_isub hx hb dX2_route_54 ?_
  refine lv_istore (lv' := [(6, .int (((nI 1) <<< (v_t_nd &&& 31)) - (nI 1))), (0, .ref a_t), (3, .int p3), (4, .int x4_9)]) hx hb dX2_route_55 hl (by decide) rfl (fun ls hl => ?_)
  refine lv_iload_n hx hb dX2_route_57 rfl (lv_at hl 2 rfl) ?_
  refine lv_if_eq (tgt := 66) hx hb dX2_route_58 (by decide) (fun hc => ?_) (fun hc => ?_)
  · replace hf := ifp hc hf
    refine lv_iload hx hb dX2_route_66 (lv_at hl 0 rfl) ?_
    refine lv_iload hx hb dX2_route_68 (lv_at hl 3 rfl) ?_
    refine lv_iconst hx hb dX2_route_70 ic_m1 ?_
    refine lv_ixor hx hb dX2_route_71 ?_
    refine lv_iand hx hb dX2_route_72 ?_
    obtain rfl := Option.some.inj hf
    exact retI X hS hP rfl dX2_route_73
  · replace hf := ifn hc hf
    refine lv_iload hx hb dX2_route_61 (lv_at hl 3 rfl) ?_
    refine lv_goto (tgt := 73) hx hb dX2_route_63 (by decide) ?_
    obtain rfl := Option.some.inj hf
    exact retI X hS hP rfl dX2_route_73

abbrev wo_X5_isDelivery (cI cZ : ClassId) : va_W := []
def fX5_isDelivery (p0 : Int32) : Option (Bool) := (if p0 = 0 then (some true) else (if p0 = (nI 1) then (some true) else (if p0 = (nI 2) then (some true) else (some false))))
theorem kd_X5_isDelivery : yX5_isDelivery.cls ≠ "java/lang/invoke/MethodHandle" ∧ yX5_isDelivery.cls ≠ "java/lang/invoke/VarHandle" ∧ (parseMethodDescriptor yX5_isDelivery.desc).map (fun d => d.parameters.length) = some 1 := by decide +kernel
def rm_X5_isDelivery : Room := { frames := 0, cells := 0, slots := 0, locals := 0 }
set_option maxHeartbeats 4000000 in
set_option maxRecDepth 100000 in
theorem k_X5_isDelivery (l : Launch) (D : va_G) (cI cZ : ClassId) (p0 : Int32) (q : Bool) (hf : fX5_isDelivery p0 = some q) : CI l D cI cZ yX5_isDelivery wsX5_isDelivery rm_X5_isDelivery [.int p0] (wo_X5_isDelivery cI cZ) (wo_X5_isDelivery cI cZ) (b2i q) := by
  refine CI.mk (cc := cX5_isDelivery) (maxL := 1) (by decide) rfl (Nat.le_of_ble_eq_true rfl) ?_
  intro p e s m below meth c ls A X hP hD hl hS
  have hx := X.1.1
  have hb := X.1.2.1
  have hl : lv_has ls 1 [(0, .int p0)] := hl
  unfold fX5_isDelivery at hf
  refine lv_iload_n hx hb dX5_isDelivery_0 rfl (lv_at hl 0 rfl) ?_
  refine lv_if_eq (tgt := 14) hx hb dX5_isDelivery_1 (by decide) (fun hc => ?_) (fun hc => ?_)
  · replace hf := ifp hc hf
    refine lv_iconst hx hb dX5_isDelivery_14 ic_1 ?_
    refine lv_goto (tgt := 19) hx hb dX5_isDelivery_15 (by decide) ?_
    obtain rfl := Option.some.inj hf
    exact retB X hS hP rfl rfl dX5_isDelivery_19
  · replace hf := ifn hc hf
    refine lv_iload_n hx hb dX5_isDelivery_4 rfl (lv_at hl 0 rfl) ?_
    refine lv_iconst hx hb dX5_isDelivery_5 ic_1 ?_
    refine lv_icmp_eq (tgt := 14) hx hb dX5_isDelivery_6 (by decide) (fun hc => ?_) (fun hc => ?_)
    · replace hf := ifp hc hf
      refine lv_iconst hx hb dX5_isDelivery_14 ic_1 ?_
      refine lv_goto (tgt := 19) hx hb dX5_isDelivery_15 (by decide) ?_
      obtain rfl := Option.some.inj hf
      exact retB X hS hP rfl rfl dX5_isDelivery_19
    · replace hf := ifn hc hf
      refine lv_iload_n hx hb dX5_isDelivery_9 rfl (lv_at hl 0 rfl) ?_
      refine lv_iconst hx hb dX5_isDelivery_10 ic_2 ?_
      refine lv_icmp_ne (tgt := 18) hx hb dX5_isDelivery_11 (by decide) (fun hc => ?_) (fun hc => ?_)
      · replace hf := ifn hc hf
        refine lv_iconst hx hb dX5_isDelivery_18 ic_0 ?_
        obtain rfl := Option.some.inj hf
        exact retB X hS hP rfl rfl dX5_isDelivery_19
      · replace hf := ifp hc hf
        refine lv_iconst hx hb dX5_isDelivery_14 ic_1 ?_
        refine lv_goto (tgt := 19) hx hb dX5_isDelivery_15 (by decide) ?_
        obtain rfl := Option.some.inj hf
        exact retB X hS hP rfl rfl dX5_isDelivery_19

abbrev wo_J6_bitCount_0f7a4 (cI cZ : ClassId) : va_W := []
def fJ6_bitCount_0f7a4 (p0 : Int32) : Option (Int32) := (some ((((((((p0 - ((((p0).toUInt32 >>> (((nI 1)).toUInt32 &&& Int32.toUInt32 31)).toInt32) &&& (1431655765 : Int32))) &&& (858993459 : Int32)) + (((((p0 - ((((p0).toUInt32 >>> (((nI 1)).toUInt32 &&& Int32.toUInt32 31)).toInt32) &&& (1431655765 : Int32)))).toUInt32 >>> (((nI 2)).toUInt32 &&& Int32.toUInt32 31)).toInt32) &&& (858993459 : Int32))) + ((((((p0 - ((((p0).toUInt32 >>> (((nI 1)).toUInt32 &&& Int32.toUInt32 31)).toInt32) &&& (1431655765 : Int32))) &&& (858993459 : Int32)) + (((((p0 - ((((p0).toUInt32 >>> (((nI 1)).toUInt32 &&& Int32.toUInt32 31)).toInt32) &&& (1431655765 : Int32)))).toUInt32 >>> (((nI 2)).toUInt32 &&& Int32.toUInt32 31)).toInt32) &&& (858993459 : Int32)))).toUInt32 >>> (((nI 4)).toUInt32 &&& Int32.toUInt32 31)).toInt32)) &&& (252645135 : Int32)) + ((((((((p0 - ((((p0).toUInt32 >>> (((nI 1)).toUInt32 &&& Int32.toUInt32 31)).toInt32) &&& (1431655765 : Int32))) &&& (858993459 : Int32)) + (((((p0 - ((((p0).toUInt32 >>> (((nI 1)).toUInt32 &&& Int32.toUInt32 31)).toInt32) &&& (1431655765 : Int32)))).toUInt32 >>> (((nI 2)).toUInt32 &&& Int32.toUInt32 31)).toInt32) &&& (858993459 : Int32))) + ((((((p0 - ((((p0).toUInt32 >>> (((nI 1)).toUInt32 &&& Int32.toUInt32 31)).toInt32) &&& (1431655765 : Int32))) &&& (858993459 : Int32)) + (((((p0 - ((((p0).toUInt32 >>> (((nI 1)).toUInt32 &&& Int32.toUInt32 31)).toInt32) &&& (1431655765 : Int32)))).toUInt32 >>> (((nI 2)).toUInt32 &&& Int32.toUInt32 31)).toInt32) &&& (858993459 : Int32)))).toUInt32 >>> (((nI 4)).toUInt32 &&& Int32.toUInt32 31)).toInt32)) &&& (252645135 : Int32))).toUInt32 >>> (((nI 8)).toUInt32 &&& Int32.toUInt32 31)).toInt32)) + (((((((((p0 - ((((p0).toUInt32 >>> (((nI 1)).toUInt32 &&& Int32.toUInt32 31)).toInt32) &&& (1431655765 : Int32))) &&& (858993459 : Int32)) + (((((p0 - ((((p0).toUInt32 >>> (((nI 1)).toUInt32 &&& Int32.toUInt32 31)).toInt32) &&& (1431655765 : Int32)))).toUInt32 >>> (((nI 2)).toUInt32 &&& Int32.toUInt32 31)).toInt32) &&& (858993459 : Int32))) + ((((((p0 - ((((p0).toUInt32 >>> (((nI 1)).toUInt32 &&& Int32.toUInt32 31)).toInt32) &&& (1431655765 : Int32))) &&& (858993459 : Int32)) + (((((p0 - ((((p0).toUInt32 >>> (((nI 1)).toUInt32 &&& Int32.toUInt32 31)).toInt32) &&& (1431655765 : Int32)))).toUInt32 >>> (((nI 2)).toUInt32 &&& Int32.toUInt32 31)).toInt32) &&& (858993459 : Int32)))).toUInt32 >>> (((nI 4)).toUInt32 &&& Int32.toUInt32 31)).toInt32)) &&& (252645135 : Int32)) + ((((((((p0 - ((((p0).toUInt32 >>> (((nI 1)).toUInt32 &&& Int32.toUInt32 31)).toInt32) &&& (1431655765 : Int32))) &&& (858993459 : Int32)) + (((((p0 - ((((p0).toUInt32 >>> (((nI 1)).toUInt32 &&& Int32.toUInt32 31)).toInt32) &&& (1431655765 : Int32)))).toUInt32 >>> (((nI 2)).toUInt32 &&& Int32.toUInt32 31)).toInt32) &&& (858993459 : Int32))) + ((((((p0 - ((((p0).toUInt32 >>> (((nI 1)).toUInt32 &&& Int32.toUInt32 31)).toInt32) &&& (1431655765 : Int32))) &&& (858993459 : Int32)) + (((((p0 - ((((p0).toUInt32 >>> (((nI 1)).toUInt32 &&& Int32.toUInt32 31)).toInt32) &&& (1431655765 : Int32)))).toUInt32 >>> (((nI 2)).toUInt32 &&& Int32.toUInt32 31)).toInt32) &&& (858993459 : Int32)))).toUInt32 >>> (((nI 4)).toUInt32 &&& Int32.toUInt32 31)).toInt32)) &&& (252645135 : Int32))).toUInt32 >>> (((nI 8)).toUInt32 &&& Int32.toUInt32 31)).toInt32))).toUInt32 >>> (((nI 16)).toUInt32 &&& Int32.toUInt32 31)).toInt32)) &&& (nI 63)))
theorem kd_J6_bitCount_0f7a4 : yJ6_bitCount_0f7a4.cls ≠ "java/lang/invoke/MethodHandle" ∧ yJ6_bitCount_0f7a4.cls ≠ "java/lang/invoke/VarHandle" ∧ (parseMethodDescriptor yJ6_bitCount_0f7a4.desc).map (fun d => d.parameters.length) = some 1 := by decide +kernel
def rm_J6_bitCount_0f7a4 : Room := { frames := 0, cells := 0, slots := 0, locals := 0 }
set_option maxHeartbeats 4000000 in
set_option maxRecDepth 100000 in
theorem k_J6_bitCount_0f7a4 (l : Launch) (D : va_G) (cI cZ : ClassId) (p0 : Int32) (q : Int32) (hf : fJ6_bitCount_0f7a4 p0 = some q) : CI l D cI cZ yJ6_bitCount_0f7a4 wsJ6_bitCount_0f7a4 rm_J6_bitCount_0f7a4 [.int p0] (wo_J6_bitCount_0f7a4 cI cZ) (wo_J6_bitCount_0f7a4 cI cZ) q := by
  refine CI.mk (cc := cJ6_bitCount_0f7a4) (maxL := 1) (by decide) rfl (Nat.le_of_ble_eq_true rfl) ?_
  intro p e s m below meth c ls A X hP hD hl hS
  have hx := X.1.1
  have hb := X.1.2.1
  have hl : lv_has ls 1 [(0, .int p0)] := hl
  unfold fJ6_bitCount_0f7a4 at hf
  refine lv_iload_n hx hb dJ6_bitCount_0f7a4_0 rfl (lv_at hl 0 rfl) ?_
  refine lv_iload_n hx hb dJ6_bitCount_0f7a4_1 rfl (lv_at hl 0 rfl) ?_
  refine lv_iconst hx hb dJ6_bitCount_0f7a4_2 ic_1 ?_
  refine lv_iushr hx hb dJ6_bitCount_0f7a4_3 rfl ?_
  refine lv_ldcw (v := 1431655765) hx hb X.1.2.2.2.1 (X.1.2.2.2.2 _ (List.mem_of_getElem? (i := 1) rfl)) dJ6_bitCount_0f7a4_4 ?_
  refine lv_iand hx hb dJ6_bitCount_0f7a4_7 ?_
  refine lv_isub hx hb dJ6_bitCount_0f7a4_8 ?_
  refine lv_istore_n (lv' := [(0, .int (p0 - ((((p0).toUInt32 >>> (((nI 1)).toUInt32 &&& Int32.toUInt32 31)).toInt32) &&& (1431655765 : Int32))))]) hx hb dJ6_bitCount_0f7a4_9 rfl hl (by decide) rfl (fun ls hl => ?_)
  refine lv_iload_n hx hb dJ6_bitCount_0f7a4_10 rfl (lv_at hl 0 rfl) ?_
  refine lv_ldcw (v := 858993459) hx hb X.1.2.2.2.1 (X.1.2.2.2.2 _ (List.mem_of_getElem? (i := 2) rfl)) dJ6_bitCount_0f7a4_11 ?_
  refine lv_iand hx hb dJ6_bitCount_0f7a4_14 ?_
  refine lv_iload_n hx hb dJ6_bitCount_0f7a4_15 rfl (lv_at hl 0 rfl) ?_
  refine lv_iconst hx hb dJ6_bitCount_0f7a4_16 ic_2 ?_
  refine lv_iushr hx hb dJ6_bitCount_0f7a4_17 rfl ?_
  refine lv_ldcw (v := 858993459) hx hb X.1.2.2.2.1 (X.1.2.2.2.2 _ (List.mem_of_getElem? (i := 2) rfl)) dJ6_bitCount_0f7a4_18 ?_
  refine lv_iand hx hb dJ6_bitCount_0f7a4_21 ?_
  refine lv_iadd hx hb dJ6_bitCount_0f7a4_22 ?_
  refine lv_istore_n (lv' := [(0, .int (((p0 - ((((p0).toUInt32 >>> (((nI 1)).toUInt32 &&& Int32.toUInt32 31)).toInt32) &&& (1431655765 : Int32))) &&& (858993459 : Int32)) + (((((p0 - ((((p0).toUInt32 >>> (((nI 1)).toUInt32 &&& Int32.toUInt32 31)).toInt32) &&& (1431655765 : Int32)))).toUInt32 >>> (((nI 2)).toUInt32 &&& Int32.toUInt32 31)).toInt32) &&& (858993459 : Int32))))]) hx hb dJ6_bitCount_0f7a4_23 rfl hl (by decide) rfl (fun ls hl => ?_)
  refine lv_iload_n hx hb dJ6_bitCount_0f7a4_24 rfl (lv_at hl 0 rfl) ?_
  refine lv_iload_n hx hb dJ6_bitCount_0f7a4_25 rfl (lv_at hl 0 rfl) ?_
  refine lv_iconst hx hb dJ6_bitCount_0f7a4_26 ic_4 ?_
  refine lv_iushr hx hb dJ6_bitCount_0f7a4_27 rfl ?_
  refine lv_iadd hx hb dJ6_bitCount_0f7a4_28 ?_
  refine lv_ldcw (v := 252645135) hx hb X.1.2.2.2.1 (X.1.2.2.2.2 _ (List.mem_of_getElem? (i := 3) rfl)) dJ6_bitCount_0f7a4_29 ?_
  refine lv_iand hx hb dJ6_bitCount_0f7a4_32 ?_
  refine lv_istore_n (lv' := [(0, .int (((((p0 - ((((p0).toUInt32 >>> (((nI 1)).toUInt32 &&& Int32.toUInt32 31)).toInt32) &&& (1431655765 : Int32))) &&& (858993459 : Int32)) + (((((p0 - ((((p0).toUInt32 >>> (((nI 1)).toUInt32 &&& Int32.toUInt32 31)).toInt32) &&& (1431655765 : Int32)))).toUInt32 >>> (((nI 2)).toUInt32 &&& Int32.toUInt32 31)).toInt32) &&& (858993459 : Int32))) + ((((((p0 - ((((p0).toUInt32 >>> (((nI 1)).toUInt32 &&& Int32.toUInt32 31)).toInt32) &&& (1431655765 : Int32))) &&& (858993459 : Int32)) + (((((p0 - ((((p0).toUInt32 >>> (((nI 1)).toUInt32 &&& Int32.toUInt32 31)).toInt32) &&& (1431655765 : Int32)))).toUInt32 >>> (((nI 2)).toUInt32 &&& Int32.toUInt32 31)).toInt32) &&& (858993459 : Int32)))).toUInt32 >>> (((nI 4)).toUInt32 &&& Int32.toUInt32 31)).toInt32)) &&& (252645135 : Int32)))]) hx hb dJ6_bitCount_0f7a4_33 rfl hl (by decide) rfl (fun ls hl => ?_)
  refine lv_iload_n hx hb dJ6_bitCount_0f7a4_34 rfl (lv_at hl 0 rfl) ?_
  refine lv_iload_n hx hb dJ6_bitCount_0f7a4_35 rfl (lv_at hl 0 rfl) ?_
  refine lv_bipush hx hb dJ6_bitCount_0f7a4_36 bp_8 ?_
  refine lv_iushr hx hb dJ6_bitCount_0f7a4_38 rfl ?_
  refine lv_iadd hx hb dJ6_bitCount_0f7a4_39 ?_
  refine lv_istore_n (lv' := [(0, .int ((((((p0 - ((((p0).toUInt32 >>> (((nI 1)).toUInt32 &&& Int32.toUInt32 31)).toInt32) &&& (1431655765 : Int32))) &&& (858993459 : Int32)) + (((((p0 - ((((p0).toUInt32 >>> (((nI 1)).toUInt32 &&& Int32.toUInt32 31)).toInt32) &&& (1431655765 : Int32)))).toUInt32 >>> (((nI 2)).toUInt32 &&& Int32.toUInt32 31)).toInt32) &&& (858993459 : Int32))) + ((((((p0 - ((((p0).toUInt32 >>> (((nI 1)).toUInt32 &&& Int32.toUInt32 31)).toInt32) &&& (1431655765 : Int32))) &&& (858993459 : Int32)) + (((((p0 - ((((p0).toUInt32 >>> (((nI 1)).toUInt32 &&& Int32.toUInt32 31)).toInt32) &&& (1431655765 : Int32)))).toUInt32 >>> (((nI 2)).toUInt32 &&& Int32.toUInt32 31)).toInt32) &&& (858993459 : Int32)))).toUInt32 >>> (((nI 4)).toUInt32 &&& Int32.toUInt32 31)).toInt32)) &&& (252645135 : Int32)) + ((((((((p0 - ((((p0).toUInt32 >>> (((nI 1)).toUInt32 &&& Int32.toUInt32 31)).toInt32) &&& (1431655765 : Int32))) &&& (858993459 : Int32)) + (((((p0 - ((((p0).toUInt32 >>> (((nI 1)).toUInt32 &&& Int32.toUInt32 31)).toInt32) &&& (1431655765 : Int32)))).toUInt32 >>> (((nI 2)).toUInt32 &&& Int32.toUInt32 31)).toInt32) &&& (858993459 : Int32))) + ((((((p0 - ((((p0).toUInt32 >>> (((nI 1)).toUInt32 &&& Int32.toUInt32 31)).toInt32) &&& (1431655765 : Int32))) &&& (858993459 : Int32)) + (((((p0 - ((((p0).toUInt32 >>> (((nI 1)).toUInt32 &&& Int32.toUInt32 31)).toInt32) &&& (1431655765 : Int32)))).toUInt32 >>> (((nI 2)).toUInt32 &&& Int32.toUInt32 31)).toInt32) &&& (858993459 : Int32)))).toUInt32 >>> (((nI 4)).toUInt32 &&& Int32.toUInt32 31)).toInt32)) &&& (252645135 : Int32))).toUInt32 >>> (((nI 8)).toUInt32 &&& Int32.toUInt32 31)).toInt32)))]) hx hb dJ6_bitCount_0f7a4_40 rfl hl (by decide) rfl (fun ls hl => ?_)
  refine lv_iload_n hx hb dJ6_bitCount_0f7a4_41 rfl (lv_at hl 0 rfl) ?_
  refine lv_iload_n hx hb dJ6_bitCount_0f7a4_42 rfl (lv_at hl 0 rfl) ?_
  refine lv_bipush hx hb dJ6_bitCount_0f7a4_43 bp_16 ?_
  refine lv_iushr hx hb dJ6_bitCount_0f7a4_45 rfl ?_
  refine lv_iadd hx hb dJ6_bitCount_0f7a4_46 ?_
  refine lv_istore_n (lv' := [(0, .int (((((((p0 - ((((p0).toUInt32 >>> (((nI 1)).toUInt32 &&& Int32.toUInt32 31)).toInt32) &&& (1431655765 : Int32))) &&& (858993459 : Int32)) + (((((p0 - ((((p0).toUInt32 >>> (((nI 1)).toUInt32 &&& Int32.toUInt32 31)).toInt32) &&& (1431655765 : Int32)))).toUInt32 >>> (((nI 2)).toUInt32 &&& Int32.toUInt32 31)).toInt32) &&& (858993459 : Int32))) + ((((((p0 - ((((p0).toUInt32 >>> (((nI 1)).toUInt32 &&& Int32.toUInt32 31)).toInt32) &&& (1431655765 : Int32))) &&& (858993459 : Int32)) + (((((p0 - ((((p0).toUInt32 >>> (((nI 1)).toUInt32 &&& Int32.toUInt32 31)).toInt32) &&& (1431655765 : Int32)))).toUInt32 >>> (((nI 2)).toUInt32 &&& Int32.toUInt32 31)).toInt32) &&& (858993459 : Int32)))).toUInt32 >>> (((nI 4)).toUInt32 &&& Int32.toUInt32 31)).toInt32)) &&& (252645135 : Int32)) + ((((((((p0 - ((((p0).toUInt32 >>> (((nI 1)).toUInt32 &&& Int32.toUInt32 31)).toInt32) &&& (1431655765 : Int32))) &&& (858993459 : Int32)) + (((((p0 - ((((p0).toUInt32 >>> (((nI 1)).toUInt32 &&& Int32.toUInt32 31)).toInt32) &&& (1431655765 : Int32)))).toUInt32 >>> (((nI 2)).toUInt32 &&& Int32.toUInt32 31)).toInt32) &&& (858993459 : Int32))) + ((((((p0 - ((((p0).toUInt32 >>> (((nI 1)).toUInt32 &&& Int32.toUInt32 31)).toInt32) &&& (1431655765 : Int32))) &&& (858993459 : Int32)) + (((((p0 - ((((p0).toUInt32 >>> (((nI 1)).toUInt32 &&& Int32.toUInt32 31)).toInt32) &&& (1431655765 : Int32)))).toUInt32 >>> (((nI 2)).toUInt32 &&& Int32.toUInt32 31)).toInt32) &&& (858993459 : Int32)))).toUInt32 >>> (((nI 4)).toUInt32 &&& Int32.toUInt32 31)).toInt32)) &&& (252645135 : Int32))).toUInt32 >>> (((nI 8)).toUInt32 &&& Int32.toUInt32 31)).toInt32)) + (((((((((p0 - ((((p0).toUInt32 >>> (((nI 1)).toUInt32 &&& Int32.toUInt32 31)).toInt32) &&& (1431655765 : Int32))) &&& (858993459 : Int32)) + (((((p0 - ((((p0).toUInt32 >>> (((nI 1)).toUInt32 &&& Int32.toUInt32 31)).toInt32) &&& (1431655765 : Int32)))).toUInt32 >>> (((nI 2)).toUInt32 &&& Int32.toUInt32 31)).toInt32) &&& (858993459 : Int32))) + ((((((p0 - ((((p0).toUInt32 >>> (((nI 1)).toUInt32 &&& Int32.toUInt32 31)).toInt32) &&& (1431655765 : Int32))) &&& (858993459 : Int32)) + (((((p0 - ((((p0).toUInt32 >>> (((nI 1)).toUInt32 &&& Int32.toUInt32 31)).toInt32) &&& (1431655765 : Int32)))).toUInt32 >>> (((nI 2)).toUInt32 &&& Int32.toUInt32 31)).toInt32) &&& (858993459 : Int32)))).toUInt32 >>> (((nI 4)).toUInt32 &&& Int32.toUInt32 31)).toInt32)) &&& (252645135 : Int32)) + ((((((((p0 - ((((p0).toUInt32 >>> (((nI 1)).toUInt32 &&& Int32.toUInt32 31)).toInt32) &&& (1431655765 : Int32))) &&& (858993459 : Int32)) + (((((p0 - ((((p0).toUInt32 >>> (((nI 1)).toUInt32 &&& Int32.toUInt32 31)).toInt32) &&& (1431655765 : Int32)))).toUInt32 >>> (((nI 2)).toUInt32 &&& Int32.toUInt32 31)).toInt32) &&& (858993459 : Int32))) + ((((((p0 - ((((p0).toUInt32 >>> (((nI 1)).toUInt32 &&& Int32.toUInt32 31)).toInt32) &&& (1431655765 : Int32))) &&& (858993459 : Int32)) + (((((p0 - ((((p0).toUInt32 >>> (((nI 1)).toUInt32 &&& Int32.toUInt32 31)).toInt32) &&& (1431655765 : Int32)))).toUInt32 >>> (((nI 2)).toUInt32 &&& Int32.toUInt32 31)).toInt32) &&& (858993459 : Int32)))).toUInt32 >>> (((nI 4)).toUInt32 &&& Int32.toUInt32 31)).toInt32)) &&& (252645135 : Int32))).toUInt32 >>> (((nI 8)).toUInt32 &&& Int32.toUInt32 31)).toInt32))).toUInt32 >>> (((nI 16)).toUInt32 &&& Int32.toUInt32 31)).toInt32)))]) hx hb dJ6_bitCount_0f7a4_47 rfl hl (by decide) rfl (fun ls hl => ?_)
  refine lv_iload_n hx hb dJ6_bitCount_0f7a4_48 rfl (lv_at hl 0 rfl) ?_
  refine lv_bipush hx hb dJ6_bitCount_0f7a4_49 bp_63 ?_
  refine lv_iand hx hb dJ6_bitCount_0f7a4_51 ?_
  obtain rfl := Option.some.inj hf
  exact retI X hS hP rfl dJ6_bitCount_0f7a4_52

abbrev wo_X5_isCommand (cI cZ : ClassId) : va_W := []
def fX5_isCommand (p0 : Int32) : Option (Bool) := (if p0 = 0 then (some true) else (if p0 = (nI 3) then (some true) else (if p0 = (nI 4) then (some true) else (if p0 = (nI 7) then (some true) else (if p0 = (nI 8) then (some true) else (if p0 = (nI 9) then (some true) else (some false)))))))
theorem kd_X5_isCommand : yX5_isCommand.cls ≠ "java/lang/invoke/MethodHandle" ∧ yX5_isCommand.cls ≠ "java/lang/invoke/VarHandle" ∧ (parseMethodDescriptor yX5_isCommand.desc).map (fun d => d.parameters.length) = some 1 := by decide +kernel
def rm_X5_isCommand : Room := { frames := 0, cells := 0, slots := 0, locals := 0 }
set_option maxHeartbeats 4000000 in
set_option maxRecDepth 100000 in
theorem k_X5_isCommand (l : Launch) (D : va_G) (cI cZ : ClassId) (p0 : Int32) (q : Bool) (hf : fX5_isCommand p0 = some q) : CI l D cI cZ yX5_isCommand wsX5_isCommand rm_X5_isCommand [.int p0] (wo_X5_isCommand cI cZ) (wo_X5_isCommand cI cZ) (b2i q) := by
  refine CI.mk (cc := cX5_isCommand) (maxL := 1) (by decide) rfl (Nat.le_of_ble_eq_true rfl) ?_
  intro p e s m below meth c ls A X hP hD hl hS
  have hx := X.1.1
  have hb := X.1.2.1
  have hl : lv_has ls 1 [(0, .int p0)] := hl
  unfold fX5_isCommand at hf
  refine lv_iload_n hx hb dX5_isCommand_0 rfl (lv_at hl 0 rfl) ?_
  refine lv_if_eq (tgt := 32) hx hb dX5_isCommand_1 (by decide) (fun hc => ?_) (fun hc => ?_)
  · replace hf := ifp hc hf
    refine lv_iconst hx hb dX5_isCommand_32 ic_1 ?_
    refine lv_goto (tgt := 37) hx hb dX5_isCommand_33 (by decide) ?_
    obtain rfl := Option.some.inj hf
    exact retB X hS hP rfl rfl dX5_isCommand_37
  · replace hf := ifn hc hf
    refine lv_iload_n hx hb dX5_isCommand_4 rfl (lv_at hl 0 rfl) ?_
    refine lv_iconst hx hb dX5_isCommand_5 ic_3 ?_
    refine lv_icmp_eq (tgt := 32) hx hb dX5_isCommand_6 (by decide) (fun hc => ?_) (fun hc => ?_)
    · replace hf := ifp hc hf
      refine lv_iconst hx hb dX5_isCommand_32 ic_1 ?_
      refine lv_goto (tgt := 37) hx hb dX5_isCommand_33 (by decide) ?_
      obtain rfl := Option.some.inj hf
      exact retB X hS hP rfl rfl dX5_isCommand_37
    · replace hf := ifn hc hf
      refine lv_iload_n hx hb dX5_isCommand_9 rfl (lv_at hl 0 rfl) ?_
      refine lv_iconst hx hb dX5_isCommand_10 ic_4 ?_
      refine lv_icmp_eq (tgt := 32) hx hb dX5_isCommand_11 (by decide) (fun hc => ?_) (fun hc => ?_)
      · replace hf := ifp hc hf
        refine lv_iconst hx hb dX5_isCommand_32 ic_1 ?_
        refine lv_goto (tgt := 37) hx hb dX5_isCommand_33 (by decide) ?_
        obtain rfl := Option.some.inj hf
        exact retB X hS hP rfl rfl dX5_isCommand_37
      · replace hf := ifn hc hf
        refine lv_iload_n hx hb dX5_isCommand_14 rfl (lv_at hl 0 rfl) ?_
        refine lv_bipush hx hb dX5_isCommand_15 bp_7 ?_
        refine lv_icmp_eq (tgt := 32) hx hb dX5_isCommand_17 (by decide) (fun hc => ?_) (fun hc => ?_)
        · replace hf := ifp hc hf
          refine lv_iconst hx hb dX5_isCommand_32 ic_1 ?_
          refine lv_goto (tgt := 37) hx hb dX5_isCommand_33 (by decide) ?_
          obtain rfl := Option.some.inj hf
          exact retB X hS hP rfl rfl dX5_isCommand_37
        · replace hf := ifn hc hf
          refine lv_iload_n hx hb dX5_isCommand_20 rfl (lv_at hl 0 rfl) ?_
          refine lv_bipush hx hb dX5_isCommand_21 bp_8 ?_
          refine lv_icmp_eq (tgt := 32) hx hb dX5_isCommand_23 (by decide) (fun hc => ?_) (fun hc => ?_)
          · replace hf := ifp hc hf
            refine lv_iconst hx hb dX5_isCommand_32 ic_1 ?_
            refine lv_goto (tgt := 37) hx hb dX5_isCommand_33 (by decide) ?_
            obtain rfl := Option.some.inj hf
            exact retB X hS hP rfl rfl dX5_isCommand_37
          · replace hf := ifn hc hf
            refine lv_iload_n hx hb dX5_isCommand_26 rfl (lv_at hl 0 rfl) ?_
            refine lv_bipush hx hb dX5_isCommand_27 bp_9 ?_
            refine lv_icmp_ne (tgt := 36) hx hb dX5_isCommand_29 (by decide) (fun hc => ?_) (fun hc => ?_)
            · replace hf := ifn hc hf
              refine lv_iconst hx hb dX5_isCommand_36 ic_0 ?_
              obtain rfl := Option.some.inj hf
              exact retB X hS hP rfl rfl dX5_isCommand_37
            · replace hf := ifp hc hf
              refine lv_iconst hx hb dX5_isCommand_32 ic_1 ?_
              refine lv_goto (tgt := 37) hx hb dX5_isCommand_33 (by decide) ?_
              obtain rfl := Option.some.inj hf
              exact retB X hS hP rfl rfl dX5_isCommand_37
