abbrev wo_X1_replaceCommand (cI cZ : ClassId) (a_t a_t_sh a_t_cmd a_t_tim a_t_hel a_t_dir a_t_seg : Nat) (v_t_fw : Int32) (v_t_fp : Int32) (v_t_fn : Int32) (v_t_rt : Int32) (v_t_wd : Int32) (v_t_pd : Int32) (v_t_ss : Int32) (v_t_rs : Int32) (v_t_sh_nd : Int32) (v_t_sh_sn : Int32) (v_t_cmd : Nat → Int32) : va_W := [(a_t, oX1 a_t_sh v_t_fw v_t_fp v_t_fn a_t_cmd a_t_tim a_t_hel v_t_rt v_t_wd v_t_pd a_t_dir v_t_ss v_t_rs a_t_seg), (a_t_sh, oX2 v_t_sh_nd v_t_sh_sn), (a_t_cmd, rI cI 8 v_t_cmd)]
def fX1_replaceCommand (v_t_sh_nd : Int32) (v_t_cmd : Nat → Int32) (p1 : Int32) (p2 : Int32) : Option (Int32 × (Nat → Int32)) := ((fX2_hasSpan v_t_sh_nd p1).bind (fun q5 => (if q5 = true then (if (p1 < 0 ∨ 8 ≤ (p1).toNatClampNeg) then none else (if (p1 < 0 ∨ 8 ≤ (p1).toNatClampNeg) then none else (some ((v_t_cmd (p1).toNatClampNeg), (upd v_t_cmd (p1).toNatClampNeg p2))))) else (some ((-2), v_t_cmd)))))
theorem kd_X1_replaceCommand : yX1_replaceCommand.cls = RX1 ∧ yX1_replaceCommand.cls ≠ "java/lang/invoke/MethodHandle" ∧ yX1_replaceCommand.cls ≠ "java/lang/invoke/VarHandle" ∧ (parseMethodDescriptor yX1_replaceCommand.desc).map (fun d => d.parameters.length) = some 2 := by decide +kernel
def rm_X1_replaceCommand : Room := { frames := 1, cells := 0, slots := 0, locals := 21 }
set_option maxHeartbeats 4000000 in
set_option maxRecDepth 100000 in
theorem k_X1_replaceCommand (l : Launch) (D : va_G) (cI cZ : ClassId) (a_t a_t_sh a_t_cmd a_t_tim a_t_hel a_t_dir a_t_seg : Nat) (v_t_fw : Int32) (v_t_fp : Int32) (v_t_fn : Int32) (v_t_rt : Int32) (v_t_wd : Int32) (v_t_pd : Int32) (v_t_ss : Int32) (v_t_rs : Int32) (v_t_sh_nd : Int32) (v_t_sh_sn : Int32) (v_t_cmd : Nat → Int32) (p1 : Int32) (p2 : Int32) (q : Int32 × (Nat → Int32)) (hf : fX1_replaceCommand v_t_sh_nd v_t_cmd p1 p2 = some q) : CI l D cI cZ yX1_replaceCommand wsX1_replaceCommand rm_X1_replaceCommand [.ref a_t, .int p1, .int p2] (wo_X1_replaceCommand cI cZ a_t a_t_sh a_t_cmd a_t_tim a_t_hel a_t_dir a_t_seg v_t_fw v_t_fp v_t_fn v_t_rt v_t_wd v_t_pd v_t_ss v_t_rs v_t_sh_nd v_t_sh_sn v_t_cmd) (wo_X1_replaceCommand cI cZ a_t a_t_sh a_t_cmd a_t_tim a_t_hel a_t_dir a_t_seg v_t_fw v_t_fp v_t_fn v_t_rt v_t_wd v_t_pd v_t_ss v_t_rs v_t_sh_nd v_t_sh_sn q.2) q.1 := by
  refine CI.mk (cc := cX1_replaceCommand) (maxL := 4) (by decide) rfl (Nat.le_of_ble_eq_true rfl) ?_
  intro p e s m below meth c ls A X hP hD hl hS
  have hx := X.1.1
  have hb := X.1.2.1
  have hl : lv_has ls 4 [(0, .ref a_t), (1, .int p1), (2, .int p2)] := hl
  have inX1 : ∀ w ∈ u_ws RX1 TX1 14, w ∈ wsX1_replaceCommand := fun _ h => List.mem_cons_of_mem _ (List.mem_append_left _ (List.mem_append_right _ h))
  unfold fX1_replaceCommand at hf
  refine lv_aload_n hx hb dX1_replaceCommand_0 rfl (lv_at hl 0 rfl) ?_
  refine getO X hP inX1 0 rfl rfl 0 (by decide) (List.mem_of_getElem? (i := 1) rfl) rfl dX1_replaceCommand_1 ?_
  refine lv_iload_n hx hb dX1_replaceCommand_4 rfl (lv_at hl 1 rfl) ?_
  obtain ⟨q5, e5, hf⟩ := bnd hf
  refine callVI X (k_X2_hasSpan l D cI cZ a_t_sh  v_t_sh_nd v_t_sh_sn p1 q5 e5) (cwV 1 X.1.2.2.2.2 gX1_replaceCommand_X2_hasSpan rfl rfl rfl kd_X2_hasSpan ⟨Nat.le_of_ble_eq_true rfl, Nat.le_of_ble_eq_true rfl⟩) hP hD hS hl.1 1 2 rfl rfl [1] (by decide) (wo_X1_replaceCommand cI cZ a_t a_t_sh a_t_cmd a_t_tim a_t_hel a_t_dir a_t_seg v_t_fw v_t_fp v_t_fn v_t_rt v_t_wd v_t_pd v_t_ss v_t_rs v_t_sh_nd v_t_sh_sn v_t_cmd) rfl rfl rfl rfl rfl (rest := []) rfl (Nat.le_of_ble_eq_true rfl) dX1_replaceCommand_5 ⟨Nat.zero_le _, Nat.zero_le _⟩ (fun H locs hP hD hS => ?_)
  refine lv_if_ne (tgt := 14) hx hb dX1_replaceCommand_8 (by decide) (fun hc => ?_) (fun hc => ?_)
  · replace hf := ifp (b2i_nz hc) hf
    refine lv_aload_n hx hb dX1_replaceCommand_14 rfl (lv_at hl 0 rfl) ?_
    refine getO X hP inX1 0 rfl rfl 4 (by decide) (List.mem_of_getElem? (i := 2) rfl) rfl dX1_replaceCommand_15 ?_
    refine lv_iload_n hx hb dX1_replaceCommand_18 rfl (lv_at hl 1 rfl) ?_
    obtain ⟨g19, hf⟩ := grd hf
    refine aldI X hP 2 rfl g19 rfl dX1_replaceCommand_19 ?_
    refine lv_istore_n (lv' := [(3, .int (v_t_cmd (p1).toNatClampNeg)), (0, .ref a_t), (1, .int p1), (2, .int p2)]) hx hb dX1_replaceCommand_20 rfl hl (by decide) rfl (fun ls hl => ?_)
    refine lv_aload_n hx hb dX1_replaceCommand_21 rfl (lv_at hl 1 rfl) ?_
    refine getO X hP inX1 0 rfl rfl 4 (by decide) (List.mem_of_getElem? (i := 2) rfl) rfl dX1_replaceCommand_22 ?_
    refine lv_iload_n hx hb dX1_replaceCommand_25 rfl (lv_at hl 2 rfl) ?_
    refine lv_iload_n hx hb dX1_replaceCommand_26 rfl (lv_at hl 3 rfl) ?_
    obtain ⟨g27, hf⟩ := grd hf
    refine astI X hP hD hS 2 rfl g27 rfl dX1_replaceCommand_27 (wo_X1_replaceCommand cI cZ a_t a_t_sh a_t_cmd a_t_tim a_t_hel a_t_dir a_t_seg v_t_fw v_t_fp v_t_fn v_t_rt v_t_wd v_t_pd v_t_ss v_t_rs v_t_sh_nd v_t_sh_sn (upd v_t_cmd (p1).toNatClampNeg p2)) rfl (fun H locs hP hD hS => ?_)
    refine lv_iload_n hx hb dX1_replaceCommand_28 rfl (lv_at hl 0 rfl) ?_
    obtain rfl := Option.some.inj hf
    exact retI X hS hP rfl dX1_replaceCommand_29
  · replace hf := ifn (b2i_z hc) hf
    refine lv_bipush hx hb dX1_replaceCommand_11 bp_m2 ?_
    obtain rfl := Option.some.inj hf
    exact retI X hS hP rfl dX1_replaceCommand_13

abbrev wo_X1_timerAt (cI cZ : ClassId) (a_t a_t_sh a_t_cmd a_t_tim a_t_hel a_t_dir a_t_seg : Nat) (v_t_fw : Int32) (v_t_fp : Int32) (v_t_fn : Int32) (v_t_rt : Int32) (v_t_wd : Int32) (v_t_pd : Int32) (v_t_ss : Int32) (v_t_rs : Int32) (v_t_sh_nd : Int32) (v_t_sh_sn : Int32) (v_t_tim : Nat → Int32) : va_W := [(a_t, oX1 a_t_sh v_t_fw v_t_fp v_t_fn a_t_cmd a_t_tim a_t_hel v_t_rt v_t_wd v_t_pd a_t_dir v_t_ss v_t_rs a_t_seg), (a_t_sh, oX2 v_t_sh_nd v_t_sh_sn), (a_t_tim, rI cI 8 v_t_tim)]
def fX1_timerAt (v_t_sh_nd : Int32) (v_t_tim : Nat → Int32) (p1 : Int32) : Option (Int32) := ((fX2_hasSpan v_t_sh_nd p1).bind (fun q5 => (if q5 = true then (if (p1 < 0 ∨ 8 ≤ (p1).toNatClampNeg) then none else (some (v_t_tim (p1).toNatClampNeg))) else (some 0))))
theorem kd_X1_timerAt : yX1_timerAt.cls = RX1 ∧ yX1_timerAt.cls ≠ "java/lang/invoke/MethodHandle" ∧ yX1_timerAt.cls ≠ "java/lang/invoke/VarHandle" ∧ (parseMethodDescriptor yX1_timerAt.desc).map (fun d => d.parameters.length) = some 1 := by decide +kernel
def rm_X1_timerAt : Room := { frames := 1, cells := 0, slots := 0, locals := 21 }
set_option maxHeartbeats 4000000 in
set_option maxRecDepth 100000 in
theorem k_X1_timerAt (l : Launch) (D : va_G) (cI cZ : ClassId) (a_t a_t_sh a_t_cmd a_t_tim a_t_hel a_t_dir a_t_seg : Nat) (v_t_fw : Int32) (v_t_fp : Int32) (v_t_fn : Int32) (v_t_rt : Int32) (v_t_wd : Int32) (v_t_pd : Int32) (v_t_ss : Int32) (v_t_rs : Int32) (v_t_sh_nd : Int32) (v_t_sh_sn : Int32) (v_t_tim : Nat → Int32) (p1 : Int32) (q : Int32) (hf : fX1_timerAt v_t_sh_nd v_t_tim p1 = some q) : CI l D cI cZ yX1_timerAt wsX1_timerAt rm_X1_timerAt [.ref a_t, .int p1] (wo_X1_timerAt cI cZ a_t a_t_sh a_t_cmd a_t_tim a_t_hel a_t_dir a_t_seg v_t_fw v_t_fp v_t_fn v_t_rt v_t_wd v_t_pd v_t_ss v_t_rs v_t_sh_nd v_t_sh_sn v_t_tim) (wo_X1_timerAt cI cZ a_t a_t_sh a_t_cmd a_t_tim a_t_hel a_t_dir a_t_seg v_t_fw v_t_fp v_t_fn v_t_rt v_t_wd v_t_pd v_t_ss v_t_rs v_t_sh_nd v_t_sh_sn v_t_tim) q := by
  refine CI.mk (cc := cX1_timerAt) (maxL := 2) (by decide) rfl (Nat.le_of_ble_eq_true rfl) ?_
  intro p e s m below meth c ls A X hP hD hl hS
  have hx := X.1.1
  have hb := X.1.2.1
  have hl : lv_has ls 2 [(0, .ref a_t), (1, .int p1)] := hl
  have inX1 : ∀ w ∈ u_ws RX1 TX1 14, w ∈ wsX1_timerAt := fun _ h => List.mem_cons_of_mem _ (List.mem_append_left _ (List.mem_append_right _ h))
  unfold fX1_timerAt at hf
  refine lv_aload_n hx hb dX1_timerAt_0 rfl (lv_at hl 0 rfl) ?_
  refine getO X hP inX1 0 rfl rfl 0 (by decide) (List.mem_of_getElem? (i := 1) rfl) rfl dX1_timerAt_1 ?_
  refine lv_iload_n hx hb dX1_timerAt_4 rfl (lv_at hl 1 rfl) ?_
  obtain ⟨q5, e5, hf⟩ := bnd hf
  refine callVI X (k_X2_hasSpan l D cI cZ a_t_sh  v_t_sh_nd v_t_sh_sn p1 q5 e5) (cwV 1 X.1.2.2.2.2 gX1_timerAt_X2_hasSpan rfl rfl rfl kd_X2_hasSpan ⟨Nat.le_of_ble_eq_true rfl, Nat.le_of_ble_eq_true rfl⟩) hP hD hS hl.1 1 2 rfl rfl [1] (by decide) (wo_X1_timerAt cI cZ a_t a_t_sh a_t_cmd a_t_tim a_t_hel a_t_dir a_t_seg v_t_fw v_t_fp v_t_fn v_t_rt v_t_wd v_t_pd v_t_ss v_t_rs v_t_sh_nd v_t_sh_sn v_t_tim) rfl rfl rfl rfl rfl (rest := []) rfl (Nat.le_of_ble_eq_true rfl) dX1_timerAt_5 ⟨Nat.zero_le _, Nat.zero_le _⟩ (fun H locs hP hD hS => ?_)
  refine lv_if_eq (tgt := 20) hx hb dX1_timerAt_8 (by decide) (fun hc => ?_) (fun hc => ?_)
  · replace hf := ifn (b2i_z hc) hf
    refine lv_iconst hx hb dX1_timerAt_20 ic_0 ?_
    obtain rfl := Option.some.inj hf
    exact retI X hS hP rfl dX1_timerAt_21
  · replace hf := ifp (b2i_nz hc) hf
    refine lv_aload_n hx hb dX1_timerAt_11 rfl (lv_at hl 0 rfl) ?_
    refine getO X hP inX1 0 rfl rfl 5 (by decide) (List.mem_of_getElem? (i := 2) rfl) rfl dX1_timerAt_12 ?_
    refine lv_iload_n hx hb dX1_timerAt_15 rfl (lv_at hl 1 rfl) ?_
    obtain ⟨g16, hf⟩ := grd hf
    refine aldI X hP 2 rfl g16 rfl dX1_timerAt_16 ?_
    refine lv_goto (tgt := 21) hx hb dX1_timerAt_17 (by decide) ?_
    obtain rfl := Option.some.inj hf
    exact retI X hS hP rfl dX1_timerAt_21

abbrev wo_X1_segmentOf (cI cZ : ClassId) (a_t a_t_sh a_t_cmd a_t_tim a_t_hel a_t_dir a_t_seg : Nat) (v_t_fw : Int32) (v_t_fp : Int32) (v_t_fn : Int32) (v_t_rt : Int32) (v_t_wd : Int32) (v_t_pd : Int32) (v_t_ss : Int32) (v_t_rs : Int32) (v_t_sh_nd : Int32) (v_t_sh_sn : Int32) (v_t_seg : Nat → Int32) : va_W := [(a_t, oX1 a_t_sh v_t_fw v_t_fp v_t_fn a_t_cmd a_t_tim a_t_hel v_t_rt v_t_wd v_t_pd a_t_dir v_t_ss v_t_rs a_t_seg), (a_t_sh, oX2 v_t_sh_nd v_t_sh_sn), (a_t_seg, rI cI 8 v_t_seg)]
def fX1_segmentOf (v_t_sh_nd : Int32) (v_t_seg : Nat → Int32) (p1 : Int32) : Option (Int32) := ((fX2_hasNode v_t_sh_nd p1).bind (fun q5 => (if q5 = true then (if (p1 < 0 ∨ 8 ≤ (p1).toNatClampNeg) then none else (some (v_t_seg (p1).toNatClampNeg))) else (some 0))))
theorem kd_X1_segmentOf : yX1_segmentOf.cls = RX1 ∧ yX1_segmentOf.cls ≠ "java/lang/invoke/MethodHandle" ∧ yX1_segmentOf.cls ≠ "java/lang/invoke/VarHandle" ∧ (parseMethodDescriptor yX1_segmentOf.desc).map (fun d => d.parameters.length) = some 1 := by decide +kernel
def rm_X1_segmentOf : Room := { frames := 1, cells := 0, slots := 0, locals := 21 }
set_option maxHeartbeats 4000000 in
set_option maxRecDepth 100000 in
theorem k_X1_segmentOf (l : Launch) (D : va_G) (cI cZ : ClassId) (a_t a_t_sh a_t_cmd a_t_tim a_t_hel a_t_dir a_t_seg : Nat) (v_t_fw : Int32) (v_t_fp : Int32) (v_t_fn : Int32) (v_t_rt : Int32) (v_t_wd : Int32) (v_t_pd : Int32) (v_t_ss : Int32) (v_t_rs : Int32) (v_t_sh_nd : Int32) (v_t_sh_sn : Int32) (v_t_seg : Nat → Int32) (p1 : Int32) (q : Int32) (hf : fX1_segmentOf v_t_sh_nd v_t_seg p1 = some q) : CI l D cI cZ yX1_segmentOf wsX1_segmentOf rm_X1_segmentOf [.ref a_t, .int p1] (wo_X1_segmentOf cI cZ a_t a_t_sh a_t_cmd a_t_tim a_t_hel a_t_dir a_t_seg v_t_fw v_t_fp v_t_fn v_t_rt v_t_wd v_t_pd v_t_ss v_t_rs v_t_sh_nd v_t_sh_sn v_t_seg) (wo_X1_segmentOf cI cZ a_t a_t_sh a_t_cmd a_t_tim a_t_hel a_t_dir a_t_seg v_t_fw v_t_fp v_t_fn v_t_rt v_t_wd v_t_pd v_t_ss v_t_rs v_t_sh_nd v_t_sh_sn v_t_seg) q := by
  refine CI.mk (cc := cX1_segmentOf) (maxL := 2) (by decide) rfl (Nat.le_of_ble_eq_true rfl) ?_
  intro p e s m below meth c ls A X hP hD hl hS
  have hx := X.1.1
  have hb := X.1.2.1
  have hl : lv_has ls 2 [(0, .ref a_t), (1, .int p1)] := hl
  have inX1 : ∀ w ∈ u_ws RX1 TX1 14, w ∈ wsX1_segmentOf := fun _ h => List.mem_cons_of_mem _ (List.mem_append_left _ (List.mem_append_right _ h))
  unfold fX1_segmentOf at hf
  refine lv_aload_n hx hb dX1_segmentOf_0 rfl (lv_at hl 0 rfl) ?_
  refine getO X hP inX1 0 rfl rfl 0 (by decide) (List.mem_of_getElem? (i := 1) rfl) rfl dX1_segmentOf_1 ?_
  refine lv_iload_n hx hb dX1_segmentOf_4 rfl (lv_at hl 1 rfl) ?_
  obtain ⟨q5, e5, hf⟩ := bnd hf
  refine callVI X (k_X2_hasNode l D cI cZ a_t_sh  v_t_sh_nd v_t_sh_sn p1 q5 e5) (cwV 1 X.1.2.2.2.2 gX1_segmentOf_X2_hasNode rfl rfl rfl kd_X2_hasNode ⟨Nat.le_of_ble_eq_true rfl, Nat.le_of_ble_eq_true rfl⟩) hP hD hS hl.1 1 2 rfl rfl [1] (by decide) (wo_X1_segmentOf cI cZ a_t a_t_sh a_t_cmd a_t_tim a_t_hel a_t_dir a_t_seg v_t_fw v_t_fp v_t_fn v_t_rt v_t_wd v_t_pd v_t_ss v_t_rs v_t_sh_nd v_t_sh_sn v_t_seg) rfl rfl rfl rfl rfl (rest := []) rfl (Nat.le_of_ble_eq_true rfl) dX1_segmentOf_5 ⟨Nat.zero_le _, Nat.zero_le _⟩ (fun H locs hP hD hS => ?_)
  refine lv_if_eq (tgt := 20) hx hb dX1_segmentOf_8 (by decide) (fun hc => ?_) (fun hc => ?_)
  · replace hf := ifn (b2i_z hc) hf
    refine lv_iconst hx hb dX1_segmentOf_20 ic_0 ?_
    obtain rfl := Option.some.inj hf
    exact retI X hS hP rfl dX1_segmentOf_21
  · replace hf := ifp (b2i_nz hc) hf
    refine lv_aload_n hx hb dX1_segmentOf_11 rfl (lv_at hl 0 rfl) ?_
    refine getO X hP inX1 0 rfl rfl 13 (by decide) (List.mem_of_getElem? (i := 2) rfl) rfl dX1_segmentOf_12 ?_
    refine lv_iload_n hx hb dX1_segmentOf_15 rfl (lv_at hl 1 rfl) ?_
    obtain ⟨g16, hf⟩ := grd hf
    refine aldI X hP 2 rfl g16 rfl dX1_segmentOf_16 ?_
    refine lv_goto (tgt := 21) hx hb dX1_segmentOf_17 (by decide) ?_
    obtain rfl := Option.some.inj hf
    exact retI X hS hP rfl dX1_segmentOf_21

abbrev wo_X1_requestAt (cI cZ : ClassId) (a_t a_t_sh a_t_cmd a_t_tim a_t_hel a_t_dir a_t_seg : Nat) (v_t_fw : Int32) (v_t_fp : Int32) (v_t_fn : Int32) (v_t_rt : Int32) (v_t_wd : Int32) (v_t_pd : Int32) (v_t_ss : Int32) (v_t_rs : Int32) (v_t_sh_nd : Int32) (v_t_sh_sn : Int32) (v_t_tim : Nat → Int32) (v_t_hel : Nat → Int32) (v_t_dir : Nat → Int32) : va_W := [(a_t, oX1 a_t_sh v_t_fw v_t_fp v_t_fn a_t_cmd a_t_tim a_t_hel v_t_rt v_t_wd v_t_pd a_t_dir v_t_ss v_t_rs a_t_seg), (a_t_sh, oX2 v_t_sh_nd v_t_sh_sn), (a_t_tim, rI cI 8 v_t_tim), (a_t_hel, rI cI 8 v_t_hel), (a_t_dir, rI cI 8 v_t_dir)]
def fX1_requestAt (v_t_sh_nd : Int32) (v_t_tim : Nat → Int32) (v_t_hel : Nat → Int32) (v_t_dir : Nat → Int32) (p1 : Int32) : Option (Int32) := ((fX2_hasSpan v_t_sh_nd p1).bind (fun q5 => (if q5 = true then (if (p1 < 0 ∨ 8 ≤ (p1).toNatClampNeg) then none else (if (v_t_dir (p1).toNatClampNeg) = 0 then (if (p1 < 0 ∨ 8 ≤ (p1).toNatClampNeg) then none else (if (v_t_tim (p1).toNatClampNeg) ≤ 0 then (some (v_t_dir (p1).toNatClampNeg)) else (if (p1 < 0 ∨ 8 ≤ (p1).toNatClampNeg) then none else (some (v_t_hel (p1).toNatClampNeg))))) else (some (v_t_dir (p1).toNatClampNeg)))) else (some 0))))
theorem kd_X1_requestAt : yX1_requestAt.cls = RX1 ∧ yX1_requestAt.cls ≠ "java/lang/invoke/MethodHandle" ∧ yX1_requestAt.cls ≠ "java/lang/invoke/VarHandle" ∧ (parseMethodDescriptor yX1_requestAt.desc).map (fun d => d.parameters.length) = some 1 := by decide +kernel
def rm_X1_requestAt : Room := { frames := 1, cells := 0, slots := 0, locals := 21 }
set_option maxHeartbeats 4000000 in
set_option maxRecDepth 100000 in
theorem k_X1_requestAt (l : Launch) (D : va_G) (cI cZ : ClassId) (a_t a_t_sh a_t_cmd a_t_tim a_t_hel a_t_dir a_t_seg : Nat) (v_t_fw : Int32) (v_t_fp : Int32) (v_t_fn : Int32) (v_t_rt : Int32) (v_t_wd : Int32) (v_t_pd : Int32) (v_t_ss : Int32) (v_t_rs : Int32) (v_t_sh_nd : Int32) (v_t_sh_sn : Int32) (v_t_tim : Nat → Int32) (v_t_hel : Nat → Int32) (v_t_dir : Nat → Int32) (p1 : Int32) (q : Int32) (hf : fX1_requestAt v_t_sh_nd v_t_tim v_t_hel v_t_dir p1 = some q) : CI l D cI cZ yX1_requestAt wsX1_requestAt rm_X1_requestAt [.ref a_t, .int p1] (wo_X1_requestAt cI cZ a_t a_t_sh a_t_cmd a_t_tim a_t_hel a_t_dir a_t_seg v_t_fw v_t_fp v_t_fn v_t_rt v_t_wd v_t_pd v_t_ss v_t_rs v_t_sh_nd v_t_sh_sn v_t_tim v_t_hel v_t_dir) (wo_X1_requestAt cI cZ a_t a_t_sh a_t_cmd a_t_tim a_t_hel a_t_dir a_t_seg v_t_fw v_t_fp v_t_fn v_t_rt v_t_wd v_t_pd v_t_ss v_t_rs v_t_sh_nd v_t_sh_sn v_t_tim v_t_hel v_t_dir) q := by
  refine CI.mk (cc := cX1_requestAt) (maxL := 3) (by decide) rfl (Nat.le_of_ble_eq_true rfl) ?_
  intro p e s m below meth c ls A X hP hD hl hS
  have hx := X.1.1
  have hb := X.1.2.1
  have hl : lv_has ls 3 [(0, .ref a_t), (1, .int p1)] := hl
  have inX1 : ∀ w ∈ u_ws RX1 TX1 14, w ∈ wsX1_requestAt := fun _ h => List.mem_cons_of_mem _ (List.mem_append_left _ (List.mem_append_right _ h))
  unfold fX1_requestAt at hf
  refine lv_aload_n hx hb dX1_requestAt_0 rfl (lv_at hl 0 rfl) ?_
  refine getO X hP inX1 0 rfl rfl 0 (by decide) (List.mem_of_getElem? (i := 1) rfl) rfl dX1_requestAt_1 ?_
  refine lv_iload_n hx hb dX1_requestAt_4 rfl (lv_at hl 1 rfl) ?_
  obtain ⟨q5, e5, hf⟩ := bnd hf
  refine callVI X (k_X2_hasSpan l D cI cZ a_t_sh  v_t_sh_nd v_t_sh_sn p1 q5 e5) (cwV 1 X.1.2.2.2.2 gX1_requestAt_X2_hasSpan rfl rfl rfl kd_X2_hasSpan ⟨Nat.le_of_ble_eq_true rfl, Nat.le_of_ble_eq_true rfl⟩) hP hD hS hl.1 1 2 rfl rfl [1] (by decide) (wo_X1_requestAt cI cZ a_t a_t_sh a_t_cmd a_t_tim a_t_hel a_t_dir a_t_seg v_t_fw v_t_fp v_t_fn v_t_rt v_t_wd v_t_pd v_t_ss v_t_rs v_t_sh_nd v_t_sh_sn v_t_tim v_t_hel v_t_dir) rfl rfl rfl rfl rfl (rest := []) rfl (Nat.le_of_ble_eq_true rfl) dX1_requestAt_5 ⟨Nat.zero_le _, Nat.zero_le _⟩ (fun H locs hP hD hS => ?_)
  refine lv_if_ne (tgt := 13) hx hb dX1_requestAt_8 (by decide) (fun hc => ?_) (fun hc => ?_)
  · replace hf := ifp (b2i_nz hc) hf
    refine lv_aload_n hx hb dX1_requestAt_13 rfl (lv_at hl 0 rfl) ?_
    refine getO X hP inX1 0 rfl rfl 10 (by decide) (List.mem_of_getElem? (i := 2) rfl) rfl dX1_requestAt_14 ?_
    refine lv_iload_n hx hb dX1_requestAt_17 rfl (lv_at hl 1 rfl) ?_
    obtain ⟨g18, hf⟩ := grd hf
    refine aldI X hP 4 rfl g18 rfl dX1_requestAt_18 ?_
    refine lv_istore_n (lv' := [(2, .int (v_t_dir (p1).toNatClampNeg)), (0, .ref a_t), (1, .int p1)]) hx hb dX1_requestAt_19 rfl hl (by decide) rfl (fun ls hl => ?_)
    refine lv_iload_n hx hb dX1_requestAt_20 rfl (lv_at hl 0 rfl) ?_
    refine lv_if_ne (tgt := 42) hx hb dX1_requestAt_21 (by decide) (fun hc => ?_) (fun hc => ?_)
    · replace hf := ifn hc hf
      refine lv_iload_n hx hb dX1_requestAt_42 rfl (lv_at hl 0 rfl) ?_
      obtain rfl := Option.some.inj hf
      exact retI X hS hP rfl dX1_requestAt_43
    · replace hf := ifp hc hf
      refine lv_aload_n hx hb dX1_requestAt_24 rfl (lv_at hl 1 rfl) ?_
      refine getO X hP inX1 0 rfl rfl 5 (by decide) (List.mem_of_getElem? (i := 3) rfl) rfl dX1_requestAt_25 ?_
      refine lv_iload_n hx hb dX1_requestAt_28 rfl (lv_at hl 2 rfl) ?_
      obtain ⟨g29, hf⟩ := grd hf
      refine aldI X hP 2 rfl g29 rfl dX1_requestAt_29 ?_
      refine lv_if_le (tgt := 42) hx hb dX1_requestAt_30 (by decide) (fun hc => ?_) (fun hc => ?_)
      · replace hf := ifp hc hf
        refine lv_iload_n hx hb dX1_requestAt_42 rfl (lv_at hl 0 rfl) ?_
        obtain rfl := Option.some.inj hf
        exact retI X hS hP rfl dX1_requestAt_43
      · replace hf := ifn hc hf
        refine lv_aload_n hx hb dX1_requestAt_33 rfl (lv_at hl 1 rfl) ?_
        refine getO X hP inX1 0 rfl rfl 6 (by decide) (List.mem_of_getElem? (i := 4) rfl) rfl dX1_requestAt_34 ?_
        refine lv_iload_n hx hb dX1_requestAt_37 rfl (lv_at hl 2 rfl) ?_
        obtain ⟨g38, hf⟩ := grd hf
        refine aldI X hP 3 rfl g38 rfl dX1_requestAt_38 ?_
        refine lv_goto (tgt := 43) hx hb dX1_requestAt_39 (by decide) ?_
        obtain rfl := Option.some.inj hf
        exact retI X hS hP rfl dX1_requestAt_43
  · replace hf := ifn (b2i_z hc) hf
    refine lv_iconst hx hb dX1_requestAt_11 ic_0 ?_
    obtain rfl := Option.some.inj hf
    exact retI X hS hP rfl dX1_requestAt_12

abbrev wo_X1_switchAt (cI cZ : ClassId) (a_t a_t_sh a_t_cmd a_t_tim a_t_hel a_t_dir a_t_seg : Nat) (v_t_fw : Int32) (v_t_fp : Int32) (v_t_fn : Int32) (v_t_rt : Int32) (v_t_wd : Int32) (v_t_pd : Int32) (v_t_ss : Int32) (v_t_rs : Int32) : va_W := [(a_t, oX1 a_t_sh v_t_fw v_t_fp v_t_fn a_t_cmd a_t_tim a_t_hel v_t_rt v_t_wd v_t_pd a_t_dir v_t_ss v_t_rs a_t_seg)]
def fX1_switchAt (v_t_ss : Int32) (v_t_rs : Int32) (p1 : Int32) : Option (Int32) := ((fX5_contains v_t_rs p1).bind (fun q5 => (if q5 = true then (some (nI 2)) else ((fX5_contains v_t_ss p1).bind (fun q18 => (if q18 = true then (some (nI 1)) else (some 0)))))))
theorem kd_X1_switchAt : yX1_switchAt.cls = RX1 ∧ yX1_switchAt.cls ≠ "java/lang/invoke/MethodHandle" ∧ yX1_switchAt.cls ≠ "java/lang/invoke/VarHandle" ∧ (parseMethodDescriptor yX1_switchAt.desc).map (fun d => d.parameters.length) = some 1 := by decide +kernel
def rm_X1_switchAt : Room := { frames := 1, cells := 0, slots := 0, locals := 21 }
set_option maxHeartbeats 4000000 in
set_option maxRecDepth 100000 in
theorem k_X1_switchAt (l : Launch) (D : va_G) (cI cZ : ClassId) (a_t a_t_sh a_t_cmd a_t_tim a_t_hel a_t_dir a_t_seg : Nat) (v_t_fw : Int32) (v_t_fp : Int32) (v_t_fn : Int32) (v_t_rt : Int32) (v_t_wd : Int32) (v_t_pd : Int32) (v_t_ss : Int32) (v_t_rs : Int32) (p1 : Int32) (q : Int32) (hf : fX1_switchAt v_t_ss v_t_rs p1 = some q) : CI l D cI cZ yX1_switchAt wsX1_switchAt rm_X1_switchAt [.ref a_t, .int p1] (wo_X1_switchAt cI cZ a_t a_t_sh a_t_cmd a_t_tim a_t_hel a_t_dir a_t_seg v_t_fw v_t_fp v_t_fn v_t_rt v_t_wd v_t_pd v_t_ss v_t_rs) (wo_X1_switchAt cI cZ a_t a_t_sh a_t_cmd a_t_tim a_t_hel a_t_dir a_t_seg v_t_fw v_t_fp v_t_fn v_t_rt v_t_wd v_t_pd v_t_ss v_t_rs) q := by
  refine CI.mk (cc := cX1_switchAt) (maxL := 2) (by decide) rfl (Nat.le_of_ble_eq_true rfl) ?_
  intro p e s m below meth c ls A X hP hD hl hS
  have hx := X.1.1
  have hb := X.1.2.1
  have hl : lv_has ls 2 [(0, .ref a_t), (1, .int p1)] := hl
  have inX1 : ∀ w ∈ u_ws RX1 TX1 14, w ∈ wsX1_switchAt := fun _ h => List.mem_cons_of_mem _ (List.mem_append_right _ h)
  unfold fX1_switchAt at hf
  refine lv_aload_n hx hb dX1_switchAt_0 rfl (lv_at hl 0 rfl) ?_
  refine getO X hP inX1 0 rfl rfl 12 (by decide) (List.mem_of_getElem? (i := 1) rfl) rfl dX1_switchAt_1 ?_
  refine lv_iload_n hx hb dX1_switchAt_4 rfl (lv_at hl 1 rfl) ?_
  obtain ⟨q5, e5, hf⟩ := bnd hf
  refine callNI X (k_X5_contains l D cI cZ    v_t_rs p1 q5 e5) ⟨va_cnB 2 X.1.2.2.2.2 gX1_switchAt_X5_contains_n48 rfl rfl rfl (X.2.2.2.2.1.ml 10 rfl) (X.1.2.2.2.2 _ (List.mem_of_getElem? (i := 4) rfl)) kd_X5_contains ⟨Nat.le_of_ble_eq_true rfl, Nat.le_of_ble_eq_true rfl⟩, X.1.2.2.2.2 _ (List.mem_of_getElem? (i := 3) rfl), trivial⟩ hP hD hS hl.1 [] (by decide) (wo_X1_switchAt cI cZ a_t a_t_sh a_t_cmd a_t_tim a_t_hel a_t_dir a_t_seg v_t_fw v_t_fp v_t_fn v_t_rt v_t_wd v_t_pd v_t_ss v_t_rs) rfl rfl rfl rfl rfl (rest := []) rfl (Nat.le_of_ble_eq_true rfl) dX1_switchAt_5 ⟨Nat.zero_le _, Nat.zero_le _⟩ (fun H locs hP hD hS => ?_)
  refine lv_if_eq (tgt := 13) hx hb dX1_switchAt_8 (by decide) (fun hc => ?_) (fun hc => ?_)
  · replace hf := ifn (b2i_z hc) hf
    refine lv_aload_n hx hb dX1_switchAt_13 rfl (lv_at hl 0 rfl) ?_
    refine getO X hP inX1 0 rfl rfl 11 (by decide) (List.mem_of_getElem? (i := 2) rfl) rfl dX1_switchAt_14 ?_
    refine lv_iload_n hx hb dX1_switchAt_17 rfl (lv_at hl 1 rfl) ?_
    obtain ⟨q18, e18, hf⟩ := bnd hf
    refine callNI X (k_X5_contains l D cI cZ    v_t_ss p1 q18 e18) ⟨va_cnB 2 X.1.2.2.2.2 gX1_switchAt_X5_contains_n48 rfl rfl rfl (X.2.2.2.2.1.ml 10 rfl) (X.1.2.2.2.2 _ (List.mem_of_getElem? (i := 4) rfl)) kd_X5_contains ⟨Nat.le_of_ble_eq_true rfl, Nat.le_of_ble_eq_true rfl⟩, X.1.2.2.2.2 _ (List.mem_of_getElem? (i := 3) rfl), trivial⟩ hP hD hS hl.1 [] (by decide) (wo_X1_switchAt cI cZ a_t a_t_sh a_t_cmd a_t_tim a_t_hel a_t_dir a_t_seg v_t_fw v_t_fp v_t_fn v_t_rt v_t_wd v_t_pd v_t_ss v_t_rs) rfl rfl rfl rfl rfl (rest := []) rfl (Nat.le_of_ble_eq_true rfl) dX1_switchAt_18 ⟨Nat.zero_le _, Nat.zero_le _⟩ (fun H locs hP hD hS => ?_)
    refine lv_if_eq (tgt := 28) hx hb dX1_switchAt_21 (by decide) (fun hc => ?_) (fun hc => ?_)
    · replace hf := ifn (b2i_z hc) hf
      refine lv_iconst hx hb dX1_switchAt_28 ic_0 ?_
      obtain rfl := Option.some.inj hf
      exact retI X hS hP rfl dX1_switchAt_29
    · replace hf := ifp (b2i_nz hc) hf
      refine lv_iconst hx hb dX1_switchAt_24 ic_1 ?_
      refine lv_goto (tgt := 29) hx hb dX1_switchAt_25 (by decide) ?_
      obtain rfl := Option.some.inj hf
      exact retI X hS hP rfl dX1_switchAt_29
  · replace hf := ifp (b2i_nz hc) hf
    refine lv_iconst hx hb dX1_switchAt_11 ic_2 ?_
    obtain rfl := Option.some.inj hf
    exact retI X hS hP rfl dX1_switchAt_12

abbrev wo_X1_spansInside (cI cZ : ClassId) (a_t a_t_sh a_t_cmd a_t_tim a_t_hel a_t_dir a_t_seg : Nat) (v_t_fw : Int32) (v_t_fp : Int32) (v_t_fn : Int32) (v_t_rt : Int32) (v_t_wd : Int32) (v_t_pd : Int32) (v_t_ss : Int32) (v_t_rs : Int32) (v_t_sh_nd : Int32) (v_t_sh_sn : Int32) (v_t_seg : Nat → Int32) : va_W := [(a_t, oX1 a_t_sh v_t_fw v_t_fp v_t_fn a_t_cmd a_t_tim a_t_hel v_t_rt v_t_wd v_t_pd a_t_dir v_t_ss v_t_rs a_t_seg), (a_t_sh, oX2 v_t_sh_nd v_t_sh_sn), (a_t_seg, rI cI 8 v_t_seg)]
def fX1_spansInside_L4 (v_t_sh_nd : Int32) (v_t_seg : Nat → Int32) (p1 : Int32) (K : Int32 → Int32 → Option (Int32)) : Nat → Int32 → Int32 → Option (Int32)
  | 0, _, _ => none
  | k + 1, x2_4, x3_4 => (if v_t_sh_nd ≤ x3_4 then (K x2_4 x3_4) else ((fX2_nodeAfter v_t_sh_nd x3_4).bind (fun q20 => (if (x3_4 < 0 ∨ 8 ≤ (x3_4).toNatClampNeg) then none else (if (v_t_seg (x3_4).toNatClampNeg) = p1 then (if (q20 < 0 ∨ 8 ≤ (q20).toNatClampNeg) then none else (if (v_t_seg (q20).toNatClampNeg) = p1 then (fX1_spansInside_L4 v_t_sh_nd v_t_seg p1 K k (x2_4 ||| ((nI 1) <<< (x3_4 &&& 31))) (x3_4 + nI 1)) else (fX1_spansInside_L4 v_t_sh_nd v_t_seg p1 K k x2_4 (x3_4 + nI 1)))) else (fX1_spansInside_L4 v_t_sh_nd v_t_seg p1 K k x2_4 (x3_4 + nI 1)))))))
def fX1_spansInside (v_t_sh_nd : Int32) (v_t_seg : Nat → Int32) (p1 : Int32) : Option (Int32) := (fX1_spansInside_L4 v_t_sh_nd v_t_seg p1 (fun x2_4 x3_4 => (some x2_4)) FU 0 0)
theorem kd_X1_spansInside : yX1_spansInside.cls = RX1 ∧ yX1_spansInside.cls ≠ "java/lang/invoke/MethodHandle" ∧ yX1_spansInside.cls ≠ "java/lang/invoke/VarHandle" ∧ (parseMethodDescriptor yX1_spansInside.desc).map (fun d => d.parameters.length) = some 1 := by decide +kernel
def rm_X1_spansInside : Room := { frames := 1, cells := 0, slots := 0, locals := 21 }
set_option maxHeartbeats 4000000 in
set_option maxRecDepth 100000 in
theorem k_X1_spansInside (l : Launch) (D : va_G) (cI cZ : ClassId) (a_t a_t_sh a_t_cmd a_t_tim a_t_hel a_t_dir a_t_seg : Nat) (v_t_fw : Int32) (v_t_fp : Int32) (v_t_fn : Int32) (v_t_rt : Int32) (v_t_wd : Int32) (v_t_pd : Int32) (v_t_ss : Int32) (v_t_rs : Int32) (v_t_sh_nd : Int32) (v_t_sh_sn : Int32) (v_t_seg : Nat → Int32) (p1 : Int32) (q : Int32) (hf : fX1_spansInside v_t_sh_nd v_t_seg p1 = some q) : CI l D cI cZ yX1_spansInside wsX1_spansInside rm_X1_spansInside [.ref a_t, .int p1] (wo_X1_spansInside cI cZ a_t a_t_sh a_t_cmd a_t_tim a_t_hel a_t_dir a_t_seg v_t_fw v_t_fp v_t_fn v_t_rt v_t_wd v_t_pd v_t_ss v_t_rs v_t_sh_nd v_t_sh_sn v_t_seg) (wo_X1_spansInside cI cZ a_t a_t_sh a_t_cmd a_t_tim a_t_hel a_t_dir a_t_seg v_t_fw v_t_fp v_t_fn v_t_rt v_t_wd v_t_pd v_t_ss v_t_rs v_t_sh_nd v_t_sh_sn v_t_seg) q := by
  refine CI.mk (cc := cX1_spansInside) (maxL := 5) (by decide) rfl (Nat.le_of_ble_eq_true rfl) ?_
  intro p e s m below meth c ls A X hP hD hl hS
  have hx := X.1.1
  have hb := X.1.2.1
  have hl : lv_has ls 5 [(0, .ref a_t), (1, .int p1)] := hl
  have inX1 : ∀ w ∈ u_ws RX1 TX1 14, w ∈ wsX1_spansInside := fun _ h => List.mem_cons_of_mem _ (List.mem_append_left _ (List.mem_append_right _ h))
  have inX2 : ∀ w ∈ u_ws RX2 TX2 2, w ∈ wsX1_spansInside := fun _ h => List.mem_cons_of_mem _ (List.mem_append_right _ h)
  have L4 : ∀ (K : Int32 → Int32 → Option (Int32)) (hKK : ∀ (x2_4 : Int32) (x3_4 : Int32) (H : Heap) (locs : List Loc) (ls : Array Slot), K x2_4 x3_4 = some q → va_P D vwCl (wo_X1_spansInside cI cZ a_t a_t_sh a_t_cmd a_t_tim a_t_hel a_t_dir a_t_seg v_t_fw v_t_fp v_t_fn v_t_rt v_t_wd v_t_pd v_t_ss v_t_rs v_t_sh_nd v_t_sh_sn v_t_seg) H → va_D A (wo_X1_spansInside cI cZ a_t a_t_sh a_t_cmd a_t_tim a_t_hel a_t_dir a_t_seg v_t_fw v_t_fp v_t_fn v_t_rt v_t_wd v_t_pd v_t_ss v_t_rs v_t_sh_nd v_t_sh_sn v_t_seg) → va_S A s.heap H locs → lv_has ls 5 [(2, .int x2_4)] → W p l e rm_X1_spansInside s m ([.ref a_t, .int p1] : List Value).toArray below meth c H locs 0 0 (MQ below (QI D (wo_X1_spansInside cI cZ a_t a_t_sh a_t_cmd a_t_tim a_t_hel a_t_dir a_t_seg v_t_fw v_t_fp v_t_fn v_t_rt v_t_wd v_t_pd v_t_ss v_t_rs v_t_sh_nd v_t_sh_sn v_t_seg) q A) ([.ref a_t, .int p1] : List Value).toArray s 0 0 A) (F0 m 58 ls [])) (k : Nat) (x2_4 : Int32) (x3_4 : Int32) (H : Heap) (locs : List Loc) (ls : Array Slot), fX1_spansInside_L4 v_t_sh_nd v_t_seg p1 K k x2_4 x3_4 = some q → va_P D vwCl (wo_X1_spansInside cI cZ a_t a_t_sh a_t_cmd a_t_tim a_t_hel a_t_dir a_t_seg v_t_fw v_t_fp v_t_fn v_t_rt v_t_wd v_t_pd v_t_ss v_t_rs v_t_sh_nd v_t_sh_sn v_t_seg) H → va_D A (wo_X1_spansInside cI cZ a_t a_t_sh a_t_cmd a_t_tim a_t_hel a_t_dir a_t_seg v_t_fw v_t_fp v_t_fn v_t_rt v_t_wd v_t_pd v_t_ss v_t_rs v_t_sh_nd v_t_sh_sn v_t_seg) → va_S A s.heap H locs → lv_has ls 5 [(0, .ref a_t), (1, .int p1), (2, .int x2_4), (3, .int x3_4)] → W p l e rm_X1_spansInside s m ([.ref a_t, .int p1] : List Value).toArray below meth c H locs 0 0 (MQ below (QI D (wo_X1_spansInside cI cZ a_t a_t_sh a_t_cmd a_t_tim a_t_hel a_t_dir a_t_seg v_t_fw v_t_fp v_t_fn v_t_rt v_t_wd v_t_pd v_t_ss v_t_rs v_t_sh_nd v_t_sh_sn v_t_seg) q A) ([.ref a_t, .int p1] : List Value).toArray s 0 0 A) (F0 m 4 ls []) := by
    intro K hKK k
    induction k with
    | zero => intro x2_4 x3_4 H locs ls hf; rw [fX1_spansInside_L4] at hf; cases hf
    | succ k ih =>
      intro x2_4 x3_4 H locs ls hf hP hD hS hl
      rw [fX1_spansInside_L4] at hf
      refine lv_iload_n hx hb dX1_spansInside_4 rfl (lv_at hl 3 rfl) ?_
      refine lv_aload_n hx hb dX1_spansInside_5 rfl (lv_at hl 0 rfl) ?_
      refine getO X hP inX1 0 rfl rfl 0 (by decide) (List.mem_of_getElem? (i := 1) rfl) rfl dX1_spansInside_6 ?_
      refine getN X hP inX2 1 rfl rfl 0 (by decide) 1 rfl rfl dX1_spansInside_9 ?_
      refine lv_icmp_ge (tgt := 58) hx hb dX1_spansInside_12 (by decide) (fun hc => ?_) (fun hc => ?_)
      · replace hf := ifp hc hf
        exact hKK _ _ _ _ ls hf hP hD hS (lv_sub hl [2] rfl)
      · replace hf := ifn hc hf
        refine lv_aload_n hx hb dX1_spansInside_15 rfl (lv_at hl 0 rfl) ?_
        refine getO X hP inX1 0 rfl rfl 0 (by decide) (List.mem_of_getElem? (i := 1) rfl) rfl dX1_spansInside_16 ?_
        refine lv_iload_n hx hb dX1_spansInside_19 rfl (lv_at hl 3 rfl) ?_
        obtain ⟨q20, e20, hf⟩ := bnd hf
        refine callVI X (k_X2_nodeAfter l D cI cZ a_t_sh  v_t_sh_nd v_t_sh_sn x3_4 q20 e20) (cwV 1 X.1.2.2.2.2 gX1_spansInside_X2_nodeAfter rfl rfl rfl kd_X2_nodeAfter ⟨Nat.le_of_ble_eq_true rfl, Nat.le_of_ble_eq_true rfl⟩) hP hD hS hl.1 1 2 rfl rfl [1] (by decide) (wo_X1_spansInside cI cZ a_t a_t_sh a_t_cmd a_t_tim a_t_hel a_t_dir a_t_seg v_t_fw v_t_fp v_t_fn v_t_rt v_t_wd v_t_pd v_t_ss v_t_rs v_t_sh_nd v_t_sh_sn v_t_seg) rfl rfl rfl rfl rfl (rest := []) rfl (Nat.le_of_ble_eq_true rfl) dX1_spansInside_20 ⟨Nat.zero_le _, Nat.zero_le _⟩ (fun H locs hP hD hS => ?_)
        refine lv_istore (lv' := [(4, .int q20), (0, .ref a_t), (1, .int p1), (2, .int x2_4), (3, .int x3_4)]) hx hb dX1_spansInside_23 hl (by decide) rfl (fun ls hl => ?_)
        refine lv_aload_n hx hb dX1_spansInside_25 rfl (lv_at hl 1 rfl) ?_
        refine getO X hP inX1 0 rfl rfl 13 (by decide) (List.mem_of_getElem? (i := 2) rfl) rfl dX1_spansInside_26 ?_
        refine lv_iload_n hx hb dX1_spansInside_29 rfl (lv_at hl 4 rfl) ?_
        obtain ⟨g30, hf⟩ := grd hf
        refine aldI X hP 2 rfl g30 rfl dX1_spansInside_30 ?_
        refine lv_iload_n hx hb dX1_spansInside_31 rfl (lv_at hl 2 rfl) ?_
        refine lv_icmp_ne (tgt := 52) hx hb dX1_spansInside_32 (by decide) (fun hc => ?_) (fun hc => ?_)
        · replace hf := ifn hc hf
          refine lv_iinc (v := (x3_4 + nI 1)) (lv' := [(3, .int (x3_4 + nI 1)), (4, .int q20), (0, .ref a_t), (1, .int p1), (2, .int x2_4)]) hx hb dX1_spansInside_52 hl (k := 4) rfl (inc_1 _) (by decide) rfl (fun ls hl => ?_)
          refine lv_goto (tgt := 4) hx hb dX1_spansInside_55 (by decide) ?_
          exact ih _ _ _ _ ls hf hP hD hS (lv_sub hl [2, 3, 4, 0] rfl)
        · replace hf := ifp hc hf
          refine lv_aload_n hx hb dX1_spansInside_35 rfl (lv_at hl 1 rfl) ?_
          refine getO X hP inX1 0 rfl rfl 13 (by decide) (List.mem_of_getElem? (i := 2) rfl) rfl dX1_spansInside_36 ?_
          refine lv_iload hx hb dX1_spansInside_39 (lv_at hl 0 rfl) ?_
          obtain ⟨g41, hf⟩ := grd hf
          refine aldI X hP 2 rfl g41 rfl dX1_spansInside_41 ?_
          refine lv_iload_n hx hb dX1_spansInside_42 rfl (lv_at hl 2 rfl) ?_
          refine lv_icmp_ne (tgt := 52) hx hb dX1_spansInside_43 (by decide) (fun hc => ?_) (fun hc => ?_)
          · replace hf := ifn hc hf
            refine lv_iinc (v := (x3_4 + nI 1)) (lv' := [(3, .int (x3_4 + nI 1)), (4, .int q20), (0, .ref a_t), (1, .int p1), (2, .int x2_4)]) hx hb dX1_spansInside_52 hl (k := 4) rfl (inc_1 _) (by decide) rfl (fun ls hl => ?_)
            refine lv_goto (tgt := 4) hx hb dX1_spansInside_55 (by decide) ?_
            exact ih _ _ _ _ ls hf hP hD hS (lv_sub hl [2, 3, 4, 0] rfl)
          · replace hf := ifp hc hf
            refine lv_iload_n hx hb dX1_spansInside_46 rfl (lv_at hl 3 rfl) ?_
            refine lv_iconst hx hb dX1_spansInside_47 ic_1 ?_
            refine lv_iload_n hx hb dX1_spansInside_48 rfl (lv_at hl 4 rfl) ?_
            refine lv_ishl hx hb dX1_spansInside_49 ?_
            refine lv_ior hx hb dX1_spansInside_50 ?_
            refine lv_istore_n (lv' := [(2, .int (x2_4 ||| ((nI 1) <<< (x3_4 &&& 31)))), (4, .int q20), (0, .ref a_t), (1, .int p1), (3, .int x3_4)]) hx hb dX1_spansInside_51 rfl hl (by decide) rfl (fun ls hl => ?_)
            refine lv_iinc (v := (x3_4 + nI 1)) (lv' := [(3, .int (x3_4 + nI 1)), (2, .int (x2_4 ||| ((nI 1) <<< (x3_4 &&& 31)))), (4, .int q20), (0, .ref a_t), (1, .int p1)]) hx hb dX1_spansInside_52 hl (k := 4) rfl (inc_1 _) (by decide) rfl (fun ls hl => ?_)
            refine lv_goto (tgt := 4) hx hb dX1_spansInside_55 (by decide) ?_
            exact ih _ _ _ _ ls hf hP hD hS (lv_sub hl [3, 4, 1, 0] rfl)
  unfold fX1_spansInside at hf
  refine lv_iconst hx hb dX1_spansInside_0 ic_0 ?_
  refine lv_istore_n (lv' := [(2, .int 0), (0, .ref a_t), (1, .int p1)]) hx hb dX1_spansInside_1 rfl hl (by decide) rfl (fun ls hl => ?_)
  refine lv_iconst hx hb dX1_spansInside_2 ic_0 ?_
  refine lv_istore_n (lv' := [(3, .int 0), (2, .int 0), (0, .ref a_t), (1, .int p1)]) hx hb dX1_spansInside_3 rfl hl (by decide) rfl (fun ls hl => ?_)
  refine L4 _ (fun x2_4 x3_4 H locs ls hf hP hD hS hl => ?_) FU _ _ _ _ ls hf hP hD hS (lv_sub hl [2, 3, 1, 0] rfl)
  refine lv_iload_n hx hb dX1_spansInside_58 rfl (lv_at hl 0 rfl) ?_
  obtain rfl := Option.some.inj hf
  exact retI X hS hP rfl dX1_spansInside_59

abbrev wo_X1_countTimersDown (cI cZ : ClassId) (a_t a_t_sh a_t_cmd a_t_tim a_t_hel a_t_dir a_t_seg : Nat) (v_t_fw : Int32) (v_t_fp : Int32) (v_t_fn : Int32) (v_t_rt : Int32) (v_t_wd : Int32) (v_t_pd : Int32) (v_t_ss : Int32) (v_t_rs : Int32) (v_t_sh_nd : Int32) (v_t_sh_sn : Int32) (v_t_tim : Nat → Int32) : va_W := [(a_t, oX1 a_t_sh v_t_fw v_t_fp v_t_fn a_t_cmd a_t_tim a_t_hel v_t_rt v_t_wd v_t_pd a_t_dir v_t_ss v_t_rs a_t_seg), (a_t_sh, oX2 v_t_sh_nd v_t_sh_sn), (a_t_tim, rI cI 8 v_t_tim)]
def fX1_countTimersDown_L2 (v_t_sh_nd : Int32) (K : Int32 → (Nat → Int32) → Option ((Nat → Int32))) : Nat → Int32 → (Nat → Int32) → Option ((Nat → Int32))
  | 0, _, _ => none
  | k + 1, x1_2, v_t_tim_2 => (if v_t_sh_nd ≤ x1_2 then (K x1_2 v_t_tim_2) else (if (x1_2 < 0 ∨ 8 ≤ (x1_2).toNatClampNeg) then none else (if (v_t_tim_2 (x1_2).toNatClampNeg) ≤ 0 then (fX1_countTimersDown_L2 v_t_sh_nd K k (x1_2 + nI 1) v_t_tim_2) else (if (x1_2 < 0 ∨ 8 ≤ (x1_2).toNatClampNeg) then none else (if (x1_2 < 0 ∨ 8 ≤ (x1_2).toNatClampNeg) then none else (fX1_countTimersDown_L2 v_t_sh_nd K k (x1_2 + nI 1) (upd v_t_tim_2 (x1_2).toNatClampNeg ((v_t_tim_2 (x1_2).toNatClampNeg) - (nI 1)))))))))
def fX1_countTimersDown (v_t_sh_nd : Int32) (v_t_tim : Nat → Int32) : Option ((Nat → Int32)) := (fX1_countTimersDown_L2 v_t_sh_nd (fun x1_2 v_t_tim_2 => (some v_t_tim_2)) FU 0 v_t_tim)
theorem kd_X1_countTimersDown : yX1_countTimersDown.cls = RX1 ∧ yX1_countTimersDown.cls ≠ "java/lang/invoke/MethodHandle" ∧ yX1_countTimersDown.cls ≠ "java/lang/invoke/VarHandle" ∧ (parseMethodDescriptor yX1_countTimersDown.desc).map (fun d => d.parameters.length) = some 0 := by decide +kernel
def rm_X1_countTimersDown : Room := { frames := 0, cells := 0, slots := 0, locals := 0 }
set_option maxHeartbeats 4000000 in
set_option maxRecDepth 100000 in
theorem k_X1_countTimersDown (l : Launch) (D : va_G) (cI cZ : ClassId) (a_t a_t_sh a_t_cmd a_t_tim a_t_hel a_t_dir a_t_seg : Nat) (v_t_fw : Int32) (v_t_fp : Int32) (v_t_fn : Int32) (v_t_rt : Int32) (v_t_wd : Int32) (v_t_pd : Int32) (v_t_ss : Int32) (v_t_rs : Int32) (v_t_sh_nd : Int32) (v_t_sh_sn : Int32) (v_t_tim : Nat → Int32) (q : (Nat → Int32)) (hf : fX1_countTimersDown v_t_sh_nd v_t_tim = some q) : CV l D cI cZ yX1_countTimersDown wsX1_countTimersDown rm_X1_countTimersDown [.ref a_t] (wo_X1_countTimersDown cI cZ a_t a_t_sh a_t_cmd a_t_tim a_t_hel a_t_dir a_t_seg v_t_fw v_t_fp v_t_fn v_t_rt v_t_wd v_t_pd v_t_ss v_t_rs v_t_sh_nd v_t_sh_sn v_t_tim) (wo_X1_countTimersDown cI cZ a_t a_t_sh a_t_cmd a_t_tim a_t_hel a_t_dir a_t_seg v_t_fw v_t_fp v_t_fn v_t_rt v_t_wd v_t_pd v_t_ss v_t_rs v_t_sh_nd v_t_sh_sn q) := by
  refine CV.mk (cc := cX1_countTimersDown) (maxL := 2) (by decide) rfl (Nat.le_of_ble_eq_true rfl) ?_
  intro p e s m below meth c ls A X hP hD hl hS
  have hx := X.1.1
  have hb := X.1.2.1
  have hl : lv_has ls 2 [(0, .ref a_t)] := hl
  have inX1 : ∀ w ∈ u_ws RX1 TX1 14, w ∈ wsX1_countTimersDown := fun _ h => List.mem_cons_of_mem _ (List.mem_append_left _ (List.mem_append_right _ h))
  have inX2 : ∀ w ∈ u_ws RX2 TX2 2, w ∈ wsX1_countTimersDown := fun _ h => List.mem_cons_of_mem _ (List.mem_append_right _ h)
  have L2 : ∀ (K : Int32 → (Nat → Int32) → Option ((Nat → Int32))) (hKK : ∀ (x1_2 : Int32) (v_t_tim_2 : Nat → Int32) (H : Heap) (locs : List Loc) (ls : Array Slot), K x1_2 v_t_tim_2 = some q → va_P D vwCl (wo_X1_countTimersDown cI cZ a_t a_t_sh a_t_cmd a_t_tim a_t_hel a_t_dir a_t_seg v_t_fw v_t_fp v_t_fn v_t_rt v_t_wd v_t_pd v_t_ss v_t_rs v_t_sh_nd v_t_sh_sn v_t_tim_2) H → va_D A (wo_X1_countTimersDown cI cZ a_t a_t_sh a_t_cmd a_t_tim a_t_hel a_t_dir a_t_seg v_t_fw v_t_fp v_t_fn v_t_rt v_t_wd v_t_pd v_t_ss v_t_rs v_t_sh_nd v_t_sh_sn v_t_tim_2) → va_S A s.heap H locs → lv_has ls 2 [] → W p l e rm_X1_countTimersDown s m ([.ref a_t] : List Value).toArray below meth c H locs 0 0 (MQ below (QV D (wo_X1_countTimersDown cI cZ a_t a_t_sh a_t_cmd a_t_tim a_t_hel a_t_dir a_t_seg v_t_fw v_t_fp v_t_fn v_t_rt v_t_wd v_t_pd v_t_ss v_t_rs v_t_sh_nd v_t_sh_sn q) A) ([.ref a_t] : List Value).toArray s 0 0 A) (F0 m 38 ls [])) (k : Nat) (x1_2 : Int32) (v_t_tim_2 : Nat → Int32) (H : Heap) (locs : List Loc) (ls : Array Slot), fX1_countTimersDown_L2 v_t_sh_nd K k x1_2 v_t_tim_2 = some q → va_P D vwCl (wo_X1_countTimersDown cI cZ a_t a_t_sh a_t_cmd a_t_tim a_t_hel a_t_dir a_t_seg v_t_fw v_t_fp v_t_fn v_t_rt v_t_wd v_t_pd v_t_ss v_t_rs v_t_sh_nd v_t_sh_sn v_t_tim_2) H → va_D A (wo_X1_countTimersDown cI cZ a_t a_t_sh a_t_cmd a_t_tim a_t_hel a_t_dir a_t_seg v_t_fw v_t_fp v_t_fn v_t_rt v_t_wd v_t_pd v_t_ss v_t_rs v_t_sh_nd v_t_sh_sn v_t_tim_2) → va_S A s.heap H locs → lv_has ls 2 [(0, .ref a_t), (1, .int x1_2)] → W p l e rm_X1_countTimersDown s m ([.ref a_t] : List Value).toArray below meth c H locs 0 0 (MQ below (QV D (wo_X1_countTimersDown cI cZ a_t a_t_sh a_t_cmd a_t_tim a_t_hel a_t_dir a_t_seg v_t_fw v_t_fp v_t_fn v_t_rt v_t_wd v_t_pd v_t_ss v_t_rs v_t_sh_nd v_t_sh_sn q) A) ([.ref a_t] : List Value).toArray s 0 0 A) (F0 m 2 ls []) := by
    intro K hKK k
    induction k with
    | zero => intro x1_2 v_t_tim_2 H locs ls hf; rw [fX1_countTimersDown_L2] at hf; cases hf
    | succ k ih =>
      intro x1_2 v_t_tim_2 H locs ls hf hP hD hS hl
      rw [fX1_countTimersDown_L2] at hf
      refine lv_iload_n hx hb dX1_countTimersDown_2 rfl (lv_at hl 1 rfl) ?_
      refine lv_aload_n hx hb dX1_countTimersDown_3 rfl (lv_at hl 0 rfl) ?_
      refine getO X hP inX1 0 rfl rfl 0 (by decide) (List.mem_of_getElem? (i := 1) rfl) rfl dX1_countTimersDown_4 ?_
      refine getN X hP inX2 1 rfl rfl 0 (by decide) 1 rfl rfl dX1_countTimersDown_7 ?_
      refine lv_icmp_ge (tgt := 38) hx hb dX1_countTimersDown_10 (by decide) (fun hc => ?_) (fun hc => ?_)
      · replace hf := ifp hc hf
        exact hKK _ _ _ _ ls hf hP hD hS (lv_sub hl [] rfl)
      · replace hf := ifn hc hf
        refine lv_aload_n hx hb dX1_countTimersDown_13 rfl (lv_at hl 0 rfl) ?_
        refine getO X hP inX1 0 rfl rfl 5 (by decide) (List.mem_of_getElem? (i := 2) rfl) rfl dX1_countTimersDown_14 ?_
        refine lv_iload_n hx hb dX1_countTimersDown_17 rfl (lv_at hl 1 rfl) ?_
        obtain ⟨g18, hf⟩ := grd hf
        refine aldI X hP 2 rfl g18 rfl dX1_countTimersDown_18 ?_
        refine lv_if_le (tgt := 32) hx hb dX1_countTimersDown_19 (by decide) (fun hc => ?_) (fun hc => ?_)
        · replace hf := ifp hc hf
          refine lv_iinc (v := (x1_2 + nI 1)) (lv' := [(1, .int (x1_2 + nI 1)), (0, .ref a_t)]) hx hb dX1_countTimersDown_32 hl (k := 1) rfl (inc_1 _) (by decide) rfl (fun ls hl => ?_)
          refine lv_goto (tgt := 2) hx hb dX1_countTimersDown_35 (by decide) ?_
          exact ih _ _ _ _ ls hf hP hD hS (lv_sub hl [1, 0] rfl)
        · replace hf := ifn hc hf
          refine lv_aload_n hx hb dX1_countTimersDown_22 rfl (lv_at hl 0 rfl) ?_
          refine getO X hP inX1 0 rfl rfl 5 (by decide) (List.mem_of_getElem? (i := 2) rfl) rfl dX1_countTimersDown_23 ?_
          refine lv_iload_n hx hb dX1_countTimersDown_26 rfl (lv_at hl 1 rfl) ?_
          refine lv_dup2_11 hx hb dX1_countTimersDown_27 rfl rfl ?_
          obtain ⟨g28, hf⟩ := grd hf
          refine aldI X hP 2 rfl g28 rfl dX1_countTimersDown_28 ?_
          refine lv_iconst hx hb dX1_countTimersDown_29 ic_1 ?_
          refine lv_isub hx hb dX1_countTimersDown_30 ?_
          obtain ⟨g31, hf⟩ := grd hf
          refine astI X hP hD hS 2 rfl g31 rfl dX1_countTimersDown_31 (wo_X1_countTimersDown cI cZ a_t a_t_sh a_t_cmd a_t_tim a_t_hel a_t_dir a_t_seg v_t_fw v_t_fp v_t_fn v_t_rt v_t_wd v_t_pd v_t_ss v_t_rs v_t_sh_nd v_t_sh_sn (upd v_t_tim_2 (x1_2).toNatClampNeg ((v_t_tim_2 (x1_2).toNatClampNeg) - (nI 1)))) rfl (fun H locs hP hD hS => ?_)
          refine lv_iinc (v := (x1_2 + nI 1)) (lv' := [(1, .int (x1_2 + nI 1)), (0, .ref a_t)]) hx hb dX1_countTimersDown_32 hl (k := 1) rfl (inc_1 _) (by decide) rfl (fun ls hl => ?_)
          refine lv_goto (tgt := 2) hx hb dX1_countTimersDown_35 (by decide) ?_
          exact ih _ _ _ _ ls hf hP hD hS (lv_sub hl [1, 0] rfl)
  unfold fX1_countTimersDown at hf
  refine lv_iconst hx hb dX1_countTimersDown_0 ic_0 ?_
  refine lv_istore_n (lv' := [(1, .int 0), (0, .ref a_t)]) hx hb dX1_countTimersDown_1 rfl hl (by decide) rfl (fun ls hl => ?_)
  refine L2 _ (fun x1_2 v_t_tim_2 H locs ls hf hP hD hS hl => ?_) FU _ _ _ _ ls hf hP hD hS (lv_sub hl [1, 0] rfl)
  obtain rfl := Option.some.inj hf
  exact retV X hS hP dX1_countTimersDown_38

abbrev wo_X1_findCapacitiesDown (cI cZ : ClassId) (a_t a_t_sh a_t_cmd a_t_tim a_t_hel a_t_dir a_t_seg : Nat) (v_t_fw : Int32) (v_t_fp : Int32) (v_t_fn : Int32) (v_t_rt : Int32) (v_t_wd : Int32) (v_t_pd : Int32) (v_t_ss : Int32) (v_t_rs : Int32) (v_t_sh_nd : Int32) (v_t_sh_sn : Int32) : va_W := [(a_t, oX1 a_t_sh v_t_fw v_t_fp v_t_fn a_t_cmd a_t_tim a_t_hel v_t_rt v_t_wd v_t_pd a_t_dir v_t_ss v_t_rs a_t_seg), (a_t_sh, oX2 v_t_sh_nd v_t_sh_sn)]
def fX1_findCapacitiesDown_L4 (v_t_fw : Int32) (v_t_fp : Int32) (v_t_fn : Int32) (v_t_sh_nd : Int32) (K : Int32 → Int32 → Int32 → Int32 → Option (Int32 × Int32)) : Nat → Int32 → Int32 → Int32 → Int32 → Option (Int32 × Int32)
  | 0, _, _, _, _ => none
  | k + 1, x1_4, x2_4, v_t_wd_4, v_t_pd_4 => (if v_t_sh_nd ≤ x2_4 then (K x1_4 x2_4 v_t_wd_4 v_t_pd_4) else ((fX5_contains v_t_fn x2_4).bind (fun q20 => (if q20 = true then ((fX2_spansAt v_t_sh_nd x2_4).bind (fun q32 => (fX1_findCapacitiesDown_L4 v_t_fw v_t_fp v_t_fn v_t_sh_nd K k (x1_4 ||| q32) (x2_4 + nI 1) v_t_wd_4 v_t_pd_4))) else (fX1_findCapacitiesDown_L4 v_t_fw v_t_fp v_t_fn v_t_sh_nd K k x1_4 (x2_4 + nI 1) v_t_wd_4 v_t_pd_4)))))
def fX1_findCapacitiesDown (v_t_fw : Int32) (v_t_fp : Int32) (v_t_fn : Int32) (v_t_wd : Int32) (v_t_pd : Int32) (v_t_sh_nd : Int32) : Option (Int32 × Int32) := (fX1_findCapacitiesDown_L4 v_t_fw v_t_fp v_t_fn v_t_sh_nd (fun x1_4 x2_4 v_t_wd_4 v_t_pd_4 => (some ((v_t_fw ||| x1_4), (v_t_fp ||| x1_4)))) FU 0 0 v_t_wd v_t_pd)
theorem kd_X1_findCapacitiesDown : yX1_findCapacitiesDown.cls = RX1 ∧ yX1_findCapacitiesDown.cls ≠ "java/lang/invoke/MethodHandle" ∧ yX1_findCapacitiesDown.cls ≠ "java/lang/invoke/VarHandle" ∧ (parseMethodDescriptor yX1_findCapacitiesDown.desc).map (fun d => d.parameters.length) = some 0 := by decide +kernel
def rm_X1_findCapacitiesDown : Room := { frames := 1, cells := 0, slots := 0, locals := 22 }
set_option maxHeartbeats 4000000 in
set_option maxRecDepth 100000 in
theorem k_X1_findCapacitiesDown (l : Launch) (D : va_G) (cI cZ : ClassId) (a_t a_t_sh a_t_cmd a_t_tim a_t_hel a_t_dir a_t_seg : Nat) (v_t_fw : Int32) (v_t_fp : Int32) (v_t_fn : Int32) (v_t_rt : Int32) (v_t_wd : Int32) (v_t_pd : Int32) (v_t_ss : Int32) (v_t_rs : Int32) (v_t_sh_nd : Int32) (v_t_sh_sn : Int32) (q : Int32 × Int32) (hf : fX1_findCapacitiesDown v_t_fw v_t_fp v_t_fn v_t_wd v_t_pd v_t_sh_nd = some q) : CV l D cI cZ yX1_findCapacitiesDown wsX1_findCapacitiesDown rm_X1_findCapacitiesDown [.ref a_t] (wo_X1_findCapacitiesDown cI cZ a_t a_t_sh a_t_cmd a_t_tim a_t_hel a_t_dir a_t_seg v_t_fw v_t_fp v_t_fn v_t_rt v_t_wd v_t_pd v_t_ss v_t_rs v_t_sh_nd v_t_sh_sn) (wo_X1_findCapacitiesDown cI cZ a_t a_t_sh a_t_cmd a_t_tim a_t_hel a_t_dir a_t_seg v_t_fw v_t_fp v_t_fn v_t_rt q.1 q.2 v_t_ss v_t_rs v_t_sh_nd v_t_sh_sn) := by
  refine CV.mk (cc := cX1_findCapacitiesDown) (maxL := 3) (by decide) rfl (Nat.le_of_ble_eq_true rfl) ?_
  intro p e s m below meth c ls A X hP hD hl hS
  have hx := X.1.1
  have hb := X.1.2.1
  have hl : lv_has ls 3 [(0, .ref a_t)] := hl
  have inX1 : ∀ w ∈ u_ws RX1 TX1 14, w ∈ wsX1_findCapacitiesDown := fun _ h => List.mem_cons_of_mem _ (List.mem_append_left _ (List.mem_append_right _ h))
  have inX2 : ∀ w ∈ u_ws RX2 TX2 2, w ∈ wsX1_findCapacitiesDown := fun _ h => List.mem_cons_of_mem _ (List.mem_append_right _ h)
  have L4 : ∀ (K : Int32 → Int32 → Int32 → Int32 → Option (Int32 × Int32)) (hKK : ∀ (x1_4 : Int32) (x2_4 : Int32) (v_t_wd_4 : Int32) (v_t_pd_4 : Int32) (H : Heap) (locs : List Loc) (ls : Array Slot), K x1_4 x2_4 v_t_wd_4 v_t_pd_4 = some q → va_P D vwCl (wo_X1_findCapacitiesDown cI cZ a_t a_t_sh a_t_cmd a_t_tim a_t_hel a_t_dir a_t_seg v_t_fw v_t_fp v_t_fn v_t_rt v_t_wd_4 v_t_pd_4 v_t_ss v_t_rs v_t_sh_nd v_t_sh_sn) H → va_D A (wo_X1_findCapacitiesDown cI cZ a_t a_t_sh a_t_cmd a_t_tim a_t_hel a_t_dir a_t_seg v_t_fw v_t_fp v_t_fn v_t_rt v_t_wd_4 v_t_pd_4 v_t_ss v_t_rs v_t_sh_nd v_t_sh_sn) → va_S A s.heap H locs → lv_has ls 3 [(0, .ref a_t), (1, .int x1_4)] → W p l e rm_X1_findCapacitiesDown s m ([.ref a_t] : List Value).toArray below meth c H locs 0 0 (MQ below (QV D (wo_X1_findCapacitiesDown cI cZ a_t a_t_sh a_t_cmd a_t_tim a_t_hel a_t_dir a_t_seg v_t_fw v_t_fp v_t_fn v_t_rt q.1 q.2 v_t_ss v_t_rs v_t_sh_nd v_t_sh_sn) A) ([.ref a_t] : List Value).toArray s 0 0 A) (F0 m 43 ls [])) (k : Nat) (x1_4 : Int32) (x2_4 : Int32) (v_t_wd_4 : Int32) (v_t_pd_4 : Int32) (H : Heap) (locs : List Loc) (ls : Array Slot), fX1_findCapacitiesDown_L4 v_t_fw v_t_fp v_t_fn v_t_sh_nd K k x1_4 x2_4 v_t_wd_4 v_t_pd_4 = some q → va_P D vwCl (wo_X1_findCapacitiesDown cI cZ a_t a_t_sh a_t_cmd a_t_tim a_t_hel a_t_dir a_t_seg v_t_fw v_t_fp v_t_fn v_t_rt v_t_wd_4 v_t_pd_4 v_t_ss v_t_rs v_t_sh_nd v_t_sh_sn) H → va_D A (wo_X1_findCapacitiesDown cI cZ a_t a_t_sh a_t_cmd a_t_tim a_t_hel a_t_dir a_t_seg v_t_fw v_t_fp v_t_fn v_t_rt v_t_wd_4 v_t_pd_4 v_t_ss v_t_rs v_t_sh_nd v_t_sh_sn) → va_S A s.heap H locs → lv_has ls 3 [(0, .ref a_t), (1, .int x1_4), (2, .int x2_4)] → W p l e rm_X1_findCapacitiesDown s m ([.ref a_t] : List Value).toArray below meth c H locs 0 0 (MQ below (QV D (wo_X1_findCapacitiesDown cI cZ a_t a_t_sh a_t_cmd a_t_tim a_t_hel a_t_dir a_t_seg v_t_fw v_t_fp v_t_fn v_t_rt q.1 q.2 v_t_ss v_t_rs v_t_sh_nd v_t_sh_sn) A) ([.ref a_t] : List Value).toArray s 0 0 A) (F0 m 4 ls []) := by
    intro K hKK k
    induction k with
    | zero => intro x1_4 x2_4 v_t_wd_4 v_t_pd_4 H locs ls hf; rw [fX1_findCapacitiesDown_L4] at hf; cases hf
    | succ k ih =>
      intro x1_4 x2_4 v_t_wd_4 v_t_pd_4 H locs ls hf hP hD hS hl
      rw [fX1_findCapacitiesDown_L4] at hf
      refine lv_iload_n hx hb dX1_findCapacitiesDown_4 rfl (lv_at hl 2 rfl) ?_
      refine lv_aload_n hx hb dX1_findCapacitiesDown_5 rfl (lv_at hl 0 rfl) ?_
      refine getO X hP inX1 0 rfl rfl 0 (by decide) (List.mem_of_getElem? (i := 1) rfl) rfl dX1_findCapacitiesDown_6 ?_
      refine getN X hP inX2 1 rfl rfl 0 (by decide) 1 rfl rfl dX1_findCapacitiesDown_9 ?_
      refine lv_icmp_ge (tgt := 43) hx hb dX1_findCapacitiesDown_12 (by decide) (fun hc => ?_) (fun hc => ?_)
      · replace hf := ifp hc hf
        exact hKK _ _ _ _ _ _ ls hf hP hD hS (lv_sub hl [0, 1] rfl)
      · replace hf := ifn hc hf
        refine lv_aload_n hx hb dX1_findCapacitiesDown_15 rfl (lv_at hl 0 rfl) ?_
        refine getO X hP inX1 0 rfl rfl 3 (by decide) (List.mem_of_getElem? (i := 2) rfl) rfl dX1_findCapacitiesDown_16 ?_
        refine lv_iload_n hx hb dX1_findCapacitiesDown_19 rfl (lv_at hl 2 rfl) ?_
        obtain ⟨q20, e20, hf⟩ := bnd hf
        refine callNI X (k_X5_contains l D cI cZ    v_t_fn x2_4 q20 e20) ⟨va_cnB 2 X.1.2.2.2.2 gX1_findCapacitiesDown_X5_contains_n48 rfl rfl rfl (X.2.2.2.2.1.ml 10 rfl) (X.1.2.2.2.2 _ (List.mem_of_getElem? (i := 8) rfl)) kd_X5_contains ⟨Nat.le_of_ble_eq_true rfl, Nat.le_of_ble_eq_true rfl⟩, X.1.2.2.2.2 _ (List.mem_of_getElem? (i := 7) rfl), trivial⟩ hP hD hS hl.1 [] (by decide) (wo_X1_findCapacitiesDown cI cZ a_t a_t_sh a_t_cmd a_t_tim a_t_hel a_t_dir a_t_seg v_t_fw v_t_fp v_t_fn v_t_rt v_t_wd_4 v_t_pd_4 v_t_ss v_t_rs v_t_sh_nd v_t_sh_sn) rfl rfl rfl rfl rfl (rest := []) rfl (Nat.le_of_ble_eq_true rfl) dX1_findCapacitiesDown_20 ⟨Nat.zero_le _, Nat.zero_le _⟩ (fun H locs hP hD hS => ?_)
        refine lv_if_eq (tgt := 37) hx hb dX1_findCapacitiesDown_23 (by decide) (fun hc => ?_) (fun hc => ?_)
        · replace hf := ifn (b2i_z hc) hf
          refine lv_iinc (v := (x2_4 + nI 1)) (lv' := [(2, .int (x2_4 + nI 1)), (0, .ref a_t), (1, .int x1_4)]) hx hb dX1_findCapacitiesDown_37 hl (k := 2) rfl (inc_1 _) (by decide) rfl (fun ls hl => ?_)
          refine lv_goto (tgt := 4) hx hb dX1_findCapacitiesDown_40 (by decide) ?_
          exact ih _ _ _ _ _ _ ls hf hP hD hS (lv_sub hl [1, 2, 0] rfl)
        · replace hf := ifp (b2i_nz hc) hf
          refine lv_iload_n hx hb dX1_findCapacitiesDown_26 rfl (lv_at hl 1 rfl) ?_
          refine lv_aload_n hx hb dX1_findCapacitiesDown_27 rfl (lv_at hl 0 rfl) ?_
          refine getO X hP inX1 0 rfl rfl 0 (by decide) (List.mem_of_getElem? (i := 1) rfl) rfl dX1_findCapacitiesDown_28 ?_
          refine lv_iload_n hx hb dX1_findCapacitiesDown_31 rfl (lv_at hl 2 rfl) ?_
          obtain ⟨q32, e32, hf⟩ := bnd hf
          refine callVI X (k_X2_spansAt l D cI cZ a_t_sh  v_t_sh_nd v_t_sh_sn x2_4 q32 e32) (cwV 1 X.1.2.2.2.2 gX1_findCapacitiesDown_X2_spansAt rfl rfl rfl kd_X2_spansAt ⟨Nat.le_of_ble_eq_true rfl, Nat.le_of_ble_eq_true rfl⟩) hP hD hS hl.1 1 2 rfl rfl [1] (by decide) (wo_X1_findCapacitiesDown cI cZ a_t a_t_sh a_t_cmd a_t_tim a_t_hel a_t_dir a_t_seg v_t_fw v_t_fp v_t_fn v_t_rt v_t_wd_4 v_t_pd_4 v_t_ss v_t_rs v_t_sh_nd v_t_sh_sn) rfl rfl rfl rfl rfl (rest := [.int x1_4]) rfl (Nat.le_of_ble_eq_true rfl) dX1_findCapacitiesDown_32 ⟨Nat.zero_le _, Nat.zero_le _⟩ (fun H locs hP hD hS => ?_)
          refine lv_ior hx hb dX1_findCapacitiesDown_35 ?_
          refine lv_istore_n (lv' := [(1, .int (x1_4 ||| q32)), (0, .ref a_t), (2, .int x2_4)]) hx hb dX1_findCapacitiesDown_36 rfl hl (by decide) rfl (fun ls hl => ?_)
          refine lv_iinc (v := (x2_4 + nI 1)) (lv' := [(2, .int (x2_4 + nI 1)), (1, .int (x1_4 ||| q32)), (0, .ref a_t)]) hx hb dX1_findCapacitiesDown_37 hl (k := 2) rfl (inc_1 _) (by decide) rfl (fun ls hl => ?_)
          refine lv_goto (tgt := 4) hx hb dX1_findCapacitiesDown_40 (by decide) ?_
          exact ih _ _ _ _ _ _ ls hf hP hD hS (lv_sub hl [2, 1, 0] rfl)
  unfold fX1_findCapacitiesDown at hf
  refine lv_iconst hx hb dX1_findCapacitiesDown_0 ic_0 ?_
  refine lv_istore_n (lv' := [(1, .int 0), (0, .ref a_t)]) hx hb dX1_findCapacitiesDown_1 rfl hl (by decide) rfl (fun ls hl => ?_)
  refine lv_iconst hx hb dX1_findCapacitiesDown_2 ic_0 ?_
  refine lv_istore_n (lv' := [(2, .int 0), (1, .int 0), (0, .ref a_t)]) hx hb dX1_findCapacitiesDown_3 rfl hl (by decide) rfl (fun ls hl => ?_)
  refine L4 _ (fun x1_4 x2_4 v_t_wd_4 v_t_pd_4 H locs ls hf hP hD hS hl => ?_) FU _ _ _ _ _ _ ls hf hP hD hS (lv_sub hl [2, 1, 0] rfl)
  refine lv_aload_n hx hb dX1_findCapacitiesDown_43 rfl (lv_at hl 0 rfl) ?_
  refine lv_aload_n hx hb dX1_findCapacitiesDown_44 rfl (lv_at hl 0 rfl) ?_
  refine getO X hP inX1 0 rfl rfl 1 (by decide) (List.mem_of_getElem? (i := 3) rfl) rfl dX1_findCapacitiesDown_45 ?_
  refine lv_iload_n hx hb dX1_findCapacitiesDown_48 rfl (lv_at hl 1 rfl) ?_
  refine lv_ior hx hb dX1_findCapacitiesDown_49 ?_
  refine putO X hP hD hS inX1 tyX1 tyX1_ok nmX1 0 rfl rfl 8 (by decide) (List.mem_of_getElem? (i := 4) rfl) rfl rfl rfl (Nat.le_of_ble_eq_true rfl) dX1_findCapacitiesDown_50 (wo_X1_findCapacitiesDown cI cZ a_t a_t_sh a_t_cmd a_t_tim a_t_hel a_t_dir a_t_seg v_t_fw v_t_fp v_t_fn v_t_rt (v_t_fw ||| x1_4) v_t_pd_4 v_t_ss v_t_rs v_t_sh_nd v_t_sh_sn) rfl (fun H locs hP hD hS => ?_)
  refine lv_aload_n hx hb dX1_findCapacitiesDown_53 rfl (lv_at hl 0 rfl) ?_
  refine lv_aload_n hx hb dX1_findCapacitiesDown_54 rfl (lv_at hl 0 rfl) ?_
  refine getO X hP inX1 0 rfl rfl 2 (by decide) (List.mem_of_getElem? (i := 5) rfl) rfl dX1_findCapacitiesDown_55 ?_
  refine lv_iload_n hx hb dX1_findCapacitiesDown_58 rfl (lv_at hl 1 rfl) ?_
  refine lv_ior hx hb dX1_findCapacitiesDown_59 ?_
  refine putO X hP hD hS inX1 tyX1 tyX1_ok nmX1 0 rfl rfl 9 (by decide) (List.mem_of_getElem? (i := 6) rfl) rfl rfl rfl (Nat.le_of_ble_eq_true rfl) dX1_findCapacitiesDown_60 (wo_X1_findCapacitiesDown cI cZ a_t a_t_sh a_t_cmd a_t_tim a_t_hel a_t_dir a_t_seg v_t_fw v_t_fp v_t_fn v_t_rt (v_t_fw ||| x1_4) (v_t_fp ||| x1_4) v_t_ss v_t_rs v_t_sh_nd v_t_sh_sn) rfl (fun H locs hP hD hS => ?_)
  obtain rfl := Option.some.inj hf
  exact retV X hS hP dX1_findCapacitiesDown_63

abbrev wo_X1_requestOfFailures (cI cZ : ClassId) (a_t a_t_sh a_t_cmd a_t_tim a_t_hel a_t_dir a_t_seg : Nat) (v_t_fw : Int32) (v_t_fp : Int32) (v_t_fn : Int32) (v_t_rt : Int32) (v_t_wd : Int32) (v_t_pd : Int32) (v_t_ss : Int32) (v_t_rs : Int32) : va_W := [(a_t, oX1 a_t_sh v_t_fw v_t_fp v_t_fn a_t_cmd a_t_tim a_t_hel v_t_rt v_t_wd v_t_pd a_t_dir v_t_ss v_t_rs a_t_seg)]
def fX1_requestOfFailures (v_t_wd : Int32) (v_t_pd : Int32) (p1 : Int32) : Option (Int32) := ((fX5_contains v_t_wd p1).bind (fun q5 => ((if q5 = true then (some 0) else (some (nI 1))).bind (fun ph16 => ((fX5_contains v_t_pd p1).bind (fun q22 => (if q22 = true then (if ph16 = 0 then (some (nI 6)) else (some (nI 9))) else (if ph16 = 0 then (some (nI 5)) else (some 0)))))))))
theorem kd_X1_requestOfFailures : yX1_requestOfFailures.cls = RX1 ∧ yX1_requestOfFailures.cls ≠ "java/lang/invoke/MethodHandle" ∧ yX1_requestOfFailures.cls ≠ "java/lang/invoke/VarHandle" ∧ (parseMethodDescriptor yX1_requestOfFailures.desc).map (fun d => d.parameters.length) = some 1 := by decide +kernel
def rm_X1_requestOfFailures : Room := { frames := 1, cells := 0, slots := 0, locals := 21 }
set_option maxHeartbeats 4000000 in
set_option maxRecDepth 100000 in
theorem k_X1_requestOfFailures (l : Launch) (D : va_G) (cI cZ : ClassId) (a_t a_t_sh a_t_cmd a_t_tim a_t_hel a_t_dir a_t_seg : Nat) (v_t_fw : Int32) (v_t_fp : Int32) (v_t_fn : Int32) (v_t_rt : Int32) (v_t_wd : Int32) (v_t_pd : Int32) (v_t_ss : Int32) (v_t_rs : Int32) (p1 : Int32) (q : Int32) (hf : fX1_requestOfFailures v_t_wd v_t_pd p1 = some q) : CI l D cI cZ yX1_requestOfFailures wsX1_requestOfFailures rm_X1_requestOfFailures [.ref a_t, .int p1] (wo_X1_requestOfFailures cI cZ a_t a_t_sh a_t_cmd a_t_tim a_t_hel a_t_dir a_t_seg v_t_fw v_t_fp v_t_fn v_t_rt v_t_wd v_t_pd v_t_ss v_t_rs) (wo_X1_requestOfFailures cI cZ a_t a_t_sh a_t_cmd a_t_tim a_t_hel a_t_dir a_t_seg v_t_fw v_t_fp v_t_fn v_t_rt v_t_wd v_t_pd v_t_ss v_t_rs) q := by
  refine CI.mk (cc := cX1_requestOfFailures) (maxL := 3) (by decide) rfl (Nat.le_of_ble_eq_true rfl) ?_
  intro p e s m below meth c ls A X hP hD hl hS
  have hx := X.1.1
  have hb := X.1.2.1
  have hl : lv_has ls 3 [(0, .ref a_t), (1, .int p1)] := hl
  have inX1 : ∀ w ∈ u_ws RX1 TX1 14, w ∈ wsX1_requestOfFailures := fun _ h => List.mem_cons_of_mem _ (List.mem_append_right _ h)
  unfold fX1_requestOfFailures at hf
  refine lv_aload_n hx hb dX1_requestOfFailures_0 rfl (lv_at hl 0 rfl) ?_
  refine getO X hP inX1 0 rfl rfl 8 (by decide) (List.mem_of_getElem? (i := 1) rfl) rfl dX1_requestOfFailures_1 ?_
  refine lv_iload_n hx hb dX1_requestOfFailures_4 rfl (lv_at hl 1 rfl) ?_
  obtain ⟨q5, e5, hf⟩ := bnd hf
  refine callNI X (k_X5_contains l D cI cZ    v_t_wd p1 q5 e5) ⟨va_cnB 2 X.1.2.2.2.2 gX1_requestOfFailures_X5_contains_n48 rfl rfl rfl (X.2.2.2.2.1.ml 10 rfl) (X.1.2.2.2.2 _ (List.mem_of_getElem? (i := 4) rfl)) kd_X5_contains ⟨Nat.le_of_ble_eq_true rfl, Nat.le_of_ble_eq_true rfl⟩, X.1.2.2.2.2 _ (List.mem_of_getElem? (i := 3) rfl), trivial⟩ hP hD hS hl.1 [] (by decide) (wo_X1_requestOfFailures cI cZ a_t a_t_sh a_t_cmd a_t_tim a_t_hel a_t_dir a_t_seg v_t_fw v_t_fp v_t_fn v_t_rt v_t_wd v_t_pd v_t_ss v_t_rs) rfl rfl rfl rfl rfl (rest := []) rfl (Nat.le_of_ble_eq_true rfl) dX1_requestOfFailures_5 ⟨Nat.zero_le _, Nat.zero_le _⟩ (fun H locs hP hD hS => ?_)
  obtain ⟨ph16, hg, hf⟩ := bnd hf
  have J16 : ∀ (H : Heap) (locs : List Loc) (ls : Array Slot), va_P D vwCl (wo_X1_requestOfFailures cI cZ a_t a_t_sh a_t_cmd a_t_tim a_t_hel a_t_dir a_t_seg v_t_fw v_t_fp v_t_fn v_t_rt v_t_wd v_t_pd v_t_ss v_t_rs) H → va_D A (wo_X1_requestOfFailures cI cZ a_t a_t_sh a_t_cmd a_t_tim a_t_hel a_t_dir a_t_seg v_t_fw v_t_fp v_t_fn v_t_rt v_t_wd v_t_pd v_t_ss v_t_rs) → va_S A s.heap H locs → lv_has ls 3 [(0, .ref a_t), (1, .int p1)] → W p l e rm_X1_requestOfFailures s m ([.ref a_t, .int p1] : List Value).toArray below meth c H locs 0 0 (MQ below (QI D (wo_X1_requestOfFailures cI cZ a_t a_t_sh a_t_cmd a_t_tim a_t_hel a_t_dir a_t_seg v_t_fw v_t_fp v_t_fn v_t_rt v_t_wd v_t_pd v_t_ss v_t_rs) q A) ([.ref a_t, .int p1] : List Value).toArray s 0 0 A) (F0 m 16 ls [.int ph16]) := by
    clear hg hP hD hS hl
    intro H locs ls hP hD hS hl
    refine lv_istore_n (lv' := [(2, .int ph16), (0, .ref a_t), (1, .int p1)]) hx hb dX1_requestOfFailures_16 rfl hl (by decide) rfl (fun ls hl => ?_)
    refine lv_aload_n hx hb dX1_requestOfFailures_17 rfl (lv_at hl 1 rfl) ?_
    refine getO X hP inX1 0 rfl rfl 9 (by decide) (List.mem_of_getElem? (i := 2) rfl) rfl dX1_requestOfFailures_18 ?_
    refine lv_iload_n hx hb dX1_requestOfFailures_21 rfl (lv_at hl 2 rfl) ?_
    obtain ⟨q22, e22, hf⟩ := bnd hf
    refine callNI X (k_X5_contains l D cI cZ    v_t_pd p1 q22 e22) ⟨va_cnB 2 X.1.2.2.2.2 gX1_requestOfFailures_X5_contains_n48 rfl rfl rfl (X.2.2.2.2.1.ml 10 rfl) (X.1.2.2.2.2 _ (List.mem_of_getElem? (i := 4) rfl)) kd_X5_contains ⟨Nat.le_of_ble_eq_true rfl, Nat.le_of_ble_eq_true rfl⟩, X.1.2.2.2.2 _ (List.mem_of_getElem? (i := 3) rfl), trivial⟩ hP hD hS hl.1 [] (by decide) (wo_X1_requestOfFailures cI cZ a_t a_t_sh a_t_cmd a_t_tim a_t_hel a_t_dir a_t_seg v_t_fw v_t_fp v_t_fn v_t_rt v_t_wd v_t_pd v_t_ss v_t_rs) rfl rfl rfl rfl rfl (rest := []) rfl (Nat.le_of_ble_eq_true rfl) dX1_requestOfFailures_22 ⟨Nat.zero_le _, Nat.zero_le _⟩ (fun H locs hP hD hS => ?_)
    refine lv_if_eq (tgt := 40) hx hb dX1_requestOfFailures_25 (by decide) (fun hc => ?_) (fun hc => ?_)
    · replace hf := ifn (b2i_z hc) hf
      refine lv_iload_n hx hb dX1_requestOfFailures_40 rfl (lv_at hl 0 rfl) ?_
      refine lv_if_eq (tgt := 48) hx hb dX1_requestOfFailures_41 (by decide) (fun hc => ?_) (fun hc => ?_)
      · replace hf := ifp hc hf
        refine lv_iconst hx hb dX1_requestOfFailures_48 ic_5 ?_
        obtain rfl := Option.some.inj hf
        exact retI X hS hP rfl dX1_requestOfFailures_49
      · replace hf := ifn hc hf
        refine lv_iconst hx hb dX1_requestOfFailures_44 ic_0 ?_
        refine lv_goto (tgt := 49) hx hb dX1_requestOfFailures_45 (by decide) ?_
        obtain rfl := Option.some.inj hf
        exact retI X hS hP rfl dX1_requestOfFailures_49
    · replace hf := ifp (b2i_nz hc) hf
      refine lv_iload_n hx hb dX1_requestOfFailures_28 rfl (lv_at hl 0 rfl) ?_
      refine lv_if_eq (tgt := 37) hx hb dX1_requestOfFailures_29 (by decide) (fun hc => ?_) (fun hc => ?_)
      · replace hf := ifp hc hf
        refine lv_bipush hx hb dX1_requestOfFailures_37 bp_6 ?_
        obtain rfl := Option.some.inj hf
        exact retI X hS hP rfl dX1_requestOfFailures_39
      · replace hf := ifn hc hf
        refine lv_bipush hx hb dX1_requestOfFailures_32 bp_9 ?_
        refine lv_goto (tgt := 39) hx hb dX1_requestOfFailures_34 (by decide) ?_
        obtain rfl := Option.some.inj hf
        exact retI X hS hP rfl dX1_requestOfFailures_39
  replace hf := hg
  clear hg
  refine lv_if_ne (tgt := 15) hx hb dX1_requestOfFailures_8 (by decide) (fun hc => ?_) (fun hc => ?_)
  · replace hf := ifp (b2i_nz hc) hf
    refine lv_iconst hx hb dX1_requestOfFailures_15 ic_0 ?_
    obtain rfl := Option.some.inj hf
    exact J16 _ _ ls hP hD hS (lv_sub hl [0, 1] rfl)
  · replace hf := ifn (b2i_z hc) hf
    refine lv_iconst hx hb dX1_requestOfFailures_11 ic_1 ?_
    refine lv_goto (tgt := 16) hx hb dX1_requestOfFailures_12 (by decide) ?_
    obtain rfl := Option.some.inj hf
    exact J16 _ _ ls hP hD hS (lv_sub hl [0, 1] rfl)

abbrev wo_X1_requestOfCommand (cI cZ : ClassId) (a_t a_t_sh a_t_cmd a_t_tim a_t_hel a_t_dir a_t_seg : Nat) (v_t_fw : Int32) (v_t_fp : Int32) (v_t_fn : Int32) (v_t_rt : Int32) (v_t_wd : Int32) (v_t_pd : Int32) (v_t_ss : Int32) (v_t_rs : Int32) (v_t_cmd : Nat → Int32) : va_W := [(a_t, oX1 a_t_sh v_t_fw v_t_fp v_t_fn a_t_cmd a_t_tim a_t_hel v_t_rt v_t_wd v_t_pd a_t_dir v_t_ss v_t_rs a_t_seg), (a_t_cmd, rI cI 8 v_t_cmd)]
def fX1_requestOfCommand (v_t_pd : Int32) (v_t_cmd : Nat → Int32) (p1 : Int32) : Option (Int32) := (if (p1 < 0 ∨ 8 ≤ (p1).toNatClampNeg) then none else ((if (v_t_cmd (p1).toNatClampNeg) = (nI 7) then (some (nI 1)) else (if (v_t_cmd (p1).toNatClampNeg) = (nI 3) then (some (nI 1)) else (some 0))).bind (fun ph23 => (if ph23 = 0 then (some (v_t_cmd (p1).toNatClampNeg)) else ((fX5_contains v_t_pd p1).bind (fun q33 => (if q33 = true then (some 0) else (some (v_t_cmd (p1).toNatClampNeg)))))))))
theorem kd_X1_requestOfCommand : yX1_requestOfCommand.cls = RX1 ∧ yX1_requestOfCommand.cls ≠ "java/lang/invoke/MethodHandle" ∧ yX1_requestOfCommand.cls ≠ "java/lang/invoke/VarHandle" ∧ (parseMethodDescriptor yX1_requestOfCommand.desc).map (fun d => d.parameters.length) = some 1 := by decide +kernel
def rm_X1_requestOfCommand : Room := { frames := 1, cells := 0, slots := 0, locals := 21 }
set_option maxHeartbeats 4000000 in
set_option maxRecDepth 100000 in
theorem k_X1_requestOfCommand (l : Launch) (D : va_G) (cI cZ : ClassId) (a_t a_t_sh a_t_cmd a_t_tim a_t_hel a_t_dir a_t_seg : Nat) (v_t_fw : Int32) (v_t_fp : Int32) (v_t_fn : Int32) (v_t_rt : Int32) (v_t_wd : Int32) (v_t_pd : Int32) (v_t_ss : Int32) (v_t_rs : Int32) (v_t_cmd : Nat → Int32) (p1 : Int32) (q : Int32) (hf : fX1_requestOfCommand v_t_pd v_t_cmd p1 = some q) : CI l D cI cZ yX1_requestOfCommand wsX1_requestOfCommand rm_X1_requestOfCommand [.ref a_t, .int p1] (wo_X1_requestOfCommand cI cZ a_t a_t_sh a_t_cmd a_t_tim a_t_hel a_t_dir a_t_seg v_t_fw v_t_fp v_t_fn v_t_rt v_t_wd v_t_pd v_t_ss v_t_rs v_t_cmd) (wo_X1_requestOfCommand cI cZ a_t a_t_sh a_t_cmd a_t_tim a_t_hel a_t_dir a_t_seg v_t_fw v_t_fp v_t_fn v_t_rt v_t_wd v_t_pd v_t_ss v_t_rs v_t_cmd) q := by
  refine CI.mk (cc := cX1_requestOfCommand) (maxL := 4) (by decide) rfl (Nat.le_of_ble_eq_true rfl) ?_
  intro p e s m below meth c ls A X hP hD hl hS
  have hx := X.1.1
  have hb := X.1.2.1
  have hl : lv_has ls 4 [(0, .ref a_t), (1, .int p1)] := hl
  have inX1 : ∀ w ∈ u_ws RX1 TX1 14, w ∈ wsX1_requestOfCommand := fun _ h => List.mem_cons_of_mem _ (List.mem_append_right _ h)
  unfold fX1_requestOfCommand at hf
  refine lv_aload_n hx hb dX1_requestOfCommand_0 rfl (lv_at hl 0 rfl) ?_
  refine getO X hP inX1 0 rfl rfl 4 (by decide) (List.mem_of_getElem? (i := 1) rfl) rfl dX1_requestOfCommand_1 ?_
  refine lv_iload_n hx hb dX1_requestOfCommand_4 rfl (lv_at hl 1 rfl) ?_
  obtain ⟨g5, hf⟩ := grd hf
  refine aldI X hP 1 rfl g5 rfl dX1_requestOfCommand_5 ?_
  refine lv_istore_n (lv' := [(2, .int (v_t_cmd (p1).toNatClampNeg)), (0, .ref a_t), (1, .int p1)]) hx hb dX1_requestOfCommand_6 rfl hl (by decide) rfl (fun ls hl => ?_)
  refine lv_iload_n hx hb dX1_requestOfCommand_7 rfl (lv_at hl 0 rfl) ?_
  refine lv_bipush hx hb dX1_requestOfCommand_8 bp_7 ?_
  obtain ⟨ph23, hg, hf⟩ := bnd hf
  have J23 : ∀ (H : Heap) (locs : List Loc) (ls : Array Slot), va_P D vwCl (wo_X1_requestOfCommand cI cZ a_t a_t_sh a_t_cmd a_t_tim a_t_hel a_t_dir a_t_seg v_t_fw v_t_fp v_t_fn v_t_rt v_t_wd v_t_pd v_t_ss v_t_rs v_t_cmd) H → va_D A (wo_X1_requestOfCommand cI cZ a_t a_t_sh a_t_cmd a_t_tim a_t_hel a_t_dir a_t_seg v_t_fw v_t_fp v_t_fn v_t_rt v_t_wd v_t_pd v_t_ss v_t_rs v_t_cmd) → va_S A s.heap H locs → lv_has ls 4 [(0, .ref a_t), (1, .int p1), (2, .int (v_t_cmd (p1).toNatClampNeg))] → W p l e rm_X1_requestOfCommand s m ([.ref a_t, .int p1] : List Value).toArray below meth c H locs 0 0 (MQ below (QI D (wo_X1_requestOfCommand cI cZ a_t a_t_sh a_t_cmd a_t_tim a_t_hel a_t_dir a_t_seg v_t_fw v_t_fp v_t_fn v_t_rt v_t_wd v_t_pd v_t_ss v_t_rs v_t_cmd) q A) ([.ref a_t, .int p1] : List Value).toArray s 0 0 A) (F0 m 23 ls [.int ph23]) := by
    clear hg hP hD hS hl
    intro H locs ls hP hD hS hl
    refine lv_istore_n (lv' := [(3, .int ph23), (0, .ref a_t), (1, .int p1), (2, .int (v_t_cmd (p1).toNatClampNeg))]) hx hb dX1_requestOfCommand_23 rfl hl (by decide) rfl (fun ls hl => ?_)
    refine lv_iload_n hx hb dX1_requestOfCommand_24 rfl (lv_at hl 0 rfl) ?_
    refine lv_if_eq (tgt := 43) hx hb dX1_requestOfCommand_25 (by decide) (fun hc => ?_) (fun hc => ?_)
    · replace hf := ifp hc hf
      refine lv_iload_n hx hb dX1_requestOfCommand_43 rfl (lv_at hl 3 rfl) ?_
      obtain rfl := Option.some.inj hf
      exact retI X hS hP rfl dX1_requestOfCommand_44
    · replace hf := ifn hc hf
      refine lv_aload_n hx hb dX1_requestOfCommand_28 rfl (lv_at hl 1 rfl) ?_
      refine getO X hP inX1 0 rfl rfl 9 (by decide) (List.mem_of_getElem? (i := 2) rfl) rfl dX1_requestOfCommand_29 ?_
      refine lv_iload_n hx hb dX1_requestOfCommand_32 rfl (lv_at hl 2 rfl) ?_
      obtain ⟨q33, e33, hf⟩ := bnd hf
      refine callNI X (k_X5_contains l D cI cZ    v_t_pd p1 q33 e33) ⟨va_cnB 2 X.1.2.2.2.2 gX1_requestOfCommand_X5_contains_n48 rfl rfl rfl (X.2.2.2.2.1.ml 10 rfl) (X.1.2.2.2.2 _ (List.mem_of_getElem? (i := 4) rfl)) kd_X5_contains ⟨Nat.le_of_ble_eq_true rfl, Nat.le_of_ble_eq_true rfl⟩, X.1.2.2.2.2 _ (List.mem_of_getElem? (i := 3) rfl), trivial⟩ hP hD hS hl.1 [] (by decide) (wo_X1_requestOfCommand cI cZ a_t a_t_sh a_t_cmd a_t_tim a_t_hel a_t_dir a_t_seg v_t_fw v_t_fp v_t_fn v_t_rt v_t_wd v_t_pd v_t_ss v_t_rs v_t_cmd) rfl rfl rfl rfl rfl (rest := []) rfl (Nat.le_of_ble_eq_true rfl) dX1_requestOfCommand_33 ⟨Nat.zero_le _, Nat.zero_le _⟩ (fun H locs hP hD hS => ?_)
      refine lv_if_eq (tgt := 43) hx hb dX1_requestOfCommand_36 (by decide) (fun hc => ?_) (fun hc => ?_)
      · replace hf := ifn (b2i_z hc) hf
        refine lv_iload_n hx hb dX1_requestOfCommand_43 rfl (lv_at hl 3 rfl) ?_
        obtain rfl := Option.some.inj hf
        exact retI X hS hP rfl dX1_requestOfCommand_44
      · replace hf := ifp (b2i_nz hc) hf
        refine lv_iconst hx hb dX1_requestOfCommand_39 ic_0 ?_
        refine lv_goto (tgt := 44) hx hb dX1_requestOfCommand_40 (by decide) ?_
        obtain rfl := Option.some.inj hf
        exact retI X hS hP rfl dX1_requestOfCommand_44
  replace hf := hg
  clear hg
  refine lv_icmp_eq (tgt := 18) hx hb dX1_requestOfCommand_10 (by decide) (fun hc => ?_) (fun hc => ?_)
  · replace hf := ifp hc hf
    refine lv_iconst hx hb dX1_requestOfCommand_18 ic_1 ?_
    refine lv_goto (tgt := 23) hx hb dX1_requestOfCommand_19 (by decide) ?_
    obtain rfl := Option.some.inj hf
    exact J23 _ _ ls hP hD hS (lv_sub hl [1, 2, 0] rfl)
  · replace hf := ifn hc hf
    refine lv_iload_n hx hb dX1_requestOfCommand_13 rfl (lv_at hl 0 rfl) ?_
    refine lv_iconst hx hb dX1_requestOfCommand_14 ic_3 ?_
    refine lv_icmp_ne (tgt := 22) hx hb dX1_requestOfCommand_15 (by decide) (fun hc => ?_) (fun hc => ?_)
    · replace hf := ifn hc hf
      refine lv_iconst hx hb dX1_requestOfCommand_22 ic_0 ?_
      obtain rfl := Option.some.inj hf
      exact J23 _ _ ls hP hD hS (lv_sub hl [1, 2, 0] rfl)
    · replace hf := ifp hc hf
      refine lv_iconst hx hb dX1_requestOfCommand_18 ic_1 ?_
      refine lv_goto (tgt := 23) hx hb dX1_requestOfCommand_19 (by decide) ?_
      obtain rfl := Option.some.inj hf
      exact J23 _ _ ls hP hD hS (lv_sub hl [1, 2, 0] rfl)

abbrev wo_X1_startWaiting (cI cZ : ClassId) (a_t a_t_sh a_t_cmd a_t_tim a_t_hel a_t_dir a_t_seg : Nat) (v_t_fw : Int32) (v_t_fp : Int32) (v_t_fn : Int32) (v_t_rt : Int32) (v_t_wd : Int32) (v_t_pd : Int32) (v_t_ss : Int32) (v_t_rs : Int32) (v_t_tim : Nat → Int32) (v_t_hel : Nat → Int32) : va_W := [(a_t, oX1 a_t_sh v_t_fw v_t_fp v_t_fn a_t_cmd a_t_tim a_t_hel v_t_rt v_t_wd v_t_pd a_t_dir v_t_ss v_t_rs a_t_seg), (a_t_tim, rI cI 8 v_t_tim), (a_t_hel, rI cI 8 v_t_hel)]
def fX1_startWaiting (v_t_rt : Int32) (v_t_ss : Int32) (v_t_rs : Int32) (v_t_tim : Nat → Int32) (v_t_hel : Nat → Int32) (p1 : Int32) : Option ((Nat → Int32) × (Nat → Int32)) := ((fX1_switchAt v_t_ss v_t_rs p1).bind (fun q2 => (if q2 = 0 then (some (v_t_tim, v_t_hel)) else (if (p1 < 0 ∨ 8 ≤ (p1).toNatClampNeg) then none else (if q2 = (nI 1) then (if (p1 < 0 ∨ 8 ≤ (p1).toNatClampNeg) then none else (some ((upd v_t_tim (p1).toNatClampNeg v_t_rt), (upd v_t_hel (p1).toNatClampNeg (nI 1))))) else (if (p1 < 0 ∨ 8 ≤ (p1).toNatClampNeg) then none else (some ((upd v_t_tim (p1).toNatClampNeg v_t_rt), (upd v_t_hel (p1).toNatClampNeg (nI 2))))))))))
theorem kd_X1_startWaiting : yX1_startWaiting.cls = RX1 ∧ yX1_startWaiting.cls ≠ "java/lang/invoke/MethodHandle" ∧ yX1_startWaiting.cls ≠ "java/lang/invoke/VarHandle" ∧ (parseMethodDescriptor yX1_startWaiting.desc).map (fun d => d.parameters.length) = some 1 := by decide +kernel
def rm_X1_startWaiting : Room := { frames := 2, cells := 0, slots := 0, locals := 42 }
set_option maxHeartbeats 4000000 in
set_option maxRecDepth 100000 in
theorem k_X1_startWaiting (l : Launch) (D : va_G) (cI cZ : ClassId) (a_t a_t_sh a_t_cmd a_t_tim a_t_hel a_t_dir a_t_seg : Nat) (v_t_fw : Int32) (v_t_fp : Int32) (v_t_fn : Int32) (v_t_rt : Int32) (v_t_wd : Int32) (v_t_pd : Int32) (v_t_ss : Int32) (v_t_rs : Int32) (v_t_tim : Nat → Int32) (v_t_hel : Nat → Int32) (p1 : Int32) (q : (Nat → Int32) × (Nat → Int32)) (hf : fX1_startWaiting v_t_rt v_t_ss v_t_rs v_t_tim v_t_hel p1 = some q) : CV l D cI cZ yX1_startWaiting wsX1_startWaiting rm_X1_startWaiting [.ref a_t, .int p1] (wo_X1_startWaiting cI cZ a_t a_t_sh a_t_cmd a_t_tim a_t_hel a_t_dir a_t_seg v_t_fw v_t_fp v_t_fn v_t_rt v_t_wd v_t_pd v_t_ss v_t_rs v_t_tim v_t_hel) (wo_X1_startWaiting cI cZ a_t a_t_sh a_t_cmd a_t_tim a_t_hel a_t_dir a_t_seg v_t_fw v_t_fp v_t_fn v_t_rt v_t_wd v_t_pd v_t_ss v_t_rs q.1 q.2) := by
  refine CV.mk (cc := cX1_startWaiting) (maxL := 3) (by decide) rfl (Nat.le_of_ble_eq_true rfl) ?_
  intro p e s m below meth c ls A X hP hD hl hS
  have hx := X.1.1
  have hb := X.1.2.1
  have hl : lv_has ls 3 [(0, .ref a_t), (1, .int p1)] := hl
  have inX1 : ∀ w ∈ u_ws RX1 TX1 14, w ∈ wsX1_startWaiting := fun _ h => List.mem_cons_of_mem _ (List.mem_append_right _ h)
  unfold fX1_startWaiting at hf
  refine lv_aload_n hx hb dX1_startWaiting_0 rfl (lv_at hl 0 rfl) ?_
  refine lv_iload_n hx hb dX1_startWaiting_1 rfl (lv_at hl 1 rfl) ?_
  obtain ⟨q2, e2, hf⟩ := bnd hf
  refine callVI X (k_X1_switchAt l D cI cZ a_t a_t_sh a_t_cmd a_t_tim a_t_hel a_t_dir a_t_seg  v_t_fw v_t_fp v_t_fn v_t_rt v_t_wd v_t_pd v_t_ss v_t_rs p1 q2 e2) (cwV 1 X.1.2.2.2.2 gX1_startWaiting_X1_switchAt rfl rfl rfl kd_X1_switchAt ⟨Nat.le_of_ble_eq_true rfl, Nat.le_of_ble_eq_true rfl⟩) hP hD hS hl.1 0 1 rfl rfl [0] (by decide) (wo_X1_startWaiting cI cZ a_t a_t_sh a_t_cmd a_t_tim a_t_hel a_t_dir a_t_seg v_t_fw v_t_fp v_t_fn v_t_rt v_t_wd v_t_pd v_t_ss v_t_rs v_t_tim v_t_hel) rfl rfl rfl rfl rfl (rest := []) rfl (Nat.le_of_ble_eq_true rfl) dX1_startWaiting_2 ⟨Nat.zero_le _, Nat.zero_le _⟩ (fun H locs hP hD hS => ?_)
  refine lv_istore_n (lv' := [(2, .int q2), (0, .ref a_t), (1, .int p1)]) hx hb dX1_startWaiting_5 rfl hl (by decide) rfl (fun ls hl => ?_)
  refine lv_iload_n hx hb dX1_startWaiting_6 rfl (lv_at hl 0 rfl) ?_
  refine lv_if_eq (tgt := 36) hx hb dX1_startWaiting_7 (by decide) (fun hc => ?_) (fun hc => ?_)
  · replace hf := ifp hc hf
    obtain rfl := Option.some.inj hf
    exact retV X hS hP dX1_startWaiting_36
  · replace hf := ifn hc hf
    refine lv_aload_n hx hb dX1_startWaiting_10 rfl (lv_at hl 1 rfl) ?_
    refine getO X hP inX1 0 rfl rfl 5 (by decide) (List.mem_of_getElem? (i := 1) rfl) rfl dX1_startWaiting_11 ?_
    refine lv_iload_n hx hb dX1_startWaiting_14 rfl (lv_at hl 2 rfl) ?_
    refine lv_aload_n hx hb dX1_startWaiting_15 rfl (lv_at hl 1 rfl) ?_
    refine getO X hP inX1 0 rfl rfl 7 (by decide) (List.mem_of_getElem? (i := 2) rfl) rfl dX1_startWaiting_16 ?_
    obtain ⟨g19, hf⟩ := grd hf
    refine astI X hP hD hS 1 rfl g19 rfl dX1_startWaiting_19 (wo_X1_startWaiting cI cZ a_t a_t_sh a_t_cmd a_t_tim a_t_hel a_t_dir a_t_seg v_t_fw v_t_fp v_t_fn v_t_rt v_t_wd v_t_pd v_t_ss v_t_rs (upd v_t_tim (p1).toNatClampNeg v_t_rt) v_t_hel) rfl (fun H locs hP hD hS => ?_)
    refine lv_aload_n hx hb dX1_startWaiting_20 rfl (lv_at hl 1 rfl) ?_
    refine getO X hP inX1 0 rfl rfl 6 (by decide) (List.mem_of_getElem? (i := 3) rfl) rfl dX1_startWaiting_21 ?_
    refine lv_iload_n hx hb dX1_startWaiting_24 rfl (lv_at hl 2 rfl) ?_
    refine lv_iload_n hx hb dX1_startWaiting_25 rfl (lv_at hl 0 rfl) ?_
    refine lv_iconst hx hb dX1_startWaiting_26 ic_1 ?_
    refine lv_icmp_ne (tgt := 34) hx hb dX1_startWaiting_27 (by decide) (fun hc => ?_) (fun hc => ?_)
    · replace hf := ifn hc hf
      refine lv_iconst hx hb dX1_startWaiting_34 ic_2 ?_
      obtain ⟨g35, hf⟩ := grd hf
      refine astI X hP hD hS 2 rfl g35 rfl dX1_startWaiting_35 (wo_X1_startWaiting cI cZ a_t a_t_sh a_t_cmd a_t_tim a_t_hel a_t_dir a_t_seg v_t_fw v_t_fp v_t_fn v_t_rt v_t_wd v_t_pd v_t_ss v_t_rs (upd v_t_tim (p1).toNatClampNeg v_t_rt) (upd v_t_hel (p1).toNatClampNeg (nI 2))) rfl (fun H locs hP hD hS => ?_)
      obtain rfl := Option.some.inj hf
      exact retV X hS hP dX1_startWaiting_36
    · replace hf := ifp hc hf
      refine lv_iconst hx hb dX1_startWaiting_30 ic_1 ?_
      refine lv_goto (tgt := 35) hx hb dX1_startWaiting_31 (by decide) ?_
      obtain ⟨g35, hf⟩ := grd hf
      refine astI X hP hD hS 2 rfl g35 rfl dX1_startWaiting_35 (wo_X1_startWaiting cI cZ a_t a_t_sh a_t_cmd a_t_tim a_t_hel a_t_dir a_t_seg v_t_fw v_t_fp v_t_fn v_t_rt v_t_wd v_t_pd v_t_ss v_t_rs (upd v_t_tim (p1).toNatClampNeg v_t_rt) (upd v_t_hel (p1).toNatClampNeg (nI 1))) rfl (fun H locs hP hD hS => ?_)
      obtain rfl := Option.some.inj hf
      exact retV X hS hP dX1_startWaiting_36

abbrev wo_X1_takeDirectRequest (cI cZ : ClassId) (a_t a_t_sh a_t_cmd a_t_tim a_t_hel a_t_dir a_t_seg : Nat) (v_t_fw : Int32) (v_t_fp : Int32) (v_t_fn : Int32) (v_t_rt : Int32) (v_t_wd : Int32) (v_t_pd : Int32) (v_t_ss : Int32) (v_t_rs : Int32) (v_t_cmd : Nat → Int32) (v_t_tim : Nat → Int32) (v_t_hel : Nat → Int32) (v_t_dir : Nat → Int32) : va_W := [(a_t, oX1 a_t_sh v_t_fw v_t_fp v_t_fn a_t_cmd a_t_tim a_t_hel v_t_rt v_t_wd v_t_pd a_t_dir v_t_ss v_t_rs a_t_seg), (a_t_cmd, rI cI 8 v_t_cmd), (a_t_tim, rI cI 8 v_t_tim), (a_t_hel, rI cI 8 v_t_hel), (a_t_dir, rI cI 8 v_t_dir)]
def fX1_takeDirectRequest (v_t_rt : Int32) (v_t_wd : Int32) (v_t_pd : Int32) (v_t_ss : Int32) (v_t_rs : Int32) (v_t_cmd : Nat → Int32) (v_t_tim : Nat → Int32) (v_t_hel : Nat → Int32) (v_t_dir : Nat → Int32) (p1 : Int32) : Option ((Nat → Int32) × (Nat → Int32) × (Nat → Int32)) := ((fX1_requestOfFailures v_t_wd v_t_pd p1).bind (fun q2 => ((fX1_requestOfCommand v_t_pd v_t_cmd p1).bind (fun q7 => (if (p1 < 0 ∨ 8 ≤ (p1).toNatClampNeg) then none else (if (if q2 < q7 then q7 else q2) = 0 then (if (v_t_dir (p1).toNatClampNeg) = (nI 5) then (if v_t_rt ≤ 0 then (if (p1 < 0 ∨ 8 ≤ (p1).toNatClampNeg) then none else (some (v_t_tim, v_t_hel, (upd v_t_dir (p1).toNatClampNeg (if q2 < q7 then q7 else q2))))) else ((fX1_startWaiting v_t_rt v_t_ss v_t_rs v_t_tim v_t_hel p1).bind (fun q55 => (if (p1 < 0 ∨ 8 ≤ (p1).toNatClampNeg) then none else (some (q55.1, q55.2, (upd v_t_dir (p1).toNatClampNeg (if q2 < q7 then q7 else q2)))))))) else (if (v_t_dir (p1).toNatClampNeg) = (nI 6) then (if v_t_rt ≤ 0 then (if (p1 < 0 ∨ 8 ≤ (p1).toNatClampNeg) then none else (some (v_t_tim, v_t_hel, (upd v_t_dir (p1).toNatClampNeg (if q2 < q7 then q7 else q2))))) else ((fX1_startWaiting v_t_rt v_t_ss v_t_rs v_t_tim v_t_hel p1).bind (fun q55 => (if (p1 < 0 ∨ 8 ≤ (p1).toNatClampNeg) then none else (some (q55.1, q55.2, (upd v_t_dir (p1).toNatClampNeg (if q2 < q7 then q7 else q2)))))))) else (if (p1 < 0 ∨ 8 ≤ (p1).toNatClampNeg) then none else (some (v_t_tim, v_t_hel, (upd v_t_dir (p1).toNatClampNeg (if q2 < q7 then q7 else q2))))))) else (if (p1 < 0 ∨ 8 ≤ (p1).toNatClampNeg) then none else (if (p1 < 0 ∨ 8 ≤ (p1).toNatClampNeg) then none else (some ((upd v_t_tim (p1).toNatClampNeg 0), v_t_hel, (upd v_t_dir (p1).toNatClampNeg (if q2 < q7 then q7 else q2))))))))))))
theorem kd_X1_takeDirectRequest : yX1_takeDirectRequest.cls = RX1 ∧ yX1_takeDirectRequest.cls ≠ "java/lang/invoke/MethodHandle" ∧ yX1_takeDirectRequest.cls ≠ "java/lang/invoke/VarHandle" ∧ (parseMethodDescriptor yX1_takeDirectRequest.desc).map (fun d => d.parameters.length) = some 1 := by decide +kernel
def rm_X1_takeDirectRequest : Room := { frames := 3, cells := 0, slots := 0, locals := 64 }
set_option maxHeartbeats 4000000 in
set_option maxRecDepth 100000 in
theorem k_X1_takeDirectRequest (l : Launch) (D : va_G) (cI cZ : ClassId) (a_t a_t_sh a_t_cmd a_t_tim a_t_hel a_t_dir a_t_seg : Nat) (v_t_fw : Int32) (v_t_fp : Int32) (v_t_fn : Int32) (v_t_rt : Int32) (v_t_wd : Int32) (v_t_pd : Int32) (v_t_ss : Int32) (v_t_rs : Int32) (v_t_cmd : Nat → Int32) (v_t_tim : Nat → Int32) (v_t_hel : Nat → Int32) (v_t_dir : Nat → Int32) (p1 : Int32) (q : (Nat → Int32) × (Nat → Int32) × (Nat → Int32)) (hf : fX1_takeDirectRequest v_t_rt v_t_wd v_t_pd v_t_ss v_t_rs v_t_cmd v_t_tim v_t_hel v_t_dir p1 = some q) : CV l D cI cZ yX1_takeDirectRequest wsX1_takeDirectRequest rm_X1_takeDirectRequest [.ref a_t, .int p1] (wo_X1_takeDirectRequest cI cZ a_t a_t_sh a_t_cmd a_t_tim a_t_hel a_t_dir a_t_seg v_t_fw v_t_fp v_t_fn v_t_rt v_t_wd v_t_pd v_t_ss v_t_rs v_t_cmd v_t_tim v_t_hel v_t_dir) (wo_X1_takeDirectRequest cI cZ a_t a_t_sh a_t_cmd a_t_tim a_t_hel a_t_dir a_t_seg v_t_fw v_t_fp v_t_fn v_t_rt v_t_wd v_t_pd v_t_ss v_t_rs v_t_cmd q.1 q.2.1 q.2.2) := by
  refine CV.mk (cc := cX1_takeDirectRequest) (maxL := 4) (by decide) rfl (Nat.le_of_ble_eq_true rfl) ?_
  intro p e s m below meth c ls A X hP hD hl hS
  have hx := X.1.1
  have hb := X.1.2.1
  have hl : lv_has ls 4 [(0, .ref a_t), (1, .int p1)] := hl
  have inX1 : ∀ w ∈ u_ws RX1 TX1 14, w ∈ wsX1_takeDirectRequest := fun _ h => List.mem_cons_of_mem _ (List.mem_append_right _ h)
  unfold fX1_takeDirectRequest at hf
  refine lv_aload_n hx hb dX1_takeDirectRequest_0 rfl (lv_at hl 0 rfl) ?_
  refine lv_iload_n hx hb dX1_takeDirectRequest_1 rfl (lv_at hl 1 rfl) ?_
  obtain ⟨q2, e2, hf⟩ := bnd hf
  refine callVI X (k_X1_requestOfFailures l D cI cZ a_t a_t_sh a_t_cmd a_t_tim a_t_hel a_t_dir a_t_seg  v_t_fw v_t_fp v_t_fn v_t_rt v_t_wd v_t_pd v_t_ss v_t_rs p1 q2 e2) (cwV 1 X.1.2.2.2.2 gX1_takeDirectRequest_X1_requestOfFailures rfl rfl rfl kd_X1_requestOfFailures ⟨Nat.le_of_ble_eq_true rfl, Nat.le_of_ble_eq_true rfl⟩) hP hD hS hl.1 0 1 rfl rfl [0] (by decide) (wo_X1_takeDirectRequest cI cZ a_t a_t_sh a_t_cmd a_t_tim a_t_hel a_t_dir a_t_seg v_t_fw v_t_fp v_t_fn v_t_rt v_t_wd v_t_pd v_t_ss v_t_rs v_t_cmd v_t_tim v_t_hel v_t_dir) rfl rfl rfl rfl rfl (rest := []) rfl (Nat.le_of_ble_eq_true rfl) dX1_takeDirectRequest_2 ⟨Nat.zero_le _, Nat.zero_le _⟩ (fun H locs hP hD hS => ?_)
  refine lv_aload_n hx hb dX1_takeDirectRequest_5 rfl (lv_at hl 0 rfl) ?_
  refine lv_iload_n hx hb dX1_takeDirectRequest_6 rfl (lv_at hl 1 rfl) ?_
  obtain ⟨q7, e7, hf⟩ := bnd hf
  refine callVI X (k_X1_requestOfCommand l D cI cZ a_t a_t_sh a_t_cmd a_t_tim a_t_hel a_t_dir a_t_seg  v_t_fw v_t_fp v_t_fn v_t_rt v_t_wd v_t_pd v_t_ss v_t_rs v_t_cmd p1 q7 e7) (cwV 1 X.1.2.2.2.2 gX1_takeDirectRequest_X1_requestOfCommand rfl rfl rfl kd_X1_requestOfCommand ⟨Nat.le_of_ble_eq_true rfl, Nat.le_of_ble_eq_true rfl⟩) hP hD hS hl.1 0 1 rfl rfl [0, 1] (by decide) (wo_X1_takeDirectRequest cI cZ a_t a_t_sh a_t_cmd a_t_tim a_t_hel a_t_dir a_t_seg v_t_fw v_t_fp v_t_fn v_t_rt v_t_wd v_t_pd v_t_ss v_t_rs v_t_cmd v_t_tim v_t_hel v_t_dir) rfl rfl rfl rfl rfl (rest := [.int q2]) rfl (Nat.le_of_ble_eq_true rfl) dX1_takeDirectRequest_7 ⟨Nat.zero_le _, Nat.zero_le _⟩ (fun H locs hP hD hS => ?_)
  refine va_mmax hx hb (X.1.2.2.1.trans hl.1.symm) X.1.2.2.2.1 (X.1.2.2.2.2 _ (List.mem_of_getElem? (i := 1) rfl)) (X.1.2.2.2.2 _ (List.mem_of_getElem? (i := 2) rfl)) (X.1.2.2.2.2 _ (List.mem_of_getElem? (i := 3) rfl)) (X.1.2.2.2.2 _ (List.mem_of_getElem? (i := 4) rfl)) (Nat.le_of_ble_eq_true rfl) (Nat.le_of_ble_eq_true rfl) (Nat.zero_le _) (Nat.zero_le _) dX1_takeDirectRequest_10 ?_
  refine lv_istore_n (lv' := [(2, .int (if q2 < q7 then q7 else q2)), (0, .ref a_t), (1, .int p1)]) hx hb dX1_takeDirectRequest_13 rfl hl (by decide) rfl (fun ls hl => ?_)
  refine lv_aload_n hx hb dX1_takeDirectRequest_14 rfl (lv_at hl 1 rfl) ?_
  refine getO X hP inX1 0 rfl rfl 10 (by decide) (List.mem_of_getElem? (i := 5) rfl) rfl dX1_takeDirectRequest_15 ?_
  refine lv_iload_n hx hb dX1_takeDirectRequest_18 rfl (lv_at hl 2 rfl) ?_
  obtain ⟨g19, hf⟩ := grd hf
  refine aldI X hP 4 rfl g19 rfl dX1_takeDirectRequest_19 ?_
  refine lv_istore_n (lv' := [(3, .int (v_t_dir (p1).toNatClampNeg)), (2, .int (if q2 < q7 then q7 else q2)), (0, .ref a_t), (1, .int p1)]) hx hb dX1_takeDirectRequest_20 rfl hl (by decide) rfl (fun ls hl => ?_)
  refine lv_iload_n hx hb dX1_takeDirectRequest_21 rfl (lv_at hl 1 rfl) ?_
  refine lv_if_eq (tgt := 35) hx hb dX1_takeDirectRequest_22 (by decide) (fun hc => ?_) (fun hc => ?_)
  · replace hf := ifp hc hf
    refine lv_iload_n hx hb dX1_takeDirectRequest_35 rfl (lv_at hl 0 rfl) ?_
    refine lv_iconst hx hb dX1_takeDirectRequest_36 ic_5 ?_
    refine lv_icmp_eq (tgt := 46) hx hb dX1_takeDirectRequest_37 (by decide) (fun hc => ?_) (fun hc => ?_)
    · replace hf := ifp hc hf
      refine lv_aload_n hx hb dX1_takeDirectRequest_46 rfl (lv_at hl 2 rfl) ?_
      refine getO X hP inX1 0 rfl rfl 7 (by decide) (List.mem_of_getElem? (i := 7) rfl) rfl dX1_takeDirectRequest_47 ?_
      refine lv_if_le (tgt := 58) hx hb dX1_takeDirectRequest_50 (by decide) (fun hc => ?_) (fun hc => ?_)
      · replace hf := ifp hc hf
        refine lv_aload_n hx hb dX1_takeDirectRequest_58 rfl (lv_at hl 2 rfl) ?_
        refine getO X hP inX1 0 rfl rfl 10 (by decide) (List.mem_of_getElem? (i := 5) rfl) rfl dX1_takeDirectRequest_59 ?_
        refine lv_iload_n hx hb dX1_takeDirectRequest_62 rfl (lv_at hl 3 rfl) ?_
        refine lv_iload_n hx hb dX1_takeDirectRequest_63 rfl (lv_at hl 1 rfl) ?_
        obtain ⟨g64, hf⟩ := grd hf
        refine astI X hP hD hS 4 rfl g64 rfl dX1_takeDirectRequest_64 (wo_X1_takeDirectRequest cI cZ a_t a_t_sh a_t_cmd a_t_tim a_t_hel a_t_dir a_t_seg v_t_fw v_t_fp v_t_fn v_t_rt v_t_wd v_t_pd v_t_ss v_t_rs v_t_cmd v_t_tim v_t_hel (upd v_t_dir (p1).toNatClampNeg (if q2 < q7 then q7 else q2))) rfl (fun H locs hP hD hS => ?_)
        obtain rfl := Option.some.inj hf
        exact retV X hS hP dX1_takeDirectRequest_65
      · replace hf := ifn hc hf
        refine lv_aload_n hx hb dX1_takeDirectRequest_53 rfl (lv_at hl 2 rfl) ?_
        refine lv_iload_n hx hb dX1_takeDirectRequest_54 rfl (lv_at hl 3 rfl) ?_
        obtain ⟨q55, e55, hf⟩ := bnd hf
        refine callVV X (k_X1_startWaiting l D cI cZ a_t a_t_sh a_t_cmd a_t_tim a_t_hel a_t_dir a_t_seg  v_t_fw v_t_fp v_t_fn v_t_rt v_t_wd v_t_pd v_t_ss v_t_rs v_t_tim v_t_hel p1 q55 e55) (cwV 1 X.1.2.2.2.2 gX1_takeDirectRequest_X1_startWaiting rfl rfl rfl kd_X1_startWaiting ⟨Nat.le_of_ble_eq_true rfl, Nat.le_of_ble_eq_true rfl⟩) hP hD hS hl.1 0 1 rfl rfl [0, 2, 3] (by decide) (wo_X1_takeDirectRequest cI cZ a_t a_t_sh a_t_cmd a_t_tim a_t_hel a_t_dir a_t_seg v_t_fw v_t_fp v_t_fn v_t_rt v_t_wd v_t_pd v_t_ss v_t_rs v_t_cmd q55.1 q55.2 v_t_dir) rfl rfl rfl rfl rfl (rest := []) rfl (Nat.le_of_ble_eq_true rfl) dX1_takeDirectRequest_55 ⟨Nat.zero_le _, Nat.zero_le _⟩ (fun H locs hP hD hS => ?_)
        refine lv_aload_n hx hb dX1_takeDirectRequest_58 rfl (lv_at hl 2 rfl) ?_
        refine getO X hP inX1 0 rfl rfl 10 (by decide) (List.mem_of_getElem? (i := 5) rfl) rfl dX1_takeDirectRequest_59 ?_
        refine lv_iload_n hx hb dX1_takeDirectRequest_62 rfl (lv_at hl 3 rfl) ?_
        refine lv_iload_n hx hb dX1_takeDirectRequest_63 rfl (lv_at hl 1 rfl) ?_
        obtain ⟨g64, hf⟩ := grd hf
        refine astI X hP hD hS 4 rfl g64 rfl dX1_takeDirectRequest_64 (wo_X1_takeDirectRequest cI cZ a_t a_t_sh a_t_cmd a_t_tim a_t_hel a_t_dir a_t_seg v_t_fw v_t_fp v_t_fn v_t_rt v_t_wd v_t_pd v_t_ss v_t_rs v_t_cmd q55.1 q55.2 (upd v_t_dir (p1).toNatClampNeg (if q2 < q7 then q7 else q2))) rfl (fun H locs hP hD hS => ?_)
        obtain rfl := Option.some.inj hf
        exact retV X hS hP dX1_takeDirectRequest_65
    · replace hf := ifn hc hf
      refine lv_iload_n hx hb dX1_takeDirectRequest_40 rfl (lv_at hl 0 rfl) ?_
      refine lv_bipush hx hb dX1_takeDirectRequest_41 bp_6 ?_
      refine lv_icmp_ne (tgt := 58) hx hb dX1_takeDirectRequest_43 (by decide) (fun hc => ?_) (fun hc => ?_)
      · replace hf := ifn hc hf
        refine lv_aload_n hx hb dX1_takeDirectRequest_58 rfl (lv_at hl 2 rfl) ?_
        refine getO X hP inX1 0 rfl rfl 10 (by decide) (List.mem_of_getElem? (i := 5) rfl) rfl dX1_takeDirectRequest_59 ?_
        refine lv_iload_n hx hb dX1_takeDirectRequest_62 rfl (lv_at hl 3 rfl) ?_
        refine lv_iload_n hx hb dX1_takeDirectRequest_63 rfl (lv_at hl 1 rfl) ?_
        obtain ⟨g64, hf⟩ := grd hf
        refine astI X hP hD hS 4 rfl g64 rfl dX1_takeDirectRequest_64 (wo_X1_takeDirectRequest cI cZ a_t a_t_sh a_t_cmd a_t_tim a_t_hel a_t_dir a_t_seg v_t_fw v_t_fp v_t_fn v_t_rt v_t_wd v_t_pd v_t_ss v_t_rs v_t_cmd v_t_tim v_t_hel (upd v_t_dir (p1).toNatClampNeg (if q2 < q7 then q7 else q2))) rfl (fun H locs hP hD hS => ?_)
        obtain rfl := Option.some.inj hf
        exact retV X hS hP dX1_takeDirectRequest_65
      · replace hf := ifp hc hf
        refine lv_aload_n hx hb dX1_takeDirectRequest_46 rfl (lv_at hl 2 rfl) ?_
        refine getO X hP inX1 0 rfl rfl 7 (by decide) (List.mem_of_getElem? (i := 7) rfl) rfl dX1_takeDirectRequest_47 ?_
        refine lv_if_le (tgt := 58) hx hb dX1_takeDirectRequest_50 (by decide) (fun hc => ?_) (fun hc => ?_)
        · replace hf := ifp hc hf
          refine lv_aload_n hx hb dX1_takeDirectRequest_58 rfl (lv_at hl 2 rfl) ?_
          refine getO X hP inX1 0 rfl rfl 10 (by decide) (List.mem_of_getElem? (i := 5) rfl) rfl dX1_takeDirectRequest_59 ?_
          refine lv_iload_n hx hb dX1_takeDirectRequest_62 rfl (lv_at hl 3 rfl) ?_
          refine lv_iload_n hx hb dX1_takeDirectRequest_63 rfl (lv_at hl 1 rfl) ?_
          obtain ⟨g64, hf⟩ := grd hf
          refine astI X hP hD hS 4 rfl g64 rfl dX1_takeDirectRequest_64 (wo_X1_takeDirectRequest cI cZ a_t a_t_sh a_t_cmd a_t_tim a_t_hel a_t_dir a_t_seg v_t_fw v_t_fp v_t_fn v_t_rt v_t_wd v_t_pd v_t_ss v_t_rs v_t_cmd v_t_tim v_t_hel (upd v_t_dir (p1).toNatClampNeg (if q2 < q7 then q7 else q2))) rfl (fun H locs hP hD hS => ?_)
          obtain rfl := Option.some.inj hf
          exact retV X hS hP dX1_takeDirectRequest_65
        · replace hf := ifn hc hf
          refine lv_aload_n hx hb dX1_takeDirectRequest_53 rfl (lv_at hl 2 rfl) ?_
          refine lv_iload_n hx hb dX1_takeDirectRequest_54 rfl (lv_at hl 3 rfl) ?_
          obtain ⟨q55, e55, hf⟩ := bnd hf
          refine callVV X (k_X1_startWaiting l D cI cZ a_t a_t_sh a_t_cmd a_t_tim a_t_hel a_t_dir a_t_seg  v_t_fw v_t_fp v_t_fn v_t_rt v_t_wd v_t_pd v_t_ss v_t_rs v_t_tim v_t_hel p1 q55 e55) (cwV 1 X.1.2.2.2.2 gX1_takeDirectRequest_X1_startWaiting rfl rfl rfl kd_X1_startWaiting ⟨Nat.le_of_ble_eq_true rfl, Nat.le_of_ble_eq_true rfl⟩) hP hD hS hl.1 0 1 rfl rfl [0, 2, 3] (by decide) (wo_X1_takeDirectRequest cI cZ a_t a_t_sh a_t_cmd a_t_tim a_t_hel a_t_dir a_t_seg v_t_fw v_t_fp v_t_fn v_t_rt v_t_wd v_t_pd v_t_ss v_t_rs v_t_cmd q55.1 q55.2 v_t_dir) rfl rfl rfl rfl rfl (rest := []) rfl (Nat.le_of_ble_eq_true rfl) dX1_takeDirectRequest_55 ⟨Nat.zero_le _, Nat.zero_le _⟩ (fun H locs hP hD hS => ?_)
          refine lv_aload_n hx hb dX1_takeDirectRequest_58 rfl (lv_at hl 2 rfl) ?_
          refine getO X hP inX1 0 rfl rfl 10 (by decide) (List.mem_of_getElem? (i := 5) rfl) rfl dX1_takeDirectRequest_59 ?_
          refine lv_iload_n hx hb dX1_takeDirectRequest_62 rfl (lv_at hl 3 rfl) ?_
          refine lv_iload_n hx hb dX1_takeDirectRequest_63 rfl (lv_at hl 1 rfl) ?_
          obtain ⟨g64, hf⟩ := grd hf
          refine astI X hP hD hS 4 rfl g64 rfl dX1_takeDirectRequest_64 (wo_X1_takeDirectRequest cI cZ a_t a_t_sh a_t_cmd a_t_tim a_t_hel a_t_dir a_t_seg v_t_fw v_t_fp v_t_fn v_t_rt v_t_wd v_t_pd v_t_ss v_t_rs v_t_cmd q55.1 q55.2 (upd v_t_dir (p1).toNatClampNeg (if q2 < q7 then q7 else q2))) rfl (fun H locs hP hD hS => ?_)
          obtain rfl := Option.some.inj hf
          exact retV X hS hP dX1_takeDirectRequest_65
  · replace hf := ifn hc hf
    refine lv_aload_n hx hb dX1_takeDirectRequest_25 rfl (lv_at hl 2 rfl) ?_
    refine getO X hP inX1 0 rfl rfl 5 (by decide) (List.mem_of_getElem? (i := 6) rfl) rfl dX1_takeDirectRequest_26 ?_
    refine lv_iload_n hx hb dX1_takeDirectRequest_29 rfl (lv_at hl 3 rfl) ?_
    refine lv_iconst hx hb dX1_takeDirectRequest_30 ic_0 ?_
    obtain ⟨g31, hf⟩ := grd hf
    refine astI X hP hD hS 2 rfl g31 rfl dX1_takeDirectRequest_31 (wo_X1_takeDirectRequest cI cZ a_t a_t_sh a_t_cmd a_t_tim a_t_hel a_t_dir a_t_seg v_t_fw v_t_fp v_t_fn v_t_rt v_t_wd v_t_pd v_t_ss v_t_rs v_t_cmd (upd v_t_tim (p1).toNatClampNeg 0) v_t_hel v_t_dir) rfl (fun H locs hP hD hS => ?_)
    refine lv_goto (tgt := 58) hx hb dX1_takeDirectRequest_32 (by decide) ?_
    refine lv_aload_n hx hb dX1_takeDirectRequest_58 rfl (lv_at hl 2 rfl) ?_
    refine getO X hP inX1 0 rfl rfl 10 (by decide) (List.mem_of_getElem? (i := 5) rfl) rfl dX1_takeDirectRequest_59 ?_
    refine lv_iload_n hx hb dX1_takeDirectRequest_62 rfl (lv_at hl 3 rfl) ?_
    refine lv_iload_n hx hb dX1_takeDirectRequest_63 rfl (lv_at hl 1 rfl) ?_
    obtain ⟨g64, hf⟩ := grd hf
    refine astI X hP hD hS 4 rfl g64 rfl dX1_takeDirectRequest_64 (wo_X1_takeDirectRequest cI cZ a_t a_t_sh a_t_cmd a_t_tim a_t_hel a_t_dir a_t_seg v_t_fw v_t_fp v_t_fn v_t_rt v_t_wd v_t_pd v_t_ss v_t_rs v_t_cmd (upd v_t_tim (p1).toNatClampNeg 0) v_t_hel (upd v_t_dir (p1).toNatClampNeg (if q2 < q7 then q7 else q2))) rfl (fun H locs hP hD hS => ?_)
    obtain rfl := Option.some.inj hf
    exact retV X hS hP dX1_takeDirectRequest_65

abbrev wo_X1_isLockedOut (cI cZ : ClassId) (a_t a_t_sh a_t_cmd a_t_tim a_t_hel a_t_dir a_t_seg : Nat) (v_t_fw : Int32) (v_t_fp : Int32) (v_t_fn : Int32) (v_t_rt : Int32) (v_t_wd : Int32) (v_t_pd : Int32) (v_t_ss : Int32) (v_t_rs : Int32) (v_t_sh_nd : Int32) (v_t_sh_sn : Int32) (v_t_tim : Nat → Int32) (v_t_hel : Nat → Int32) (v_t_dir : Nat → Int32) : va_W := [(a_t, oX1 a_t_sh v_t_fw v_t_fp v_t_fn a_t_cmd a_t_tim a_t_hel v_t_rt v_t_wd v_t_pd a_t_dir v_t_ss v_t_rs a_t_seg), (a_t_sh, oX2 v_t_sh_nd v_t_sh_sn), (a_t_tim, rI cI 8 v_t_tim), (a_t_hel, rI cI 8 v_t_hel), (a_t_dir, rI cI 8 v_t_dir)]
def fX1_isLockedOut_L2 (v_t_sh_nd : Int32) (v_t_tim : Nat → Int32) (v_t_hel : Nat → Int32) (v_t_dir : Nat → Int32) (K : Int32 → Option (Bool)) : Nat → Int32 → Option (Bool)
  | 0, _ => none
  | k + 1, x1_2 => (if v_t_sh_nd ≤ x1_2 then (K x1_2) else ((fX1_requestAt v_t_sh_nd v_t_tim v_t_hel v_t_dir x1_2).bind (fun q15 => (if q15 = (nI 9) then (some true) else (fX1_isLockedOut_L2 v_t_sh_nd v_t_tim v_t_hel v_t_dir K k (x1_2 + nI 1))))))
def fX1_isLockedOut (v_t_sh_nd : Int32) (v_t_tim : Nat → Int32) (v_t_hel : Nat → Int32) (v_t_dir : Nat → Int32) : Option (Bool) := (fX1_isLockedOut_L2 v_t_sh_nd v_t_tim v_t_hel v_t_dir (fun x1_2 => (some false)) FU 0)
theorem kd_X1_isLockedOut : yX1_isLockedOut.cls = RX1 ∧ yX1_isLockedOut.cls ≠ "java/lang/invoke/MethodHandle" ∧ yX1_isLockedOut.cls ≠ "java/lang/invoke/VarHandle" ∧ (parseMethodDescriptor yX1_isLockedOut.desc).map (fun d => d.parameters.length) = some 0 := by decide +kernel
def rm_X1_isLockedOut : Room := { frames := 2, cells := 0, slots := 0, locals := 43 }
set_option maxHeartbeats 4000000 in
set_option maxRecDepth 100000 in
theorem k_X1_isLockedOut (l : Launch) (D : va_G) (cI cZ : ClassId) (a_t a_t_sh a_t_cmd a_t_tim a_t_hel a_t_dir a_t_seg : Nat) (v_t_fw : Int32) (v_t_fp : Int32) (v_t_fn : Int32) (v_t_rt : Int32) (v_t_wd : Int32) (v_t_pd : Int32) (v_t_ss : Int32) (v_t_rs : Int32) (v_t_sh_nd : Int32) (v_t_sh_sn : Int32) (v_t_tim : Nat → Int32) (v_t_hel : Nat → Int32) (v_t_dir : Nat → Int32) (q : Bool) (hf : fX1_isLockedOut v_t_sh_nd v_t_tim v_t_hel v_t_dir = some q) : CI l D cI cZ yX1_isLockedOut wsX1_isLockedOut rm_X1_isLockedOut [.ref a_t] (wo_X1_isLockedOut cI cZ a_t a_t_sh a_t_cmd a_t_tim a_t_hel a_t_dir a_t_seg v_t_fw v_t_fp v_t_fn v_t_rt v_t_wd v_t_pd v_t_ss v_t_rs v_t_sh_nd v_t_sh_sn v_t_tim v_t_hel v_t_dir) (wo_X1_isLockedOut cI cZ a_t a_t_sh a_t_cmd a_t_tim a_t_hel a_t_dir a_t_seg v_t_fw v_t_fp v_t_fn v_t_rt v_t_wd v_t_pd v_t_ss v_t_rs v_t_sh_nd v_t_sh_sn v_t_tim v_t_hel v_t_dir) (b2i q) := by
  refine CI.mk (cc := cX1_isLockedOut) (maxL := 2) (by decide) rfl (Nat.le_of_ble_eq_true rfl) ?_
  intro p e s m below meth c ls A X hP hD hl hS
  have hx := X.1.1
  have hb := X.1.2.1
  have hl : lv_has ls 2 [(0, .ref a_t)] := hl
  have inX1 : ∀ w ∈ u_ws RX1 TX1 14, w ∈ wsX1_isLockedOut := fun _ h => List.mem_cons_of_mem _ (List.mem_append_left _ (List.mem_append_right _ h))
  have inX2 : ∀ w ∈ u_ws RX2 TX2 2, w ∈ wsX1_isLockedOut := fun _ h => List.mem_cons_of_mem _ (List.mem_append_right _ h)
  have L2 : ∀ (K : Int32 → Option (Bool)) (hKK : ∀ (x1_2 : Int32) (H : Heap) (locs : List Loc) (ls : Array Slot), K x1_2 = some q → va_P D vwCl (wo_X1_isLockedOut cI cZ a_t a_t_sh a_t_cmd a_t_tim a_t_hel a_t_dir a_t_seg v_t_fw v_t_fp v_t_fn v_t_rt v_t_wd v_t_pd v_t_ss v_t_rs v_t_sh_nd v_t_sh_sn v_t_tim v_t_hel v_t_dir) H → va_D A (wo_X1_isLockedOut cI cZ a_t a_t_sh a_t_cmd a_t_tim a_t_hel a_t_dir a_t_seg v_t_fw v_t_fp v_t_fn v_t_rt v_t_wd v_t_pd v_t_ss v_t_rs v_t_sh_nd v_t_sh_sn v_t_tim v_t_hel v_t_dir) → va_S A s.heap H locs → lv_has ls 2 [] → W p l e rm_X1_isLockedOut s m ([.ref a_t] : List Value).toArray below meth c H locs 0 0 (MQ below (QI D (wo_X1_isLockedOut cI cZ a_t a_t_sh a_t_cmd a_t_tim a_t_hel a_t_dir a_t_seg v_t_fw v_t_fp v_t_fn v_t_rt v_t_wd v_t_pd v_t_ss v_t_rs v_t_sh_nd v_t_sh_sn v_t_tim v_t_hel v_t_dir) (b2i q) A) ([.ref a_t] : List Value).toArray s 0 0 A) (F0 m 31 ls [])) (k : Nat) (x1_2 : Int32) (H : Heap) (locs : List Loc) (ls : Array Slot), fX1_isLockedOut_L2 v_t_sh_nd v_t_tim v_t_hel v_t_dir K k x1_2 = some q → va_P D vwCl (wo_X1_isLockedOut cI cZ a_t a_t_sh a_t_cmd a_t_tim a_t_hel a_t_dir a_t_seg v_t_fw v_t_fp v_t_fn v_t_rt v_t_wd v_t_pd v_t_ss v_t_rs v_t_sh_nd v_t_sh_sn v_t_tim v_t_hel v_t_dir) H → va_D A (wo_X1_isLockedOut cI cZ a_t a_t_sh a_t_cmd a_t_tim a_t_hel a_t_dir a_t_seg v_t_fw v_t_fp v_t_fn v_t_rt v_t_wd v_t_pd v_t_ss v_t_rs v_t_sh_nd v_t_sh_sn v_t_tim v_t_hel v_t_dir) → va_S A s.heap H locs → lv_has ls 2 [(0, .ref a_t), (1, .int x1_2)] → W p l e rm_X1_isLockedOut s m ([.ref a_t] : List Value).toArray below meth c H locs 0 0 (MQ below (QI D (wo_X1_isLockedOut cI cZ a_t a_t_sh a_t_cmd a_t_tim a_t_hel a_t_dir a_t_seg v_t_fw v_t_fp v_t_fn v_t_rt v_t_wd v_t_pd v_t_ss v_t_rs v_t_sh_nd v_t_sh_sn v_t_tim v_t_hel v_t_dir) (b2i q) A) ([.ref a_t] : List Value).toArray s 0 0 A) (F0 m 2 ls []) := by
    intro K hKK k
    induction k with
    | zero => intro x1_2 H locs ls hf; rw [fX1_isLockedOut_L2] at hf; cases hf
    | succ k ih =>
      intro x1_2 H locs ls hf hP hD hS hl
      rw [fX1_isLockedOut_L2] at hf
      refine lv_iload_n hx hb dX1_isLockedOut_2 rfl (lv_at hl 1 rfl) ?_
      refine lv_aload_n hx hb dX1_isLockedOut_3 rfl (lv_at hl 0 rfl) ?_
      refine getO X hP inX1 0 rfl rfl 0 (by decide) (List.mem_of_getElem? (i := 1) rfl) rfl dX1_isLockedOut_4 ?_
      refine getN X hP inX2 1 rfl rfl 0 (by decide) 1 rfl rfl dX1_isLockedOut_7 ?_
      refine lv_icmp_ge (tgt := 31) hx hb dX1_isLockedOut_10 (by decide) (fun hc => ?_) (fun hc => ?_)
      · replace hf := ifp hc hf
        exact hKK _ _ _ ls hf hP hD hS (lv_sub hl [] rfl)
      · replace hf := ifn hc hf
        refine lv_aload_n hx hb dX1_isLockedOut_13 rfl (lv_at hl 0 rfl) ?_
        refine lv_iload_n hx hb dX1_isLockedOut_14 rfl (lv_at hl 1 rfl) ?_
        obtain ⟨q15, e15, hf⟩ := bnd hf
        refine callVI X (k_X1_requestAt l D cI cZ a_t a_t_sh a_t_cmd a_t_tim a_t_hel a_t_dir a_t_seg  v_t_fw v_t_fp v_t_fn v_t_rt v_t_wd v_t_pd v_t_ss v_t_rs v_t_sh_nd v_t_sh_sn v_t_tim v_t_hel v_t_dir x1_2 q15 e15) (cwV 1 X.1.2.2.2.2 gX1_isLockedOut_X1_requestAt rfl rfl rfl kd_X1_requestAt ⟨Nat.le_of_ble_eq_true rfl, Nat.le_of_ble_eq_true rfl⟩) hP hD hS hl.1 0 1 rfl rfl [0, 1, 2, 3, 4] (by decide) (wo_X1_isLockedOut cI cZ a_t a_t_sh a_t_cmd a_t_tim a_t_hel a_t_dir a_t_seg v_t_fw v_t_fp v_t_fn v_t_rt v_t_wd v_t_pd v_t_ss v_t_rs v_t_sh_nd v_t_sh_sn v_t_tim v_t_hel v_t_dir) rfl rfl rfl rfl rfl (rest := []) rfl (Nat.le_of_ble_eq_true rfl) dX1_isLockedOut_15 ⟨Nat.zero_le _, Nat.zero_le _⟩ (fun H locs hP hD hS => ?_)
        refine lv_bipush hx hb dX1_isLockedOut_18 bp_9 ?_
        refine lv_icmp_ne (tgt := 25) hx hb dX1_isLockedOut_20 (by decide) (fun hc => ?_) (fun hc => ?_)
        · replace hf := ifn hc hf
          refine lv_iinc (v := (x1_2 + nI 1)) (lv' := [(1, .int (x1_2 + nI 1)), (0, .ref a_t)]) hx hb dX1_isLockedOut_25 hl (k := 1) rfl (inc_1 _) (by decide) rfl (fun ls hl => ?_)
          refine lv_goto (tgt := 2) hx hb dX1_isLockedOut_28 (by decide) ?_
          exact ih _ _ _ ls hf hP hD hS (lv_sub hl [1, 0] rfl)
        · replace hf := ifp hc hf
          refine lv_iconst hx hb dX1_isLockedOut_23 ic_1 ?_
          obtain rfl := Option.some.inj hf
          exact retB X hS hP rfl rfl dX1_isLockedOut_24
  unfold fX1_isLockedOut at hf
  refine lv_iconst hx hb dX1_isLockedOut_0 ic_0 ?_
  refine lv_istore_n (lv' := [(1, .int 0), (0, .ref a_t)]) hx hb dX1_isLockedOut_1 rfl hl (by decide) rfl (fun ls hl => ?_)
  refine L2 _ (fun x1_2 H locs ls hf hP hD hS hl => ?_) FU _ _ _ ls hf hP hD hS (lv_sub hl [1, 0] rfl)
  refine lv_iconst hx hb dX1_isLockedOut_31 ic_0 ?_
  obtain rfl := Option.some.inj hf
  exact retB X hS hP rfl rfl dX1_isLockedOut_32

abbrev wo_X1_grant (cI cZ : ClassId) (a_t a_t_sh a_t_cmd a_t_tim a_t_hel a_t_dir a_t_seg : Nat) (v_t_fw : Int32) (v_t_fp : Int32) (v_t_fn : Int32) (v_t_rt : Int32) (v_t_wd : Int32) (v_t_pd : Int32) (v_t_ss : Int32) (v_t_rs : Int32) : va_W := [(a_t, oX1 a_t_sh v_t_fw v_t_fp v_t_fn a_t_cmd a_t_tim a_t_hel v_t_rt v_t_wd v_t_pd a_t_dir v_t_ss v_t_rs a_t_seg)]
def fX1_grant (v_t_ss : Int32) (v_t_rs : Int32) (p1 : Int32) (p2 : Int32) (p3 : Int32) : Option (Int32 × Int32) := (if p2 = nI 1 then (if v_t_rs = 0 then (some ((v_t_ss ||| ((nI 1) <<< (p1 &&& 31))), v_t_rs)) else (some (v_t_ss, v_t_rs))) else (if p2 = nI 2 then (if p3 = 0 then (if v_t_ss = 0 then (if v_t_rs = 0 then (some (v_t_ss, (v_t_rs ||| ((nI 1) <<< (p1 &&& 31))))) else (some (v_t_ss, v_t_rs))) else (some (v_t_ss, v_t_rs))) else (some (v_t_ss, v_t_rs))) else (if p2 = nI 3 then (if v_t_rs = 0 then (some ((v_t_ss ||| ((nI 1) <<< (p1 &&& 31))), v_t_rs)) else (some (v_t_ss, v_t_rs))) else (if p2 = nI 4 then (if p3 = 0 then (if v_t_ss = 0 then (if v_t_rs = 0 then (some (v_t_ss, (v_t_rs ||| ((nI 1) <<< (p1 &&& 31))))) else (some (v_t_ss, v_t_rs))) else (some (v_t_ss, v_t_rs))) else (some (v_t_ss, v_t_rs))) else (if p2 = nI 5 then (if v_t_rs = 0 then (some ((v_t_ss ||| ((nI 1) <<< (p1 &&& 31))), v_t_rs)) else (some (v_t_ss, v_t_rs))) else (if p2 = nI 6 then (if p3 = 0 then (if v_t_ss = 0 then (some (v_t_ss, (v_t_rs ||| ((nI 1) <<< (p1 &&& 31))))) else (some (v_t_ss, v_t_rs))) else (some (v_t_ss, v_t_rs))) else (if p2 = nI 7 then (if v_t_rs = 0 then (some ((v_t_ss ||| ((nI 1) <<< (p1 &&& 31))), v_t_rs)) else (some (v_t_ss, v_t_rs))) else (if p2 = nI 8 then (if p3 = 0 then (if v_t_ss = 0 then (some (v_t_ss, (v_t_rs ||| ((nI 1) <<< (p1 &&& 31))))) else (some (v_t_ss, v_t_rs))) else (some (v_t_ss, v_t_rs))) else (some (v_t_ss, v_t_rs))))))))))
theorem kd_X1_grant : yX1_grant.cls = RX1 ∧ yX1_grant.cls ≠ "java/lang/invoke/MethodHandle" ∧ yX1_grant.cls ≠ "java/lang/invoke/VarHandle" ∧ (parseMethodDescriptor yX1_grant.desc).map (fun d => d.parameters.length) = some 3 := by decide +kernel
def rm_X1_grant : Room := { frames := 0, cells := 0, slots := 0, locals := 0 }
set_option maxHeartbeats 4000000 in
set_option maxRecDepth 100000 in
theorem k_X1_grant (l : Launch) (D : va_G) (cI cZ : ClassId) (a_t a_t_sh a_t_cmd a_t_tim a_t_hel a_t_dir a_t_seg : Nat) (v_t_fw : Int32) (v_t_fp : Int32) (v_t_fn : Int32) (v_t_rt : Int32) (v_t_wd : Int32) (v_t_pd : Int32) (v_t_ss : Int32) (v_t_rs : Int32) (p1 : Int32) (p2 : Int32) (p3 : Int32) (q : Int32 × Int32) (hf : fX1_grant v_t_ss v_t_rs p1 p2 p3 = some q) : CV l D cI cZ yX1_grant wsX1_grant rm_X1_grant [.ref a_t, .int p1, .int p2, .int p3] (wo_X1_grant cI cZ a_t a_t_sh a_t_cmd a_t_tim a_t_hel a_t_dir a_t_seg v_t_fw v_t_fp v_t_fn v_t_rt v_t_wd v_t_pd v_t_ss v_t_rs) (wo_X1_grant cI cZ a_t a_t_sh a_t_cmd a_t_tim a_t_hel a_t_dir a_t_seg v_t_fw v_t_fp v_t_fn v_t_rt v_t_wd v_t_pd q.1 q.2) := by
  refine CV.mk (cc := cX1_grant) (maxL := 4) (by decide) rfl (Nat.le_of_ble_eq_true rfl) ?_
  intro p e s m below meth c ls A X hP hD hl hS
  have hx := X.1.1
  have hb := X.1.2.1
  have hl : lv_has ls 4 [(0, .ref a_t), (1, .int p1), (2, .int p2), (3, .int p3)] := hl
  have inX1 : ∀ w ∈ u_ws RX1 TX1 14, w ∈ wsX1_grant := fun _ h => List.mem_cons_of_mem _ (List.mem_append_right _ h)
  unfold fX1_grant at hf
  refine lv_iload_n hx hb dX1_grant_0 rfl (lv_at hl 2 rfl) ?_
  by_cases c1 : p2 = nI 1
  · replace hf := ifp c1 hf
    refine lv_tableIn (x := p2) (off := 106) (tgt := 107) hx hb dX1_grant_1 (by rw [c1]; decide) (by rw [c1]; decide) (by rw [c1]; decide +kernel) (by decide) ?_
    refine lv_aload_n hx hb dX1_grant_107 rfl (lv_at hl 0 rfl) ?_
    refine getO X hP inX1 0 rfl rfl 12 (by decide) (List.mem_of_getElem? (i := 2) rfl) rfl dX1_grant_108 ?_
    refine lv_if_ne (tgt := 129) hx hb dX1_grant_111 (by decide) (fun hc => ?_) (fun hc => ?_)
    · replace hf := ifn hc hf
      obtain rfl := Option.some.inj hf
      exact retV X hS hP dX1_grant_129
    · replace hf := ifp hc hf
      refine lv_aload_n hx hb dX1_grant_114 rfl (lv_at hl 0 rfl) ?_
      refine lv_dup hx hb dX1_grant_115 rfl ?_
      refine getO X hP inX1 0 rfl rfl 11 (by decide) (List.mem_of_getElem? (i := 1) rfl) rfl dX1_grant_116 ?_
      refine lv_iconst hx hb dX1_grant_119 ic_1 ?_
      refine lv_iload_n hx hb dX1_grant_120 rfl (lv_at hl 1 rfl) ?_
      refine lv_ishl hx hb dX1_grant_121 ?_
      refine lv_ior hx hb dX1_grant_122 ?_
      refine putO X hP hD hS inX1 tyX1 tyX1_ok nmX1 0 rfl rfl 11 (by decide) (List.mem_of_getElem? (i := 1) rfl) rfl rfl rfl (Nat.le_of_ble_eq_true rfl) dX1_grant_123 (wo_X1_grant cI cZ a_t a_t_sh a_t_cmd a_t_tim a_t_hel a_t_dir a_t_seg v_t_fw v_t_fp v_t_fn v_t_rt v_t_wd v_t_pd (v_t_ss ||| ((nI 1) <<< (p1 &&& 31))) v_t_rs) rfl (fun H locs hP hD hS => ?_)
      refine lv_goto (tgt := 129) hx hb dX1_grant_126 (by decide) ?_
      obtain rfl := Option.some.inj hf
      exact retV X hS hP dX1_grant_129
  replace hf := ifn c1 hf
  by_cases c2 : p2 = nI 2
  · replace hf := ifp c2 hf
    refine lv_tableIn (x := p2) (off := 73) (tgt := 74) hx hb dX1_grant_1 (by rw [c2]; decide) (by rw [c2]; decide) (by rw [c2]; decide +kernel) (by decide) ?_
    refine lv_iload_n hx hb dX1_grant_74 rfl (lv_at hl 3 rfl) ?_
    refine lv_if_ne (tgt := 129) hx hb dX1_grant_75 (by decide) (fun hc => ?_) (fun hc => ?_)
    · replace hf := ifn hc hf
      obtain rfl := Option.some.inj hf
      exact retV X hS hP dX1_grant_129
    · replace hf := ifp hc hf
      refine lv_aload_n hx hb dX1_grant_78 rfl (lv_at hl 0 rfl) ?_
      refine getO X hP inX1 0 rfl rfl 11 (by decide) (List.mem_of_getElem? (i := 1) rfl) rfl dX1_grant_79 ?_
      refine lv_if_ne (tgt := 129) hx hb dX1_grant_82 (by decide) (fun hc => ?_) (fun hc => ?_)
      · replace hf := ifn hc hf
        obtain rfl := Option.some.inj hf
        exact retV X hS hP dX1_grant_129
      · replace hf := ifp hc hf
        refine lv_aload_n hx hb dX1_grant_85 rfl (lv_at hl 0 rfl) ?_
        refine getO X hP inX1 0 rfl rfl 12 (by decide) (List.mem_of_getElem? (i := 2) rfl) rfl dX1_grant_86 ?_
        refine lv_if_ne (tgt := 129) hx hb dX1_grant_89 (by decide) (fun hc => ?_) (fun hc => ?_)
        · replace hf := ifn hc hf
          obtain rfl := Option.some.inj hf
          exact retV X hS hP dX1_grant_129
        · replace hf := ifp hc hf
          refine lv_aload_n hx hb dX1_grant_92 rfl (lv_at hl 0 rfl) ?_
          refine lv_dup hx hb dX1_grant_93 rfl ?_
          refine getO X hP inX1 0 rfl rfl 12 (by decide) (List.mem_of_getElem? (i := 2) rfl) rfl dX1_grant_94 ?_
          refine lv_iconst hx hb dX1_grant_97 ic_1 ?_
          refine lv_iload_n hx hb dX1_grant_98 rfl (lv_at hl 1 rfl) ?_
          refine lv_ishl hx hb dX1_grant_99 ?_
          refine lv_ior hx hb dX1_grant_100 ?_
          refine putO X hP hD hS inX1 tyX1 tyX1_ok nmX1 0 rfl rfl 12 (by decide) (List.mem_of_getElem? (i := 2) rfl) rfl rfl rfl (Nat.le_of_ble_eq_true rfl) dX1_grant_101 (wo_X1_grant cI cZ a_t a_t_sh a_t_cmd a_t_tim a_t_hel a_t_dir a_t_seg v_t_fw v_t_fp v_t_fn v_t_rt v_t_wd v_t_pd v_t_ss (v_t_rs ||| ((nI 1) <<< (p1 &&& 31)))) rfl (fun H locs hP hD hS => ?_)
          refine lv_goto (tgt := 129) hx hb dX1_grant_104 (by decide) ?_
          obtain rfl := Option.some.inj hf
          exact retV X hS hP dX1_grant_129
  replace hf := ifn c2 hf
  by_cases c3 : p2 = nI 3
  · replace hf := ifp c3 hf
    refine lv_tableIn (x := p2) (off := 106) (tgt := 107) hx hb dX1_grant_1 (by rw [c3]; decide) (by rw [c3]; decide) (by rw [c3]; decide +kernel) (by decide) ?_
    refine lv_aload_n hx hb dX1_grant_107 rfl (lv_at hl 0 rfl) ?_
    refine getO X hP inX1 0 rfl rfl 12 (by decide) (List.mem_of_getElem? (i := 2) rfl) rfl dX1_grant_108 ?_
    refine lv_if_ne (tgt := 129) hx hb dX1_grant_111 (by decide) (fun hc => ?_) (fun hc => ?_)
    · replace hf := ifn hc hf
      obtain rfl := Option.some.inj hf
      exact retV X hS hP dX1_grant_129
    · replace hf := ifp hc hf
      refine lv_aload_n hx hb dX1_grant_114 rfl (lv_at hl 0 rfl) ?_
      refine lv_dup hx hb dX1_grant_115 rfl ?_
      refine getO X hP inX1 0 rfl rfl 11 (by decide) (List.mem_of_getElem? (i := 1) rfl) rfl dX1_grant_116 ?_
      refine lv_iconst hx hb dX1_grant_119 ic_1 ?_
      refine lv_iload_n hx hb dX1_grant_120 rfl (lv_at hl 1 rfl) ?_
      refine lv_ishl hx hb dX1_grant_121 ?_
      refine lv_ior hx hb dX1_grant_122 ?_
      refine putO X hP hD hS inX1 tyX1 tyX1_ok nmX1 0 rfl rfl 11 (by decide) (List.mem_of_getElem? (i := 1) rfl) rfl rfl rfl (Nat.le_of_ble_eq_true rfl) dX1_grant_123 (wo_X1_grant cI cZ a_t a_t_sh a_t_cmd a_t_tim a_t_hel a_t_dir a_t_seg v_t_fw v_t_fp v_t_fn v_t_rt v_t_wd v_t_pd (v_t_ss ||| ((nI 1) <<< (p1 &&& 31))) v_t_rs) rfl (fun H locs hP hD hS => ?_)
      refine lv_goto (tgt := 129) hx hb dX1_grant_126 (by decide) ?_
      obtain rfl := Option.some.inj hf
      exact retV X hS hP dX1_grant_129
  replace hf := ifn c3 hf
  by_cases c4 : p2 = nI 4
  · replace hf := ifp c4 hf
    refine lv_tableIn (x := p2) (off := 73) (tgt := 74) hx hb dX1_grant_1 (by rw [c4]; decide) (by rw [c4]; decide) (by rw [c4]; decide +kernel) (by decide) ?_
    refine lv_iload_n hx hb dX1_grant_74 rfl (lv_at hl 3 rfl) ?_
    refine lv_if_ne (tgt := 129) hx hb dX1_grant_75 (by decide) (fun hc => ?_) (fun hc => ?_)
    · replace hf := ifn hc hf
      obtain rfl := Option.some.inj hf
      exact retV X hS hP dX1_grant_129
    · replace hf := ifp hc hf
      refine lv_aload_n hx hb dX1_grant_78 rfl (lv_at hl 0 rfl) ?_
      refine getO X hP inX1 0 rfl rfl 11 (by decide) (List.mem_of_getElem? (i := 1) rfl) rfl dX1_grant_79 ?_
      refine lv_if_ne (tgt := 129) hx hb dX1_grant_82 (by decide) (fun hc => ?_) (fun hc => ?_)
      · replace hf := ifn hc hf
        obtain rfl := Option.some.inj hf
        exact retV X hS hP dX1_grant_129
      · replace hf := ifp hc hf
        refine lv_aload_n hx hb dX1_grant_85 rfl (lv_at hl 0 rfl) ?_
        refine getO X hP inX1 0 rfl rfl 12 (by decide) (List.mem_of_getElem? (i := 2) rfl) rfl dX1_grant_86 ?_
        refine lv_if_ne (tgt := 129) hx hb dX1_grant_89 (by decide) (fun hc => ?_) (fun hc => ?_)
        · replace hf := ifn hc hf
          obtain rfl := Option.some.inj hf
          exact retV X hS hP dX1_grant_129
        · replace hf := ifp hc hf
          refine lv_aload_n hx hb dX1_grant_92 rfl (lv_at hl 0 rfl) ?_
          refine lv_dup hx hb dX1_grant_93 rfl ?_
          refine getO X hP inX1 0 rfl rfl 12 (by decide) (List.mem_of_getElem? (i := 2) rfl) rfl dX1_grant_94 ?_
          refine lv_iconst hx hb dX1_grant_97 ic_1 ?_
          refine lv_iload_n hx hb dX1_grant_98 rfl (lv_at hl 1 rfl) ?_
          refine lv_ishl hx hb dX1_grant_99 ?_
          refine lv_ior hx hb dX1_grant_100 ?_
          refine putO X hP hD hS inX1 tyX1 tyX1_ok nmX1 0 rfl rfl 12 (by decide) (List.mem_of_getElem? (i := 2) rfl) rfl rfl rfl (Nat.le_of_ble_eq_true rfl) dX1_grant_101 (wo_X1_grant cI cZ a_t a_t_sh a_t_cmd a_t_tim a_t_hel a_t_dir a_t_seg v_t_fw v_t_fp v_t_fn v_t_rt v_t_wd v_t_pd v_t_ss (v_t_rs ||| ((nI 1) <<< (p1 &&& 31)))) rfl (fun H locs hP hD hS => ?_)
          refine lv_goto (tgt := 129) hx hb dX1_grant_104 (by decide) ?_
          obtain rfl := Option.some.inj hf
          exact retV X hS hP dX1_grant_129
  replace hf := ifn c4 hf
  by_cases c5 : p2 = nI 5
  · replace hf := ifp c5 hf
    refine lv_tableIn (x := p2) (off := 106) (tgt := 107) hx hb dX1_grant_1 (by rw [c5]; decide) (by rw [c5]; decide) (by rw [c5]; decide +kernel) (by decide) ?_
    refine lv_aload_n hx hb dX1_grant_107 rfl (lv_at hl 0 rfl) ?_
    refine getO X hP inX1 0 rfl rfl 12 (by decide) (List.mem_of_getElem? (i := 2) rfl) rfl dX1_grant_108 ?_
    refine lv_if_ne (tgt := 129) hx hb dX1_grant_111 (by decide) (fun hc => ?_) (fun hc => ?_)
    · replace hf := ifn hc hf
      obtain rfl := Option.some.inj hf
      exact retV X hS hP dX1_grant_129
    · replace hf := ifp hc hf
      refine lv_aload_n hx hb dX1_grant_114 rfl (lv_at hl 0 rfl) ?_
      refine lv_dup hx hb dX1_grant_115 rfl ?_
      refine getO X hP inX1 0 rfl rfl 11 (by decide) (List.mem_of_getElem? (i := 1) rfl) rfl dX1_grant_116 ?_
      refine lv_iconst hx hb dX1_grant_119 ic_1 ?_
      refine lv_iload_n hx hb dX1_grant_120 rfl (lv_at hl 1 rfl) ?_
      refine lv_ishl hx hb dX1_grant_121 ?_
      refine lv_ior hx hb dX1_grant_122 ?_
      refine putO X hP hD hS inX1 tyX1 tyX1_ok nmX1 0 rfl rfl 11 (by decide) (List.mem_of_getElem? (i := 1) rfl) rfl rfl rfl (Nat.le_of_ble_eq_true rfl) dX1_grant_123 (wo_X1_grant cI cZ a_t a_t_sh a_t_cmd a_t_tim a_t_hel a_t_dir a_t_seg v_t_fw v_t_fp v_t_fn v_t_rt v_t_wd v_t_pd (v_t_ss ||| ((nI 1) <<< (p1 &&& 31))) v_t_rs) rfl (fun H locs hP hD hS => ?_)
      refine lv_goto (tgt := 129) hx hb dX1_grant_126 (by decide) ?_
      obtain rfl := Option.some.inj hf
      exact retV X hS hP dX1_grant_129
  replace hf := ifn c5 hf
  by_cases c6 : p2 = nI 6
  · replace hf := ifp c6 hf
    refine lv_tableIn (x := p2) (off := 47) (tgt := 48) hx hb dX1_grant_1 (by rw [c6]; decide) (by rw [c6]; decide) (by rw [c6]; decide +kernel) (by decide) ?_
    refine lv_iload_n hx hb dX1_grant_48 rfl (lv_at hl 3 rfl) ?_
    refine lv_if_ne (tgt := 129) hx hb dX1_grant_49 (by decide) (fun hc => ?_) (fun hc => ?_)
    · replace hf := ifn hc hf
      obtain rfl := Option.some.inj hf
      exact retV X hS hP dX1_grant_129
    · replace hf := ifp hc hf
      refine lv_aload_n hx hb dX1_grant_52 rfl (lv_at hl 0 rfl) ?_
      refine getO X hP inX1 0 rfl rfl 11 (by decide) (List.mem_of_getElem? (i := 1) rfl) rfl dX1_grant_53 ?_
      refine lv_if_ne (tgt := 129) hx hb dX1_grant_56 (by decide) (fun hc => ?_) (fun hc => ?_)
      · replace hf := ifn hc hf
        obtain rfl := Option.some.inj hf
        exact retV X hS hP dX1_grant_129
      · replace hf := ifp hc hf
        refine lv_aload_n hx hb dX1_grant_59 rfl (lv_at hl 0 rfl) ?_
        refine lv_dup hx hb dX1_grant_60 rfl ?_
        refine getO X hP inX1 0 rfl rfl 12 (by decide) (List.mem_of_getElem? (i := 2) rfl) rfl dX1_grant_61 ?_
        refine lv_iconst hx hb dX1_grant_64 ic_1 ?_
        refine lv_iload_n hx hb dX1_grant_65 rfl (lv_at hl 1 rfl) ?_
        refine lv_ishl hx hb dX1_grant_66 ?_
        refine lv_ior hx hb dX1_grant_67 ?_
        refine putO X hP hD hS inX1 tyX1 tyX1_ok nmX1 0 rfl rfl 12 (by decide) (List.mem_of_getElem? (i := 2) rfl) rfl rfl rfl (Nat.le_of_ble_eq_true rfl) dX1_grant_68 (wo_X1_grant cI cZ a_t a_t_sh a_t_cmd a_t_tim a_t_hel a_t_dir a_t_seg v_t_fw v_t_fp v_t_fn v_t_rt v_t_wd v_t_pd v_t_ss (v_t_rs ||| ((nI 1) <<< (p1 &&& 31)))) rfl (fun H locs hP hD hS => ?_)
        refine lv_goto (tgt := 129) hx hb dX1_grant_71 (by decide) ?_
        obtain rfl := Option.some.inj hf
        exact retV X hS hP dX1_grant_129
  replace hf := ifn c6 hf
  by_cases c7 : p2 = nI 7
  · replace hf := ifp c7 hf
    refine lv_tableIn (x := p2) (off := 106) (tgt := 107) hx hb dX1_grant_1 (by rw [c7]; decide) (by rw [c7]; decide) (by rw [c7]; decide +kernel) (by decide) ?_
    refine lv_aload_n hx hb dX1_grant_107 rfl (lv_at hl 0 rfl) ?_
    refine getO X hP inX1 0 rfl rfl 12 (by decide) (List.mem_of_getElem? (i := 2) rfl) rfl dX1_grant_108 ?_
    refine lv_if_ne (tgt := 129) hx hb dX1_grant_111 (by decide) (fun hc => ?_) (fun hc => ?_)
    · replace hf := ifn hc hf
      obtain rfl := Option.some.inj hf
      exact retV X hS hP dX1_grant_129
    · replace hf := ifp hc hf
      refine lv_aload_n hx hb dX1_grant_114 rfl (lv_at hl 0 rfl) ?_
      refine lv_dup hx hb dX1_grant_115 rfl ?_
      refine getO X hP inX1 0 rfl rfl 11 (by decide) (List.mem_of_getElem? (i := 1) rfl) rfl dX1_grant_116 ?_
      refine lv_iconst hx hb dX1_grant_119 ic_1 ?_
      refine lv_iload_n hx hb dX1_grant_120 rfl (lv_at hl 1 rfl) ?_
      refine lv_ishl hx hb dX1_grant_121 ?_
      refine lv_ior hx hb dX1_grant_122 ?_
      refine putO X hP hD hS inX1 tyX1 tyX1_ok nmX1 0 rfl rfl 11 (by decide) (List.mem_of_getElem? (i := 1) rfl) rfl rfl rfl (Nat.le_of_ble_eq_true rfl) dX1_grant_123 (wo_X1_grant cI cZ a_t a_t_sh a_t_cmd a_t_tim a_t_hel a_t_dir a_t_seg v_t_fw v_t_fp v_t_fn v_t_rt v_t_wd v_t_pd (v_t_ss ||| ((nI 1) <<< (p1 &&& 31))) v_t_rs) rfl (fun H locs hP hD hS => ?_)
      refine lv_goto (tgt := 129) hx hb dX1_grant_126 (by decide) ?_
      obtain rfl := Option.some.inj hf
      exact retV X hS hP dX1_grant_129
  replace hf := ifn c7 hf
  by_cases c8 : p2 = nI 8
  · replace hf := ifp c8 hf
    refine lv_tableIn (x := p2) (off := 47) (tgt := 48) hx hb dX1_grant_1 (by rw [c8]; decide) (by rw [c8]; decide) (by rw [c8]; decide +kernel) (by decide) ?_
    refine lv_iload_n hx hb dX1_grant_48 rfl (lv_at hl 3 rfl) ?_
    refine lv_if_ne (tgt := 129) hx hb dX1_grant_49 (by decide) (fun hc => ?_) (fun hc => ?_)
    · replace hf := ifn hc hf
      obtain rfl := Option.some.inj hf
      exact retV X hS hP dX1_grant_129
    · replace hf := ifp hc hf
      refine lv_aload_n hx hb dX1_grant_52 rfl (lv_at hl 0 rfl) ?_
      refine getO X hP inX1 0 rfl rfl 11 (by decide) (List.mem_of_getElem? (i := 1) rfl) rfl dX1_grant_53 ?_
      refine lv_if_ne (tgt := 129) hx hb dX1_grant_56 (by decide) (fun hc => ?_) (fun hc => ?_)
      · replace hf := ifn hc hf
        obtain rfl := Option.some.inj hf
        exact retV X hS hP dX1_grant_129
      · replace hf := ifp hc hf
        refine lv_aload_n hx hb dX1_grant_59 rfl (lv_at hl 0 rfl) ?_
        refine lv_dup hx hb dX1_grant_60 rfl ?_
        refine getO X hP inX1 0 rfl rfl 12 (by decide) (List.mem_of_getElem? (i := 2) rfl) rfl dX1_grant_61 ?_
        refine lv_iconst hx hb dX1_grant_64 ic_1 ?_
        refine lv_iload_n hx hb dX1_grant_65 rfl (lv_at hl 1 rfl) ?_
        refine lv_ishl hx hb dX1_grant_66 ?_
        refine lv_ior hx hb dX1_grant_67 ?_
        refine putO X hP hD hS inX1 tyX1 tyX1_ok nmX1 0 rfl rfl 12 (by decide) (List.mem_of_getElem? (i := 2) rfl) rfl rfl rfl (Nat.le_of_ble_eq_true rfl) dX1_grant_68 (wo_X1_grant cI cZ a_t a_t_sh a_t_cmd a_t_tim a_t_hel a_t_dir a_t_seg v_t_fw v_t_fp v_t_fn v_t_rt v_t_wd v_t_pd v_t_ss (v_t_rs ||| ((nI 1) <<< (p1 &&& 31)))) rfl (fun H locs hP hD hS => ?_)
        refine lv_goto (tgt := 129) hx hb dX1_grant_71 (by decide) ?_
        obtain rfl := Option.some.inj hf
        exact retV X hS hP dX1_grant_129
  replace hf := ifn c8 hf
  refine lv_tableOut (x := p2) (tgt := 129) hx hb dX1_grant_1 (by have n1 := tnz (n := 1) (by decide) c1; have n2 := tnz (n := 2) (by decide) c2; have n3 := tnz (n := 3) (by decide) c3; have n4 := tnz (n := 4) (by decide) c4; have n5 := tnz (n := 5) (by decide) c5; have n6 := tnz (n := 6) (by decide) c6; have n7 := tnz (n := 7) (by decide) c7; have n8 := tnz (n := 8) (by decide) c8; omega) (by decide) ?_
  obtain rfl := Option.some.inj hf
  exact retV X hS hP dX1_grant_129

abbrev wo_X1_grantSwitches (cI cZ : ClassId) (a_t a_t_sh a_t_cmd a_t_tim a_t_hel a_t_dir a_t_seg : Nat) (v_t_fw : Int32) (v_t_fp : Int32) (v_t_fn : Int32) (v_t_rt : Int32) (v_t_wd : Int32) (v_t_pd : Int32) (v_t_ss : Int32) (v_t_rs : Int32) (v_t_sh_nd : Int32) (v_t_sh_sn : Int32) (v_t_tim : Nat → Int32) (v_t_hel : Nat → Int32) (v_t_dir : Nat → Int32) : va_W := [(a_t, oX1 a_t_sh v_t_fw v_t_fp v_t_fn a_t_cmd a_t_tim a_t_hel v_t_rt v_t_wd v_t_pd a_t_dir v_t_ss v_t_rs a_t_seg), (a_t_sh, oX2 v_t_sh_nd v_t_sh_sn), (a_t_tim, rI cI 8 v_t_tim), (a_t_hel, rI cI 8 v_t_hel), (a_t_dir, rI cI 8 v_t_dir)]
def fX1_grantSwitches_L25 (v_t_sh_nd : Int32) (v_t_tim : Nat → Int32) (v_t_hel : Nat → Int32) (v_t_dir : Nat → Int32) (K : Int32 → Int32 → Int32 → Int32 → Int32 → Option (Int32 × Int32)) : Nat → Int32 → Int32 → Int32 → Int32 → Int32 → Option (Int32 × Int32)
  | 0, _, _, _, _, _ => none
  | k + 1, x1_25, x2_25, x3_25, v_t_ss_25, v_t_rs_25 => (if v_t_sh_nd ≤ x3_25 then (K x1_25 x2_25 x3_25 v_t_ss_25 v_t_rs_25) else ((fX1_requestAt v_t_sh_nd v_t_tim v_t_hel v_t_dir x3_25).bind (fun q38 => (if q38 = x2_25 then ((fX1_grant v_t_ss_25 v_t_rs_25 x3_25 x2_25 x1_25).bind (fun q49 => (fX1_grantSwitches_L25 v_t_sh_nd v_t_tim v_t_hel v_t_dir K k x1_25 x2_25 (x3_25 + nI 1) q49.1 q49.2))) else (fX1_grantSwitches_L25 v_t_sh_nd v_t_tim v_t_hel v_t_dir K k x1_25 x2_25 (x3_25 + nI 1) v_t_ss_25 v_t_rs_25)))))
def fX1_grantSwitches_L18 (v_t_sh_nd : Int32) (v_t_tim : Nat → Int32) (v_t_hel : Nat → Int32) (v_t_dir : Nat → Int32) (K : Int32 → Int32 → Int32 → Int32 → Option (Int32 × Int32)) : Nat → Int32 → Int32 → Int32 → Int32 → Option (Int32 × Int32)
  | 0, _, _, _, _ => none
  | k + 1, x1_18, x2_18, v_t_ss_18, v_t_rs_18 => (if x2_18 < (nI 1) then (K x1_18 x2_18 v_t_ss_18 v_t_rs_18) else (fX1_grantSwitches_L25 v_t_sh_nd v_t_tim v_t_hel v_t_dir (fun x1_25 x2_25 x3_25 v_t_ss_25 v_t_rs_25 => (fX1_grantSwitches_L18 v_t_sh_nd v_t_tim v_t_hel v_t_dir K k x1_25 (x2_25 + (-1)) v_t_ss_25 v_t_rs_25)) FU x1_18 x2_18 0 v_t_ss_18 v_t_rs_18))
def fX1_grantSwitches (v_t_ss : Int32) (v_t_rs : Int32) (v_t_sh_nd : Int32) (v_t_tim : Nat → Int32) (v_t_hel : Nat → Int32) (v_t_dir : Nat → Int32) : Option (Int32 × Int32) := ((fX1_isLockedOut v_t_sh_nd v_t_tim v_t_hel v_t_dir).bind (fun q11 => (fX1_grantSwitches_L18 v_t_sh_nd v_t_tim v_t_hel v_t_dir (fun x1_18 x2_18 v_t_ss_18 v_t_rs_18 => (some (v_t_ss_18, v_t_rs_18))) FU (b2i q11) (nI 8) 0 0)))
theorem kd_X1_grantSwitches : yX1_grantSwitches.cls = RX1 ∧ yX1_grantSwitches.cls ≠ "java/lang/invoke/MethodHandle" ∧ yX1_grantSwitches.cls ≠ "java/lang/invoke/VarHandle" ∧ (parseMethodDescriptor yX1_grantSwitches.desc).map (fun d => d.parameters.length) = some 0 := by decide +kernel
def rm_X1_grantSwitches : Room := { frames := 3, cells := 0, slots := 0, locals := 64 }
set_option maxHeartbeats 4000000 in
set_option maxRecDepth 100000 in
theorem k_X1_grantSwitches (l : Launch) (D : va_G) (cI cZ : ClassId) (a_t a_t_sh a_t_cmd a_t_tim a_t_hel a_t_dir a_t_seg : Nat) (v_t_fw : Int32) (v_t_fp : Int32) (v_t_fn : Int32) (v_t_rt : Int32) (v_t_wd : Int32) (v_t_pd : Int32) (v_t_ss : Int32) (v_t_rs : Int32) (v_t_sh_nd : Int32) (v_t_sh_sn : Int32) (v_t_tim : Nat → Int32) (v_t_hel : Nat → Int32) (v_t_dir : Nat → Int32) (q : Int32 × Int32) (hf : fX1_grantSwitches v_t_ss v_t_rs v_t_sh_nd v_t_tim v_t_hel v_t_dir = some q) : CV l D cI cZ yX1_grantSwitches wsX1_grantSwitches rm_X1_grantSwitches [.ref a_t] (wo_X1_grantSwitches cI cZ a_t a_t_sh a_t_cmd a_t_tim a_t_hel a_t_dir a_t_seg v_t_fw v_t_fp v_t_fn v_t_rt v_t_wd v_t_pd v_t_ss v_t_rs v_t_sh_nd v_t_sh_sn v_t_tim v_t_hel v_t_dir) (wo_X1_grantSwitches cI cZ a_t a_t_sh a_t_cmd a_t_tim a_t_hel a_t_dir a_t_seg v_t_fw v_t_fp v_t_fn v_t_rt v_t_wd v_t_pd q.1 q.2 v_t_sh_nd v_t_sh_sn v_t_tim v_t_hel v_t_dir) := by
  refine CV.mk (cc := cX1_grantSwitches) (maxL := 4) (by decide) rfl (Nat.le_of_ble_eq_true rfl) ?_
  intro p e s m below meth c ls A X hP hD hl hS
  have hx := X.1.1
  have hb := X.1.2.1
  have hl : lv_has ls 4 [(0, .ref a_t)] := hl
  have inX1 : ∀ w ∈ u_ws RX1 TX1 14, w ∈ wsX1_grantSwitches := fun _ h => List.mem_cons_of_mem _ (List.mem_append_left _ (List.mem_append_right _ h))
  have inX2 : ∀ w ∈ u_ws RX2 TX2 2, w ∈ wsX1_grantSwitches := fun _ h => List.mem_cons_of_mem _ (List.mem_append_right _ h)
  have L25 : ∀ (K : Int32 → Int32 → Int32 → Int32 → Int32 → Option (Int32 × Int32)) (hKK : ∀ (x1_25 : Int32) (x2_25 : Int32) (x3_25 : Int32) (v_t_ss_25 : Int32) (v_t_rs_25 : Int32) (H : Heap) (locs : List Loc) (ls : Array Slot), K x1_25 x2_25 x3_25 v_t_ss_25 v_t_rs_25 = some q → va_P D vwCl (wo_X1_grantSwitches cI cZ a_t a_t_sh a_t_cmd a_t_tim a_t_hel a_t_dir a_t_seg v_t_fw v_t_fp v_t_fn v_t_rt v_t_wd v_t_pd v_t_ss_25 v_t_rs_25 v_t_sh_nd v_t_sh_sn v_t_tim v_t_hel v_t_dir) H → va_D A (wo_X1_grantSwitches cI cZ a_t a_t_sh a_t_cmd a_t_tim a_t_hel a_t_dir a_t_seg v_t_fw v_t_fp v_t_fn v_t_rt v_t_wd v_t_pd v_t_ss_25 v_t_rs_25 v_t_sh_nd v_t_sh_sn v_t_tim v_t_hel v_t_dir) → va_S A s.heap H locs → lv_has ls 4 [(0, .ref a_t), (1, .int x1_25), (2, .int x2_25)] → W p l e rm_X1_grantSwitches s m ([.ref a_t] : List Value).toArray below meth c H locs 0 0 (MQ below (QV D (wo_X1_grantSwitches cI cZ a_t a_t_sh a_t_cmd a_t_tim a_t_hel a_t_dir a_t_seg v_t_fw v_t_fp v_t_fn v_t_rt v_t_wd v_t_pd q.1 q.2 v_t_sh_nd v_t_sh_sn v_t_tim v_t_hel v_t_dir) A) ([.ref a_t] : List Value).toArray s 0 0 A) (F0 m 58 ls [])) (k : Nat) (x1_25 : Int32) (x2_25 : Int32) (x3_25 : Int32) (v_t_ss_25 : Int32) (v_t_rs_25 : Int32) (H : Heap) (locs : List Loc) (ls : Array Slot), fX1_grantSwitches_L25 v_t_sh_nd v_t_tim v_t_hel v_t_dir K k x1_25 x2_25 x3_25 v_t_ss_25 v_t_rs_25 = some q → va_P D vwCl (wo_X1_grantSwitches cI cZ a_t a_t_sh a_t_cmd a_t_tim a_t_hel a_t_dir a_t_seg v_t_fw v_t_fp v_t_fn v_t_rt v_t_wd v_t_pd v_t_ss_25 v_t_rs_25 v_t_sh_nd v_t_sh_sn v_t_tim v_t_hel v_t_dir) H → va_D A (wo_X1_grantSwitches cI cZ a_t a_t_sh a_t_cmd a_t_tim a_t_hel a_t_dir a_t_seg v_t_fw v_t_fp v_t_fn v_t_rt v_t_wd v_t_pd v_t_ss_25 v_t_rs_25 v_t_sh_nd v_t_sh_sn v_t_tim v_t_hel v_t_dir) → va_S A s.heap H locs → lv_has ls 4 [(0, .ref a_t), (1, .int x1_25), (2, .int x2_25), (3, .int x3_25)] → W p l e rm_X1_grantSwitches s m ([.ref a_t] : List Value).toArray below meth c H locs 0 0 (MQ below (QV D (wo_X1_grantSwitches cI cZ a_t a_t_sh a_t_cmd a_t_tim a_t_hel a_t_dir a_t_seg v_t_fw v_t_fp v_t_fn v_t_rt v_t_wd v_t_pd q.1 q.2 v_t_sh_nd v_t_sh_sn v_t_tim v_t_hel v_t_dir) A) ([.ref a_t] : List Value).toArray s 0 0 A) (F0 m 25 ls []) := by
    intro K hKK k
    induction k with
    | zero => intro x1_25 x2_25 x3_25 v_t_ss_25 v_t_rs_25 H locs ls hf; rw [fX1_grantSwitches_L25] at hf; cases hf
    | succ k ih =>
      intro x1_25 x2_25 x3_25 v_t_ss_25 v_t_rs_25 H locs ls hf hP hD hS hl
      rw [fX1_grantSwitches_L25] at hf
      refine lv_iload_n hx hb dX1_grantSwitches_25 rfl (lv_at hl 3 rfl) ?_
      refine lv_aload_n hx hb dX1_grantSwitches_26 rfl (lv_at hl 0 rfl) ?_
      refine getO X hP inX1 0 rfl rfl 0 (by decide) (List.mem_of_getElem? (i := 3) rfl) rfl dX1_grantSwitches_27 ?_
      refine getN X hP inX2 1 rfl rfl 0 (by decide) 1 rfl rfl dX1_grantSwitches_30 ?_
      refine lv_icmp_ge (tgt := 58) hx hb dX1_grantSwitches_33 (by decide) (fun hc => ?_) (fun hc => ?_)
      · replace hf := ifp hc hf
        exact hKK _ _ _ _ _ _ _ ls hf hP hD hS (lv_sub hl [0, 1, 2] rfl)
      · replace hf := ifn hc hf
        refine lv_aload_n hx hb dX1_grantSwitches_36 rfl (lv_at hl 0 rfl) ?_
        refine lv_iload_n hx hb dX1_grantSwitches_37 rfl (lv_at hl 3 rfl) ?_
        obtain ⟨q38, e38, hf⟩ := bnd hf
        refine callVI X (k_X1_requestAt l D cI cZ a_t a_t_sh a_t_cmd a_t_tim a_t_hel a_t_dir a_t_seg  v_t_fw v_t_fp v_t_fn v_t_rt v_t_wd v_t_pd v_t_ss_25 v_t_rs_25 v_t_sh_nd v_t_sh_sn v_t_tim v_t_hel v_t_dir x3_25 q38 e38) (cwV 1 X.1.2.2.2.2 gX1_grantSwitches_X1_requestAt rfl rfl rfl kd_X1_requestAt ⟨Nat.le_of_ble_eq_true rfl, Nat.le_of_ble_eq_true rfl⟩) hP hD hS hl.1 0 1 rfl rfl [0, 1, 2, 3, 4] (by decide) (wo_X1_grantSwitches cI cZ a_t a_t_sh a_t_cmd a_t_tim a_t_hel a_t_dir a_t_seg v_t_fw v_t_fp v_t_fn v_t_rt v_t_wd v_t_pd v_t_ss_25 v_t_rs_25 v_t_sh_nd v_t_sh_sn v_t_tim v_t_hel v_t_dir) rfl rfl rfl rfl rfl (rest := []) rfl (Nat.le_of_ble_eq_true rfl) dX1_grantSwitches_38 ⟨Nat.zero_le _, Nat.zero_le _⟩ (fun H locs hP hD hS => ?_)
        refine lv_iload_n hx hb dX1_grantSwitches_41 rfl (lv_at hl 2 rfl) ?_
        refine lv_icmp_ne (tgt := 52) hx hb dX1_grantSwitches_42 (by decide) (fun hc => ?_) (fun hc => ?_)
        · replace hf := ifn hc hf
          refine lv_iinc (v := (x3_25 + nI 1)) (lv' := [(3, .int (x3_25 + nI 1)), (0, .ref a_t), (1, .int x1_25), (2, .int x2_25)]) hx hb dX1_grantSwitches_52 hl (k := 3) rfl (inc_1 _) (by decide) rfl (fun ls hl => ?_)
          refine lv_goto (tgt := 25) hx hb dX1_grantSwitches_55 (by decide) ?_
          exact ih _ _ _ _ _ _ _ ls hf hP hD hS (lv_sub hl [1, 2, 3, 0] rfl)
        · replace hf := ifp hc hf
          refine lv_aload_n hx hb dX1_grantSwitches_45 rfl (lv_at hl 0 rfl) ?_
          refine lv_iload_n hx hb dX1_grantSwitches_46 rfl (lv_at hl 3 rfl) ?_
          refine lv_iload_n hx hb dX1_grantSwitches_47 rfl (lv_at hl 2 rfl) ?_
          refine lv_iload_n hx hb dX1_grantSwitches_48 rfl (lv_at hl 1 rfl) ?_
          obtain ⟨q49, e49, hf⟩ := bnd hf
          refine callVV X (k_X1_grant l D cI cZ a_t a_t_sh a_t_cmd a_t_tim a_t_hel a_t_dir a_t_seg  v_t_fw v_t_fp v_t_fn v_t_rt v_t_wd v_t_pd v_t_ss_25 v_t_rs_25 x3_25 x2_25 x1_25 q49 e49) (cwV 3 X.1.2.2.2.2 gX1_grantSwitches_X1_grant rfl rfl rfl kd_X1_grant ⟨Nat.le_of_ble_eq_true rfl, Nat.le_of_ble_eq_true rfl⟩) hP hD hS hl.1 0 1 rfl rfl [0] (by decide) (wo_X1_grantSwitches cI cZ a_t a_t_sh a_t_cmd a_t_tim a_t_hel a_t_dir a_t_seg v_t_fw v_t_fp v_t_fn v_t_rt v_t_wd v_t_pd q49.1 q49.2 v_t_sh_nd v_t_sh_sn v_t_tim v_t_hel v_t_dir) rfl rfl rfl rfl rfl (rest := []) rfl (Nat.le_of_ble_eq_true rfl) dX1_grantSwitches_49 ⟨Nat.zero_le _, Nat.zero_le _⟩ (fun H locs hP hD hS => ?_)
          refine lv_iinc (v := (x3_25 + nI 1)) (lv' := [(3, .int (x3_25 + nI 1)), (0, .ref a_t), (1, .int x1_25), (2, .int x2_25)]) hx hb dX1_grantSwitches_52 hl (k := 3) rfl (inc_1 _) (by decide) rfl (fun ls hl => ?_)
          refine lv_goto (tgt := 25) hx hb dX1_grantSwitches_55 (by decide) ?_
          exact ih _ _ _ _ _ _ _ ls hf hP hD hS (lv_sub hl [1, 2, 3, 0] rfl)
  have L18 : ∀ (K : Int32 → Int32 → Int32 → Int32 → Option (Int32 × Int32)) (hKK : ∀ (x1_18 : Int32) (x2_18 : Int32) (v_t_ss_18 : Int32) (v_t_rs_18 : Int32) (H : Heap) (locs : List Loc) (ls : Array Slot), K x1_18 x2_18 v_t_ss_18 v_t_rs_18 = some q → va_P D vwCl (wo_X1_grantSwitches cI cZ a_t a_t_sh a_t_cmd a_t_tim a_t_hel a_t_dir a_t_seg v_t_fw v_t_fp v_t_fn v_t_rt v_t_wd v_t_pd v_t_ss_18 v_t_rs_18 v_t_sh_nd v_t_sh_sn v_t_tim v_t_hel v_t_dir) H → va_D A (wo_X1_grantSwitches cI cZ a_t a_t_sh a_t_cmd a_t_tim a_t_hel a_t_dir a_t_seg v_t_fw v_t_fp v_t_fn v_t_rt v_t_wd v_t_pd v_t_ss_18 v_t_rs_18 v_t_sh_nd v_t_sh_sn v_t_tim v_t_hel v_t_dir) → va_S A s.heap H locs → lv_has ls 4 [] → W p l e rm_X1_grantSwitches s m ([.ref a_t] : List Value).toArray below meth c H locs 0 0 (MQ below (QV D (wo_X1_grantSwitches cI cZ a_t a_t_sh a_t_cmd a_t_tim a_t_hel a_t_dir a_t_seg v_t_fw v_t_fp v_t_fn v_t_rt v_t_wd v_t_pd q.1 q.2 v_t_sh_nd v_t_sh_sn v_t_tim v_t_hel v_t_dir) A) ([.ref a_t] : List Value).toArray s 0 0 A) (F0 m 64 ls [])) (k : Nat) (x1_18 : Int32) (x2_18 : Int32) (v_t_ss_18 : Int32) (v_t_rs_18 : Int32) (H : Heap) (locs : List Loc) (ls : Array Slot), fX1_grantSwitches_L18 v_t_sh_nd v_t_tim v_t_hel v_t_dir K k x1_18 x2_18 v_t_ss_18 v_t_rs_18 = some q → va_P D vwCl (wo_X1_grantSwitches cI cZ a_t a_t_sh a_t_cmd a_t_tim a_t_hel a_t_dir a_t_seg v_t_fw v_t_fp v_t_fn v_t_rt v_t_wd v_t_pd v_t_ss_18 v_t_rs_18 v_t_sh_nd v_t_sh_sn v_t_tim v_t_hel v_t_dir) H → va_D A (wo_X1_grantSwitches cI cZ a_t a_t_sh a_t_cmd a_t_tim a_t_hel a_t_dir a_t_seg v_t_fw v_t_fp v_t_fn v_t_rt v_t_wd v_t_pd v_t_ss_18 v_t_rs_18 v_t_sh_nd v_t_sh_sn v_t_tim v_t_hel v_t_dir) → va_S A s.heap H locs → lv_has ls 4 [(0, .ref a_t), (1, .int x1_18), (2, .int x2_18)] → W p l e rm_X1_grantSwitches s m ([.ref a_t] : List Value).toArray below meth c H locs 0 0 (MQ below (QV D (wo_X1_grantSwitches cI cZ a_t a_t_sh a_t_cmd a_t_tim a_t_hel a_t_dir a_t_seg v_t_fw v_t_fp v_t_fn v_t_rt v_t_wd v_t_pd q.1 q.2 v_t_sh_nd v_t_sh_sn v_t_tim v_t_hel v_t_dir) A) ([.ref a_t] : List Value).toArray s 0 0 A) (F0 m 18 ls []) := by
    intro K hKK k
    induction k with
    | zero => intro x1_18 x2_18 v_t_ss_18 v_t_rs_18 H locs ls hf; rw [fX1_grantSwitches_L18] at hf; cases hf
    | succ k ih =>
      intro x1_18 x2_18 v_t_ss_18 v_t_rs_18 H locs ls hf hP hD hS hl
      rw [fX1_grantSwitches_L18] at hf
      refine lv_iload_n hx hb dX1_grantSwitches_18 rfl (lv_at hl 2 rfl) ?_
      refine lv_iconst hx hb dX1_grantSwitches_19 ic_1 ?_
      refine lv_icmp_lt (tgt := 64) hx hb dX1_grantSwitches_20 (by decide) (fun hc => ?_) (fun hc => ?_)
      · replace hf := ifp hc hf
        exact hKK _ _ _ _ _ _ ls hf hP hD hS (lv_sub hl [] rfl)
      · replace hf := ifn hc hf
        refine lv_iconst hx hb dX1_grantSwitches_23 ic_0 ?_
        refine lv_istore_n (lv' := [(3, .int 0), (0, .ref a_t), (1, .int x1_18), (2, .int x2_18)]) hx hb dX1_grantSwitches_24 rfl hl (by decide) rfl (fun ls hl => ?_)
        refine L25 _ (fun x1_25 x2_25 x3_25 v_t_ss_25 v_t_rs_25 H locs ls hf hP hD hS hl => ?_) FU _ _ _ _ _ _ _ ls hf hP hD hS (lv_sub hl [1, 2, 3, 0] rfl)
        refine lv_iinc (v := (x2_25 + (-1))) (lv' := [(2, .int (x2_25 + (-1))), (0, .ref a_t), (1, .int x1_25)]) hx hb dX1_grantSwitches_58 hl (k := 2) rfl (inc_m1 _) (by decide) rfl (fun ls hl => ?_)
        refine lv_goto (tgt := 18) hx hb dX1_grantSwitches_61 (by decide) ?_
        exact ih _ _ _ _ _ _ ls hf hP hD hS (lv_sub hl [1, 2, 0] rfl)
  unfold fX1_grantSwitches at hf
  refine lv_aload_n hx hb dX1_grantSwitches_0 rfl (lv_at hl 0 rfl) ?_
  refine lv_iconst hx hb dX1_grantSwitches_1 ic_0 ?_
  refine putO X hP hD hS inX1 tyX1 tyX1_ok nmX1 0 rfl rfl 11 (by decide) (List.mem_of_getElem? (i := 1) rfl) rfl rfl rfl (Nat.le_of_ble_eq_true rfl) dX1_grantSwitches_2 (wo_X1_grantSwitches cI cZ a_t a_t_sh a_t_cmd a_t_tim a_t_hel a_t_dir a_t_seg v_t_fw v_t_fp v_t_fn v_t_rt v_t_wd v_t_pd 0 v_t_rs v_t_sh_nd v_t_sh_sn v_t_tim v_t_hel v_t_dir) rfl (fun H locs hP hD hS => ?_)
  refine lv_aload_n hx hb dX1_grantSwitches_5 rfl (lv_at hl 0 rfl) ?_
  refine lv_iconst hx hb dX1_grantSwitches_6 ic_0 ?_
  refine putO X hP hD hS inX1 tyX1 tyX1_ok nmX1 0 rfl rfl 12 (by decide) (List.mem_of_getElem? (i := 2) rfl) rfl rfl rfl (Nat.le_of_ble_eq_true rfl) dX1_grantSwitches_7 (wo_X1_grantSwitches cI cZ a_t a_t_sh a_t_cmd a_t_tim a_t_hel a_t_dir a_t_seg v_t_fw v_t_fp v_t_fn v_t_rt v_t_wd v_t_pd 0 0 v_t_sh_nd v_t_sh_sn v_t_tim v_t_hel v_t_dir) rfl (fun H locs hP hD hS => ?_)
  refine lv_aload_n hx hb dX1_grantSwitches_10 rfl (lv_at hl 0 rfl) ?_
  obtain ⟨q11, e11, hf⟩ := bnd hf
  refine callVI X (k_X1_isLockedOut l D cI cZ a_t a_t_sh a_t_cmd a_t_tim a_t_hel a_t_dir a_t_seg  v_t_fw v_t_fp v_t_fn v_t_rt v_t_wd v_t_pd 0 0 v_t_sh_nd v_t_sh_sn v_t_tim v_t_hel v_t_dir  q11 e11) (cwV 0 X.1.2.2.2.2 gX1_grantSwitches_X1_isLockedOut rfl rfl rfl kd_X1_isLockedOut ⟨Nat.le_of_ble_eq_true rfl, Nat.le_of_ble_eq_true rfl⟩) hP hD hS hl.1 0 1 rfl rfl [0, 1, 2, 3, 4] (by decide) (wo_X1_grantSwitches cI cZ a_t a_t_sh a_t_cmd a_t_tim a_t_hel a_t_dir a_t_seg v_t_fw v_t_fp v_t_fn v_t_rt v_t_wd v_t_pd 0 0 v_t_sh_nd v_t_sh_sn v_t_tim v_t_hel v_t_dir) rfl rfl rfl rfl rfl (rest := []) rfl (Nat.le_of_ble_eq_true rfl) dX1_grantSwitches_11 ⟨Nat.zero_le _, Nat.zero_le _⟩ (fun H locs hP hD hS => ?_)
  refine lv_istore_n (lv' := [(1, .int (b2i q11)), (0, .ref a_t)]) hx hb dX1_grantSwitches_14 rfl hl (by decide) rfl (fun ls hl => ?_)
  refine lv_bipush hx hb dX1_grantSwitches_15 bp_8 ?_
  refine lv_istore_n (lv' := [(2, .int (nI 8)), (1, .int (b2i q11)), (0, .ref a_t)]) hx hb dX1_grantSwitches_17 rfl hl (by decide) rfl (fun ls hl => ?_)
  refine L18 _ (fun x1_18 x2_18 v_t_ss_18 v_t_rs_18 H locs ls hf hP hD hS hl => ?_) FU _ _ _ _ _ _ ls hf hP hD hS (lv_sub hl [2, 1, 0] rfl)
  obtain rfl := Option.some.inj hf
  exact retV X hS hP dX1_grantSwitches_64

abbrev wo_X1_dropWaitsWithoutSwitch (cI cZ : ClassId) (a_t a_t_sh a_t_cmd a_t_tim a_t_hel a_t_dir a_t_seg : Nat) (v_t_fw : Int32) (v_t_fp : Int32) (v_t_fn : Int32) (v_t_rt : Int32) (v_t_wd : Int32) (v_t_pd : Int32) (v_t_ss : Int32) (v_t_rs : Int32) (v_t_sh_nd : Int32) (v_t_sh_sn : Int32) (v_t_tim : Nat → Int32) (v_t_hel : Nat → Int32) (v_t_dir : Nat → Int32) : va_W := [(a_t, oX1 a_t_sh v_t_fw v_t_fp v_t_fn a_t_cmd a_t_tim a_t_hel v_t_rt v_t_wd v_t_pd a_t_dir v_t_ss v_t_rs a_t_seg), (a_t_sh, oX2 v_t_sh_nd v_t_sh_sn), (a_t_tim, rI cI 8 v_t_tim), (a_t_hel, rI cI 8 v_t_hel), (a_t_dir, rI cI 8 v_t_dir)]
def fX1_dropWaitsWithoutSwitch_L2 (v_t_ss : Int32) (v_t_rs : Int32) (v_t_sh_nd : Int32) (v_t_hel : Nat → Int32) (v_t_dir : Nat → Int32) (K : Int32 → (Nat → Int32) → Option ((Nat → Int32))) : Nat → Int32 → (Nat → Int32) → Option ((Nat → Int32))
  | 0, _, _ => none
  | k + 1, x1_2, v_t_tim_2 => (if v_t_sh_nd ≤ x1_2 then (K x1_2 v_t_tim_2) else ((fX1_requestAt v_t_sh_nd v_t_tim_2 v_t_hel v_t_dir x1_2).bind (fun q15 => ((if q15 = (nI 1) then (some (nI 1)) else (if q15 = (nI 2) then (some (nI 1)) else (some 0))).bind (fun ph34 => (if ph34 = 0 then (fX1_dropWaitsWithoutSwitch_L2 v_t_ss v_t_rs v_t_sh_nd v_t_hel v_t_dir K k (x1_2 + nI 1) v_t_tim_2) else ((fX1_switchAt v_t_ss v_t_rs x1_2).bind (fun q41 => (if q41 = 0 then (if (x1_2 < 0 ∨ 8 ≤ (x1_2).toNatClampNeg) then none else (fX1_dropWaitsWithoutSwitch_L2 v_t_ss v_t_rs v_t_sh_nd v_t_hel v_t_dir K k (x1_2 + nI 1) (upd v_t_tim_2 (x1_2).toNatClampNeg 0))) else (fX1_dropWaitsWithoutSwitch_L2 v_t_ss v_t_rs v_t_sh_nd v_t_hel v_t_dir K k (x1_2 + nI 1) v_t_tim_2))))))))))
def fX1_dropWaitsWithoutSwitch (v_t_ss : Int32) (v_t_rs : Int32) (v_t_sh_nd : Int32) (v_t_tim : Nat → Int32) (v_t_hel : Nat → Int32) (v_t_dir : Nat → Int32) : Option ((Nat → Int32)) := (fX1_dropWaitsWithoutSwitch_L2 v_t_ss v_t_rs v_t_sh_nd v_t_hel v_t_dir (fun x1_2 v_t_tim_2 => (some v_t_tim_2)) FU 0 v_t_tim)
theorem kd_X1_dropWaitsWithoutSwitch : yX1_dropWaitsWithoutSwitch.cls = RX1 ∧ yX1_dropWaitsWithoutSwitch.cls ≠ "java/lang/invoke/MethodHandle" ∧ yX1_dropWaitsWithoutSwitch.cls ≠ "java/lang/invoke/VarHandle" ∧ (parseMethodDescriptor yX1_dropWaitsWithoutSwitch.desc).map (fun d => d.parameters.length) = some 0 := by decide +kernel
def rm_X1_dropWaitsWithoutSwitch : Room := { frames := 2, cells := 0, slots := 0, locals := 43 }
set_option maxHeartbeats 4000000 in
set_option maxRecDepth 100000 in
theorem k_X1_dropWaitsWithoutSwitch (l : Launch) (D : va_G) (cI cZ : ClassId) (a_t a_t_sh a_t_cmd a_t_tim a_t_hel a_t_dir a_t_seg : Nat) (v_t_fw : Int32) (v_t_fp : Int32) (v_t_fn : Int32) (v_t_rt : Int32) (v_t_wd : Int32) (v_t_pd : Int32) (v_t_ss : Int32) (v_t_rs : Int32) (v_t_sh_nd : Int32) (v_t_sh_sn : Int32) (v_t_tim : Nat → Int32) (v_t_hel : Nat → Int32) (v_t_dir : Nat → Int32) (q : (Nat → Int32)) (hf : fX1_dropWaitsWithoutSwitch v_t_ss v_t_rs v_t_sh_nd v_t_tim v_t_hel v_t_dir = some q) : CV l D cI cZ yX1_dropWaitsWithoutSwitch wsX1_dropWaitsWithoutSwitch rm_X1_dropWaitsWithoutSwitch [.ref a_t] (wo_X1_dropWaitsWithoutSwitch cI cZ a_t a_t_sh a_t_cmd a_t_tim a_t_hel a_t_dir a_t_seg v_t_fw v_t_fp v_t_fn v_t_rt v_t_wd v_t_pd v_t_ss v_t_rs v_t_sh_nd v_t_sh_sn v_t_tim v_t_hel v_t_dir) (wo_X1_dropWaitsWithoutSwitch cI cZ a_t a_t_sh a_t_cmd a_t_tim a_t_hel a_t_dir a_t_seg v_t_fw v_t_fp v_t_fn v_t_rt v_t_wd v_t_pd v_t_ss v_t_rs v_t_sh_nd v_t_sh_sn q v_t_hel v_t_dir) := by
  refine CV.mk (cc := cX1_dropWaitsWithoutSwitch) (maxL := 4) (by decide) rfl (Nat.le_of_ble_eq_true rfl) ?_
  intro p e s m below meth c ls A X hP hD hl hS
  have hx := X.1.1
  have hb := X.1.2.1
  have hl : lv_has ls 4 [(0, .ref a_t)] := hl
  have inX1 : ∀ w ∈ u_ws RX1 TX1 14, w ∈ wsX1_dropWaitsWithoutSwitch := fun _ h => List.mem_cons_of_mem _ (List.mem_append_left _ (List.mem_append_right _ h))
  have inX2 : ∀ w ∈ u_ws RX2 TX2 2, w ∈ wsX1_dropWaitsWithoutSwitch := fun _ h => List.mem_cons_of_mem _ (List.mem_append_right _ h)
  have L2 : ∀ (K : Int32 → (Nat → Int32) → Option ((Nat → Int32))) (hKK : ∀ (x1_2 : Int32) (v_t_tim_2 : Nat → Int32) (H : Heap) (locs : List Loc) (ls : Array Slot), K x1_2 v_t_tim_2 = some q → va_P D vwCl (wo_X1_dropWaitsWithoutSwitch cI cZ a_t a_t_sh a_t_cmd a_t_tim a_t_hel a_t_dir a_t_seg v_t_fw v_t_fp v_t_fn v_t_rt v_t_wd v_t_pd v_t_ss v_t_rs v_t_sh_nd v_t_sh_sn v_t_tim_2 v_t_hel v_t_dir) H → va_D A (wo_X1_dropWaitsWithoutSwitch cI cZ a_t a_t_sh a_t_cmd a_t_tim a_t_hel a_t_dir a_t_seg v_t_fw v_t_fp v_t_fn v_t_rt v_t_wd v_t_pd v_t_ss v_t_rs v_t_sh_nd v_t_sh_sn v_t_tim_2 v_t_hel v_t_dir) → va_S A s.heap H locs → lv_has ls 4 [] → W p l e rm_X1_dropWaitsWithoutSwitch s m ([.ref a_t] : List Value).toArray below meth c H locs 0 0 (MQ below (QV D (wo_X1_dropWaitsWithoutSwitch cI cZ a_t a_t_sh a_t_cmd a_t_tim a_t_hel a_t_dir a_t_seg v_t_fw v_t_fp v_t_fn v_t_rt v_t_wd v_t_pd v_t_ss v_t_rs v_t_sh_nd v_t_sh_sn q v_t_hel v_t_dir) A) ([.ref a_t] : List Value).toArray s 0 0 A) (F0 m 60 ls [])) (k : Nat) (x1_2 : Int32) (v_t_tim_2 : Nat → Int32) (H : Heap) (locs : List Loc) (ls : Array Slot), fX1_dropWaitsWithoutSwitch_L2 v_t_ss v_t_rs v_t_sh_nd v_t_hel v_t_dir K k x1_2 v_t_tim_2 = some q → va_P D vwCl (wo_X1_dropWaitsWithoutSwitch cI cZ a_t a_t_sh a_t_cmd a_t_tim a_t_hel a_t_dir a_t_seg v_t_fw v_t_fp v_t_fn v_t_rt v_t_wd v_t_pd v_t_ss v_t_rs v_t_sh_nd v_t_sh_sn v_t_tim_2 v_t_hel v_t_dir) H → va_D A (wo_X1_dropWaitsWithoutSwitch cI cZ a_t a_t_sh a_t_cmd a_t_tim a_t_hel a_t_dir a_t_seg v_t_fw v_t_fp v_t_fn v_t_rt v_t_wd v_t_pd v_t_ss v_t_rs v_t_sh_nd v_t_sh_sn v_t_tim_2 v_t_hel v_t_dir) → va_S A s.heap H locs → lv_has ls 4 [(0, .ref a_t), (1, .int x1_2)] → W p l e rm_X1_dropWaitsWithoutSwitch s m ([.ref a_t] : List Value).toArray below meth c H locs 0 0 (MQ below (QV D (wo_X1_dropWaitsWithoutSwitch cI cZ a_t a_t_sh a_t_cmd a_t_tim a_t_hel a_t_dir a_t_seg v_t_fw v_t_fp v_t_fn v_t_rt v_t_wd v_t_pd v_t_ss v_t_rs v_t_sh_nd v_t_sh_sn q v_t_hel v_t_dir) A) ([.ref a_t] : List Value).toArray s 0 0 A) (F0 m 2 ls []) := by
    intro K hKK k
    induction k with
    | zero => intro x1_2 v_t_tim_2 H locs ls hf; rw [fX1_dropWaitsWithoutSwitch_L2] at hf; cases hf
    | succ k ih =>
      intro x1_2 v_t_tim_2 H locs ls hf hP hD hS hl
      rw [fX1_dropWaitsWithoutSwitch_L2] at hf
      refine lv_iload_n hx hb dX1_dropWaitsWithoutSwitch_2 rfl (lv_at hl 1 rfl) ?_
      refine lv_aload_n hx hb dX1_dropWaitsWithoutSwitch_3 rfl (lv_at hl 0 rfl) ?_
      refine getO X hP inX1 0 rfl rfl 0 (by decide) (List.mem_of_getElem? (i := 1) rfl) rfl dX1_dropWaitsWithoutSwitch_4 ?_
      refine getN X hP inX2 1 rfl rfl 0 (by decide) 1 rfl rfl dX1_dropWaitsWithoutSwitch_7 ?_
      refine lv_icmp_ge (tgt := 60) hx hb dX1_dropWaitsWithoutSwitch_10 (by decide) (fun hc => ?_) (fun hc => ?_)
      · replace hf := ifp hc hf
        exact hKK _ _ _ _ ls hf hP hD hS (lv_sub hl [] rfl)
      · replace hf := ifn hc hf
        refine lv_aload_n hx hb dX1_dropWaitsWithoutSwitch_13 rfl (lv_at hl 0 rfl) ?_
        refine lv_iload_n hx hb dX1_dropWaitsWithoutSwitch_14 rfl (lv_at hl 1 rfl) ?_
        obtain ⟨q15, e15, hf⟩ := bnd hf
        refine callVI X (k_X1_requestAt l D cI cZ a_t a_t_sh a_t_cmd a_t_tim a_t_hel a_t_dir a_t_seg  v_t_fw v_t_fp v_t_fn v_t_rt v_t_wd v_t_pd v_t_ss v_t_rs v_t_sh_nd v_t_sh_sn v_t_tim_2 v_t_hel v_t_dir x1_2 q15 e15) (cwV 1 X.1.2.2.2.2 gX1_dropWaitsWithoutSwitch_X1_requestAt rfl rfl rfl kd_X1_requestAt ⟨Nat.le_of_ble_eq_true rfl, Nat.le_of_ble_eq_true rfl⟩) hP hD hS hl.1 0 1 rfl rfl [0, 1, 2, 3, 4] (by decide) (wo_X1_dropWaitsWithoutSwitch cI cZ a_t a_t_sh a_t_cmd a_t_tim a_t_hel a_t_dir a_t_seg v_t_fw v_t_fp v_t_fn v_t_rt v_t_wd v_t_pd v_t_ss v_t_rs v_t_sh_nd v_t_sh_sn v_t_tim_2 v_t_hel v_t_dir) rfl rfl rfl rfl rfl (rest := []) rfl (Nat.le_of_ble_eq_true rfl) dX1_dropWaitsWithoutSwitch_15 ⟨Nat.zero_le _, Nat.zero_le _⟩ (fun H locs hP hD hS => ?_)
        refine lv_istore_n (lv' := [(2, .int q15), (0, .ref a_t), (1, .int x1_2)]) hx hb dX1_dropWaitsWithoutSwitch_18 rfl hl (by decide) rfl (fun ls hl => ?_)
        refine lv_iload_n hx hb dX1_dropWaitsWithoutSwitch_19 rfl (lv_at hl 0 rfl) ?_
        refine lv_iconst hx hb dX1_dropWaitsWithoutSwitch_20 ic_1 ?_
        obtain ⟨ph34, hg, hf⟩ := bnd hf
        have J34 : ∀ (H : Heap) (locs : List Loc) (ls : Array Slot), va_P D vwCl (wo_X1_dropWaitsWithoutSwitch cI cZ a_t a_t_sh a_t_cmd a_t_tim a_t_hel a_t_dir a_t_seg v_t_fw v_t_fp v_t_fn v_t_rt v_t_wd v_t_pd v_t_ss v_t_rs v_t_sh_nd v_t_sh_sn v_t_tim_2 v_t_hel v_t_dir) H → va_D A (wo_X1_dropWaitsWithoutSwitch cI cZ a_t a_t_sh a_t_cmd a_t_tim a_t_hel a_t_dir a_t_seg v_t_fw v_t_fp v_t_fn v_t_rt v_t_wd v_t_pd v_t_ss v_t_rs v_t_sh_nd v_t_sh_sn v_t_tim_2 v_t_hel v_t_dir) → va_S A s.heap H locs → lv_has ls 4 [(0, .ref a_t), (1, .int x1_2)] → W p l e rm_X1_dropWaitsWithoutSwitch s m ([.ref a_t] : List Value).toArray below meth c H locs 0 0 (MQ below (QV D (wo_X1_dropWaitsWithoutSwitch cI cZ a_t a_t_sh a_t_cmd a_t_tim a_t_hel a_t_dir a_t_seg v_t_fw v_t_fp v_t_fn v_t_rt v_t_wd v_t_pd v_t_ss v_t_rs v_t_sh_nd v_t_sh_sn q v_t_hel v_t_dir) A) ([.ref a_t] : List Value).toArray s 0 0 A) (F0 m 34 ls [.int ph34]) := by
          clear hg hP hD hS hl
          intro H locs ls hP hD hS hl
          refine lv_istore_n (lv' := [(3, .int ph34), (0, .ref a_t), (1, .int x1_2)]) hx hb dX1_dropWaitsWithoutSwitch_34 rfl hl (by decide) rfl (fun ls hl => ?_)
          refine lv_iload_n hx hb dX1_dropWaitsWithoutSwitch_35 rfl (lv_at hl 0 rfl) ?_
          refine lv_if_eq (tgt := 54) hx hb dX1_dropWaitsWithoutSwitch_36 (by decide) (fun hc => ?_) (fun hc => ?_)
          · replace hf := ifp hc hf
            refine lv_iinc (v := (x1_2 + nI 1)) (lv' := [(1, .int (x1_2 + nI 1)), (3, .int ph34), (0, .ref a_t)]) hx hb dX1_dropWaitsWithoutSwitch_54 hl (k := 2) rfl (inc_1 _) (by decide) rfl (fun ls hl => ?_)
            refine lv_goto (tgt := 2) hx hb dX1_dropWaitsWithoutSwitch_57 (by decide) ?_
            exact ih _ _ _ _ ls hf hP hD hS (lv_sub hl [2, 0] rfl)
          · replace hf := ifn hc hf
            refine lv_aload_n hx hb dX1_dropWaitsWithoutSwitch_39 rfl (lv_at hl 1 rfl) ?_
            refine lv_iload_n hx hb dX1_dropWaitsWithoutSwitch_40 rfl (lv_at hl 2 rfl) ?_
            obtain ⟨q41, e41, hf⟩ := bnd hf
            refine callVI X (k_X1_switchAt l D cI cZ a_t a_t_sh a_t_cmd a_t_tim a_t_hel a_t_dir a_t_seg  v_t_fw v_t_fp v_t_fn v_t_rt v_t_wd v_t_pd v_t_ss v_t_rs x1_2 q41 e41) (cwV 1 X.1.2.2.2.2 gX1_dropWaitsWithoutSwitch_X1_switchAt rfl rfl rfl kd_X1_switchAt ⟨Nat.le_of_ble_eq_true rfl, Nat.le_of_ble_eq_true rfl⟩) hP hD hS hl.1 0 1 rfl rfl [0] (by decide) (wo_X1_dropWaitsWithoutSwitch cI cZ a_t a_t_sh a_t_cmd a_t_tim a_t_hel a_t_dir a_t_seg v_t_fw v_t_fp v_t_fn v_t_rt v_t_wd v_t_pd v_t_ss v_t_rs v_t_sh_nd v_t_sh_sn v_t_tim_2 v_t_hel v_t_dir) rfl rfl rfl rfl rfl (rest := []) rfl (Nat.le_of_ble_eq_true rfl) dX1_dropWaitsWithoutSwitch_41 ⟨Nat.zero_le _, Nat.zero_le _⟩ (fun H locs hP hD hS => ?_)
            refine lv_if_ne (tgt := 54) hx hb dX1_dropWaitsWithoutSwitch_44 (by decide) (fun hc => ?_) (fun hc => ?_)
            · replace hf := ifn hc hf
              refine lv_iinc (v := (x1_2 + nI 1)) (lv' := [(1, .int (x1_2 + nI 1)), (3, .int ph34), (0, .ref a_t)]) hx hb dX1_dropWaitsWithoutSwitch_54 hl (k := 2) rfl (inc_1 _) (by decide) rfl (fun ls hl => ?_)
              refine lv_goto (tgt := 2) hx hb dX1_dropWaitsWithoutSwitch_57 (by decide) ?_
              exact ih _ _ _ _ ls hf hP hD hS (lv_sub hl [2, 0] rfl)
            · replace hf := ifp hc hf
              refine lv_aload_n hx hb dX1_dropWaitsWithoutSwitch_47 rfl (lv_at hl 1 rfl) ?_
              refine getO X hP inX1 0 rfl rfl 5 (by decide) (List.mem_of_getElem? (i := 2) rfl) rfl dX1_dropWaitsWithoutSwitch_48 ?_
              refine lv_iload_n hx hb dX1_dropWaitsWithoutSwitch_51 rfl (lv_at hl 2 rfl) ?_
              refine lv_iconst hx hb dX1_dropWaitsWithoutSwitch_52 ic_0 ?_
              obtain ⟨g53, hf⟩ := grd hf
              refine astI X hP hD hS 2 rfl g53 rfl dX1_dropWaitsWithoutSwitch_53 (wo_X1_dropWaitsWithoutSwitch cI cZ a_t a_t_sh a_t_cmd a_t_tim a_t_hel a_t_dir a_t_seg v_t_fw v_t_fp v_t_fn v_t_rt v_t_wd v_t_pd v_t_ss v_t_rs v_t_sh_nd v_t_sh_sn (upd v_t_tim_2 (x1_2).toNatClampNeg 0) v_t_hel v_t_dir) rfl (fun H locs hP hD hS => ?_)
              refine lv_iinc (v := (x1_2 + nI 1)) (lv' := [(1, .int (x1_2 + nI 1)), (3, .int ph34), (0, .ref a_t)]) hx hb dX1_dropWaitsWithoutSwitch_54 hl (k := 2) rfl (inc_1 _) (by decide) rfl (fun ls hl => ?_)
              refine lv_goto (tgt := 2) hx hb dX1_dropWaitsWithoutSwitch_57 (by decide) ?_
              exact ih _ _ _ _ ls hf hP hD hS (lv_sub hl [2, 0] rfl)
        replace hf := hg
        clear hg
        refine lv_icmp_eq (tgt := 29) hx hb dX1_dropWaitsWithoutSwitch_21 (by decide) (fun hc => ?_) (fun hc => ?_)
        · replace hf := ifp hc hf
          refine lv_iconst hx hb dX1_dropWaitsWithoutSwitch_29 ic_1 ?_
          refine lv_goto (tgt := 34) hx hb dX1_dropWaitsWithoutSwitch_30 (by decide) ?_
          obtain rfl := Option.some.inj hf
          exact J34 _ _ ls hP hD hS (lv_sub hl [1, 2] rfl)
        · replace hf := ifn hc hf
          refine lv_iload_n hx hb dX1_dropWaitsWithoutSwitch_24 rfl (lv_at hl 0 rfl) ?_
          refine lv_iconst hx hb dX1_dropWaitsWithoutSwitch_25 ic_2 ?_
          refine lv_icmp_ne (tgt := 33) hx hb dX1_dropWaitsWithoutSwitch_26 (by decide) (fun hc => ?_) (fun hc => ?_)
          · replace hf := ifn hc hf
            refine lv_iconst hx hb dX1_dropWaitsWithoutSwitch_33 ic_0 ?_
            obtain rfl := Option.some.inj hf
            exact J34 _ _ ls hP hD hS (lv_sub hl [1, 2] rfl)
          · replace hf := ifp hc hf
            refine lv_iconst hx hb dX1_dropWaitsWithoutSwitch_29 ic_1 ?_
            refine lv_goto (tgt := 34) hx hb dX1_dropWaitsWithoutSwitch_30 (by decide) ?_
            obtain rfl := Option.some.inj hf
            exact J34 _ _ ls hP hD hS (lv_sub hl [1, 2] rfl)
  unfold fX1_dropWaitsWithoutSwitch at hf
  refine lv_iconst hx hb dX1_dropWaitsWithoutSwitch_0 ic_0 ?_
  refine lv_istore_n (lv' := [(1, .int 0), (0, .ref a_t)]) hx hb dX1_dropWaitsWithoutSwitch_1 rfl hl (by decide) rfl (fun ls hl => ?_)
  refine L2 _ (fun x1_2 v_t_tim_2 H locs ls hf hP hD hS hl => ?_) FU _ _ _ _ ls hf hP hD hS (lv_sub hl [1, 0] rfl)
  obtain rfl := Option.some.inj hf
  exact retV X hS hP dX1_dropWaitsWithoutSwitch_60

abbrev wo_X1_findSegments (cI cZ : ClassId) (a_t a_t_sh a_t_cmd a_t_tim a_t_hel a_t_dir a_t_seg : Nat) (v_t_fw : Int32) (v_t_fp : Int32) (v_t_fn : Int32) (v_t_rt : Int32) (v_t_wd : Int32) (v_t_pd : Int32) (v_t_ss : Int32) (v_t_rs : Int32) (v_t_sh_nd : Int32) (v_t_sh_sn : Int32) (v_t_seg : Nat → Int32) : va_W := [(a_t, oX1 a_t_sh v_t_fw v_t_fp v_t_fn a_t_cmd a_t_tim a_t_hel v_t_rt v_t_wd v_t_pd a_t_dir v_t_ss v_t_rs a_t_seg), (a_t_sh, oX2 v_t_sh_nd v_t_sh_sn), (a_t_seg, rI cI 8 v_t_seg)]
def fX1_findSegments_L69 (v_t_rs : Int32) (v_t_sh_nd : Int32) (K : Int32 → (Nat → Int32) → Option ((Nat → Int32))) : Nat → Int32 → (Nat → Int32) → Option ((Nat → Int32))
  | 0, _, _ => none
  | k + 1, x2_69, v_t_seg_69 => (if v_t_sh_nd ≤ x2_69 then (K x2_69 v_t_seg_69) else (if (x2_69 < 0 ∨ 8 ≤ (x2_69).toNatClampNeg) then none else (fX1_findSegments_L69 v_t_rs v_t_sh_nd K k (x2_69 + nI 1) (upd v_t_seg_69 (x2_69).toNatClampNeg 0))))
def fX1_findSegments_L4 (v_t_rs : Int32) (v_t_sh_nd : Int32) (K : Int32 → Int32 → (Nat → Int32) → Option ((Nat → Int32))) : Nat → Int32 → Int32 → (Nat → Int32) → Option ((Nat → Int32))
  | 0, _, _, _ => none
  | k + 1, x1_4, x2_4, v_t_seg_4 => (if v_t_sh_nd ≤ x2_4 then (K x1_4 x2_4 v_t_seg_4) else ((if x2_4 ≤ 0 then (some x1_4) else ((fX5_contains v_t_rs (x2_4 - (nI 1))).bind (fun q26 => (if q26 = true then (some x2_4) else (some x1_4))))).bind (fun ph34 => (if (x2_4 < 0 ∨ 8 ≤ (x2_4).toNatClampNeg) then none else (fX1_findSegments_L4 v_t_rs v_t_sh_nd K k ph34 (x2_4 + nI 1) (upd v_t_seg_4 (x2_4).toNatClampNeg ph34))))))
def fX1_findSegments (v_t_rs : Int32) (v_t_sh_nd : Int32) (v_t_seg : Nat → Int32) : Option ((Nat → Int32)) := (fX1_findSegments_L4 v_t_rs v_t_sh_nd (fun x1_4 x2_4 v_t_seg_4 => ((fX5_contains v_t_rs (v_t_sh_nd - (nI 1))).bind (fun q60 => (if q60 = true then (some v_t_seg_4) else (fX1_findSegments_L69 v_t_rs v_t_sh_nd (fun x2_69 v_t_seg_69 => (some v_t_seg_69)) FU x1_4 v_t_seg_4))))) FU 0 0 v_t_seg)
theorem kd_X1_findSegments : yX1_findSegments.cls = RX1 ∧ yX1_findSegments.cls ≠ "java/lang/invoke/MethodHandle" ∧ yX1_findSegments.cls ≠ "java/lang/invoke/VarHandle" ∧ (parseMethodDescriptor yX1_findSegments.desc).map (fun d => d.parameters.length) = some 0 := by decide +kernel
def rm_X1_findSegments : Room := { frames := 1, cells := 0, slots := 0, locals := 21 }
set_option maxHeartbeats 4000000 in
set_option maxRecDepth 100000 in
theorem k_X1_findSegments (l : Launch) (D : va_G) (cI cZ : ClassId) (a_t a_t_sh a_t_cmd a_t_tim a_t_hel a_t_dir a_t_seg : Nat) (v_t_fw : Int32) (v_t_fp : Int32) (v_t_fn : Int32) (v_t_rt : Int32) (v_t_wd : Int32) (v_t_pd : Int32) (v_t_ss : Int32) (v_t_rs : Int32) (v_t_sh_nd : Int32) (v_t_sh_sn : Int32) (v_t_seg : Nat → Int32) (q : (Nat → Int32)) (hf : fX1_findSegments v_t_rs v_t_sh_nd v_t_seg = some q) : CV l D cI cZ yX1_findSegments wsX1_findSegments rm_X1_findSegments [.ref a_t] (wo_X1_findSegments cI cZ a_t a_t_sh a_t_cmd a_t_tim a_t_hel a_t_dir a_t_seg v_t_fw v_t_fp v_t_fn v_t_rt v_t_wd v_t_pd v_t_ss v_t_rs v_t_sh_nd v_t_sh_sn v_t_seg) (wo_X1_findSegments cI cZ a_t a_t_sh a_t_cmd a_t_tim a_t_hel a_t_dir a_t_seg v_t_fw v_t_fp v_t_fn v_t_rt v_t_wd v_t_pd v_t_ss v_t_rs v_t_sh_nd v_t_sh_sn q) := by
  refine CV.mk (cc := cX1_findSegments) (maxL := 3) (by decide) rfl (Nat.le_of_ble_eq_true rfl) ?_
  intro p e s m below meth c ls A X hP hD hl hS
  have hx := X.1.1
  have hb := X.1.2.1
  have hl : lv_has ls 3 [(0, .ref a_t)] := hl
  have inX1 : ∀ w ∈ u_ws RX1 TX1 14, w ∈ wsX1_findSegments := fun _ h => List.mem_cons_of_mem _ (List.mem_append_left _ (List.mem_append_right _ h))
  have inX2 : ∀ w ∈ u_ws RX2 TX2 2, w ∈ wsX1_findSegments := fun _ h => List.mem_cons_of_mem _ (List.mem_append_right _ h)
  have L69 : ∀ (K : Int32 → (Nat → Int32) → Option ((Nat → Int32))) (hKK : ∀ (x2_69 : Int32) (v_t_seg_69 : Nat → Int32) (H : Heap) (locs : List Loc) (ls : Array Slot), K x2_69 v_t_seg_69 = some q → va_P D vwCl (wo_X1_findSegments cI cZ a_t a_t_sh a_t_cmd a_t_tim a_t_hel a_t_dir a_t_seg v_t_fw v_t_fp v_t_fn v_t_rt v_t_wd v_t_pd v_t_ss v_t_rs v_t_sh_nd v_t_sh_sn v_t_seg_69) H → va_D A (wo_X1_findSegments cI cZ a_t a_t_sh a_t_cmd a_t_tim a_t_hel a_t_dir a_t_seg v_t_fw v_t_fp v_t_fn v_t_rt v_t_wd v_t_pd v_t_ss v_t_rs v_t_sh_nd v_t_sh_sn v_t_seg_69) → va_S A s.heap H locs → lv_has ls 3 [] → W p l e rm_X1_findSegments s m ([.ref a_t] : List Value).toArray below meth c H locs 0 0 (MQ below (QV D (wo_X1_findSegments cI cZ a_t a_t_sh a_t_cmd a_t_tim a_t_hel a_t_dir a_t_seg v_t_fw v_t_fp v_t_fn v_t_rt v_t_wd v_t_pd v_t_ss v_t_rs v_t_sh_nd v_t_sh_sn q) A) ([.ref a_t] : List Value).toArray s 0 0 A) (F0 m 93 ls [])) (k : Nat) (x2_69 : Int32) (v_t_seg_69 : Nat → Int32) (H : Heap) (locs : List Loc) (ls : Array Slot), fX1_findSegments_L69 v_t_rs v_t_sh_nd K k x2_69 v_t_seg_69 = some q → va_P D vwCl (wo_X1_findSegments cI cZ a_t a_t_sh a_t_cmd a_t_tim a_t_hel a_t_dir a_t_seg v_t_fw v_t_fp v_t_fn v_t_rt v_t_wd v_t_pd v_t_ss v_t_rs v_t_sh_nd v_t_sh_sn v_t_seg_69) H → va_D A (wo_X1_findSegments cI cZ a_t a_t_sh a_t_cmd a_t_tim a_t_hel a_t_dir a_t_seg v_t_fw v_t_fp v_t_fn v_t_rt v_t_wd v_t_pd v_t_ss v_t_rs v_t_sh_nd v_t_sh_sn v_t_seg_69) → va_S A s.heap H locs → lv_has ls 3 [(0, .ref a_t), (2, .int x2_69)] → W p l e rm_X1_findSegments s m ([.ref a_t] : List Value).toArray below meth c H locs 0 0 (MQ below (QV D (wo_X1_findSegments cI cZ a_t a_t_sh a_t_cmd a_t_tim a_t_hel a_t_dir a_t_seg v_t_fw v_t_fp v_t_fn v_t_rt v_t_wd v_t_pd v_t_ss v_t_rs v_t_sh_nd v_t_sh_sn q) A) ([.ref a_t] : List Value).toArray s 0 0 A) (F0 m 69 ls []) := by
    intro K hKK k
    induction k with
    | zero => intro x2_69 v_t_seg_69 H locs ls hf; rw [fX1_findSegments_L69] at hf; cases hf
    | succ k ih =>
      intro x2_69 v_t_seg_69 H locs ls hf hP hD hS hl
      rw [fX1_findSegments_L69] at hf
      refine lv_iload_n hx hb dX1_findSegments_69 rfl (lv_at hl 1 rfl) ?_
      refine lv_aload_n hx hb dX1_findSegments_70 rfl (lv_at hl 0 rfl) ?_
      refine getO X hP inX1 0 rfl rfl 0 (by decide) (List.mem_of_getElem? (i := 1) rfl) rfl dX1_findSegments_71 ?_
      refine getN X hP inX2 1 rfl rfl 0 (by decide) 1 rfl rfl dX1_findSegments_74 ?_
      refine lv_icmp_ge (tgt := 93) hx hb dX1_findSegments_77 (by decide) (fun hc => ?_) (fun hc => ?_)
      · replace hf := ifp hc hf
        exact hKK _ _ _ _ ls hf hP hD hS (lv_sub hl [] rfl)
      · replace hf := ifn hc hf
        refine lv_aload_n hx hb dX1_findSegments_80 rfl (lv_at hl 0 rfl) ?_
        refine getO X hP inX1 0 rfl rfl 13 (by decide) (List.mem_of_getElem? (i := 3) rfl) rfl dX1_findSegments_81 ?_
        refine lv_iload_n hx hb dX1_findSegments_84 rfl (lv_at hl 1 rfl) ?_
        refine lv_iconst hx hb dX1_findSegments_85 ic_0 ?_
        obtain ⟨g86, hf⟩ := grd hf
        refine astI X hP hD hS 2 rfl g86 rfl dX1_findSegments_86 (wo_X1_findSegments cI cZ a_t a_t_sh a_t_cmd a_t_tim a_t_hel a_t_dir a_t_seg v_t_fw v_t_fp v_t_fn v_t_rt v_t_wd v_t_pd v_t_ss v_t_rs v_t_sh_nd v_t_sh_sn (upd v_t_seg_69 (x2_69).toNatClampNeg 0)) rfl (fun H locs hP hD hS => ?_)
        refine lv_iinc (v := (x2_69 + nI 1)) (lv' := [(2, .int (x2_69 + nI 1)), (0, .ref a_t)]) hx hb dX1_findSegments_87 hl (k := 1) rfl (inc_1 _) (by decide) rfl (fun ls hl => ?_)
        refine lv_goto (tgt := 69) hx hb dX1_findSegments_90 (by decide) ?_
        exact ih _ _ _ _ ls hf hP hD hS (lv_sub hl [1, 0] rfl)
  have L4 : ∀ (K : Int32 → Int32 → (Nat → Int32) → Option ((Nat → Int32))) (hKK : ∀ (x1_4 : Int32) (x2_4 : Int32) (v_t_seg_4 : Nat → Int32) (H : Heap) (locs : List Loc) (ls : Array Slot), K x1_4 x2_4 v_t_seg_4 = some q → va_P D vwCl (wo_X1_findSegments cI cZ a_t a_t_sh a_t_cmd a_t_tim a_t_hel a_t_dir a_t_seg v_t_fw v_t_fp v_t_fn v_t_rt v_t_wd v_t_pd v_t_ss v_t_rs v_t_sh_nd v_t_sh_sn v_t_seg_4) H → va_D A (wo_X1_findSegments cI cZ a_t a_t_sh a_t_cmd a_t_tim a_t_hel a_t_dir a_t_seg v_t_fw v_t_fp v_t_fn v_t_rt v_t_wd v_t_pd v_t_ss v_t_rs v_t_sh_nd v_t_sh_sn v_t_seg_4) → va_S A s.heap H locs → lv_has ls 3 [(0, .ref a_t), (1, .int x1_4)] → W p l e rm_X1_findSegments s m ([.ref a_t] : List Value).toArray below meth c H locs 0 0 (MQ below (QV D (wo_X1_findSegments cI cZ a_t a_t_sh a_t_cmd a_t_tim a_t_hel a_t_dir a_t_seg v_t_fw v_t_fp v_t_fn v_t_rt v_t_wd v_t_pd v_t_ss v_t_rs v_t_sh_nd v_t_sh_sn q) A) ([.ref a_t] : List Value).toArray s 0 0 A) (F0 m 47 ls [])) (k : Nat) (x1_4 : Int32) (x2_4 : Int32) (v_t_seg_4 : Nat → Int32) (H : Heap) (locs : List Loc) (ls : Array Slot), fX1_findSegments_L4 v_t_rs v_t_sh_nd K k x1_4 x2_4 v_t_seg_4 = some q → va_P D vwCl (wo_X1_findSegments cI cZ a_t a_t_sh a_t_cmd a_t_tim a_t_hel a_t_dir a_t_seg v_t_fw v_t_fp v_t_fn v_t_rt v_t_wd v_t_pd v_t_ss v_t_rs v_t_sh_nd v_t_sh_sn v_t_seg_4) H → va_D A (wo_X1_findSegments cI cZ a_t a_t_sh a_t_cmd a_t_tim a_t_hel a_t_dir a_t_seg v_t_fw v_t_fp v_t_fn v_t_rt v_t_wd v_t_pd v_t_ss v_t_rs v_t_sh_nd v_t_sh_sn v_t_seg_4) → va_S A s.heap H locs → lv_has ls 3 [(0, .ref a_t), (1, .int x1_4), (2, .int x2_4)] → W p l e rm_X1_findSegments s m ([.ref a_t] : List Value).toArray below meth c H locs 0 0 (MQ below (QV D (wo_X1_findSegments cI cZ a_t a_t_sh a_t_cmd a_t_tim a_t_hel a_t_dir a_t_seg v_t_fw v_t_fp v_t_fn v_t_rt v_t_wd v_t_pd v_t_ss v_t_rs v_t_sh_nd v_t_sh_sn q) A) ([.ref a_t] : List Value).toArray s 0 0 A) (F0 m 4 ls []) := by
    intro K hKK k
    induction k with
    | zero => intro x1_4 x2_4 v_t_seg_4 H locs ls hf; rw [fX1_findSegments_L4] at hf; cases hf
    | succ k ih =>
      intro x1_4 x2_4 v_t_seg_4 H locs ls hf hP hD hS hl
      rw [fX1_findSegments_L4] at hf
      refine lv_iload_n hx hb dX1_findSegments_4 rfl (lv_at hl 2 rfl) ?_
      refine lv_aload_n hx hb dX1_findSegments_5 rfl (lv_at hl 0 rfl) ?_
      refine getO X hP inX1 0 rfl rfl 0 (by decide) (List.mem_of_getElem? (i := 1) rfl) rfl dX1_findSegments_6 ?_
      refine getN X hP inX2 1 rfl rfl 0 (by decide) 1 rfl rfl dX1_findSegments_9 ?_
      refine lv_icmp_ge (tgt := 47) hx hb dX1_findSegments_12 (by decide) (fun hc => ?_) (fun hc => ?_)
      · replace hf := ifp hc hf
        exact hKK _ _ _ _ _ ls hf hP hD hS (lv_sub hl [0, 1] rfl)
      · replace hf := ifn hc hf
        refine lv_iload_n hx hb dX1_findSegments_15 rfl (lv_at hl 2 rfl) ?_
        obtain ⟨ph34, hg, hf⟩ := bnd hf
        have J34 : ∀ (H : Heap) (locs : List Loc) (ls : Array Slot), va_P D vwCl (wo_X1_findSegments cI cZ a_t a_t_sh a_t_cmd a_t_tim a_t_hel a_t_dir a_t_seg v_t_fw v_t_fp v_t_fn v_t_rt v_t_wd v_t_pd v_t_ss v_t_rs v_t_sh_nd v_t_sh_sn v_t_seg_4) H → va_D A (wo_X1_findSegments cI cZ a_t a_t_sh a_t_cmd a_t_tim a_t_hel a_t_dir a_t_seg v_t_fw v_t_fp v_t_fn v_t_rt v_t_wd v_t_pd v_t_ss v_t_rs v_t_sh_nd v_t_sh_sn v_t_seg_4) → va_S A s.heap H locs → lv_has ls 3 [(0, .ref a_t), (1, .int ph34), (2, .int x2_4)] → W p l e rm_X1_findSegments s m ([.ref a_t] : List Value).toArray below meth c H locs 0 0 (MQ below (QV D (wo_X1_findSegments cI cZ a_t a_t_sh a_t_cmd a_t_tim a_t_hel a_t_dir a_t_seg v_t_fw v_t_fp v_t_fn v_t_rt v_t_wd v_t_pd v_t_ss v_t_rs v_t_sh_nd v_t_sh_sn q) A) ([.ref a_t] : List Value).toArray s 0 0 A) (F0 m 34 ls []) := by
          clear hg hP hD hS hl
          intro H locs ls hP hD hS hl
          refine lv_aload_n hx hb dX1_findSegments_34 rfl (lv_at hl 0 rfl) ?_
          refine getO X hP inX1 0 rfl rfl 13 (by decide) (List.mem_of_getElem? (i := 3) rfl) rfl dX1_findSegments_35 ?_
          refine lv_iload_n hx hb dX1_findSegments_38 rfl (lv_at hl 2 rfl) ?_
          refine lv_iload_n hx hb dX1_findSegments_39 rfl (lv_at hl 1 rfl) ?_
          obtain ⟨g40, hf⟩ := grd hf
          refine astI X hP hD hS 2 rfl g40 rfl dX1_findSegments_40 (wo_X1_findSegments cI cZ a_t a_t_sh a_t_cmd a_t_tim a_t_hel a_t_dir a_t_seg v_t_fw v_t_fp v_t_fn v_t_rt v_t_wd v_t_pd v_t_ss v_t_rs v_t_sh_nd v_t_sh_sn (upd v_t_seg_4 (x2_4).toNatClampNeg ph34)) rfl (fun H locs hP hD hS => ?_)
          refine lv_iinc (v := (x2_4 + nI 1)) (lv' := [(2, .int (x2_4 + nI 1)), (0, .ref a_t), (1, .int ph34)]) hx hb dX1_findSegments_41 hl (k := 2) rfl (inc_1 _) (by decide) rfl (fun ls hl => ?_)
          refine lv_goto (tgt := 4) hx hb dX1_findSegments_44 (by decide) ?_
          exact ih _ _ _ _ _ ls hf hP hD hS (lv_sub hl [1, 2, 0] rfl)
        replace hf := hg
        clear hg
        refine lv_if_le (tgt := 34) hx hb dX1_findSegments_16 (by decide) (fun hc => ?_) (fun hc => ?_)
        · replace hf := ifp hc hf
          obtain rfl := Option.some.inj hf
          exact J34 _ _ ls hP hD hS (lv_sub hl [0, 1, 2] rfl)
        · replace hf := ifn hc hf
          refine lv_aload_n hx hb dX1_findSegments_19 rfl (lv_at hl 0 rfl) ?_
          refine getO X hP inX1 0 rfl rfl 12 (by decide) (List.mem_of_getElem? (i := 2) rfl) rfl dX1_findSegments_20 ?_
          refine lv_iload_n hx hb dX1_findSegments_23 rfl (lv_at hl 2 rfl) ?_
          refine lv_iconst hx hb dX1_findSegments_24 ic_1 ?_
          refine lv_isub hx hb dX1_findSegments_25 ?_
          obtain ⟨q26, e26, hf⟩ := bnd hf
          refine callNI X (k_X5_contains l D cI cZ    v_t_rs (x2_4 - (nI 1)) q26 e26) ⟨va_cnB 2 X.1.2.2.2.2 gX1_findSegments_X5_contains_n48 rfl rfl rfl (X.2.2.2.2.1.ml 10 rfl) (X.1.2.2.2.2 _ (List.mem_of_getElem? (i := 5) rfl)) kd_X5_contains ⟨Nat.le_of_ble_eq_true rfl, Nat.le_of_ble_eq_true rfl⟩, X.1.2.2.2.2 _ (List.mem_of_getElem? (i := 4) rfl), trivial⟩ hP hD hS hl.1 [] (by decide) (wo_X1_findSegments cI cZ a_t a_t_sh a_t_cmd a_t_tim a_t_hel a_t_dir a_t_seg v_t_fw v_t_fp v_t_fn v_t_rt v_t_wd v_t_pd v_t_ss v_t_rs v_t_sh_nd v_t_sh_sn v_t_seg_4) rfl rfl rfl rfl rfl (rest := []) rfl (Nat.le_of_ble_eq_true rfl) dX1_findSegments_26 ⟨Nat.zero_le _, Nat.zero_le _⟩ (fun H locs hP hD hS => ?_)
          refine lv_if_eq (tgt := 34) hx hb dX1_findSegments_29 (by decide) (fun hc => ?_) (fun hc => ?_)
          · replace hf := ifn (b2i_z hc) hf
            obtain rfl := Option.some.inj hf
            exact J34 _ _ ls hP hD hS (lv_sub hl [0, 1, 2] rfl)
          · replace hf := ifp (b2i_nz hc) hf
            refine lv_iload_n hx hb dX1_findSegments_32 rfl (lv_at hl 2 rfl) ?_
            refine lv_istore_n (lv' := [(1, .int x2_4), (0, .ref a_t), (2, .int x2_4)]) hx hb dX1_findSegments_33 rfl hl (by decide) rfl (fun ls hl => ?_)
            obtain rfl := Option.some.inj hf
            exact J34 _ _ ls hP hD hS (lv_sub hl [1, 0, 2] rfl)
  unfold fX1_findSegments at hf
  refine lv_iconst hx hb dX1_findSegments_0 ic_0 ?_
  refine lv_istore_n (lv' := [(1, .int 0), (0, .ref a_t)]) hx hb dX1_findSegments_1 rfl hl (by decide) rfl (fun ls hl => ?_)
  refine lv_iconst hx hb dX1_findSegments_2 ic_0 ?_
  refine lv_istore_n (lv' := [(2, .int 0), (1, .int 0), (0, .ref a_t)]) hx hb dX1_findSegments_3 rfl hl (by decide) rfl (fun ls hl => ?_)
  refine L4 _ (fun x1_4 x2_4 v_t_seg_4 H locs ls hf hP hD hS hl => ?_) FU _ _ _ _ _ ls hf hP hD hS (lv_sub hl [2, 1, 0] rfl)
  refine lv_aload_n hx hb dX1_findSegments_47 rfl (lv_at hl 0 rfl) ?_
  refine getO X hP inX1 0 rfl rfl 12 (by decide) (List.mem_of_getElem? (i := 2) rfl) rfl dX1_findSegments_48 ?_
  refine lv_aload_n hx hb dX1_findSegments_51 rfl (lv_at hl 0 rfl) ?_
  refine getO X hP inX1 0 rfl rfl 0 (by decide) (List.mem_of_getElem? (i := 1) rfl) rfl dX1_findSegments_52 ?_
  refine getN X hP inX2 1 rfl rfl 0 (by decide) 1 rfl rfl dX1_findSegments_55 ?_
  refine lv_iconst hx hb dX1_findSegments_58 ic_1 ?_
  refine lv_isub hx hb dX1_findSegments_59 ?_
  obtain ⟨q60, e60, hf⟩ := bnd hf
  refine callNI X (k_X5_contains l D cI cZ    v_t_rs (v_t_sh_nd - (nI 1)) q60 e60) ⟨va_cnB 2 X.1.2.2.2.2 gX1_findSegments_X5_contains_n48 rfl rfl rfl (X.2.2.2.2.1.ml 10 rfl) (X.1.2.2.2.2 _ (List.mem_of_getElem? (i := 5) rfl)) kd_X5_contains ⟨Nat.le_of_ble_eq_true rfl, Nat.le_of_ble_eq_true rfl⟩, X.1.2.2.2.2 _ (List.mem_of_getElem? (i := 4) rfl), trivial⟩ hP hD hS hl.1 [] (by decide) (wo_X1_findSegments cI cZ a_t a_t_sh a_t_cmd a_t_tim a_t_hel a_t_dir a_t_seg v_t_fw v_t_fp v_t_fn v_t_rt v_t_wd v_t_pd v_t_ss v_t_rs v_t_sh_nd v_t_sh_sn v_t_seg_4) rfl rfl rfl rfl rfl (rest := []) rfl (Nat.le_of_ble_eq_true rfl) dX1_findSegments_60 ⟨Nat.zero_le _, Nat.zero_le _⟩ (fun H locs hP hD hS => ?_)
  refine lv_if_eq (tgt := 67) hx hb dX1_findSegments_63 (by decide) (fun hc => ?_) (fun hc => ?_)
  · replace hf := ifn (b2i_z hc) hf
    refine lv_iload_n hx hb dX1_findSegments_67 rfl (lv_at hl 1 rfl) ?_
    refine lv_istore_n (lv' := [(2, .int x1_4), (0, .ref a_t), (1, .int x1_4)]) hx hb dX1_findSegments_68 rfl hl (by decide) rfl (fun ls hl => ?_)
    refine L69 _ (fun x2_69 v_t_seg_69 H locs ls hf hP hD hS hl => ?_) FU _ _ _ _ ls hf hP hD hS (lv_sub hl [1, 0] rfl)
    obtain rfl := Option.some.inj hf
    exact retV X hS hP dX1_findSegments_93
  · replace hf := ifp (b2i_nz hc) hf
    obtain rfl := Option.some.inj hf
    exact retV X hS hP dX1_findSegments_66

abbrev wo_X1_run (cI cZ : ClassId) (a_t a_t_sh a_t_cmd a_t_tim a_t_hel a_t_dir a_t_seg : Nat) (v_t_fw : Int32) (v_t_fp : Int32) (v_t_fn : Int32) (v_t_rt : Int32) (v_t_wd : Int32) (v_t_pd : Int32) (v_t_ss : Int32) (v_t_rs : Int32) (v_t_sh_nd : Int32) (v_t_sh_sn : Int32) (v_t_cmd : Nat → Int32) (v_t_tim : Nat → Int32) (v_t_hel : Nat → Int32) (v_t_dir : Nat → Int32) (v_t_seg : Nat → Int32) : va_W := [(a_t, oX1 a_t_sh v_t_fw v_t_fp v_t_fn a_t_cmd a_t_tim a_t_hel v_t_rt v_t_wd v_t_pd a_t_dir v_t_ss v_t_rs a_t_seg), (a_t_sh, oX2 v_t_sh_nd v_t_sh_sn), (a_t_cmd, rI cI 8 v_t_cmd), (a_t_tim, rI cI 8 v_t_tim), (a_t_hel, rI cI 8 v_t_hel), (a_t_dir, rI cI 8 v_t_dir), (a_t_seg, rI cI 8 v_t_seg)]
def fX1_run_L6 (v_t_fw : Int32) (v_t_fp : Int32) (v_t_fn : Int32) (v_t_rt : Int32) (v_t_sh_nd : Int32) (v_t_cmd : Nat → Int32) (K : Int32 → Int32 → Int32 → Int32 → Int32 → (Nat → Int32) → (Nat → Int32) → (Nat → Int32) → (Nat → Int32) → Option (Int32 × Int32 × Int32 × Int32 × (Nat → Int32) × (Nat → Int32) × (Nat → Int32) × (Nat → Int32))) : Nat → Int32 → Int32 → Int32 → Int32 → Int32 → (Nat → Int32) → (Nat → Int32) → (Nat → Int32) → (Nat → Int32) → Option (Int32 × Int32 × Int32 × Int32 × (Nat → Int32) × (Nat → Int32) × (Nat → Int32) × (Nat → Int32))
  | 0, _, _, _, _, _, _, _, _, _ => none
  | k + 1, x1_6, v_t_wd_6, v_t_pd_6, v_t_ss_6, v_t_rs_6, v_t_tim_6, v_t_hel_6, v_t_dir_6, v_t_seg_6 => (if v_t_sh_nd ≤ x1_6 then (K x1_6 v_t_wd_6 v_t_pd_6 v_t_ss_6 v_t_rs_6 v_t_tim_6 v_t_hel_6 v_t_dir_6 v_t_seg_6) else ((fX1_takeDirectRequest v_t_rt v_t_wd_6 v_t_pd_6 v_t_ss_6 v_t_rs_6 v_t_cmd v_t_tim_6 v_t_hel_6 v_t_dir_6 x1_6).bind (fun q19 => (fX1_run_L6 v_t_fw v_t_fp v_t_fn v_t_rt v_t_sh_nd v_t_cmd K k (x1_6 + nI 1) v_t_wd_6 v_t_pd_6 v_t_ss_6 v_t_rs_6 q19.1 q19.2.1 q19.2.2 v_t_seg_6))))
def fX1_run (v_t_fw : Int32) (v_t_fp : Int32) (v_t_fn : Int32) (v_t_rt : Int32) (v_t_wd : Int32) (v_t_pd : Int32) (v_t_ss : Int32) (v_t_rs : Int32) (v_t_sh_nd : Int32) (v_t_cmd : Nat → Int32) (v_t_tim : Nat → Int32) (v_t_hel : Nat → Int32) (v_t_dir : Nat → Int32) (v_t_seg : Nat → Int32) : Option (Int32 × Int32 × Int32 × Int32 × (Nat → Int32) × (Nat → Int32) × (Nat → Int32) × (Nat → Int32)) := ((fX1_findCapacitiesDown v_t_fw v_t_fp v_t_fn v_t_wd v_t_pd v_t_sh_nd).bind (fun q1 => (fX1_run_L6 v_t_fw v_t_fp v_t_fn v_t_rt v_t_sh_nd v_t_cmd (fun x1_6 v_t_wd_6 v_t_pd_6 v_t_ss_6 v_t_rs_6 v_t_tim_6 v_t_hel_6 v_t_dir_6 v_t_seg_6 => ((fX1_grantSwitches v_t_ss_6 v_t_rs_6 v_t_sh_nd v_t_tim_6 v_t_hel_6 v_t_dir_6).bind (fun q29 => ((fX1_dropWaitsWithoutSwitch q29.1 q29.2 v_t_sh_nd v_t_tim_6 v_t_hel_6 v_t_dir_6).bind (fun q33 => ((fX1_findSegments q29.2 v_t_sh_nd v_t_seg_6).bind (fun q37 => (some (v_t_wd_6, v_t_pd_6, q29.1, q29.2, q33, v_t_hel_6, v_t_dir_6, q37))))))))) FU 0 q1.1 q1.2 v_t_ss v_t_rs v_t_tim v_t_hel v_t_dir v_t_seg)))
theorem kd_X1_run : yX1_run.cls = RX1 ∧ yX1_run.cls ≠ "java/lang/invoke/MethodHandle" ∧ yX1_run.cls ≠ "java/lang/invoke/VarHandle" ∧ (parseMethodDescriptor yX1_run.desc).map (fun d => d.parameters.length) = some 0 := by decide +kernel
def rm_X1_run : Room := { frames := 4, cells := 0, slots := 0, locals := 87 }
set_option maxHeartbeats 4000000 in
set_option maxRecDepth 100000 in
theorem k_X1_run (l : Launch) (D : va_G) (cI cZ : ClassId) (a_t a_t_sh a_t_cmd a_t_tim a_t_hel a_t_dir a_t_seg : Nat) (v_t_fw : Int32) (v_t_fp : Int32) (v_t_fn : Int32) (v_t_rt : Int32) (v_t_wd : Int32) (v_t_pd : Int32) (v_t_ss : Int32) (v_t_rs : Int32) (v_t_sh_nd : Int32) (v_t_sh_sn : Int32) (v_t_cmd : Nat → Int32) (v_t_tim : Nat → Int32) (v_t_hel : Nat → Int32) (v_t_dir : Nat → Int32) (v_t_seg : Nat → Int32) (q : Int32 × Int32 × Int32 × Int32 × (Nat → Int32) × (Nat → Int32) × (Nat → Int32) × (Nat → Int32)) (hf : fX1_run v_t_fw v_t_fp v_t_fn v_t_rt v_t_wd v_t_pd v_t_ss v_t_rs v_t_sh_nd v_t_cmd v_t_tim v_t_hel v_t_dir v_t_seg = some q) : CV l D cI cZ yX1_run wsX1_run rm_X1_run [.ref a_t] (wo_X1_run cI cZ a_t a_t_sh a_t_cmd a_t_tim a_t_hel a_t_dir a_t_seg v_t_fw v_t_fp v_t_fn v_t_rt v_t_wd v_t_pd v_t_ss v_t_rs v_t_sh_nd v_t_sh_sn v_t_cmd v_t_tim v_t_hel v_t_dir v_t_seg) (wo_X1_run cI cZ a_t a_t_sh a_t_cmd a_t_tim a_t_hel a_t_dir a_t_seg v_t_fw v_t_fp v_t_fn v_t_rt q.1 q.2.1 q.2.2.1 q.2.2.2.1 v_t_sh_nd v_t_sh_sn v_t_cmd q.2.2.2.2.1 q.2.2.2.2.2.1 q.2.2.2.2.2.2.1 q.2.2.2.2.2.2.2) := by
  refine CV.mk (cc := cX1_run) (maxL := 2) (by decide) rfl (Nat.le_of_ble_eq_true rfl) ?_
  intro p e s m below meth c ls A X hP hD hl hS
  have hx := X.1.1
  have hb := X.1.2.1
  have hl : lv_has ls 2 [(0, .ref a_t)] := hl
  have inX1 : ∀ w ∈ u_ws RX1 TX1 14, w ∈ wsX1_run := fun _ h => List.mem_cons_of_mem _ (List.mem_append_left _ (List.mem_append_right _ h))
  have inX2 : ∀ w ∈ u_ws RX2 TX2 2, w ∈ wsX1_run := fun _ h => List.mem_cons_of_mem _ (List.mem_append_right _ h)
  have L6 : ∀ (K : Int32 → Int32 → Int32 → Int32 → Int32 → (Nat → Int32) → (Nat → Int32) → (Nat → Int32) → (Nat → Int32) → Option (Int32 × Int32 × Int32 × Int32 × (Nat → Int32) × (Nat → Int32) × (Nat → Int32) × (Nat → Int32))) (hKK : ∀ (x1_6 : Int32) (v_t_wd_6 : Int32) (v_t_pd_6 : Int32) (v_t_ss_6 : Int32) (v_t_rs_6 : Int32) (v_t_tim_6 : Nat → Int32) (v_t_hel_6 : Nat → Int32) (v_t_dir_6 : Nat → Int32) (v_t_seg_6 : Nat → Int32) (H : Heap) (locs : List Loc) (ls : Array Slot), K x1_6 v_t_wd_6 v_t_pd_6 v_t_ss_6 v_t_rs_6 v_t_tim_6 v_t_hel_6 v_t_dir_6 v_t_seg_6 = some q → va_P D vwCl (wo_X1_run cI cZ a_t a_t_sh a_t_cmd a_t_tim a_t_hel a_t_dir a_t_seg v_t_fw v_t_fp v_t_fn v_t_rt v_t_wd_6 v_t_pd_6 v_t_ss_6 v_t_rs_6 v_t_sh_nd v_t_sh_sn v_t_cmd v_t_tim_6 v_t_hel_6 v_t_dir_6 v_t_seg_6) H → va_D A (wo_X1_run cI cZ a_t a_t_sh a_t_cmd a_t_tim a_t_hel a_t_dir a_t_seg v_t_fw v_t_fp v_t_fn v_t_rt v_t_wd_6 v_t_pd_6 v_t_ss_6 v_t_rs_6 v_t_sh_nd v_t_sh_sn v_t_cmd v_t_tim_6 v_t_hel_6 v_t_dir_6 v_t_seg_6) → va_S A s.heap H locs → lv_has ls 2 [(0, .ref a_t)] → W p l e rm_X1_run s m ([.ref a_t] : List Value).toArray below meth c H locs 0 0 (MQ below (QV D (wo_X1_run cI cZ a_t a_t_sh a_t_cmd a_t_tim a_t_hel a_t_dir a_t_seg v_t_fw v_t_fp v_t_fn v_t_rt q.1 q.2.1 q.2.2.1 q.2.2.2.1 v_t_sh_nd v_t_sh_sn v_t_cmd q.2.2.2.2.1 q.2.2.2.2.2.1 q.2.2.2.2.2.2.1 q.2.2.2.2.2.2.2) A) ([.ref a_t] : List Value).toArray s 0 0 A) (F0 m 28 ls [])) (k : Nat) (x1_6 : Int32) (v_t_wd_6 : Int32) (v_t_pd_6 : Int32) (v_t_ss_6 : Int32) (v_t_rs_6 : Int32) (v_t_tim_6 : Nat → Int32) (v_t_hel_6 : Nat → Int32) (v_t_dir_6 : Nat → Int32) (v_t_seg_6 : Nat → Int32) (H : Heap) (locs : List Loc) (ls : Array Slot), fX1_run_L6 v_t_fw v_t_fp v_t_fn v_t_rt v_t_sh_nd v_t_cmd K k x1_6 v_t_wd_6 v_t_pd_6 v_t_ss_6 v_t_rs_6 v_t_tim_6 v_t_hel_6 v_t_dir_6 v_t_seg_6 = some q → va_P D vwCl (wo_X1_run cI cZ a_t a_t_sh a_t_cmd a_t_tim a_t_hel a_t_dir a_t_seg v_t_fw v_t_fp v_t_fn v_t_rt v_t_wd_6 v_t_pd_6 v_t_ss_6 v_t_rs_6 v_t_sh_nd v_t_sh_sn v_t_cmd v_t_tim_6 v_t_hel_6 v_t_dir_6 v_t_seg_6) H → va_D A (wo_X1_run cI cZ a_t a_t_sh a_t_cmd a_t_tim a_t_hel a_t_dir a_t_seg v_t_fw v_t_fp v_t_fn v_t_rt v_t_wd_6 v_t_pd_6 v_t_ss_6 v_t_rs_6 v_t_sh_nd v_t_sh_sn v_t_cmd v_t_tim_6 v_t_hel_6 v_t_dir_6 v_t_seg_6) → va_S A s.heap H locs → lv_has ls 2 [(0, .ref a_t), (1, .int x1_6)] → W p l e rm_X1_run s m ([.ref a_t] : List Value).toArray below meth c H locs 0 0 (MQ below (QV D (wo_X1_run cI cZ a_t a_t_sh a_t_cmd a_t_tim a_t_hel a_t_dir a_t_seg v_t_fw v_t_fp v_t_fn v_t_rt q.1 q.2.1 q.2.2.1 q.2.2.2.1 v_t_sh_nd v_t_sh_sn v_t_cmd q.2.2.2.2.1 q.2.2.2.2.2.1 q.2.2.2.2.2.2.1 q.2.2.2.2.2.2.2) A) ([.ref a_t] : List Value).toArray s 0 0 A) (F0 m 6 ls []) := by
    intro K hKK k
    induction k with
    | zero => intro x1_6 v_t_wd_6 v_t_pd_6 v_t_ss_6 v_t_rs_6 v_t_tim_6 v_t_hel_6 v_t_dir_6 v_t_seg_6 H locs ls hf; rw [fX1_run_L6] at hf; cases hf
    | succ k ih =>
      intro x1_6 v_t_wd_6 v_t_pd_6 v_t_ss_6 v_t_rs_6 v_t_tim_6 v_t_hel_6 v_t_dir_6 v_t_seg_6 H locs ls hf hP hD hS hl
      rw [fX1_run_L6] at hf
      refine lv_iload_n hx hb dX1_run_6 rfl (lv_at hl 1 rfl) ?_
      refine lv_aload_n hx hb dX1_run_7 rfl (lv_at hl 0 rfl) ?_
      refine getO X hP inX1 0 rfl rfl 0 (by decide) (List.mem_of_getElem? (i := 1) rfl) rfl dX1_run_8 ?_
      refine getN X hP inX2 1 rfl rfl 0 (by decide) 1 rfl rfl dX1_run_11 ?_
      refine lv_icmp_ge (tgt := 28) hx hb dX1_run_14 (by decide) (fun hc => ?_) (fun hc => ?_)
      · replace hf := ifp hc hf
        exact hKK _ _ _ _ _ _ _ _ _ _ _ ls hf hP hD hS (lv_sub hl [0] rfl)
      · replace hf := ifn hc hf
        refine lv_aload_n hx hb dX1_run_17 rfl (lv_at hl 0 rfl) ?_
        refine lv_iload_n hx hb dX1_run_18 rfl (lv_at hl 1 rfl) ?_
        obtain ⟨q19, e19, hf⟩ := bnd hf
        refine callVV X (k_X1_takeDirectRequest l D cI cZ a_t a_t_sh a_t_cmd a_t_tim a_t_hel a_t_dir a_t_seg  v_t_fw v_t_fp v_t_fn v_t_rt v_t_wd_6 v_t_pd_6 v_t_ss_6 v_t_rs_6 v_t_cmd v_t_tim_6 v_t_hel_6 v_t_dir_6 x1_6 q19 e19) (cwV 1 X.1.2.2.2.2 gX1_run_X1_takeDirectRequest rfl rfl rfl kd_X1_takeDirectRequest ⟨Nat.le_of_ble_eq_true rfl, Nat.le_of_ble_eq_true rfl⟩) hP hD hS hl.1 0 1 rfl rfl [0, 2, 3, 4, 5] (by decide) (wo_X1_run cI cZ a_t a_t_sh a_t_cmd a_t_tim a_t_hel a_t_dir a_t_seg v_t_fw v_t_fp v_t_fn v_t_rt v_t_wd_6 v_t_pd_6 v_t_ss_6 v_t_rs_6 v_t_sh_nd v_t_sh_sn v_t_cmd q19.1 q19.2.1 q19.2.2 v_t_seg_6) rfl rfl rfl rfl rfl (rest := []) rfl (Nat.le_of_ble_eq_true rfl) dX1_run_19 ⟨Nat.zero_le _, Nat.zero_le _⟩ (fun H locs hP hD hS => ?_)
        refine lv_iinc (v := (x1_6 + nI 1)) (lv' := [(1, .int (x1_6 + nI 1)), (0, .ref a_t)]) hx hb dX1_run_22 hl (k := 1) rfl (inc_1 _) (by decide) rfl (fun ls hl => ?_)
        refine lv_goto (tgt := 6) hx hb dX1_run_25 (by decide) ?_
        exact ih _ _ _ _ _ _ _ _ _ _ _ ls hf hP hD hS (lv_sub hl [1, 0] rfl)
  unfold fX1_run at hf
  refine lv_aload_n hx hb dX1_run_0 rfl (lv_at hl 0 rfl) ?_
  obtain ⟨q1, e1, hf⟩ := bnd hf
  refine callVV X (k_X1_findCapacitiesDown l D cI cZ a_t a_t_sh a_t_cmd a_t_tim a_t_hel a_t_dir a_t_seg  v_t_fw v_t_fp v_t_fn v_t_rt v_t_wd v_t_pd v_t_ss v_t_rs v_t_sh_nd v_t_sh_sn  q1 e1) (cwV 0 X.1.2.2.2.2 gX1_run_X1_findCapacitiesDown rfl rfl rfl kd_X1_findCapacitiesDown ⟨Nat.le_of_ble_eq_true rfl, Nat.le_of_ble_eq_true rfl⟩) hP hD hS hl.1 0 1 rfl rfl [0, 1] (by decide) (wo_X1_run cI cZ a_t a_t_sh a_t_cmd a_t_tim a_t_hel a_t_dir a_t_seg v_t_fw v_t_fp v_t_fn v_t_rt q1.1 q1.2 v_t_ss v_t_rs v_t_sh_nd v_t_sh_sn v_t_cmd v_t_tim v_t_hel v_t_dir v_t_seg) rfl rfl rfl rfl rfl (rest := []) rfl (Nat.le_of_ble_eq_true rfl) dX1_run_1 ⟨Nat.zero_le _, Nat.zero_le _⟩ (fun H locs hP hD hS => ?_)
  refine lv_iconst hx hb dX1_run_4 ic_0 ?_
  refine lv_istore_n (lv' := [(1, .int 0), (0, .ref a_t)]) hx hb dX1_run_5 rfl hl (by decide) rfl (fun ls hl => ?_)
  refine L6 _ (fun x1_6 v_t_wd_6 v_t_pd_6 v_t_ss_6 v_t_rs_6 v_t_tim_6 v_t_hel_6 v_t_dir_6 v_t_seg_6 H locs ls hf hP hD hS hl => ?_) FU _ _ _ _ _ _ _ _ _ _ _ ls hf hP hD hS (lv_sub hl [1, 0] rfl)
  refine lv_aload_n hx hb dX1_run_28 rfl (lv_at hl 0 rfl) ?_
  obtain ⟨q29, e29, hf⟩ := bnd hf
  refine callVV X (k_X1_grantSwitches l D cI cZ a_t a_t_sh a_t_cmd a_t_tim a_t_hel a_t_dir a_t_seg  v_t_fw v_t_fp v_t_fn v_t_rt v_t_wd_6 v_t_pd_6 v_t_ss_6 v_t_rs_6 v_t_sh_nd v_t_sh_sn v_t_tim_6 v_t_hel_6 v_t_dir_6  q29 e29) (cwV 0 X.1.2.2.2.2 gX1_run_X1_grantSwitches rfl rfl rfl kd_X1_grantSwitches ⟨Nat.le_of_ble_eq_true rfl, Nat.le_of_ble_eq_true rfl⟩) hP hD hS hl.1 0 1 rfl rfl [0, 1, 3, 4, 5] (by decide) (wo_X1_run cI cZ a_t a_t_sh a_t_cmd a_t_tim a_t_hel a_t_dir a_t_seg v_t_fw v_t_fp v_t_fn v_t_rt v_t_wd_6 v_t_pd_6 q29.1 q29.2 v_t_sh_nd v_t_sh_sn v_t_cmd v_t_tim_6 v_t_hel_6 v_t_dir_6 v_t_seg_6) rfl rfl rfl rfl rfl (rest := []) rfl (Nat.le_of_ble_eq_true rfl) dX1_run_29 ⟨Nat.zero_le _, Nat.zero_le _⟩ (fun H locs hP hD hS => ?_)
  refine lv_aload_n hx hb dX1_run_32 rfl (lv_at hl 0 rfl) ?_
  obtain ⟨q33, e33, hf⟩ := bnd hf
  refine callVV X (k_X1_dropWaitsWithoutSwitch l D cI cZ a_t a_t_sh a_t_cmd a_t_tim a_t_hel a_t_dir a_t_seg  v_t_fw v_t_fp v_t_fn v_t_rt v_t_wd_6 v_t_pd_6 q29.1 q29.2 v_t_sh_nd v_t_sh_sn v_t_tim_6 v_t_hel_6 v_t_dir_6  q33 e33) (cwV 0 X.1.2.2.2.2 gX1_run_X1_dropWaitsWithoutSwitch rfl rfl rfl kd_X1_dropWaitsWithoutSwitch ⟨Nat.le_of_ble_eq_true rfl, Nat.le_of_ble_eq_true rfl⟩) hP hD hS hl.1 0 1 rfl rfl [0, 1, 3, 4, 5] (by decide) (wo_X1_run cI cZ a_t a_t_sh a_t_cmd a_t_tim a_t_hel a_t_dir a_t_seg v_t_fw v_t_fp v_t_fn v_t_rt v_t_wd_6 v_t_pd_6 q29.1 q29.2 v_t_sh_nd v_t_sh_sn v_t_cmd q33 v_t_hel_6 v_t_dir_6 v_t_seg_6) rfl rfl rfl rfl rfl (rest := []) rfl (Nat.le_of_ble_eq_true rfl) dX1_run_33 ⟨Nat.zero_le _, Nat.zero_le _⟩ (fun H locs hP hD hS => ?_)
  refine lv_aload_n hx hb dX1_run_36 rfl (lv_at hl 0 rfl) ?_
  obtain ⟨q37, e37, hf⟩ := bnd hf
  refine callVV X (k_X1_findSegments l D cI cZ a_t a_t_sh a_t_cmd a_t_tim a_t_hel a_t_dir a_t_seg  v_t_fw v_t_fp v_t_fn v_t_rt v_t_wd_6 v_t_pd_6 q29.1 q29.2 v_t_sh_nd v_t_sh_sn v_t_seg_6  q37 e37) (cwV 0 X.1.2.2.2.2 gX1_run_X1_findSegments rfl rfl rfl kd_X1_findSegments ⟨Nat.le_of_ble_eq_true rfl, Nat.le_of_ble_eq_true rfl⟩) hP hD hS hl.1 0 1 rfl rfl [0, 1, 6] (by decide) (wo_X1_run cI cZ a_t a_t_sh a_t_cmd a_t_tim a_t_hel a_t_dir a_t_seg v_t_fw v_t_fp v_t_fn v_t_rt v_t_wd_6 v_t_pd_6 q29.1 q29.2 v_t_sh_nd v_t_sh_sn v_t_cmd q33 v_t_hel_6 v_t_dir_6 q37) rfl rfl rfl rfl rfl (rest := []) rfl (Nat.le_of_ble_eq_true rfl) dX1_run_37 ⟨Nat.zero_le _, Nat.zero_le _⟩ (fun H locs hP hD hS => ?_)
  obtain rfl := Option.some.inj hf
  exact retV X hS hP dX1_run_40

abbrev wo_X1_startAnew (cI cZ : ClassId) (a_t a_t_sh a_t_cmd a_t_tim a_t_hel a_t_dir a_t_seg : Nat) (v_t_fw : Int32) (v_t_fp : Int32) (v_t_fn : Int32) (v_t_rt : Int32) (v_t_wd : Int32) (v_t_pd : Int32) (v_t_ss : Int32) (v_t_rs : Int32) (v_t_sh_nd : Int32) (v_t_sh_sn : Int32) (v_t_cmd : Nat → Int32) (v_t_tim : Nat → Int32) (v_t_dir : Nat → Int32) (v_t_seg : Nat → Int32) : va_W := [(a_t, oX1 a_t_sh v_t_fw v_t_fp v_t_fn a_t_cmd a_t_tim a_t_hel v_t_rt v_t_wd v_t_pd a_t_dir v_t_ss v_t_rs a_t_seg), (a_t_sh, oX2 v_t_sh_nd v_t_sh_sn), (a_t_cmd, rI cI 8 v_t_cmd), (a_t_tim, rI cI 8 v_t_tim), (a_t_dir, rI cI 8 v_t_dir), (a_t_seg, rI cI 8 v_t_seg)]
def fX1_startAnew (v_t_fw : Int32) (v_t_fp : Int32) (v_t_fn : Int32) (v_t_wd : Int32) (v_t_pd : Int32) (v_t_ss : Int32) (v_t_rs : Int32) (v_t_sh_nd : Int32) (v_t_sh_sn : Int32) (v_t_cmd : Nat → Int32) (v_t_tim : Nat → Int32) (v_t_dir : Nat → Int32) (v_t_seg : Nat → Int32) (p1 : Int32) (p2 : Int32) : Option (Int32 × Int32 × Int32 × Int32 × Int32 × Int32 × Int32 × Int32 × Int32 × (Nat → Int32) × (Nat → Int32) × (Nat → Int32) × (Nat → Int32)) := ((fX5_clearRow v_t_cmd 8).bind (fun q55 => ((fX5_clearRow v_t_tim 8).bind (fun q62 => ((fX5_clearRow v_t_dir 8).bind (fun q69 => ((fX5_clearRow v_t_seg 8).bind (fun q76 => (some (0, 0, 0, 0, 0, 0, 0, p1, p2, q55, q62, q69, q76))))))))))
theorem kd_X1_startAnew : yX1_startAnew.cls = RX1 ∧ yX1_startAnew.cls ≠ "java/lang/invoke/MethodHandle" ∧ yX1_startAnew.cls ≠ "java/lang/invoke/VarHandle" ∧ (parseMethodDescriptor yX1_startAnew.desc).map (fun d => d.parameters.length) = some 2 := by decide +kernel
def rm_X1_startAnew : Room := { frames := 1, cells := 0, slots := 0, locals := 21 }
set_option maxHeartbeats 4000000 in
set_option maxRecDepth 100000 in
theorem k_X1_startAnew (l : Launch) (D : va_G) (cI cZ : ClassId) (a_t a_t_sh a_t_cmd a_t_tim a_t_hel a_t_dir a_t_seg : Nat) (v_t_fw : Int32) (v_t_fp : Int32) (v_t_fn : Int32) (v_t_rt : Int32) (v_t_wd : Int32) (v_t_pd : Int32) (v_t_ss : Int32) (v_t_rs : Int32) (v_t_sh_nd : Int32) (v_t_sh_sn : Int32) (v_t_cmd : Nat → Int32) (v_t_tim : Nat → Int32) (v_t_dir : Nat → Int32) (v_t_seg : Nat → Int32) (p1 : Int32) (p2 : Int32) (q : Int32 × Int32 × Int32 × Int32 × Int32 × Int32 × Int32 × Int32 × Int32 × (Nat → Int32) × (Nat → Int32) × (Nat → Int32) × (Nat → Int32)) (hf : fX1_startAnew v_t_fw v_t_fp v_t_fn v_t_wd v_t_pd v_t_ss v_t_rs v_t_sh_nd v_t_sh_sn v_t_cmd v_t_tim v_t_dir v_t_seg p1 p2 = some q) : CV l D cI cZ yX1_startAnew wsX1_startAnew rm_X1_startAnew [.ref a_t, .int p1, .int p2] (wo_X1_startAnew cI cZ a_t a_t_sh a_t_cmd a_t_tim a_t_hel a_t_dir a_t_seg v_t_fw v_t_fp v_t_fn v_t_rt v_t_wd v_t_pd v_t_ss v_t_rs v_t_sh_nd v_t_sh_sn v_t_cmd v_t_tim v_t_dir v_t_seg) (wo_X1_startAnew cI cZ a_t a_t_sh a_t_cmd a_t_tim a_t_hel a_t_dir a_t_seg q.1 q.2.1 q.2.2.1 v_t_rt q.2.2.2.1 q.2.2.2.2.1 q.2.2.2.2.2.1 q.2.2.2.2.2.2.1 q.2.2.2.2.2.2.2.1 q.2.2.2.2.2.2.2.2.1 q.2.2.2.2.2.2.2.2.2.1 q.2.2.2.2.2.2.2.2.2.2.1 q.2.2.2.2.2.2.2.2.2.2.2.1 q.2.2.2.2.2.2.2.2.2.2.2.2) := by
  refine CV.mk (cc := cX1_startAnew) (maxL := 3) (by decide) rfl (Nat.le_of_ble_eq_true rfl) ?_
  intro p e s m below meth c ls A X hP hD hl hS
  have hx := X.1.1
  have hb := X.1.2.1
  have hl : lv_has ls 3 [(0, .ref a_t), (1, .int p1), (2, .int p2)] := hl
  have inX1 : ∀ w ∈ u_ws RX1 TX1 14, w ∈ wsX1_startAnew := fun _ h => List.mem_cons_of_mem _ (List.mem_append_left _ (List.mem_append_right _ h))
  have inX2 : ∀ w ∈ u_ws RX2 TX2 2, w ∈ wsX1_startAnew := fun _ h => List.mem_cons_of_mem _ (List.mem_append_right _ h)
  unfold fX1_startAnew at hf
  refine lv_aload_n hx hb dX1_startAnew_0 rfl (lv_at hl 0 rfl) ?_
  refine getO X hP inX1 0 rfl rfl 0 (by decide) (List.mem_of_getElem? (i := 1) rfl) rfl dX1_startAnew_1 ?_
  refine lv_iload_n hx hb dX1_startAnew_4 rfl (lv_at hl 1 rfl) ?_
  refine putN X hP hD hS inX2 tyX2 tyX2_ok nmX2 1 rfl rfl 0 (by decide) 1 rfl rfl rfl rfl (Nat.le_of_ble_eq_true rfl) dX1_startAnew_5 (wo_X1_startAnew cI cZ a_t a_t_sh a_t_cmd a_t_tim a_t_hel a_t_dir a_t_seg v_t_fw v_t_fp v_t_fn v_t_rt v_t_wd v_t_pd v_t_ss v_t_rs p1 v_t_sh_sn v_t_cmd v_t_tim v_t_dir v_t_seg) rfl (fun H locs hP hD hS => ?_)
  refine lv_aload_n hx hb dX1_startAnew_8 rfl (lv_at hl 0 rfl) ?_
  refine getO X hP inX1 0 rfl rfl 0 (by decide) (List.mem_of_getElem? (i := 1) rfl) rfl dX1_startAnew_9 ?_
  refine lv_iload_n hx hb dX1_startAnew_12 rfl (lv_at hl 2 rfl) ?_
  refine putN X hP hD hS inX2 tyX2 tyX2_ok nmX2 1 rfl rfl 1 (by decide) 3 rfl rfl rfl rfl (Nat.le_of_ble_eq_true rfl) dX1_startAnew_13 (wo_X1_startAnew cI cZ a_t a_t_sh a_t_cmd a_t_tim a_t_hel a_t_dir a_t_seg v_t_fw v_t_fp v_t_fn v_t_rt v_t_wd v_t_pd v_t_ss v_t_rs p1 p2 v_t_cmd v_t_tim v_t_dir v_t_seg) rfl (fun H locs hP hD hS => ?_)
  refine lv_aload_n hx hb dX1_startAnew_16 rfl (lv_at hl 0 rfl) ?_
  refine lv_iconst hx hb dX1_startAnew_17 ic_0 ?_
  refine putO X hP hD hS inX1 tyX1 tyX1_ok nmX1 0 rfl rfl 1 (by decide) (List.mem_of_getElem? (i := 2) rfl) rfl rfl rfl (Nat.le_of_ble_eq_true rfl) dX1_startAnew_18 (wo_X1_startAnew cI cZ a_t a_t_sh a_t_cmd a_t_tim a_t_hel a_t_dir a_t_seg 0 v_t_fp v_t_fn v_t_rt v_t_wd v_t_pd v_t_ss v_t_rs p1 p2 v_t_cmd v_t_tim v_t_dir v_t_seg) rfl (fun H locs hP hD hS => ?_)
  refine lv_aload_n hx hb dX1_startAnew_21 rfl (lv_at hl 0 rfl) ?_
  refine lv_iconst hx hb dX1_startAnew_22 ic_0 ?_
  refine putO X hP hD hS inX1 tyX1 tyX1_ok nmX1 0 rfl rfl 2 (by decide) (List.mem_of_getElem? (i := 3) rfl) rfl rfl rfl (Nat.le_of_ble_eq_true rfl) dX1_startAnew_23 (wo_X1_startAnew cI cZ a_t a_t_sh a_t_cmd a_t_tim a_t_hel a_t_dir a_t_seg 0 0 v_t_fn v_t_rt v_t_wd v_t_pd v_t_ss v_t_rs p1 p2 v_t_cmd v_t_tim v_t_dir v_t_seg) rfl (fun H locs hP hD hS => ?_)
  refine lv_aload_n hx hb dX1_startAnew_26 rfl (lv_at hl 0 rfl) ?_
  refine lv_iconst hx hb dX1_startAnew_27 ic_0 ?_
  refine putO X hP hD hS inX1 tyX1 tyX1_ok nmX1 0 rfl rfl 3 (by decide) (List.mem_of_getElem? (i := 4) rfl) rfl rfl rfl (Nat.le_of_ble_eq_true rfl) dX1_startAnew_28 (wo_X1_startAnew cI cZ a_t a_t_sh a_t_cmd a_t_tim a_t_hel a_t_dir a_t_seg 0 0 0 v_t_rt v_t_wd v_t_pd v_t_ss v_t_rs p1 p2 v_t_cmd v_t_tim v_t_dir v_t_seg) rfl (fun H locs hP hD hS => ?_)
  refine lv_aload_n hx hb dX1_startAnew_31 rfl (lv_at hl 0 rfl) ?_
  refine lv_iconst hx hb dX1_startAnew_32 ic_0 ?_
  refine putO X hP hD hS inX1 tyX1 tyX1_ok nmX1 0 rfl rfl 8 (by decide) (List.mem_of_getElem? (i := 5) rfl) rfl rfl rfl (Nat.le_of_ble_eq_true rfl) dX1_startAnew_33 (wo_X1_startAnew cI cZ a_t a_t_sh a_t_cmd a_t_tim a_t_hel a_t_dir a_t_seg 0 0 0 v_t_rt 0 v_t_pd v_t_ss v_t_rs p1 p2 v_t_cmd v_t_tim v_t_dir v_t_seg) rfl (fun H locs hP hD hS => ?_)
  refine lv_aload_n hx hb dX1_startAnew_36 rfl (lv_at hl 0 rfl) ?_
  refine lv_iconst hx hb dX1_startAnew_37 ic_0 ?_
  refine putO X hP hD hS inX1 tyX1 tyX1_ok nmX1 0 rfl rfl 9 (by decide) (List.mem_of_getElem? (i := 6) rfl) rfl rfl rfl (Nat.le_of_ble_eq_true rfl) dX1_startAnew_38 (wo_X1_startAnew cI cZ a_t a_t_sh a_t_cmd a_t_tim a_t_hel a_t_dir a_t_seg 0 0 0 v_t_rt 0 0 v_t_ss v_t_rs p1 p2 v_t_cmd v_t_tim v_t_dir v_t_seg) rfl (fun H locs hP hD hS => ?_)
  refine lv_aload_n hx hb dX1_startAnew_41 rfl (lv_at hl 0 rfl) ?_
  refine lv_iconst hx hb dX1_startAnew_42 ic_0 ?_
  refine putO X hP hD hS inX1 tyX1 tyX1_ok nmX1 0 rfl rfl 11 (by decide) (List.mem_of_getElem? (i := 7) rfl) rfl rfl rfl (Nat.le_of_ble_eq_true rfl) dX1_startAnew_43 (wo_X1_startAnew cI cZ a_t a_t_sh a_t_cmd a_t_tim a_t_hel a_t_dir a_t_seg 0 0 0 v_t_rt 0 0 0 v_t_rs p1 p2 v_t_cmd v_t_tim v_t_dir v_t_seg) rfl (fun H locs hP hD hS => ?_)
  refine lv_aload_n hx hb dX1_startAnew_46 rfl (lv_at hl 0 rfl) ?_
  refine lv_iconst hx hb dX1_startAnew_47 ic_0 ?_
  refine putO X hP hD hS inX1 tyX1 tyX1_ok nmX1 0 rfl rfl 12 (by decide) (List.mem_of_getElem? (i := 8) rfl) rfl rfl rfl (Nat.le_of_ble_eq_true rfl) dX1_startAnew_48 (wo_X1_startAnew cI cZ a_t a_t_sh a_t_cmd a_t_tim a_t_hel a_t_dir a_t_seg 0 0 0 v_t_rt 0 0 0 0 p1 p2 v_t_cmd v_t_tim v_t_dir v_t_seg) rfl (fun H locs hP hD hS => ?_)
  refine lv_aload_n hx hb dX1_startAnew_51 rfl (lv_at hl 0 rfl) ?_
  refine getO X hP inX1 0 rfl rfl 4 (by decide) (List.mem_of_getElem? (i := 9) rfl) rfl dX1_startAnew_52 ?_
  obtain ⟨q55, e55, hf⟩ := bnd hf
  refine callNV X (k_X5_clearRow l D cI cZ a_t_cmd 8 v_t_cmd  q55 e55) ⟨va_cnB 1 X.1.2.2.2.2 gX1_startAnew_X5_clearRow_n128 rfl rfl rfl (X.2.2.2.2.1.ml 7 rfl) (X.1.2.2.2.2 _ (List.mem_of_getElem? (i := 14) rfl)) kd_X5_clearRow ⟨Nat.le_of_ble_eq_true rfl, Nat.le_of_ble_eq_true rfl⟩, X.1.2.2.2.2 _ (List.mem_of_getElem? (i := 13) rfl), trivial⟩ hP hD hS hl.1 [2] (by decide) (wo_X1_startAnew cI cZ a_t a_t_sh a_t_cmd a_t_tim a_t_hel a_t_dir a_t_seg 0 0 0 v_t_rt 0 0 0 0 p1 p2 q55 v_t_tim v_t_dir v_t_seg) rfl rfl rfl rfl rfl (rest := []) rfl (Nat.le_of_ble_eq_true rfl) dX1_startAnew_55 ⟨Nat.zero_le _, Nat.zero_le _⟩ (fun H locs hP hD hS => ?_)
  refine lv_aload_n hx hb dX1_startAnew_58 rfl (lv_at hl 0 rfl) ?_
  refine getO X hP inX1 0 rfl rfl 5 (by decide) (List.mem_of_getElem? (i := 10) rfl) rfl dX1_startAnew_59 ?_
  obtain ⟨q62, e62, hf⟩ := bnd hf
  refine callNV X (k_X5_clearRow l D cI cZ a_t_tim 8 v_t_tim  q62 e62) ⟨va_cnB 1 X.1.2.2.2.2 gX1_startAnew_X5_clearRow_n128 rfl rfl rfl (X.2.2.2.2.1.ml 7 rfl) (X.1.2.2.2.2 _ (List.mem_of_getElem? (i := 14) rfl)) kd_X5_clearRow ⟨Nat.le_of_ble_eq_true rfl, Nat.le_of_ble_eq_true rfl⟩, X.1.2.2.2.2 _ (List.mem_of_getElem? (i := 13) rfl), trivial⟩ hP hD hS hl.1 [3] (by decide) (wo_X1_startAnew cI cZ a_t a_t_sh a_t_cmd a_t_tim a_t_hel a_t_dir a_t_seg 0 0 0 v_t_rt 0 0 0 0 p1 p2 q55 q62 v_t_dir v_t_seg) rfl rfl rfl rfl rfl (rest := []) rfl (Nat.le_of_ble_eq_true rfl) dX1_startAnew_62 ⟨Nat.zero_le _, Nat.zero_le _⟩ (fun H locs hP hD hS => ?_)
  refine lv_aload_n hx hb dX1_startAnew_65 rfl (lv_at hl 0 rfl) ?_
  refine getO X hP inX1 0 rfl rfl 10 (by decide) (List.mem_of_getElem? (i := 11) rfl) rfl dX1_startAnew_66 ?_
  obtain ⟨q69, e69, hf⟩ := bnd hf
  refine callNV X (k_X5_clearRow l D cI cZ a_t_dir 8 v_t_dir  q69 e69) ⟨va_cnB 1 X.1.2.2.2.2 gX1_startAnew_X5_clearRow_n128 rfl rfl rfl (X.2.2.2.2.1.ml 7 rfl) (X.1.2.2.2.2 _ (List.mem_of_getElem? (i := 14) rfl)) kd_X5_clearRow ⟨Nat.le_of_ble_eq_true rfl, Nat.le_of_ble_eq_true rfl⟩, X.1.2.2.2.2 _ (List.mem_of_getElem? (i := 13) rfl), trivial⟩ hP hD hS hl.1 [4] (by decide) (wo_X1_startAnew cI cZ a_t a_t_sh a_t_cmd a_t_tim a_t_hel a_t_dir a_t_seg 0 0 0 v_t_rt 0 0 0 0 p1 p2 q55 q62 q69 v_t_seg) rfl rfl rfl rfl rfl (rest := []) rfl (Nat.le_of_ble_eq_true rfl) dX1_startAnew_69 ⟨Nat.zero_le _, Nat.zero_le _⟩ (fun H locs hP hD hS => ?_)
  refine lv_aload_n hx hb dX1_startAnew_72 rfl (lv_at hl 0 rfl) ?_
  refine getO X hP inX1 0 rfl rfl 13 (by decide) (List.mem_of_getElem? (i := 12) rfl) rfl dX1_startAnew_73 ?_
  obtain ⟨q76, e76, hf⟩ := bnd hf
  refine callNV X (k_X5_clearRow l D cI cZ a_t_seg 8 v_t_seg  q76 e76) ⟨va_cnB 1 X.1.2.2.2.2 gX1_startAnew_X5_clearRow_n128 rfl rfl rfl (X.2.2.2.2.1.ml 7 rfl) (X.1.2.2.2.2 _ (List.mem_of_getElem? (i := 14) rfl)) kd_X5_clearRow ⟨Nat.le_of_ble_eq_true rfl, Nat.le_of_ble_eq_true rfl⟩, X.1.2.2.2.2 _ (List.mem_of_getElem? (i := 13) rfl), trivial⟩ hP hD hS hl.1 [5] (by decide) (wo_X1_startAnew cI cZ a_t a_t_sh a_t_cmd a_t_tim a_t_hel a_t_dir a_t_seg 0 0 0 v_t_rt 0 0 0 0 p1 p2 q55 q62 q69 q76) rfl rfl rfl rfl rfl (rest := []) rfl (Nat.le_of_ble_eq_true rfl) dX1_startAnew_76 ⟨Nat.zero_le _, Nat.zero_le _⟩ (fun H locs hP hD hS => ?_)
  obtain rfl := Option.some.inj hf
  exact retV X hS hP dX1_startAnew_79

abbrev wo_X1_copyFrom (cI cZ : ClassId) (a_t a_t_sh a_t_cmd a_t_tim a_t_hel a_t_dir a_t_seg a_o a_o_sh a_o_cmd a_o_tim a_o_hel a_o_dir a_o_seg : Nat) (v_t_fw : Int32) (v_t_fp : Int32) (v_t_fn : Int32) (v_t_rt : Int32) (v_t_wd : Int32) (v_t_pd : Int32) (v_t_ss : Int32) (v_t_rs : Int32) (v_t_sh_nd : Int32) (v_t_sh_sn : Int32) (v_t_cmd : Nat → Int32) (v_t_tim : Nat → Int32) (v_t_hel : Nat → Int32) (v_t_dir : Nat → Int32) (v_t_seg : Nat → Int32) (v_o_fw : Int32) (v_o_fp : Int32) (v_o_fn : Int32) (v_o_rt : Int32) (v_o_wd : Int32) (v_o_pd : Int32) (v_o_ss : Int32) (v_o_rs : Int32) (v_o_sh_nd : Int32) (v_o_sh_sn : Int32) (v_o_cmd : Nat → Int32) (v_o_tim : Nat → Int32) (v_o_hel : Nat → Int32) (v_o_dir : Nat → Int32) (v_o_seg : Nat → Int32) : va_W := [(a_t, oX1 a_t_sh v_t_fw v_t_fp v_t_fn a_t_cmd a_t_tim a_t_hel v_t_rt v_t_wd v_t_pd a_t_dir v_t_ss v_t_rs a_t_seg), (a_t_sh, oX2 v_t_sh_nd v_t_sh_sn), (a_t_cmd, rI cI 8 v_t_cmd), (a_t_tim, rI cI 8 v_t_tim), (a_t_hel, rI cI 8 v_t_hel), (a_t_dir, rI cI 8 v_t_dir), (a_t_seg, rI cI 8 v_t_seg), (a_o, oX1 a_o_sh v_o_fw v_o_fp v_o_fn a_o_cmd a_o_tim a_o_hel v_o_rt v_o_wd v_o_pd a_o_dir v_o_ss v_o_rs a_o_seg), (a_o_sh, oX2 v_o_sh_nd v_o_sh_sn), (a_o_cmd, rI cI 8 v_o_cmd), (a_o_tim, rI cI 8 v_o_tim), (a_o_hel, rI cI 8 v_o_hel), (a_o_dir, rI cI 8 v_o_dir), (a_o_seg, rI cI 8 v_o_seg)]
def fX1_copyFrom (v_t_fw : Int32) (v_t_fp : Int32) (v_t_fn : Int32) (v_t_rt : Int32) (v_t_wd : Int32) (v_t_pd : Int32) (v_t_ss : Int32) (v_t_rs : Int32) (v_t_sh_nd : Int32) (v_t_sh_sn : Int32) (v_t_cmd : Nat → Int32) (v_t_tim : Nat → Int32) (v_t_hel : Nat → Int32) (v_t_dir : Nat → Int32) (v_t_seg : Nat → Int32) (v_o_fw : Int32) (v_o_fp : Int32) (v_o_fn : Int32) (v_o_rt : Int32) (v_o_wd : Int32) (v_o_pd : Int32) (v_o_ss : Int32) (v_o_rs : Int32) (v_o_sh_nd : Int32) (v_o_sh_sn : Int32) (v_o_cmd : Nat → Int32) (v_o_tim : Nat → Int32) (v_o_hel : Nat → Int32) (v_o_dir : Nat → Int32) (v_o_seg : Nat → Int32) : Option (Int32 × Int32 × Int32 × Int32 × Int32 × Int32 × Int32 × Int32 × Int32 × Int32 × (Nat → Int32) × (Nat → Int32) × (Nat → Int32) × (Nat → Int32) × (Nat → Int32)) := ((fX5_copyRow v_o_cmd v_t_cmd 8 8).bind (fun q100 => ((fX5_copyRow v_o_tim v_t_tim 8 8).bind (fun q111 => ((fX5_copyRow v_o_hel v_t_hel 8 8).bind (fun q122 => ((fX5_copyRow v_o_dir v_t_dir 8 8).bind (fun q133 => ((fX5_copyRow v_o_seg v_t_seg 8 8).bind (fun q144 => (some (v_o_fw, v_o_fp, v_o_fn, v_o_rt, v_o_wd, v_o_pd, v_o_ss, v_o_rs, v_o_sh_nd, v_o_sh_sn, q100, q111, q122, q133, q144))))))))))))
theorem kd_X1_copyFrom : yX1_copyFrom.cls = RX1 ∧ yX1_copyFrom.cls ≠ "java/lang/invoke/MethodHandle" ∧ yX1_copyFrom.cls ≠ "java/lang/invoke/VarHandle" ∧ (parseMethodDescriptor yX1_copyFrom.desc).map (fun d => d.parameters.length) = some 1 := by decide +kernel
def rm_X1_copyFrom : Room := { frames := 1, cells := 0, slots := 0, locals := 22 }
set_option maxHeartbeats 4000000 in
set_option maxRecDepth 100000 in
theorem k_X1_copyFrom (l : Launch) (D : va_G) (cI cZ : ClassId) (a_t a_t_sh a_t_cmd a_t_tim a_t_hel a_t_dir a_t_seg a_o a_o_sh a_o_cmd a_o_tim a_o_hel a_o_dir a_o_seg : Nat) (v_t_fw : Int32) (v_t_fp : Int32) (v_t_fn : Int32) (v_t_rt : Int32) (v_t_wd : Int32) (v_t_pd : Int32) (v_t_ss : Int32) (v_t_rs : Int32) (v_t_sh_nd : Int32) (v_t_sh_sn : Int32) (v_t_cmd : Nat → Int32) (v_t_tim : Nat → Int32) (v_t_hel : Nat → Int32) (v_t_dir : Nat → Int32) (v_t_seg : Nat → Int32) (v_o_fw : Int32) (v_o_fp : Int32) (v_o_fn : Int32) (v_o_rt : Int32) (v_o_wd : Int32) (v_o_pd : Int32) (v_o_ss : Int32) (v_o_rs : Int32) (v_o_sh_nd : Int32) (v_o_sh_sn : Int32) (v_o_cmd : Nat → Int32) (v_o_tim : Nat → Int32) (v_o_hel : Nat → Int32) (v_o_dir : Nat → Int32) (v_o_seg : Nat → Int32) (q : Int32 × Int32 × Int32 × Int32 × Int32 × Int32 × Int32 × Int32 × Int32 × Int32 × (Nat → Int32) × (Nat → Int32) × (Nat → Int32) × (Nat → Int32) × (Nat → Int32)) (hf : fX1_copyFrom v_t_fw v_t_fp v_t_fn v_t_rt v_t_wd v_t_pd v_t_ss v_t_rs v_t_sh_nd v_t_sh_sn v_t_cmd v_t_tim v_t_hel v_t_dir v_t_seg v_o_fw v_o_fp v_o_fn v_o_rt v_o_wd v_o_pd v_o_ss v_o_rs v_o_sh_nd v_o_sh_sn v_o_cmd v_o_tim v_o_hel v_o_dir v_o_seg = some q) : CV l D cI cZ yX1_copyFrom wsX1_copyFrom rm_X1_copyFrom [.ref a_t, .ref a_o] (wo_X1_copyFrom cI cZ a_t a_t_sh a_t_cmd a_t_tim a_t_hel a_t_dir a_t_seg a_o a_o_sh a_o_cmd a_o_tim a_o_hel a_o_dir a_o_seg v_t_fw v_t_fp v_t_fn v_t_rt v_t_wd v_t_pd v_t_ss v_t_rs v_t_sh_nd v_t_sh_sn v_t_cmd v_t_tim v_t_hel v_t_dir v_t_seg v_o_fw v_o_fp v_o_fn v_o_rt v_o_wd v_o_pd v_o_ss v_o_rs v_o_sh_nd v_o_sh_sn v_o_cmd v_o_tim v_o_hel v_o_dir v_o_seg) (wo_X1_copyFrom cI cZ a_t a_t_sh a_t_cmd a_t_tim a_t_hel a_t_dir a_t_seg a_o a_o_sh a_o_cmd a_o_tim a_o_hel a_o_dir a_o_seg q.1 q.2.1 q.2.2.1 q.2.2.2.1 q.2.2.2.2.1 q.2.2.2.2.2.1 q.2.2.2.2.2.2.1 q.2.2.2.2.2.2.2.1 q.2.2.2.2.2.2.2.2.1 q.2.2.2.2.2.2.2.2.2.1 q.2.2.2.2.2.2.2.2.2.2.1 q.2.2.2.2.2.2.2.2.2.2.2.1 q.2.2.2.2.2.2.2.2.2.2.2.2.1 q.2.2.2.2.2.2.2.2.2.2.2.2.2.1 q.2.2.2.2.2.2.2.2.2.2.2.2.2.2 v_o_fw v_o_fp v_o_fn v_o_rt v_o_wd v_o_pd v_o_ss v_o_rs v_o_sh_nd v_o_sh_sn v_o_cmd v_o_tim v_o_hel v_o_dir v_o_seg) := by
  refine CV.mk (cc := cX1_copyFrom) (maxL := 2) (by decide) rfl (Nat.le_of_ble_eq_true rfl) ?_
  intro p e s m below meth c ls A X hP hD hl hS
  have hx := X.1.1
  have hb := X.1.2.1
  have hl : lv_has ls 2 [(0, .ref a_t), (1, .ref a_o)] := hl
  have inX1 : ∀ w ∈ u_ws RX1 TX1 14, w ∈ wsX1_copyFrom := fun _ h => List.mem_cons_of_mem _ (List.mem_append_left _ (List.mem_append_right _ h))
  have inX2 : ∀ w ∈ u_ws RX2 TX2 2, w ∈ wsX1_copyFrom := fun _ h => List.mem_cons_of_mem _ (List.mem_append_right _ h)
  unfold fX1_copyFrom at hf
  refine lv_aload_n hx hb dX1_copyFrom_0 rfl (lv_at hl 0 rfl) ?_
  refine getO X hP inX1 0 rfl rfl 0 (by decide) (List.mem_of_getElem? (i := 1) rfl) rfl dX1_copyFrom_1 ?_
  refine lv_aload_n hx hb dX1_copyFrom_4 rfl (lv_at hl 1 rfl) ?_
  refine getO X hP inX1 7 rfl rfl 0 (by decide) (List.mem_of_getElem? (i := 1) rfl) rfl dX1_copyFrom_5 ?_
  refine getN X hP inX2 8 rfl rfl 0 (by decide) 1 rfl rfl dX1_copyFrom_8 ?_
  refine putN X hP hD hS inX2 tyX2 tyX2_ok nmX2 1 rfl rfl 0 (by decide) 1 rfl rfl rfl rfl (Nat.le_of_ble_eq_true rfl) dX1_copyFrom_11 (wo_X1_copyFrom cI cZ a_t a_t_sh a_t_cmd a_t_tim a_t_hel a_t_dir a_t_seg a_o a_o_sh a_o_cmd a_o_tim a_o_hel a_o_dir a_o_seg v_t_fw v_t_fp v_t_fn v_t_rt v_t_wd v_t_pd v_t_ss v_t_rs v_o_sh_nd v_t_sh_sn v_t_cmd v_t_tim v_t_hel v_t_dir v_t_seg v_o_fw v_o_fp v_o_fn v_o_rt v_o_wd v_o_pd v_o_ss v_o_rs v_o_sh_nd v_o_sh_sn v_o_cmd v_o_tim v_o_hel v_o_dir v_o_seg) rfl (fun H locs hP hD hS => ?_)
  refine lv_aload_n hx hb dX1_copyFrom_14 rfl (lv_at hl 0 rfl) ?_
  refine getO X hP inX1 0 rfl rfl 0 (by decide) (List.mem_of_getElem? (i := 1) rfl) rfl dX1_copyFrom_15 ?_
  refine lv_aload_n hx hb dX1_copyFrom_18 rfl (lv_at hl 1 rfl) ?_
  refine getO X hP inX1 7 rfl rfl 0 (by decide) (List.mem_of_getElem? (i := 1) rfl) rfl dX1_copyFrom_19 ?_
  refine getN X hP inX2 8 rfl rfl 1 (by decide) 3 rfl rfl dX1_copyFrom_22 ?_
  refine putN X hP hD hS inX2 tyX2 tyX2_ok nmX2 1 rfl rfl 1 (by decide) 3 rfl rfl rfl rfl (Nat.le_of_ble_eq_true rfl) dX1_copyFrom_25 (wo_X1_copyFrom cI cZ a_t a_t_sh a_t_cmd a_t_tim a_t_hel a_t_dir a_t_seg a_o a_o_sh a_o_cmd a_o_tim a_o_hel a_o_dir a_o_seg v_t_fw v_t_fp v_t_fn v_t_rt v_t_wd v_t_pd v_t_ss v_t_rs v_o_sh_nd v_o_sh_sn v_t_cmd v_t_tim v_t_hel v_t_dir v_t_seg v_o_fw v_o_fp v_o_fn v_o_rt v_o_wd v_o_pd v_o_ss v_o_rs v_o_sh_nd v_o_sh_sn v_o_cmd v_o_tim v_o_hel v_o_dir v_o_seg) rfl (fun H locs hP hD hS => ?_)
  refine lv_aload_n hx hb dX1_copyFrom_28 rfl (lv_at hl 0 rfl) ?_
  refine lv_aload_n hx hb dX1_copyFrom_29 rfl (lv_at hl 1 rfl) ?_
  refine getO X hP inX1 7 rfl rfl 1 (by decide) (List.mem_of_getElem? (i := 2) rfl) rfl dX1_copyFrom_30 ?_
  refine putO X hP hD hS inX1 tyX1 tyX1_ok nmX1 0 rfl rfl 1 (by decide) (List.mem_of_getElem? (i := 2) rfl) rfl rfl rfl (Nat.le_of_ble_eq_true rfl) dX1_copyFrom_33 (wo_X1_copyFrom cI cZ a_t a_t_sh a_t_cmd a_t_tim a_t_hel a_t_dir a_t_seg a_o a_o_sh a_o_cmd a_o_tim a_o_hel a_o_dir a_o_seg v_o_fw v_t_fp v_t_fn v_t_rt v_t_wd v_t_pd v_t_ss v_t_rs v_o_sh_nd v_o_sh_sn v_t_cmd v_t_tim v_t_hel v_t_dir v_t_seg v_o_fw v_o_fp v_o_fn v_o_rt v_o_wd v_o_pd v_o_ss v_o_rs v_o_sh_nd v_o_sh_sn v_o_cmd v_o_tim v_o_hel v_o_dir v_o_seg) rfl (fun H locs hP hD hS => ?_)
  refine lv_aload_n hx hb dX1_copyFrom_36 rfl (lv_at hl 0 rfl) ?_
  refine lv_aload_n hx hb dX1_copyFrom_37 rfl (lv_at hl 1 rfl) ?_
  refine getO X hP inX1 7 rfl rfl 2 (by decide) (List.mem_of_getElem? (i := 3) rfl) rfl dX1_copyFrom_38 ?_
  refine putO X hP hD hS inX1 tyX1 tyX1_ok nmX1 0 rfl rfl 2 (by decide) (List.mem_of_getElem? (i := 3) rfl) rfl rfl rfl (Nat.le_of_ble_eq_true rfl) dX1_copyFrom_41 (wo_X1_copyFrom cI cZ a_t a_t_sh a_t_cmd a_t_tim a_t_hel a_t_dir a_t_seg a_o a_o_sh a_o_cmd a_o_tim a_o_hel a_o_dir a_o_seg v_o_fw v_o_fp v_t_fn v_t_rt v_t_wd v_t_pd v_t_ss v_t_rs v_o_sh_nd v_o_sh_sn v_t_cmd v_t_tim v_t_hel v_t_dir v_t_seg v_o_fw v_o_fp v_o_fn v_o_rt v_o_wd v_o_pd v_o_ss v_o_rs v_o_sh_nd v_o_sh_sn v_o_cmd v_o_tim v_o_hel v_o_dir v_o_seg) rfl (fun H locs hP hD hS => ?_)
  refine lv_aload_n hx hb dX1_copyFrom_44 rfl (lv_at hl 0 rfl) ?_
  refine lv_aload_n hx hb dX1_copyFrom_45 rfl (lv_at hl 1 rfl) ?_
  refine getO X hP inX1 7 rfl rfl 3 (by decide) (List.mem_of_getElem? (i := 4) rfl) rfl dX1_copyFrom_46 ?_
  refine putO X hP hD hS inX1 tyX1 tyX1_ok nmX1 0 rfl rfl 3 (by decide) (List.mem_of_getElem? (i := 4) rfl) rfl rfl rfl (Nat.le_of_ble_eq_true rfl) dX1_copyFrom_49 (wo_X1_copyFrom cI cZ a_t a_t_sh a_t_cmd a_t_tim a_t_hel a_t_dir a_t_seg a_o a_o_sh a_o_cmd a_o_tim a_o_hel a_o_dir a_o_seg v_o_fw v_o_fp v_o_fn v_t_rt v_t_wd v_t_pd v_t_ss v_t_rs v_o_sh_nd v_o_sh_sn v_t_cmd v_t_tim v_t_hel v_t_dir v_t_seg v_o_fw v_o_fp v_o_fn v_o_rt v_o_wd v_o_pd v_o_ss v_o_rs v_o_sh_nd v_o_sh_sn v_o_cmd v_o_tim v_o_hel v_o_dir v_o_seg) rfl (fun H locs hP hD hS => ?_)
  refine lv_aload_n hx hb dX1_copyFrom_52 rfl (lv_at hl 0 rfl) ?_
  refine lv_aload_n hx hb dX1_copyFrom_53 rfl (lv_at hl 1 rfl) ?_
  refine getO X hP inX1 7 rfl rfl 7 (by decide) (List.mem_of_getElem? (i := 5) rfl) rfl dX1_copyFrom_54 ?_
  refine putO X hP hD hS inX1 tyX1 tyX1_ok nmX1 0 rfl rfl 7 (by decide) (List.mem_of_getElem? (i := 5) rfl) rfl rfl rfl (Nat.le_of_ble_eq_true rfl) dX1_copyFrom_57 (wo_X1_copyFrom cI cZ a_t a_t_sh a_t_cmd a_t_tim a_t_hel a_t_dir a_t_seg a_o a_o_sh a_o_cmd a_o_tim a_o_hel a_o_dir a_o_seg v_o_fw v_o_fp v_o_fn v_o_rt v_t_wd v_t_pd v_t_ss v_t_rs v_o_sh_nd v_o_sh_sn v_t_cmd v_t_tim v_t_hel v_t_dir v_t_seg v_o_fw v_o_fp v_o_fn v_o_rt v_o_wd v_o_pd v_o_ss v_o_rs v_o_sh_nd v_o_sh_sn v_o_cmd v_o_tim v_o_hel v_o_dir v_o_seg) rfl (fun H locs hP hD hS => ?_)
  refine lv_aload_n hx hb dX1_copyFrom_60 rfl (lv_at hl 0 rfl) ?_
  refine lv_aload_n hx hb dX1_copyFrom_61 rfl (lv_at hl 1 rfl) ?_
  refine getO X hP inX1 7 rfl rfl 8 (by decide) (List.mem_of_getElem? (i := 6) rfl) rfl dX1_copyFrom_62 ?_
  refine putO X hP hD hS inX1 tyX1 tyX1_ok nmX1 0 rfl rfl 8 (by decide) (List.mem_of_getElem? (i := 6) rfl) rfl rfl rfl (Nat.le_of_ble_eq_true rfl) dX1_copyFrom_65 (wo_X1_copyFrom cI cZ a_t a_t_sh a_t_cmd a_t_tim a_t_hel a_t_dir a_t_seg a_o a_o_sh a_o_cmd a_o_tim a_o_hel a_o_dir a_o_seg v_o_fw v_o_fp v_o_fn v_o_rt v_o_wd v_t_pd v_t_ss v_t_rs v_o_sh_nd v_o_sh_sn v_t_cmd v_t_tim v_t_hel v_t_dir v_t_seg v_o_fw v_o_fp v_o_fn v_o_rt v_o_wd v_o_pd v_o_ss v_o_rs v_o_sh_nd v_o_sh_sn v_o_cmd v_o_tim v_o_hel v_o_dir v_o_seg) rfl (fun H locs hP hD hS => ?_)
  refine lv_aload_n hx hb dX1_copyFrom_68 rfl (lv_at hl 0 rfl) ?_
  refine lv_aload_n hx hb dX1_copyFrom_69 rfl (lv_at hl 1 rfl) ?_
  refine getO X hP inX1 7 rfl rfl 9 (by decide) (List.mem_of_getElem? (i := 7) rfl) rfl dX1_copyFrom_70 ?_
  refine putO X hP hD hS inX1 tyX1 tyX1_ok nmX1 0 rfl rfl 9 (by decide) (List.mem_of_getElem? (i := 7) rfl) rfl rfl rfl (Nat.le_of_ble_eq_true rfl) dX1_copyFrom_73 (wo_X1_copyFrom cI cZ a_t a_t_sh a_t_cmd a_t_tim a_t_hel a_t_dir a_t_seg a_o a_o_sh a_o_cmd a_o_tim a_o_hel a_o_dir a_o_seg v_o_fw v_o_fp v_o_fn v_o_rt v_o_wd v_o_pd v_t_ss v_t_rs v_o_sh_nd v_o_sh_sn v_t_cmd v_t_tim v_t_hel v_t_dir v_t_seg v_o_fw v_o_fp v_o_fn v_o_rt v_o_wd v_o_pd v_o_ss v_o_rs v_o_sh_nd v_o_sh_sn v_o_cmd v_o_tim v_o_hel v_o_dir v_o_seg) rfl (fun H locs hP hD hS => ?_)
  refine lv_aload_n hx hb dX1_copyFrom_76 rfl (lv_at hl 0 rfl) ?_
  refine lv_aload_n hx hb dX1_copyFrom_77 rfl (lv_at hl 1 rfl) ?_
  refine getO X hP inX1 7 rfl rfl 11 (by decide) (List.mem_of_getElem? (i := 8) rfl) rfl dX1_copyFrom_78 ?_
  refine putO X hP hD hS inX1 tyX1 tyX1_ok nmX1 0 rfl rfl 11 (by decide) (List.mem_of_getElem? (i := 8) rfl) rfl rfl rfl (Nat.le_of_ble_eq_true rfl) dX1_copyFrom_81 (wo_X1_copyFrom cI cZ a_t a_t_sh a_t_cmd a_t_tim a_t_hel a_t_dir a_t_seg a_o a_o_sh a_o_cmd a_o_tim a_o_hel a_o_dir a_o_seg v_o_fw v_o_fp v_o_fn v_o_rt v_o_wd v_o_pd v_o_ss v_t_rs v_o_sh_nd v_o_sh_sn v_t_cmd v_t_tim v_t_hel v_t_dir v_t_seg v_o_fw v_o_fp v_o_fn v_o_rt v_o_wd v_o_pd v_o_ss v_o_rs v_o_sh_nd v_o_sh_sn v_o_cmd v_o_tim v_o_hel v_o_dir v_o_seg) rfl (fun H locs hP hD hS => ?_)
  refine lv_aload_n hx hb dX1_copyFrom_84 rfl (lv_at hl 0 rfl) ?_
  refine lv_aload_n hx hb dX1_copyFrom_85 rfl (lv_at hl 1 rfl) ?_
  refine getO X hP inX1 7 rfl rfl 12 (by decide) (List.mem_of_getElem? (i := 9) rfl) rfl dX1_copyFrom_86 ?_
  refine putO X hP hD hS inX1 tyX1 tyX1_ok nmX1 0 rfl rfl 12 (by decide) (List.mem_of_getElem? (i := 9) rfl) rfl rfl rfl (Nat.le_of_ble_eq_true rfl) dX1_copyFrom_89 (wo_X1_copyFrom cI cZ a_t a_t_sh a_t_cmd a_t_tim a_t_hel a_t_dir a_t_seg a_o a_o_sh a_o_cmd a_o_tim a_o_hel a_o_dir a_o_seg v_o_fw v_o_fp v_o_fn v_o_rt v_o_wd v_o_pd v_o_ss v_o_rs v_o_sh_nd v_o_sh_sn v_t_cmd v_t_tim v_t_hel v_t_dir v_t_seg v_o_fw v_o_fp v_o_fn v_o_rt v_o_wd v_o_pd v_o_ss v_o_rs v_o_sh_nd v_o_sh_sn v_o_cmd v_o_tim v_o_hel v_o_dir v_o_seg) rfl (fun H locs hP hD hS => ?_)
  refine lv_aload_n hx hb dX1_copyFrom_92 rfl (lv_at hl 1 rfl) ?_
  refine getO X hP inX1 7 rfl rfl 4 (by decide) (List.mem_of_getElem? (i := 10) rfl) rfl dX1_copyFrom_93 ?_
  refine lv_aload_n hx hb dX1_copyFrom_96 rfl (lv_at hl 0 rfl) ?_
  refine getO X hP inX1 0 rfl rfl 4 (by decide) (List.mem_of_getElem? (i := 10) rfl) rfl dX1_copyFrom_97 ?_
  obtain ⟨q100, e100, hf⟩ := bnd hf
  refine callNV X (k_X5_copyRow l D cI cZ a_o_cmd a_t_cmd 8 8 v_o_cmd v_t_cmd  q100 e100) ⟨va_cnB 2 X.1.2.2.2.2 gX1_copyFrom_X5_copyRow_n132 rfl rfl rfl (X.2.2.2.2.1.ml 13 rfl) (X.1.2.2.2.2 _ (List.mem_of_getElem? (i := 16) rfl)) kd_X5_copyRow ⟨Nat.le_of_ble_eq_true rfl, Nat.le_of_ble_eq_true rfl⟩, X.1.2.2.2.2 _ (List.mem_of_getElem? (i := 15) rfl), trivial⟩ hP hD hS hl.1 [9, 2] (by decide) (wo_X1_copyFrom cI cZ a_t a_t_sh a_t_cmd a_t_tim a_t_hel a_t_dir a_t_seg a_o a_o_sh a_o_cmd a_o_tim a_o_hel a_o_dir a_o_seg v_o_fw v_o_fp v_o_fn v_o_rt v_o_wd v_o_pd v_o_ss v_o_rs v_o_sh_nd v_o_sh_sn q100 v_t_tim v_t_hel v_t_dir v_t_seg v_o_fw v_o_fp v_o_fn v_o_rt v_o_wd v_o_pd v_o_ss v_o_rs v_o_sh_nd v_o_sh_sn v_o_cmd v_o_tim v_o_hel v_o_dir v_o_seg) rfl rfl rfl rfl rfl (rest := []) rfl (Nat.le_of_ble_eq_true rfl) dX1_copyFrom_100 ⟨Nat.zero_le _, Nat.zero_le _⟩ (fun H locs hP hD hS => ?_)
  refine lv_aload_n hx hb dX1_copyFrom_103 rfl (lv_at hl 1 rfl) ?_
  refine getO X hP inX1 7 rfl rfl 5 (by decide) (List.mem_of_getElem? (i := 11) rfl) rfl dX1_copyFrom_104 ?_
  refine lv_aload_n hx hb dX1_copyFrom_107 rfl (lv_at hl 0 rfl) ?_
  refine getO X hP inX1 0 rfl rfl 5 (by decide) (List.mem_of_getElem? (i := 11) rfl) rfl dX1_copyFrom_108 ?_
  obtain ⟨q111, e111, hf⟩ := bnd hf
  refine callNV X (k_X5_copyRow l D cI cZ a_o_tim a_t_tim 8 8 v_o_tim v_t_tim  q111 e111) ⟨va_cnB 2 X.1.2.2.2.2 gX1_copyFrom_X5_copyRow_n132 rfl rfl rfl (X.2.2.2.2.1.ml 13 rfl) (X.1.2.2.2.2 _ (List.mem_of_getElem? (i := 16) rfl)) kd_X5_copyRow ⟨Nat.le_of_ble_eq_true rfl, Nat.le_of_ble_eq_true rfl⟩, X.1.2.2.2.2 _ (List.mem_of_getElem? (i := 15) rfl), trivial⟩ hP hD hS hl.1 [10, 3] (by decide) (wo_X1_copyFrom cI cZ a_t a_t_sh a_t_cmd a_t_tim a_t_hel a_t_dir a_t_seg a_o a_o_sh a_o_cmd a_o_tim a_o_hel a_o_dir a_o_seg v_o_fw v_o_fp v_o_fn v_o_rt v_o_wd v_o_pd v_o_ss v_o_rs v_o_sh_nd v_o_sh_sn q100 q111 v_t_hel v_t_dir v_t_seg v_o_fw v_o_fp v_o_fn v_o_rt v_o_wd v_o_pd v_o_ss v_o_rs v_o_sh_nd v_o_sh_sn v_o_cmd v_o_tim v_o_hel v_o_dir v_o_seg) rfl rfl rfl rfl rfl (rest := []) rfl (Nat.le_of_ble_eq_true rfl) dX1_copyFrom_111 ⟨Nat.zero_le _, Nat.zero_le _⟩ (fun H locs hP hD hS => ?_)
  refine lv_aload_n hx hb dX1_copyFrom_114 rfl (lv_at hl 1 rfl) ?_
  refine getO X hP inX1 7 rfl rfl 6 (by decide) (List.mem_of_getElem? (i := 12) rfl) rfl dX1_copyFrom_115 ?_
  refine lv_aload_n hx hb dX1_copyFrom_118 rfl (lv_at hl 0 rfl) ?_
  refine getO X hP inX1 0 rfl rfl 6 (by decide) (List.mem_of_getElem? (i := 12) rfl) rfl dX1_copyFrom_119 ?_
  obtain ⟨q122, e122, hf⟩ := bnd hf
  refine callNV X (k_X5_copyRow l D cI cZ a_o_hel a_t_hel 8 8 v_o_hel v_t_hel  q122 e122) ⟨va_cnB 2 X.1.2.2.2.2 gX1_copyFrom_X5_copyRow_n132 rfl rfl rfl (X.2.2.2.2.1.ml 13 rfl) (X.1.2.2.2.2 _ (List.mem_of_getElem? (i := 16) rfl)) kd_X5_copyRow ⟨Nat.le_of_ble_eq_true rfl, Nat.le_of_ble_eq_true rfl⟩, X.1.2.2.2.2 _ (List.mem_of_getElem? (i := 15) rfl), trivial⟩ hP hD hS hl.1 [11, 4] (by decide) (wo_X1_copyFrom cI cZ a_t a_t_sh a_t_cmd a_t_tim a_t_hel a_t_dir a_t_seg a_o a_o_sh a_o_cmd a_o_tim a_o_hel a_o_dir a_o_seg v_o_fw v_o_fp v_o_fn v_o_rt v_o_wd v_o_pd v_o_ss v_o_rs v_o_sh_nd v_o_sh_sn q100 q111 q122 v_t_dir v_t_seg v_o_fw v_o_fp v_o_fn v_o_rt v_o_wd v_o_pd v_o_ss v_o_rs v_o_sh_nd v_o_sh_sn v_o_cmd v_o_tim v_o_hel v_o_dir v_o_seg) rfl rfl rfl rfl rfl (rest := []) rfl (Nat.le_of_ble_eq_true rfl) dX1_copyFrom_122 ⟨Nat.zero_le _, Nat.zero_le _⟩ (fun H locs hP hD hS => ?_)
  refine lv_aload_n hx hb dX1_copyFrom_125 rfl (lv_at hl 1 rfl) ?_
  refine getO X hP inX1 7 rfl rfl 10 (by decide) (List.mem_of_getElem? (i := 13) rfl) rfl dX1_copyFrom_126 ?_
  refine lv_aload_n hx hb dX1_copyFrom_129 rfl (lv_at hl 0 rfl) ?_
  refine getO X hP inX1 0 rfl rfl 10 (by decide) (List.mem_of_getElem? (i := 13) rfl) rfl dX1_copyFrom_130 ?_
  obtain ⟨q133, e133, hf⟩ := bnd hf
  refine callNV X (k_X5_copyRow l D cI cZ a_o_dir a_t_dir 8 8 v_o_dir v_t_dir  q133 e133) ⟨va_cnB 2 X.1.2.2.2.2 gX1_copyFrom_X5_copyRow_n132 rfl rfl rfl (X.2.2.2.2.1.ml 13 rfl) (X.1.2.2.2.2 _ (List.mem_of_getElem? (i := 16) rfl)) kd_X5_copyRow ⟨Nat.le_of_ble_eq_true rfl, Nat.le_of_ble_eq_true rfl⟩, X.1.2.2.2.2 _ (List.mem_of_getElem? (i := 15) rfl), trivial⟩ hP hD hS hl.1 [12, 5] (by decide) (wo_X1_copyFrom cI cZ a_t a_t_sh a_t_cmd a_t_tim a_t_hel a_t_dir a_t_seg a_o a_o_sh a_o_cmd a_o_tim a_o_hel a_o_dir a_o_seg v_o_fw v_o_fp v_o_fn v_o_rt v_o_wd v_o_pd v_o_ss v_o_rs v_o_sh_nd v_o_sh_sn q100 q111 q122 q133 v_t_seg v_o_fw v_o_fp v_o_fn v_o_rt v_o_wd v_o_pd v_o_ss v_o_rs v_o_sh_nd v_o_sh_sn v_o_cmd v_o_tim v_o_hel v_o_dir v_o_seg) rfl rfl rfl rfl rfl (rest := []) rfl (Nat.le_of_ble_eq_true rfl) dX1_copyFrom_133 ⟨Nat.zero_le _, Nat.zero_le _⟩ (fun H locs hP hD hS => ?_)
  refine lv_aload_n hx hb dX1_copyFrom_136 rfl (lv_at hl 1 rfl) ?_
  refine getO X hP inX1 7 rfl rfl 13 (by decide) (List.mem_of_getElem? (i := 14) rfl) rfl dX1_copyFrom_137 ?_
  refine lv_aload_n hx hb dX1_copyFrom_140 rfl (lv_at hl 0 rfl) ?_
  refine getO X hP inX1 0 rfl rfl 13 (by decide) (List.mem_of_getElem? (i := 14) rfl) rfl dX1_copyFrom_141 ?_
  obtain ⟨q144, e144, hf⟩ := bnd hf
  refine callNV X (k_X5_copyRow l D cI cZ a_o_seg a_t_seg 8 8 v_o_seg v_t_seg  q144 e144) ⟨va_cnB 2 X.1.2.2.2.2 gX1_copyFrom_X5_copyRow_n132 rfl rfl rfl (X.2.2.2.2.1.ml 13 rfl) (X.1.2.2.2.2 _ (List.mem_of_getElem? (i := 16) rfl)) kd_X5_copyRow ⟨Nat.le_of_ble_eq_true rfl, Nat.le_of_ble_eq_true rfl⟩, X.1.2.2.2.2 _ (List.mem_of_getElem? (i := 15) rfl), trivial⟩ hP hD hS hl.1 [13, 6] (by decide) (wo_X1_copyFrom cI cZ a_t a_t_sh a_t_cmd a_t_tim a_t_hel a_t_dir a_t_seg a_o a_o_sh a_o_cmd a_o_tim a_o_hel a_o_dir a_o_seg v_o_fw v_o_fp v_o_fn v_o_rt v_o_wd v_o_pd v_o_ss v_o_rs v_o_sh_nd v_o_sh_sn q100 q111 q122 q133 q144 v_o_fw v_o_fp v_o_fn v_o_rt v_o_wd v_o_pd v_o_ss v_o_rs v_o_sh_nd v_o_sh_sn v_o_cmd v_o_tim v_o_hel v_o_dir v_o_seg) rfl rfl rfl rfl rfl (rest := []) rfl (Nat.le_of_ble_eq_true rfl) dX1_copyFrom_144 ⟨Nat.zero_le _, Nat.zero_le _⟩ (fun H locs hP hD hS => ?_)
  obtain rfl := Option.some.inj hf
  exact retV X hS hP dX1_copyFrom_147
