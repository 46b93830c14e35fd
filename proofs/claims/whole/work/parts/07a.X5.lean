abbrev wo_X5_reset (cI cZ : ClassId) (a_t a_t_cu a_t_tr a_t_s0 a_t_s1 a_t_cu_ct a_t_cu_cl a_t_cu_cl_sh a_t_cu_ct_fe a_t_cu_ct_se a_t_cu_ct_pa a_t_cu_ct_sl a_t_cu_cl_cmd a_t_cu_cl_tim a_t_cu_cl_hel a_t_cu_cl_dir a_t_cu_cl_seg : Nat) (v_t_cu_tm : Int32) (v_t_cu_ct_ex : Int32) (v_t_cu_ct_pa : Nat → Int32) (v_t_cu_cl_fw : Int32) (v_t_cu_cl_fp : Int32) (v_t_cu_cl_fn : Int32) (v_t_cu_cl_rt : Int32) (v_t_cu_cl_wd : Int32) (v_t_cu_cl_pd : Int32) (v_t_cu_cl_ss : Int32) (v_t_cu_cl_rs : Int32) (v_t_cu_cl_sh_nd : Int32) (v_t_cu_cl_sh_sn : Int32) (v_t_cu_cl_cmd : Nat → Int32) (v_t_cu_cl_tim : Nat → Int32) (v_t_cu_cl_dir : Nat → Int32) (v_t_cu_cl_seg : Nat → Int32) : va_W := [(a_t, oX5 a_t_cu a_t_tr a_t_s0 a_t_s1), (a_t_cu, oX3 a_t_cu_ct a_t_cu_cl a_t_cu_cl_sh v_t_cu_tm), (a_t_cu_ct, oX0 a_t_cu_ct_fe a_t_cu_ct_se a_t_cu_ct_pa a_t_cu_ct_sl v_t_cu_ct_ex), (a_t_cu_ct_pa, rI cI 16 v_t_cu_ct_pa), (a_t_cu_cl, oX1 a_t_cu_cl_sh v_t_cu_cl_fw v_t_cu_cl_fp v_t_cu_cl_fn a_t_cu_cl_cmd a_t_cu_cl_tim a_t_cu_cl_hel v_t_cu_cl_rt v_t_cu_cl_wd v_t_cu_cl_pd a_t_cu_cl_dir v_t_cu_cl_ss v_t_cu_cl_rs a_t_cu_cl_seg), (a_t_cu_cl_sh, oX2 v_t_cu_cl_sh_nd v_t_cu_cl_sh_sn), (a_t_cu_cl_cmd, rI cI 8 v_t_cu_cl_cmd), (a_t_cu_cl_tim, rI cI 8 v_t_cu_cl_tim), (a_t_cu_cl_dir, rI cI 8 v_t_cu_cl_dir), (a_t_cu_cl_seg, rI cI 8 v_t_cu_cl_seg)]
def fX5_reset (v_t_cu_tm : Int32) (v_t_cu_ct_ex : Int32) (v_t_cu_ct_pa : Nat → Int32) (v_t_cu_cl_fw : Int32) (v_t_cu_cl_fp : Int32) (v_t_cu_cl_fn : Int32) (v_t_cu_cl_wd : Int32) (v_t_cu_cl_pd : Int32) (v_t_cu_cl_ss : Int32) (v_t_cu_cl_rs : Int32) (v_t_cu_cl_sh_nd : Int32) (v_t_cu_cl_sh_sn : Int32) (v_t_cu_cl_cmd : Nat → Int32) (v_t_cu_cl_tim : Nat → Int32) (v_t_cu_cl_dir : Nat → Int32) (v_t_cu_cl_seg : Nat → Int32) (p1 : Int32) (p2 : Int32) : Option (Int32 × Int32 × Int32 × (Nat → Int32) × Int32 × Int32 × Int32 × Int32 × Int32 × Int32 × Int32 × Int32 × Int32 × (Nat → Int32) × (Nat → Int32) × (Nat → Int32) × (Nat → Int32)) := (if p1 < (nI 3) then (some ((-4), v_t_cu_tm, v_t_cu_ct_ex, v_t_cu_ct_pa, v_t_cu_cl_fw, v_t_cu_cl_fp, v_t_cu_cl_fn, v_t_cu_cl_wd, v_t_cu_cl_pd, v_t_cu_cl_ss, v_t_cu_cl_rs, v_t_cu_cl_sh_nd, v_t_cu_cl_sh_sn, v_t_cu_cl_cmd, v_t_cu_cl_tim, v_t_cu_cl_dir, v_t_cu_cl_seg)) else (if (nI 8) < p1 then (some ((-4), v_t_cu_tm, v_t_cu_ct_ex, v_t_cu_ct_pa, v_t_cu_cl_fw, v_t_cu_cl_fp, v_t_cu_cl_fn, v_t_cu_cl_wd, v_t_cu_cl_pd, v_t_cu_cl_ss, v_t_cu_cl_rs, v_t_cu_cl_sh_nd, v_t_cu_cl_sh_sn, v_t_cu_cl_cmd, v_t_cu_cl_tim, v_t_cu_cl_dir, v_t_cu_cl_seg)) else (if p2 < (nI 1) then (some ((-4), v_t_cu_tm, v_t_cu_ct_ex, v_t_cu_ct_pa, v_t_cu_cl_fw, v_t_cu_cl_fp, v_t_cu_cl_fn, v_t_cu_cl_wd, v_t_cu_cl_pd, v_t_cu_cl_ss, v_t_cu_cl_rs, v_t_cu_cl_sh_nd, v_t_cu_cl_sh_sn, v_t_cu_cl_cmd, v_t_cu_cl_tim, v_t_cu_cl_dir, v_t_cu_cl_seg)) else (if p2 ≤ (nI 4) then ((fX3_startAnew v_t_cu_tm v_t_cu_ct_ex v_t_cu_ct_pa v_t_cu_cl_fw v_t_cu_cl_fp v_t_cu_cl_fn v_t_cu_cl_wd v_t_cu_cl_pd v_t_cu_cl_ss v_t_cu_cl_rs v_t_cu_cl_sh_nd v_t_cu_cl_sh_sn v_t_cu_cl_cmd v_t_cu_cl_tim v_t_cu_cl_dir v_t_cu_cl_seg p1 p2).bind (fun q41 => (some (v_t_cu_cl_sh_nd, q41.1, q41.2.1, q41.2.2.1, q41.2.2.2.1, q41.2.2.2.2.1, q41.2.2.2.2.2.1, q41.2.2.2.2.2.2.1, q41.2.2.2.2.2.2.2.1, q41.2.2.2.2.2.2.2.2.1, q41.2.2.2.2.2.2.2.2.2.1, q41.2.2.2.2.2.2.2.2.2.2.1, q41.2.2.2.2.2.2.2.2.2.2.2.1, q41.2.2.2.2.2.2.2.2.2.2.2.2.1, q41.2.2.2.2.2.2.2.2.2.2.2.2.2.1, q41.2.2.2.2.2.2.2.2.2.2.2.2.2.2.1, q41.2.2.2.2.2.2.2.2.2.2.2.2.2.2.2)))) else (some ((-4), v_t_cu_tm, v_t_cu_ct_ex, v_t_cu_ct_pa, v_t_cu_cl_fw, v_t_cu_cl_fp, v_t_cu_cl_fn, v_t_cu_cl_wd, v_t_cu_cl_pd, v_t_cu_cl_ss, v_t_cu_cl_rs, v_t_cu_cl_sh_nd, v_t_cu_cl_sh_sn, v_t_cu_cl_cmd, v_t_cu_cl_tim, v_t_cu_cl_dir, v_t_cu_cl_seg))))))
theorem kd_X5_reset : yX5_reset.cls = RX5 ∧ yX5_reset.cls ≠ "java/lang/invoke/MethodHandle" ∧ yX5_reset.cls ≠ "java/lang/invoke/VarHandle" ∧ (parseMethodDescriptor yX5_reset.desc).map (fun d => d.parameters.length) = some 2 := by decide +kernel
def rm_X5_reset : Room := { frames := 3, cells := 0, slots := 0, locals := 65 }
set_option maxHeartbeats 4000000 in
set_option maxRecDepth 100000 in
theorem k_X5_reset (l : Launch) (D : va_G) (cI cZ : ClassId) (a_t a_t_cu a_t_tr a_t_s0 a_t_s1 a_t_cu_ct a_t_cu_cl a_t_cu_cl_sh a_t_cu_ct_fe a_t_cu_ct_se a_t_cu_ct_pa a_t_cu_ct_sl a_t_cu_cl_cmd a_t_cu_cl_tim a_t_cu_cl_hel a_t_cu_cl_dir a_t_cu_cl_seg : Nat) (v_t_cu_tm : Int32) (v_t_cu_ct_ex : Int32) (v_t_cu_ct_pa : Nat → Int32) (v_t_cu_cl_fw : Int32) (v_t_cu_cl_fp : Int32) (v_t_cu_cl_fn : Int32) (v_t_cu_cl_rt : Int32) (v_t_cu_cl_wd : Int32) (v_t_cu_cl_pd : Int32) (v_t_cu_cl_ss : Int32) (v_t_cu_cl_rs : Int32) (v_t_cu_cl_sh_nd : Int32) (v_t_cu_cl_sh_sn : Int32) (v_t_cu_cl_cmd : Nat → Int32) (v_t_cu_cl_tim : Nat → Int32) (v_t_cu_cl_dir : Nat → Int32) (v_t_cu_cl_seg : Nat → Int32) (p1 : Int32) (p2 : Int32) (q : Int32 × Int32 × Int32 × (Nat → Int32) × Int32 × Int32 × Int32 × Int32 × Int32 × Int32 × Int32 × Int32 × Int32 × (Nat → Int32) × (Nat → Int32) × (Nat → Int32) × (Nat → Int32)) (hf : fX5_reset v_t_cu_tm v_t_cu_ct_ex v_t_cu_ct_pa v_t_cu_cl_fw v_t_cu_cl_fp v_t_cu_cl_fn v_t_cu_cl_wd v_t_cu_cl_pd v_t_cu_cl_ss v_t_cu_cl_rs v_t_cu_cl_sh_nd v_t_cu_cl_sh_sn v_t_cu_cl_cmd v_t_cu_cl_tim v_t_cu_cl_dir v_t_cu_cl_seg p1 p2 = some q) : CI l D cI cZ yX5_reset wsX5_reset rm_X5_reset [.ref a_t, .int p1, .int p2] (wo_X5_reset cI cZ a_t a_t_cu a_t_tr a_t_s0 a_t_s1 a_t_cu_ct a_t_cu_cl a_t_cu_cl_sh a_t_cu_ct_fe a_t_cu_ct_se a_t_cu_ct_pa a_t_cu_ct_sl a_t_cu_cl_cmd a_t_cu_cl_tim a_t_cu_cl_hel a_t_cu_cl_dir a_t_cu_cl_seg v_t_cu_tm v_t_cu_ct_ex v_t_cu_ct_pa v_t_cu_cl_fw v_t_cu_cl_fp v_t_cu_cl_fn v_t_cu_cl_rt v_t_cu_cl_wd v_t_cu_cl_pd v_t_cu_cl_ss v_t_cu_cl_rs v_t_cu_cl_sh_nd v_t_cu_cl_sh_sn v_t_cu_cl_cmd v_t_cu_cl_tim v_t_cu_cl_dir v_t_cu_cl_seg) (wo_X5_reset cI cZ a_t a_t_cu a_t_tr a_t_s0 a_t_s1 a_t_cu_ct a_t_cu_cl a_t_cu_cl_sh a_t_cu_ct_fe a_t_cu_ct_se a_t_cu_ct_pa a_t_cu_ct_sl a_t_cu_cl_cmd a_t_cu_cl_tim a_t_cu_cl_hel a_t_cu_cl_dir a_t_cu_cl_seg q.2.1 q.2.2.1 q.2.2.2.1 q.2.2.2.2.1 q.2.2.2.2.2.1 q.2.2.2.2.2.2.1 v_t_cu_cl_rt q.2.2.2.2.2.2.2.1 q.2.2.2.2.2.2.2.2.1 q.2.2.2.2.2.2.2.2.2.1 q.2.2.2.2.2.2.2.2.2.2.1 q.2.2.2.2.2.2.2.2.2.2.2.1 q.2.2.2.2.2.2.2.2.2.2.2.2.1 q.2.2.2.2.2.2.2.2.2.2.2.2.2.1 q.2.2.2.2.2.2.2.2.2.2.2.2.2.2.1 q.2.2.2.2.2.2.2.2.2.2.2.2.2.2.2.1 q.2.2.2.2.2.2.2.2.2.2.2.2.2.2.2.2) q.1 := by
  refine CI.mk (cc := cX5_reset) (maxL := 4) (by decide) rfl (Nat.le_of_ble_eq_true rfl) ?_
  intro p e s m below meth c ls A X hP hD hl hS
  have hx := X.1.1
  have hb := X.1.2.1
  have hl : lv_has ls 4 [(0, .ref a_t), (1, .int p1), (2, .int p2)] := hl
  have inX2 : ∀ w ∈ u_ws RX2 TX2 2, w ∈ wsX5_reset := fun _ h => List.mem_cons_of_mem _ (List.mem_append_left _ (List.mem_append_left _ (List.mem_append_right _ h)))
  have inX3 : ∀ w ∈ u_ws RX3 TX3 4, w ∈ wsX5_reset := fun _ h => List.mem_cons_of_mem _ (List.mem_append_left _ (List.mem_append_left _ (List.mem_append_left _ (List.mem_append_right _ h))))
  have inX5 : ∀ w ∈ u_ws RX5 TX5 4, w ∈ wsX5_reset := fun _ h => List.mem_cons_of_mem _ (List.mem_append_left _ (List.mem_append_left _ (List.mem_append_left _ (List.mem_append_left _ (List.mem_append_right _ h)))))
  unfold fX5_reset at hf
  refine lv_iload_n hx hb dX5_reset_0 rfl (lv_at hl 1 rfl) ?_
  refine lv_iconst hx hb dX5_reset_1 ic_3 ?_
  refine lv_icmp_lt (tgt := 21) hx hb dX5_reset_2 (by decide) (fun hc => ?_) (fun hc => ?_)
  · replace hf := ifp hc hf
    refine lv_bipush hx hb dX5_reset_21 bp_m4 ?_
    obtain rfl := Option.some.inj hf
    exact retI X hS hP rfl dX5_reset_23
  · replace hf := ifn hc hf
    refine lv_iload_n hx hb dX5_reset_5 rfl (lv_at hl 1 rfl) ?_
    refine lv_bipush hx hb dX5_reset_6 bp_8 ?_
    refine lv_icmp_gt (tgt := 21) hx hb dX5_reset_8 (by decide) (fun hc => ?_) (fun hc => ?_)
    · replace hf := ifp hc hf
      refine lv_bipush hx hb dX5_reset_21 bp_m4 ?_
      obtain rfl := Option.some.inj hf
      exact retI X hS hP rfl dX5_reset_23
    · replace hf := ifn hc hf
      refine lv_iload_n hx hb dX5_reset_11 rfl (lv_at hl 2 rfl) ?_
      refine lv_iconst hx hb dX5_reset_12 ic_1 ?_
      refine lv_icmp_lt (tgt := 21) hx hb dX5_reset_13 (by decide) (fun hc => ?_) (fun hc => ?_)
      · replace hf := ifp hc hf
        refine lv_bipush hx hb dX5_reset_21 bp_m4 ?_
        obtain rfl := Option.some.inj hf
        exact retI X hS hP rfl dX5_reset_23
      · replace hf := ifn hc hf
        refine lv_iload_n hx hb dX5_reset_16 rfl (lv_at hl 2 rfl) ?_
        refine lv_iconst hx hb dX5_reset_17 ic_4 ?_
        refine lv_icmp_le (tgt := 24) hx hb dX5_reset_18 (by decide) (fun hc => ?_) (fun hc => ?_)
        · replace hf := ifp hc hf
          refine lv_aload_n hx hb dX5_reset_24 rfl (lv_at hl 0 rfl) ?_
          refine getO X hP inX5 0 rfl rfl 0 (by decide) (List.mem_of_getElem? (i := 1) rfl) rfl dX5_reset_25 ?_
          refine getN X hP inX3 1 rfl rfl 2 (by decide) 16 rfl rfl dX5_reset_28 ?_
          refine getN X hP inX2 5 rfl rfl 0 (by decide) 0 rfl rfl dX5_reset_31 ?_
          refine lv_istore_n (lv' := [(3, .int v_t_cu_cl_sh_nd), (0, .ref a_t), (1, .int p1), (2, .int p2)]) hx hb dX5_reset_34 rfl hl (by decide) rfl (fun ls hl => ?_)
          refine lv_aload_n hx hb dX5_reset_35 rfl (lv_at hl 1 rfl) ?_
          refine getO X hP inX5 0 rfl rfl 0 (by decide) (List.mem_of_getElem? (i := 1) rfl) rfl dX5_reset_36 ?_
          refine lv_iload_n hx hb dX5_reset_39 rfl (lv_at hl 2 rfl) ?_
          refine lv_iload_n hx hb dX5_reset_40 rfl (lv_at hl 3 rfl) ?_
          obtain ⟨q41, e41, hf⟩ := bnd hf
          refine callVV X (k_X3_startAnew l D cI cZ a_t_cu a_t_cu_ct a_t_cu_cl a_t_cu_cl_sh a_t_cu_ct_fe a_t_cu_ct_se a_t_cu_ct_pa a_t_cu_ct_sl a_t_cu_cl_cmd a_t_cu_cl_tim a_t_cu_cl_hel a_t_cu_cl_dir a_t_cu_cl_seg  v_t_cu_tm v_t_cu_ct_ex v_t_cu_ct_pa v_t_cu_cl_fw v_t_cu_cl_fp v_t_cu_cl_fn v_t_cu_cl_rt v_t_cu_cl_wd v_t_cu_cl_pd v_t_cu_cl_ss v_t_cu_cl_rs v_t_cu_cl_sh_nd v_t_cu_cl_sh_sn v_t_cu_cl_cmd v_t_cu_cl_tim v_t_cu_cl_dir v_t_cu_cl_seg p1 p2 q41 e41) (cwV 2 X.1.2.2.2.2 gX5_reset_X3_startAnew rfl rfl rfl kd_X3_startAnew ⟨Nat.le_of_ble_eq_true rfl, Nat.le_of_ble_eq_true rfl⟩) hP hD hS hl.1 1 3 rfl rfl [1, 2, 3, 4, 5, 6, 7, 8, 9] (by decide) (wo_X5_reset cI cZ a_t a_t_cu a_t_tr a_t_s0 a_t_s1 a_t_cu_ct a_t_cu_cl a_t_cu_cl_sh a_t_cu_ct_fe a_t_cu_ct_se a_t_cu_ct_pa a_t_cu_ct_sl a_t_cu_cl_cmd a_t_cu_cl_tim a_t_cu_cl_hel a_t_cu_cl_dir a_t_cu_cl_seg q41.1 q41.2.1 q41.2.2.1 q41.2.2.2.1 q41.2.2.2.2.1 q41.2.2.2.2.2.1 v_t_cu_cl_rt q41.2.2.2.2.2.2.1 q41.2.2.2.2.2.2.2.1 q41.2.2.2.2.2.2.2.2.1 q41.2.2.2.2.2.2.2.2.2.1 q41.2.2.2.2.2.2.2.2.2.2.1 q41.2.2.2.2.2.2.2.2.2.2.2.1 q41.2.2.2.2.2.2.2.2.2.2.2.2.1 q41.2.2.2.2.2.2.2.2.2.2.2.2.2.1 q41.2.2.2.2.2.2.2.2.2.2.2.2.2.2.1 q41.2.2.2.2.2.2.2.2.2.2.2.2.2.2.2) rfl rfl rfl rfl rfl (rest := []) rfl (Nat.le_of_ble_eq_true rfl) dX5_reset_41 ⟨Nat.zero_le _, Nat.zero_le _⟩ (fun H locs hP hD hS => ?_)
          refine lv_iload_n hx hb dX5_reset_44 rfl (lv_at hl 0 rfl) ?_
          obtain rfl := Option.some.inj hf
          exact retI X hS hP rfl dX5_reset_45
        · replace hf := ifn hc hf
          refine lv_bipush hx hb dX5_reset_21 bp_m4 ?_
          obtain rfl := Option.some.inj hf
          exact retI X hS hP rfl dX5_reset_23

abbrev wo_X5_faultOfEnds (cI cZ : ClassId) (a_t a_t_cu a_t_tr a_t_s0 a_t_s1 a_t_cu_ct a_t_cu_cl a_t_cu_cl_sh : Nat) (v_t_cu_tm : Int32) (v_t_cu_cl_sh_nd : Int32) (v_t_cu_cl_sh_sn : Int32) : va_W := [(a_t, oX5 a_t_cu a_t_tr a_t_s0 a_t_s1), (a_t_cu, oX3 a_t_cu_ct a_t_cu_cl a_t_cu_cl_sh v_t_cu_tm), (a_t_cu_cl_sh, oX2 v_t_cu_cl_sh_nd v_t_cu_cl_sh_sn)]
def fX5_faultOfEnds (v_t_cu_cl_sh_nd : Int32) (p1 : Int32) (p2 : Int32) : Option (Int32) := ((fX2_hasNode v_t_cu_cl_sh_nd p1).bind (fun q8 => (if q8 = true then ((fX2_hasNode v_t_cu_cl_sh_nd p2).bind (fun q22 => (if q22 = true then (if p1 = p2 then (some (-5)) else (some 0)) else (some (-1))))) else (some (-1)))))
theorem kd_X5_faultOfEnds : yX5_faultOfEnds.cls = RX5 ∧ yX5_faultOfEnds.cls ≠ "java/lang/invoke/MethodHandle" ∧ yX5_faultOfEnds.cls ≠ "java/lang/invoke/VarHandle" ∧ (parseMethodDescriptor yX5_faultOfEnds.desc).map (fun d => d.parameters.length) = some 2 := by decide +kernel
def rm_X5_faultOfEnds : Room := { frames := 1, cells := 0, slots := 0, locals := 21 }
set_option maxHeartbeats 4000000 in
set_option maxRecDepth 100000 in
theorem k_X5_faultOfEnds (l : Launch) (D : va_G) (cI cZ : ClassId) (a_t a_t_cu a_t_tr a_t_s0 a_t_s1 a_t_cu_ct a_t_cu_cl a_t_cu_cl_sh : Nat) (v_t_cu_tm : Int32) (v_t_cu_cl_sh_nd : Int32) (v_t_cu_cl_sh_sn : Int32) (p1 : Int32) (p2 : Int32) (q : Int32) (hf : fX5_faultOfEnds v_t_cu_cl_sh_nd p1 p2 = some q) : CI l D cI cZ yX5_faultOfEnds wsX5_faultOfEnds rm_X5_faultOfEnds [.ref a_t, .int p1, .int p2] (wo_X5_faultOfEnds cI cZ a_t a_t_cu a_t_tr a_t_s0 a_t_s1 a_t_cu_ct a_t_cu_cl a_t_cu_cl_sh v_t_cu_tm v_t_cu_cl_sh_nd v_t_cu_cl_sh_sn) (wo_X5_faultOfEnds cI cZ a_t a_t_cu a_t_tr a_t_s0 a_t_s1 a_t_cu_ct a_t_cu_cl a_t_cu_cl_sh v_t_cu_tm v_t_cu_cl_sh_nd v_t_cu_cl_sh_sn) q := by
  refine CI.mk (cc := cX5_faultOfEnds) (maxL := 3) (by decide) rfl (Nat.le_of_ble_eq_true rfl) ?_
  intro p e s m below meth c ls A X hP hD hl hS
  have hx := X.1.1
  have hb := X.1.2.1
  have hl : lv_has ls 3 [(0, .ref a_t), (1, .int p1), (2, .int p2)] := hl
  have inX3 : ∀ w ∈ u_ws RX3 TX3 4, w ∈ wsX5_faultOfEnds := fun _ h => List.mem_cons_of_mem _ (List.mem_append_left _ (List.mem_append_right _ h))
  have inX5 : ∀ w ∈ u_ws RX5 TX5 4, w ∈ wsX5_faultOfEnds := fun _ h => List.mem_cons_of_mem _ (List.mem_append_left _ (List.mem_append_left _ (List.mem_append_right _ h)))
  unfold fX5_faultOfEnds at hf
  refine lv_aload_n hx hb dX5_faultOfEnds_0 rfl (lv_at hl 0 rfl) ?_
  refine getO X hP inX5 0 rfl rfl 0 (by decide) (List.mem_of_getElem? (i := 1) rfl) rfl dX5_faultOfEnds_1 ?_
  refine getN X hP inX3 1 rfl rfl 2 (by decide) 16 rfl rfl dX5_faultOfEnds_4 ?_
  refine lv_iload_n hx hb dX5_faultOfEnds_7 rfl (lv_at hl 1 rfl) ?_
  obtain ⟨q8, e8, hf⟩ := bnd hf
  refine callVI X (k_X2_hasNode l D cI cZ a_t_cu_cl_sh  v_t_cu_cl_sh_nd v_t_cu_cl_sh_sn p1 q8 e8) (cwV 1 X.1.2.2.2.2 gX5_faultOfEnds_X2_hasNode rfl rfl rfl kd_X2_hasNode ⟨Nat.le_of_ble_eq_true rfl, Nat.le_of_ble_eq_true rfl⟩) hP hD hS hl.1 2 2 rfl rfl [2] (by decide) (wo_X5_faultOfEnds cI cZ a_t a_t_cu a_t_tr a_t_s0 a_t_s1 a_t_cu_ct a_t_cu_cl a_t_cu_cl_sh v_t_cu_tm v_t_cu_cl_sh_nd v_t_cu_cl_sh_sn) rfl rfl rfl rfl rfl (rest := []) rfl (Nat.le_of_ble_eq_true rfl) dX5_faultOfEnds_8 ⟨Nat.zero_le _, Nat.zero_le _⟩ (fun H locs hP hD hS => ?_)
  refine lv_if_eq (tgt := 28) hx hb dX5_faultOfEnds_11 (by decide) (fun hc => ?_) (fun hc => ?_)
  · replace hf := ifn (b2i_z hc) hf
    refine lv_iconst hx hb dX5_faultOfEnds_28 ic_m1 ?_
    obtain rfl := Option.some.inj hf
    exact retI X hS hP rfl dX5_faultOfEnds_29
  · replace hf := ifp (b2i_nz hc) hf
    refine lv_aload_n hx hb dX5_faultOfEnds_14 rfl (lv_at hl 0 rfl) ?_
    refine getO X hP inX5 0 rfl rfl 0 (by decide) (List.mem_of_getElem? (i := 1) rfl) rfl dX5_faultOfEnds_15 ?_
    refine getN X hP inX3 1 rfl rfl 2 (by decide) 16 rfl rfl dX5_faultOfEnds_18 ?_
    refine lv_iload_n hx hb dX5_faultOfEnds_21 rfl (lv_at hl 2 rfl) ?_
    obtain ⟨q22, e22, hf⟩ := bnd hf
    refine callVI X (k_X2_hasNode l D cI cZ a_t_cu_cl_sh  v_t_cu_cl_sh_nd v_t_cu_cl_sh_sn p2 q22 e22) (cwV 1 X.1.2.2.2.2 gX5_faultOfEnds_X2_hasNode rfl rfl rfl kd_X2_hasNode ⟨Nat.le_of_ble_eq_true rfl, Nat.le_of_ble_eq_true rfl⟩) hP hD hS hl.1 2 2 rfl rfl [2] (by decide) (wo_X5_faultOfEnds cI cZ a_t a_t_cu a_t_tr a_t_s0 a_t_s1 a_t_cu_ct a_t_cu_cl a_t_cu_cl_sh v_t_cu_tm v_t_cu_cl_sh_nd v_t_cu_cl_sh_sn) rfl rfl rfl rfl rfl (rest := []) rfl (Nat.le_of_ble_eq_true rfl) dX5_faultOfEnds_22 ⟨Nat.zero_le _, Nat.zero_le _⟩ (fun H locs hP hD hS => ?_)
    refine lv_if_ne (tgt := 30) hx hb dX5_faultOfEnds_25 (by decide) (fun hc => ?_) (fun hc => ?_)
    · replace hf := ifp (b2i_nz hc) hf
      refine lv_iload_n hx hb dX5_faultOfEnds_30 rfl (lv_at hl 1 rfl) ?_
      refine lv_iload_n hx hb dX5_faultOfEnds_31 rfl (lv_at hl 2 rfl) ?_
      refine lv_icmp_ne (tgt := 40) hx hb dX5_faultOfEnds_32 (by decide) (fun hc => ?_) (fun hc => ?_)
      · replace hf := ifn hc hf
        refine lv_iconst hx hb dX5_faultOfEnds_40 ic_0 ?_
        obtain rfl := Option.some.inj hf
        exact retI X hS hP rfl dX5_faultOfEnds_41
      · replace hf := ifp hc hf
        refine lv_bipush hx hb dX5_faultOfEnds_35 bp_m5 ?_
        refine lv_goto (tgt := 41) hx hb dX5_faultOfEnds_37 (by decide) ?_
        obtain rfl := Option.some.inj hf
        exact retI X hS hP rfl dX5_faultOfEnds_41
    · replace hf := ifn (b2i_z hc) hf
      refine lv_iconst hx hb dX5_faultOfEnds_28 ic_m1 ?_
      obtain rfl := Option.some.inj hf
      exact retI X hS hP rfl dX5_faultOfEnds_29

abbrev wo_X5_addCircuit (cI cZ : ClassId) (a_t a_t_cu a_t_tr a_t_s0 a_t_s1 a_t_cu_ct a_t_cu_cl a_t_cu_cl_sh a_t_cu_ct_fe a_t_cu_ct_se a_t_cu_ct_pa a_t_cu_ct_sl : Nat) (v_t_cu_tm : Int32) (v_t_cu_ct_ex : Int32) (v_t_cu_ct_fe : Nat → Int32) (v_t_cu_ct_se : Nat → Int32) (v_t_cu_ct_pa : Nat → Int32) (v_t_cu_ct_sl : Nat → Int32) (v_t_cu_cl_sh_nd : Int32) (v_t_cu_cl_sh_sn : Int32) : va_W := [(a_t, oX5 a_t_cu a_t_tr a_t_s0 a_t_s1), (a_t_cu, oX3 a_t_cu_ct a_t_cu_cl a_t_cu_cl_sh v_t_cu_tm), (a_t_cu_ct, oX0 a_t_cu_ct_fe a_t_cu_ct_se a_t_cu_ct_pa a_t_cu_ct_sl v_t_cu_ct_ex), (a_t_cu_ct_fe, rI cI 16 v_t_cu_ct_fe), (a_t_cu_ct_se, rI cI 16 v_t_cu_ct_se), (a_t_cu_ct_pa, rI cI 16 v_t_cu_ct_pa), (a_t_cu_ct_sl, rI cI 16 v_t_cu_ct_sl), (a_t_cu_cl_sh, oX2 v_t_cu_cl_sh_nd v_t_cu_cl_sh_sn)]
def fX5_addCircuit (v_t_cu_ct_ex : Int32) (v_t_cu_ct_fe : Nat → Int32) (v_t_cu_ct_se : Nat → Int32) (v_t_cu_ct_pa : Nat → Int32) (v_t_cu_ct_sl : Nat → Int32) (v_t_cu_cl_sh_nd : Int32) (v_t_cu_cl_sh_sn : Int32) (p1 : Int32) (p2 : Int32) (p3 : Int32) (p4 : Int32) (p5 : Int32) : Option (Int32 × Int32 × (Nat → Int32) × (Nat → Int32) × (Nat → Int32) × (Nat → Int32)) := ((fX5_faultOfEnds v_t_cu_cl_sh_nd p1 p2).bind (fun q3 => (if q3 = 0 then (if p4 < 0 then (some ((-4), v_t_cu_ct_ex, v_t_cu_ct_fe, v_t_cu_ct_se, v_t_cu_ct_pa, v_t_cu_ct_sl)) else (if p4 < v_t_cu_cl_sh_sn then ((fX0_smallestFreeNumber v_t_cu_ct_pa).bind (fun q46 => (if q46 = (-9) then (some ((-7), v_t_cu_ct_ex, v_t_cu_ct_fe, v_t_cu_ct_se, v_t_cu_ct_pa, v_t_cu_ct_sl)) else ((fX2_route v_t_cu_cl_sh_nd p1 p2 p3).bind (fun q71 => ((fX0_slotsUsed v_t_cu_ct_ex v_t_cu_ct_pa v_t_cu_ct_sl q71 p5).bind (fun q87 => ((fX5_contains q87 p4).bind (fun q92 => (if q92 = true then (some ((-6), v_t_cu_ct_ex, v_t_cu_ct_fe, v_t_cu_ct_se, v_t_cu_ct_pa, v_t_cu_ct_sl)) else ((fX0_putEnds v_t_cu_ct_fe v_t_cu_ct_se q46 p1 p2).bind (fun q112 => ((fX0_putRoute v_t_cu_ct_ex v_t_cu_ct_pa v_t_cu_ct_sl q46 q71 p4 p5).bind (fun q130 => (some (q46, q130.1, q112.1, q112.2, q130.2.1, q130.2.2)))))))))))))))) else (some ((-4), v_t_cu_ct_ex, v_t_cu_ct_fe, v_t_cu_ct_se, v_t_cu_ct_pa, v_t_cu_ct_sl)))) else (some (q3, v_t_cu_ct_ex, v_t_cu_ct_fe, v_t_cu_ct_se, v_t_cu_ct_pa, v_t_cu_ct_sl)))))
theorem kd_X5_addCircuit : yX5_addCircuit.cls = RX5 ∧ yX5_addCircuit.cls ≠ "java/lang/invoke/MethodHandle" ∧ yX5_addCircuit.cls ≠ "java/lang/invoke/VarHandle" ∧ (parseMethodDescriptor yX5_addCircuit.desc).map (fun d => d.parameters.length) = some 5 := by decide +kernel
def rm_X5_addCircuit : Room := { frames := 3, cells := 0, slots := 0, locals := 66 }
set_option maxHeartbeats 4000000 in
set_option maxRecDepth 100000 in
theorem k_X5_addCircuit (l : Launch) (D : va_G) (cI cZ : ClassId) (a_t a_t_cu a_t_tr a_t_s0 a_t_s1 a_t_cu_ct a_t_cu_cl a_t_cu_cl_sh a_t_cu_ct_fe a_t_cu_ct_se a_t_cu_ct_pa a_t_cu_ct_sl : Nat) (v_t_cu_tm : Int32) (v_t_cu_ct_ex : Int32) (v_t_cu_ct_fe : Nat → Int32) (v_t_cu_ct_se : Nat → Int32) (v_t_cu_ct_pa : Nat → Int32) (v_t_cu_ct_sl : Nat → Int32) (v_t_cu_cl_sh_nd : Int32) (v_t_cu_cl_sh_sn : Int32) (p1 : Int32) (p2 : Int32) (p3 : Int32) (p4 : Int32) (p5 : Int32) (q : Int32 × Int32 × (Nat → Int32) × (Nat → Int32) × (Nat → Int32) × (Nat → Int32)) (hf : fX5_addCircuit v_t_cu_ct_ex v_t_cu_ct_fe v_t_cu_ct_se v_t_cu_ct_pa v_t_cu_ct_sl v_t_cu_cl_sh_nd v_t_cu_cl_sh_sn p1 p2 p3 p4 p5 = some q) : CI l D cI cZ yX5_addCircuit wsX5_addCircuit rm_X5_addCircuit [.ref a_t, .int p1, .int p2, .int p3, .int p4, .int p5] (wo_X5_addCircuit cI cZ a_t a_t_cu a_t_tr a_t_s0 a_t_s1 a_t_cu_ct a_t_cu_cl a_t_cu_cl_sh a_t_cu_ct_fe a_t_cu_ct_se a_t_cu_ct_pa a_t_cu_ct_sl v_t_cu_tm v_t_cu_ct_ex v_t_cu_ct_fe v_t_cu_ct_se v_t_cu_ct_pa v_t_cu_ct_sl v_t_cu_cl_sh_nd v_t_cu_cl_sh_sn) (wo_X5_addCircuit cI cZ a_t a_t_cu a_t_tr a_t_s0 a_t_s1 a_t_cu_ct a_t_cu_cl a_t_cu_cl_sh a_t_cu_ct_fe a_t_cu_ct_se a_t_cu_ct_pa a_t_cu_ct_sl v_t_cu_tm q.2.1 q.2.2.1 q.2.2.2.1 q.2.2.2.2.1 q.2.2.2.2.2 v_t_cu_cl_sh_nd v_t_cu_cl_sh_sn) q.1 := by
  refine CI.mk (cc := cX5_addCircuit) (maxL := 9) (by decide) rfl (Nat.le_of_ble_eq_true rfl) ?_
  intro p e s m below meth c ls A X hP hD hl hS
  have hx := X.1.1
  have hb := X.1.2.1
  have hl : lv_has ls 9 [(0, .ref a_t), (1, .int p1), (2, .int p2), (3, .int p3), (4, .int p4), (5, .int p5)] := hl
  have inX2 : ∀ w ∈ u_ws RX2 TX2 2, w ∈ wsX5_addCircuit := fun _ h => List.mem_cons_of_mem _ (List.mem_append_left _ (List.mem_append_right _ h))
  have inX3 : ∀ w ∈ u_ws RX3 TX3 4, w ∈ wsX5_addCircuit := fun _ h => List.mem_cons_of_mem _ (List.mem_append_left _ (List.mem_append_left _ (List.mem_append_right _ h)))
  have inX5 : ∀ w ∈ u_ws RX5 TX5 4, w ∈ wsX5_addCircuit := fun _ h => List.mem_cons_of_mem _ (List.mem_append_left _ (List.mem_append_left _ (List.mem_append_left _ (List.mem_append_right _ h))))
  unfold fX5_addCircuit at hf
  refine lv_aload_n hx hb dX5_addCircuit_0 rfl (lv_at hl 0 rfl) ?_
  refine lv_iload_n hx hb dX5_addCircuit_1 rfl (lv_at hl 1 rfl) ?_
  refine lv_iload_n hx hb dX5_addCircuit_2 rfl (lv_at hl 2 rfl) ?_
  obtain ⟨q3, e3, hf⟩ := bnd hf
  refine callVI X (k_X5_faultOfEnds l D cI cZ a_t a_t_cu a_t_tr a_t_s0 a_t_s1 a_t_cu_ct a_t_cu_cl a_t_cu_cl_sh  v_t_cu_tm v_t_cu_cl_sh_nd v_t_cu_cl_sh_sn p1 p2 q3 e3) (cwV 2 X.1.2.2.2.2 gX5_addCircuit_X5_faultOfEnds rfl rfl rfl kd_X5_faultOfEnds ⟨Nat.le_of_ble_eq_true rfl, Nat.le_of_ble_eq_true rfl⟩) hP hD hS hl.1 0 5 rfl rfl [0, 1, 7] (by decide) (wo_X5_addCircuit cI cZ a_t a_t_cu a_t_tr a_t_s0 a_t_s1 a_t_cu_ct a_t_cu_cl a_t_cu_cl_sh a_t_cu_ct_fe a_t_cu_ct_se a_t_cu_ct_pa a_t_cu_ct_sl v_t_cu_tm v_t_cu_ct_ex v_t_cu_ct_fe v_t_cu_ct_se v_t_cu_ct_pa v_t_cu_ct_sl v_t_cu_cl_sh_nd v_t_cu_cl_sh_sn) rfl rfl rfl rfl rfl (rest := []) rfl (Nat.le_of_ble_eq_true rfl) dX5_addCircuit_3 ⟨Nat.zero_le _, Nat.zero_le _⟩ (fun H locs hP hD hS => ?_)
  refine lv_istore (lv' := [(6, .int q3), (0, .ref a_t), (1, .int p1), (2, .int p2), (3, .int p3), (4, .int p4), (5, .int p5)]) hx hb dX5_addCircuit_6 hl (by decide) rfl (fun ls hl => ?_)
  refine lv_iload hx hb dX5_addCircuit_8 (lv_at hl 0 rfl) ?_
  refine lv_if_eq (tgt := 16) hx hb dX5_addCircuit_10 (by decide) (fun hc => ?_) (fun hc => ?_)
  · replace hf := ifp hc hf
    refine lv_iload hx hb dX5_addCircuit_16 (lv_at hl 5 rfl) ?_
    refine lv_if_lt (tgt := 36) hx hb dX5_addCircuit_18 (by decide) (fun hc => ?_) (fun hc => ?_)
    · replace hf := ifp hc hf
      refine lv_bipush hx hb dX5_addCircuit_36 bp_m4 ?_
      obtain rfl := Option.some.inj hf
      exact retI X hS hP rfl dX5_addCircuit_38
    · replace hf := ifn hc hf
      refine lv_iload hx hb dX5_addCircuit_21 (lv_at hl 5 rfl) ?_
      refine lv_aload_n hx hb dX5_addCircuit_23 rfl (lv_at hl 1 rfl) ?_
      refine getO X hP inX5 0 rfl rfl 0 (by decide) (List.mem_of_getElem? (i := 1) rfl) rfl dX5_addCircuit_24 ?_
      refine getN X hP inX3 1 rfl rfl 2 (by decide) 16 rfl rfl dX5_addCircuit_27 ?_
      refine getN X hP inX2 7 rfl rfl 1 (by decide) 2 rfl rfl dX5_addCircuit_30 ?_
      refine lv_icmp_lt (tgt := 39) hx hb dX5_addCircuit_33 (by decide) (fun hc => ?_) (fun hc => ?_)
      · replace hf := ifp hc hf
        refine lv_aload_n hx hb dX5_addCircuit_39 rfl (lv_at hl 1 rfl) ?_
        refine getO X hP inX5 0 rfl rfl 0 (by decide) (List.mem_of_getElem? (i := 1) rfl) rfl dX5_addCircuit_40 ?_
        refine getN X hP inX3 1 rfl rfl 0 (by decide) 14 rfl rfl dX5_addCircuit_43 ?_
        obtain ⟨q46, e46, hf⟩ := bnd hf
        refine callVI X (k_X0_smallestFreeNumber l D cI cZ a_t_cu_ct a_t_cu_ct_fe a_t_cu_ct_se a_t_cu_ct_pa a_t_cu_ct_sl  v_t_cu_ct_ex v_t_cu_ct_pa  q46 e46) (cwV 0 X.1.2.2.2.2 gX5_addCircuit_X0_smallestFreeNumber rfl rfl rfl kd_X0_smallestFreeNumber ⟨Nat.le_of_ble_eq_true rfl, Nat.le_of_ble_eq_true rfl⟩) hP hD hS hl.1 2 0 rfl rfl [2, 5] (by decide) (wo_X5_addCircuit cI cZ a_t a_t_cu a_t_tr a_t_s0 a_t_s1 a_t_cu_ct a_t_cu_cl a_t_cu_cl_sh a_t_cu_ct_fe a_t_cu_ct_se a_t_cu_ct_pa a_t_cu_ct_sl v_t_cu_tm v_t_cu_ct_ex v_t_cu_ct_fe v_t_cu_ct_se v_t_cu_ct_pa v_t_cu_ct_sl v_t_cu_cl_sh_nd v_t_cu_cl_sh_sn) rfl rfl rfl rfl rfl (rest := []) rfl (Nat.le_of_ble_eq_true rfl) dX5_addCircuit_46 ⟨Nat.zero_le _, Nat.zero_le _⟩ (fun H locs hP hD hS => ?_)
        refine lv_istore (lv' := [(7, .int q46), (6, .int q3), (0, .ref a_t), (1, .int p1), (2, .int p2), (3, .int p3), (4, .int p4), (5, .int p5)]) hx hb dX5_addCircuit_49 hl (by decide) rfl (fun ls hl => ?_)
        refine lv_iload hx hb dX5_addCircuit_51 (lv_at hl 0 rfl) ?_
        refine lv_bipush hx hb dX5_addCircuit_53 bp_m9 ?_
        refine lv_icmp_ne (tgt := 61) hx hb dX5_addCircuit_55 (by decide) (fun hc => ?_) (fun hc => ?_)
        · replace hf := ifn hc hf
          refine lv_aload_n hx hb dX5_addCircuit_61 rfl (lv_at hl 2 rfl) ?_
          refine getO X hP inX5 0 rfl rfl 0 (by decide) (List.mem_of_getElem? (i := 1) rfl) rfl dX5_addCircuit_62 ?_
          refine getN X hP inX3 1 rfl rfl 2 (by decide) 16 rfl rfl dX5_addCircuit_65 ?_
          refine lv_iload_n hx hb dX5_addCircuit_68 rfl (lv_at hl 3 rfl) ?_
          refine lv_iload_n hx hb dX5_addCircuit_69 rfl (lv_at hl 4 rfl) ?_
          refine lv_iload_n hx hb dX5_addCircuit_70 rfl (lv_at hl 5 rfl) ?_
          obtain ⟨q71, e71, hf⟩ := bnd hf
          refine callVI X (k_X2_route l D cI cZ a_t_cu_cl_sh  v_t_cu_cl_sh_nd v_t_cu_cl_sh_sn p1 p2 p3 q71 e71) (cwV 3 X.1.2.2.2.2 gX5_addCircuit_X2_route rfl rfl rfl kd_X2_route ⟨Nat.le_of_ble_eq_true rfl, Nat.le_of_ble_eq_true rfl⟩) hP hD hS hl.1 7 2 rfl rfl [7] (by decide) (wo_X5_addCircuit cI cZ a_t a_t_cu a_t_tr a_t_s0 a_t_s1 a_t_cu_ct a_t_cu_cl a_t_cu_cl_sh a_t_cu_ct_fe a_t_cu_ct_se a_t_cu_ct_pa a_t_cu_ct_sl v_t_cu_tm v_t_cu_ct_ex v_t_cu_ct_fe v_t_cu_ct_se v_t_cu_ct_pa v_t_cu_ct_sl v_t_cu_cl_sh_nd v_t_cu_cl_sh_sn) rfl rfl rfl rfl rfl (rest := []) rfl (Nat.le_of_ble_eq_true rfl) dX5_addCircuit_71 ⟨Nat.zero_le _, Nat.zero_le _⟩ (fun H locs hP hD hS => ?_)
          refine lv_istore (lv' := [(8, .int q71), (7, .int q46), (6, .int q3), (0, .ref a_t), (1, .int p1), (2, .int p2), (3, .int p3), (4, .int p4), (5, .int p5)]) hx hb dX5_addCircuit_74 hl (by decide) rfl (fun ls hl => ?_)
          refine lv_aload_n hx hb dX5_addCircuit_76 rfl (lv_at hl 3 rfl) ?_
          refine getO X hP inX5 0 rfl rfl 0 (by decide) (List.mem_of_getElem? (i := 1) rfl) rfl dX5_addCircuit_77 ?_
          refine getN X hP inX3 1 rfl rfl 0 (by decide) 14 rfl rfl dX5_addCircuit_80 ?_
          refine lv_iload hx hb dX5_addCircuit_83 (lv_at hl 0 rfl) ?_
          refine lv_iload hx hb dX5_addCircuit_85 (lv_at hl 8 rfl) ?_
          obtain ⟨q87, e87, hf⟩ := bnd hf
          refine callVI X (k_X0_slotsUsed l D cI cZ a_t_cu_ct a_t_cu_ct_fe a_t_cu_ct_se a_t_cu_ct_pa a_t_cu_ct_sl  v_t_cu_ct_ex v_t_cu_ct_pa v_t_cu_ct_sl q71 p5 q87 e87) (cwV 2 X.1.2.2.2.2 gX5_addCircuit_X0_slotsUsed rfl rfl rfl kd_X0_slotsUsed ⟨Nat.le_of_ble_eq_true rfl, Nat.le_of_ble_eq_true rfl⟩) hP hD hS hl.1 2 0 rfl rfl [2, 5, 6] (by decide) (wo_X5_addCircuit cI cZ a_t a_t_cu a_t_tr a_t_s0 a_t_s1 a_t_cu_ct a_t_cu_cl a_t_cu_cl_sh a_t_cu_ct_fe a_t_cu_ct_se a_t_cu_ct_pa a_t_cu_ct_sl v_t_cu_tm v_t_cu_ct_ex v_t_cu_ct_fe v_t_cu_ct_se v_t_cu_ct_pa v_t_cu_ct_sl v_t_cu_cl_sh_nd v_t_cu_cl_sh_sn) rfl rfl rfl rfl rfl (rest := []) rfl (Nat.le_of_ble_eq_true rfl) dX5_addCircuit_87 ⟨Nat.zero_le _, Nat.zero_le _⟩ (fun H locs hP hD hS => ?_)
          refine lv_iload hx hb dX5_addCircuit_90 (lv_at hl 7 rfl) ?_
          obtain ⟨q92, e92, hf⟩ := bnd hf
          refine callSI X (k_X5_contains l D cI cZ    q87 p4 q92 e92) (va_cwS 2 X.1.2.2.2.2 gX5_addCircuit_X5_contains rfl rfl rfl kd_X5_contains ⟨Nat.le_of_ble_eq_true rfl, Nat.le_of_ble_eq_true rfl⟩) hP hD hS hl.1 [] (by decide) (wo_X5_addCircuit cI cZ a_t a_t_cu a_t_tr a_t_s0 a_t_s1 a_t_cu_ct a_t_cu_cl a_t_cu_cl_sh a_t_cu_ct_fe a_t_cu_ct_se a_t_cu_ct_pa a_t_cu_ct_sl v_t_cu_tm v_t_cu_ct_ex v_t_cu_ct_fe v_t_cu_ct_se v_t_cu_ct_pa v_t_cu_ct_sl v_t_cu_cl_sh_nd v_t_cu_cl_sh_sn) rfl rfl rfl rfl rfl (rest := []) rfl (Nat.le_of_ble_eq_true rfl) dX5_addCircuit_92 ⟨Nat.zero_le _, Nat.zero_le _⟩ (fun H locs hP hD hS => ?_)
          refine lv_if_eq (tgt := 101) hx hb dX5_addCircuit_95 (by decide) (fun hc => ?_) (fun hc => ?_)
          · replace hf := ifn (b2i_z hc) hf
            refine lv_aload_n hx hb dX5_addCircuit_101 rfl (lv_at hl 3 rfl) ?_
            refine getO X hP inX5 0 rfl rfl 0 (by decide) (List.mem_of_getElem? (i := 1) rfl) rfl dX5_addCircuit_102 ?_
            refine getN X hP inX3 1 rfl rfl 0 (by decide) 14 rfl rfl dX5_addCircuit_105 ?_
            refine lv_iload hx hb dX5_addCircuit_108 (lv_at hl 1 rfl) ?_
            refine lv_iload_n hx hb dX5_addCircuit_110 rfl (lv_at hl 4 rfl) ?_
            refine lv_iload_n hx hb dX5_addCircuit_111 rfl (lv_at hl 5 rfl) ?_
            obtain ⟨q112, e112, hf⟩ := bnd hf
            refine callVV X (k_X0_putEnds l D cI cZ a_t_cu_ct a_t_cu_ct_fe a_t_cu_ct_se a_t_cu_ct_pa a_t_cu_ct_sl  v_t_cu_ct_ex v_t_cu_ct_fe v_t_cu_ct_se q46 p1 p2 q112 e112) (cwV 3 X.1.2.2.2.2 gX5_addCircuit_X0_putEnds rfl rfl rfl kd_X0_putEnds ⟨Nat.le_of_ble_eq_true rfl, Nat.le_of_ble_eq_true rfl⟩) hP hD hS hl.1 2 0 rfl rfl [2, 3, 4] (by decide) (wo_X5_addCircuit cI cZ a_t a_t_cu a_t_tr a_t_s0 a_t_s1 a_t_cu_ct a_t_cu_cl a_t_cu_cl_sh a_t_cu_ct_fe a_t_cu_ct_se a_t_cu_ct_pa a_t_cu_ct_sl v_t_cu_tm v_t_cu_ct_ex q112.1 q112.2 v_t_cu_ct_pa v_t_cu_ct_sl v_t_cu_cl_sh_nd v_t_cu_cl_sh_sn) rfl rfl rfl rfl rfl (rest := []) rfl (Nat.le_of_ble_eq_true rfl) dX5_addCircuit_112 ⟨Nat.zero_le _, Nat.zero_le _⟩ (fun H locs hP hD hS => ?_)
            refine lv_aload_n hx hb dX5_addCircuit_115 rfl (lv_at hl 3 rfl) ?_
            refine getO X hP inX5 0 rfl rfl 0 (by decide) (List.mem_of_getElem? (i := 1) rfl) rfl dX5_addCircuit_116 ?_
            refine getN X hP inX3 1 rfl rfl 0 (by decide) 14 rfl rfl dX5_addCircuit_119 ?_
            refine lv_iload hx hb dX5_addCircuit_122 (lv_at hl 1 rfl) ?_
            refine lv_iload hx hb dX5_addCircuit_124 (lv_at hl 0 rfl) ?_
            refine lv_iload hx hb dX5_addCircuit_126 (lv_at hl 7 rfl) ?_
            refine lv_iload hx hb dX5_addCircuit_128 (lv_at hl 8 rfl) ?_
            obtain ⟨q130, e130, hf⟩ := bnd hf
            refine callVV X (k_X0_putRoute l D cI cZ a_t_cu_ct a_t_cu_ct_fe a_t_cu_ct_se a_t_cu_ct_pa a_t_cu_ct_sl  v_t_cu_ct_ex v_t_cu_ct_pa v_t_cu_ct_sl q46 q71 p4 p5 q130 e130) (cwV 4 X.1.2.2.2.2 gX5_addCircuit_X0_putRoute rfl rfl rfl kd_X0_putRoute ⟨Nat.le_of_ble_eq_true rfl, Nat.le_of_ble_eq_true rfl⟩) hP hD hS hl.1 2 0 rfl rfl [2, 5, 6] (by decide) (wo_X5_addCircuit cI cZ a_t a_t_cu a_t_tr a_t_s0 a_t_s1 a_t_cu_ct a_t_cu_cl a_t_cu_cl_sh a_t_cu_ct_fe a_t_cu_ct_se a_t_cu_ct_pa a_t_cu_ct_sl v_t_cu_tm q130.1 q112.1 q112.2 q130.2.1 q130.2.2 v_t_cu_cl_sh_nd v_t_cu_cl_sh_sn) rfl rfl rfl rfl rfl (rest := []) rfl (Nat.le_of_ble_eq_true rfl) dX5_addCircuit_130 ⟨Nat.zero_le _, Nat.zero_le _⟩ (fun H locs hP hD hS => ?_)
            refine lv_iload hx hb dX5_addCircuit_133 (lv_at hl 1 rfl) ?_
            obtain rfl := Option.some.inj hf
            exact retI X hS hP rfl dX5_addCircuit_135
          · replace hf := ifp (b2i_nz hc) hf
            refine lv_bipush hx hb dX5_addCircuit_98 bp_m6 ?_
            obtain rfl := Option.some.inj hf
            exact retI X hS hP rfl dX5_addCircuit_100
        · replace hf := ifp hc hf
          refine lv_bipush hx hb dX5_addCircuit_58 bp_m7 ?_
          obtain rfl := Option.some.inj hf
          exact retI X hS hP rfl dX5_addCircuit_60
      · replace hf := ifn hc hf
        refine lv_bipush hx hb dX5_addCircuit_36 bp_m4 ?_
        obtain rfl := Option.some.inj hf
        exact retI X hS hP rfl dX5_addCircuit_38
  · replace hf := ifn hc hf
    refine lv_iload hx hb dX5_addCircuit_13 (lv_at hl 0 rfl) ?_
    obtain rfl := Option.some.inj hf
    exact retI X hS hP rfl dX5_addCircuit_15

abbrev wo_X5_removeCircuit (cI cZ : ClassId) (a_t a_t_cu a_t_tr a_t_s0 a_t_s1 a_t_cu_ct a_t_cu_cl a_t_cu_cl_sh a_t_cu_ct_fe a_t_cu_ct_se a_t_cu_ct_pa a_t_cu_ct_sl : Nat) (v_t_cu_tm : Int32) (v_t_cu_ct_ex : Int32) (v_t_cu_ct_pa : Nat → Int32) (v_t_cu_ct_sl : Nat → Int32) : va_W := [(a_t, oX5 a_t_cu a_t_tr a_t_s0 a_t_s1), (a_t_cu, oX3 a_t_cu_ct a_t_cu_cl a_t_cu_cl_sh v_t_cu_tm), (a_t_cu_ct, oX0 a_t_cu_ct_fe a_t_cu_ct_se a_t_cu_ct_pa a_t_cu_ct_sl v_t_cu_ct_ex), (a_t_cu_ct_pa, rI cI 16 v_t_cu_ct_pa), (a_t_cu_ct_sl, rI cI 16 v_t_cu_ct_sl)]
def fX5_removeCircuit (v_t_cu_ct_ex : Int32) (v_t_cu_ct_pa : Nat → Int32) (v_t_cu_ct_sl : Nat → Int32) (p1 : Int32) : Option (Int32 × Int32 × (Nat → Int32) × (Nat → Int32)) := ((fX0_has v_t_cu_ct_pa p1).bind (fun q8 => (if q8 = true then ((fX0_takeAway v_t_cu_ct_ex v_t_cu_ct_pa v_t_cu_ct_sl p1).bind (fun q25 => ((fX0_count q25.2.1).bind (fun q35 => (some (q35, q25.1, q25.2.1, q25.2.2)))))) else (some ((-3), v_t_cu_ct_ex, v_t_cu_ct_pa, v_t_cu_ct_sl)))))
theorem kd_X5_removeCircuit : yX5_removeCircuit.cls = RX5 ∧ yX5_removeCircuit.cls ≠ "java/lang/invoke/MethodHandle" ∧ yX5_removeCircuit.cls ≠ "java/lang/invoke/VarHandle" ∧ (parseMethodDescriptor yX5_removeCircuit.desc).map (fun d => d.parameters.length) = some 1 := by decide +kernel
def rm_X5_removeCircuit : Room := { frames := 3, cells := 0, slots := 0, locals := 67 }
set_option maxHeartbeats 4000000 in
set_option maxRecDepth 100000 in
theorem k_X5_removeCircuit (l : Launch) (D : va_G) (cI cZ : ClassId) (a_t a_t_cu a_t_tr a_t_s0 a_t_s1 a_t_cu_ct a_t_cu_cl a_t_cu_cl_sh a_t_cu_ct_fe a_t_cu_ct_se a_t_cu_ct_pa a_t_cu_ct_sl : Nat) (v_t_cu_tm : Int32) (v_t_cu_ct_ex : Int32) (v_t_cu_ct_pa : Nat → Int32) (v_t_cu_ct_sl : Nat → Int32) (p1 : Int32) (q : Int32 × Int32 × (Nat → Int32) × (Nat → Int32)) (hf : fX5_removeCircuit v_t_cu_ct_ex v_t_cu_ct_pa v_t_cu_ct_sl p1 = some q) : CI l D cI cZ yX5_removeCircuit wsX5_removeCircuit rm_X5_removeCircuit [.ref a_t, .int p1] (wo_X5_removeCircuit cI cZ a_t a_t_cu a_t_tr a_t_s0 a_t_s1 a_t_cu_ct a_t_cu_cl a_t_cu_cl_sh a_t_cu_ct_fe a_t_cu_ct_se a_t_cu_ct_pa a_t_cu_ct_sl v_t_cu_tm v_t_cu_ct_ex v_t_cu_ct_pa v_t_cu_ct_sl) (wo_X5_removeCircuit cI cZ a_t a_t_cu a_t_tr a_t_s0 a_t_s1 a_t_cu_ct a_t_cu_cl a_t_cu_cl_sh a_t_cu_ct_fe a_t_cu_ct_se a_t_cu_ct_pa a_t_cu_ct_sl v_t_cu_tm q.2.1 q.2.2.1 q.2.2.2) q.1 := by
  refine CI.mk (cc := cX5_removeCircuit) (maxL := 2) (by decide) rfl (Nat.le_of_ble_eq_true rfl) ?_
  intro p e s m below meth c ls A X hP hD hl hS
  have hx := X.1.1
  have hb := X.1.2.1
  have hl : lv_has ls 2 [(0, .ref a_t), (1, .int p1)] := hl
  have inX3 : ∀ w ∈ u_ws RX3 TX3 4, w ∈ wsX5_removeCircuit := fun _ h => List.mem_cons_of_mem _ (List.mem_append_left _ (List.mem_append_right _ h))
  have inX5 : ∀ w ∈ u_ws RX5 TX5 4, w ∈ wsX5_removeCircuit := fun _ h => List.mem_cons_of_mem _ (List.mem_append_left _ (List.mem_append_left _ (List.mem_append_right _ h)))
  unfold fX5_removeCircuit at hf
  refine lv_aload_n hx hb dX5_removeCircuit_0 rfl (lv_at hl 0 rfl) ?_
  refine getO X hP inX5 0 rfl rfl 0 (by decide) (List.mem_of_getElem? (i := 1) rfl) rfl dX5_removeCircuit_1 ?_
  refine getN X hP inX3 1 rfl rfl 0 (by decide) 14 rfl rfl dX5_removeCircuit_4 ?_
  refine lv_iload_n hx hb dX5_removeCircuit_7 rfl (lv_at hl 1 rfl) ?_
  obtain ⟨q8, e8, hf⟩ := bnd hf
  refine callVI X (k_X0_has l D cI cZ a_t_cu_ct a_t_cu_ct_fe a_t_cu_ct_se a_t_cu_ct_pa a_t_cu_ct_sl  v_t_cu_ct_ex v_t_cu_ct_pa p1 q8 e8) (cwV 1 X.1.2.2.2.2 gX5_removeCircuit_X0_has rfl rfl rfl kd_X0_has ⟨Nat.le_of_ble_eq_true rfl, Nat.le_of_ble_eq_true rfl⟩) hP hD hS hl.1 2 0 rfl rfl [2, 3] (by decide) (wo_X5_removeCircuit cI cZ a_t a_t_cu a_t_tr a_t_s0 a_t_s1 a_t_cu_ct a_t_cu_cl a_t_cu_cl_sh a_t_cu_ct_fe a_t_cu_ct_se a_t_cu_ct_pa a_t_cu_ct_sl v_t_cu_tm v_t_cu_ct_ex v_t_cu_ct_pa v_t_cu_ct_sl) rfl rfl rfl rfl rfl (rest := []) rfl (Nat.le_of_ble_eq_true rfl) dX5_removeCircuit_8 ⟨Nat.zero_le _, Nat.zero_le _⟩ (fun H locs hP hD hS => ?_)
  refine lv_if_ne (tgt := 17) hx hb dX5_removeCircuit_11 (by decide) (fun hc => ?_) (fun hc => ?_)
  · replace hf := ifp (b2i_nz hc) hf
    refine lv_aload_n hx hb dX5_removeCircuit_17 rfl (lv_at hl 0 rfl) ?_
    refine getO X hP inX5 0 rfl rfl 0 (by decide) (List.mem_of_getElem? (i := 1) rfl) rfl dX5_removeCircuit_18 ?_
    refine getN X hP inX3 1 rfl rfl 0 (by decide) 14 rfl rfl dX5_removeCircuit_21 ?_
    refine lv_iload_n hx hb dX5_removeCircuit_24 rfl (lv_at hl 1 rfl) ?_
    obtain ⟨q25, e25, hf⟩ := bnd hf
    refine callVV X (k_X0_takeAway l D cI cZ a_t_cu_ct a_t_cu_ct_fe a_t_cu_ct_se a_t_cu_ct_pa a_t_cu_ct_sl  v_t_cu_ct_ex v_t_cu_ct_pa v_t_cu_ct_sl p1 q25 e25) (cwV 1 X.1.2.2.2.2 gX5_removeCircuit_X0_takeAway rfl rfl rfl kd_X0_takeAway ⟨Nat.le_of_ble_eq_true rfl, Nat.le_of_ble_eq_true rfl⟩) hP hD hS hl.1 2 0 rfl rfl [2, 3, 4] (by decide) (wo_X5_removeCircuit cI cZ a_t a_t_cu a_t_tr a_t_s0 a_t_s1 a_t_cu_ct a_t_cu_cl a_t_cu_cl_sh a_t_cu_ct_fe a_t_cu_ct_se a_t_cu_ct_pa a_t_cu_ct_sl v_t_cu_tm q25.1 q25.2.1 q25.2.2) rfl rfl rfl rfl rfl (rest := []) rfl (Nat.le_of_ble_eq_true rfl) dX5_removeCircuit_25 ⟨Nat.zero_le _, Nat.zero_le _⟩ (fun H locs hP hD hS => ?_)
    refine lv_aload_n hx hb dX5_removeCircuit_28 rfl (lv_at hl 0 rfl) ?_
    refine getO X hP inX5 0 rfl rfl 0 (by decide) (List.mem_of_getElem? (i := 1) rfl) rfl dX5_removeCircuit_29 ?_
    refine getN X hP inX3 1 rfl rfl 0 (by decide) 14 rfl rfl dX5_removeCircuit_32 ?_
    obtain ⟨q35, e35, hf⟩ := bnd hf
    refine callVI X (k_X0_count l D cI cZ a_t_cu_ct a_t_cu_ct_fe a_t_cu_ct_se a_t_cu_ct_pa a_t_cu_ct_sl  q25.1 q25.2.1  q35 e35) (cwV 0 X.1.2.2.2.2 gX5_removeCircuit_X0_count rfl rfl rfl kd_X0_count ⟨Nat.le_of_ble_eq_true rfl, Nat.le_of_ble_eq_true rfl⟩) hP hD hS hl.1 2 0 rfl rfl [2, 3] (by decide) (wo_X5_removeCircuit cI cZ a_t a_t_cu a_t_tr a_t_s0 a_t_s1 a_t_cu_ct a_t_cu_cl a_t_cu_cl_sh a_t_cu_ct_fe a_t_cu_ct_se a_t_cu_ct_pa a_t_cu_ct_sl v_t_cu_tm q25.1 q25.2.1 q25.2.2) rfl rfl rfl rfl rfl (rest := []) rfl (Nat.le_of_ble_eq_true rfl) dX5_removeCircuit_35 ⟨Nat.zero_le _, Nat.zero_le _⟩ (fun H locs hP hD hS => ?_)
    obtain rfl := Option.some.inj hf
    exact retI X hS hP rfl dX5_removeCircuit_38
  · replace hf := ifn (b2i_z hc) hf
    refine lv_bipush hx hb dX5_removeCircuit_14 bp_m3 ?_
    obtain rfl := Option.some.inj hf
    exact retI X hS hP rfl dX5_removeCircuit_16

abbrev wo_X5_circuitCount (cI cZ : ClassId) (a_t a_t_cu a_t_tr a_t_s0 a_t_s1 a_t_cu_ct a_t_cu_cl a_t_cu_cl_sh a_t_cu_ct_fe a_t_cu_ct_se a_t_cu_ct_pa a_t_cu_ct_sl : Nat) (v_t_cu_tm : Int32) (v_t_cu_ct_ex : Int32) (v_t_cu_ct_pa : Nat → Int32) : va_W := [(a_t, oX5 a_t_cu a_t_tr a_t_s0 a_t_s1), (a_t_cu, oX3 a_t_cu_ct a_t_cu_cl a_t_cu_cl_sh v_t_cu_tm), (a_t_cu_ct, oX0 a_t_cu_ct_fe a_t_cu_ct_se a_t_cu_ct_pa a_t_cu_ct_sl v_t_cu_ct_ex), (a_t_cu_ct_pa, rI cI 16 v_t_cu_ct_pa)]
def fX5_circuitCount (v_t_cu_ct_pa : Nat → Int32) : Option (Int32) := ((fX0_count v_t_cu_ct_pa).bind (fun q7 => (some q7)))
theorem kd_X5_circuitCount : yX5_circuitCount.cls = RX5 ∧ yX5_circuitCount.cls ≠ "java/lang/invoke/MethodHandle" ∧ yX5_circuitCount.cls ≠ "java/lang/invoke/VarHandle" ∧ (parseMethodDescriptor yX5_circuitCount.desc).map (fun d => d.parameters.length) = some 0 := by decide +kernel
def rm_X5_circuitCount : Room := { frames := 2, cells := 0, slots := 0, locals := 43 }
set_option maxHeartbeats 4000000 in
set_option maxRecDepth 100000 in
theorem k_X5_circuitCount (l : Launch) (D : va_G) (cI cZ : ClassId) (a_t a_t_cu a_t_tr a_t_s0 a_t_s1 a_t_cu_ct a_t_cu_cl a_t_cu_cl_sh a_t_cu_ct_fe a_t_cu_ct_se a_t_cu_ct_pa a_t_cu_ct_sl : Nat) (v_t_cu_tm : Int32) (v_t_cu_ct_ex : Int32) (v_t_cu_ct_pa : Nat → Int32) (q : Int32) (hf : fX5_circuitCount v_t_cu_ct_pa = some q) : CI l D cI cZ yX5_circuitCount wsX5_circuitCount rm_X5_circuitCount [.ref a_t] (wo_X5_circuitCount cI cZ a_t a_t_cu a_t_tr a_t_s0 a_t_s1 a_t_cu_ct a_t_cu_cl a_t_cu_cl_sh a_t_cu_ct_fe a_t_cu_ct_se a_t_cu_ct_pa a_t_cu_ct_sl v_t_cu_tm v_t_cu_ct_ex v_t_cu_ct_pa) (wo_X5_circuitCount cI cZ a_t a_t_cu a_t_tr a_t_s0 a_t_s1 a_t_cu_ct a_t_cu_cl a_t_cu_cl_sh a_t_cu_ct_fe a_t_cu_ct_se a_t_cu_ct_pa a_t_cu_ct_sl v_t_cu_tm v_t_cu_ct_ex v_t_cu_ct_pa) q := by
  refine CI.mk (cc := cX5_circuitCount) (maxL := 1) (by decide) rfl (Nat.le_of_ble_eq_true rfl) ?_
  intro p e s m below meth c ls A X hP hD hl hS
  have hx := X.1.1
  have hb := X.1.2.1
  have hl : lv_has ls 1 [(0, .ref a_t)] := hl
  have inX3 : ∀ w ∈ u_ws RX3 TX3 4, w ∈ wsX5_circuitCount := fun _ h => List.mem_cons_of_mem _ (List.mem_append_left _ (List.mem_append_right _ h))
  have inX5 : ∀ w ∈ u_ws RX5 TX5 4, w ∈ wsX5_circuitCount := fun _ h => List.mem_cons_of_mem _ (List.mem_append_left _ (List.mem_append_left _ (List.mem_append_right _ h)))
  unfold fX5_circuitCount at hf
  refine lv_aload_n hx hb dX5_circuitCount_0 rfl (lv_at hl 0 rfl) ?_
  refine getO X hP inX5 0 rfl rfl 0 (by decide) (List.mem_of_getElem? (i := 1) rfl) rfl dX5_circuitCount_1 ?_
  refine getN X hP inX3 1 rfl rfl 0 (by decide) 14 rfl rfl dX5_circuitCount_4 ?_
  obtain ⟨q7, e7, hf⟩ := bnd hf
  refine callVI X (k_X0_count l D cI cZ a_t_cu_ct a_t_cu_ct_fe a_t_cu_ct_se a_t_cu_ct_pa a_t_cu_ct_sl  v_t_cu_ct_ex v_t_cu_ct_pa  q7 e7) (cwV 0 X.1.2.2.2.2 gX5_circuitCount_X0_count rfl rfl rfl kd_X0_count ⟨Nat.le_of_ble_eq_true rfl, Nat.le_of_ble_eq_true rfl⟩) hP hD hS hl.1 2 0 rfl rfl [2, 3] (by decide) (wo_X5_circuitCount cI cZ a_t a_t_cu a_t_tr a_t_s0 a_t_s1 a_t_cu_ct a_t_cu_cl a_t_cu_cl_sh a_t_cu_ct_fe a_t_cu_ct_se a_t_cu_ct_pa a_t_cu_ct_sl v_t_cu_tm v_t_cu_ct_ex v_t_cu_ct_pa) rfl rfl rfl rfl rfl (rest := []) rfl (Nat.le_of_ble_eq_true rfl) dX5_circuitCount_7 ⟨Nat.zero_le _, Nat.zero_le _⟩ (fun H locs hP hD hS => ?_)
  obtain rfl := Option.some.inj hf
  exact retI X hS hP rfl dX5_circuitCount_10

abbrev wo_X5_freeSlot (cI cZ : ClassId) (a_t a_t_cu a_t_tr a_t_s0 a_t_s1 a_t_cu_ct a_t_cu_cl a_t_cu_cl_sh a_t_cu_ct_fe a_t_cu_ct_se a_t_cu_ct_pa a_t_cu_ct_sl : Nat) (v_t_cu_tm : Int32) (v_t_cu_ct_ex : Int32) (v_t_cu_ct_pa : Nat → Int32) (v_t_cu_ct_sl : Nat → Int32) (v_t_cu_cl_sh_nd : Int32) (v_t_cu_cl_sh_sn : Int32) : va_W := [(a_t, oX5 a_t_cu a_t_tr a_t_s0 a_t_s1), (a_t_cu, oX3 a_t_cu_ct a_t_cu_cl a_t_cu_cl_sh v_t_cu_tm), (a_t_cu_ct, oX0 a_t_cu_ct_fe a_t_cu_ct_se a_t_cu_ct_pa a_t_cu_ct_sl v_t_cu_ct_ex), (a_t_cu_ct_pa, rI cI 16 v_t_cu_ct_pa), (a_t_cu_ct_sl, rI cI 16 v_t_cu_ct_sl), (a_t_cu_cl_sh, oX2 v_t_cu_cl_sh_nd v_t_cu_cl_sh_sn)]
def fX5_freeSlot_L50 (v_t_cu_ct_ex : Int32) (v_t_cu_ct_pa : Nat → Int32) (v_t_cu_ct_sl : Nat → Int32) (v_t_cu_cl_sh_nd : Int32) (v_t_cu_cl_sh_sn : Int32) (p1 : Int32) (p2 : Int32) (p3 : Int32) (p4 : Int32) (K : Int32 → Int32 → Option (Int32)) : Nat → Int32 → Int32 → Option (Int32)
  | 0, _, _ => none
  | k + 1, x7_50, x8_50 => (if v_t_cu_cl_sh_sn ≤ x8_50 then (K x7_50 x8_50) else ((fX5_contains x7_50 x8_50).bind (fun q69 => (if q69 = true then (fX5_freeSlot_L50 v_t_cu_ct_ex v_t_cu_ct_pa v_t_cu_ct_sl v_t_cu_cl_sh_nd v_t_cu_cl_sh_sn p1 p2 p3 p4 K k x7_50 (x8_50 + nI 1)) else (some x8_50)))))
def fX5_freeSlot (v_t_cu_ct_ex : Int32) (v_t_cu_ct_pa : Nat → Int32) (v_t_cu_ct_sl : Nat → Int32) (v_t_cu_cl_sh_nd : Int32) (v_t_cu_cl_sh_sn : Int32) (p1 : Int32) (p2 : Int32) (p3 : Int32) (p4 : Int32) : Option (Int32) := ((fX5_faultOfEnds v_t_cu_cl_sh_nd p1 p2).bind (fun q3 => (if q3 = 0 then ((fX2_route v_t_cu_cl_sh_nd p1 p2 p3).bind (fun q26 => ((fX0_slotsUsed v_t_cu_ct_ex v_t_cu_ct_pa v_t_cu_ct_sl q26 p4).bind (fun q42 => (fX5_freeSlot_L50 v_t_cu_ct_ex v_t_cu_ct_pa v_t_cu_ct_sl v_t_cu_cl_sh_nd v_t_cu_cl_sh_sn p1 p2 p3 p4 (fun x7_50 x8_50 => (some (-9))) FU q42 0))))) else (some q3))))
theorem kd_X5_freeSlot : yX5_freeSlot.cls = RX5 ∧ yX5_freeSlot.cls ≠ "java/lang/invoke/MethodHandle" ∧ yX5_freeSlot.cls ≠ "java/lang/invoke/VarHandle" ∧ (parseMethodDescriptor yX5_freeSlot.desc).map (fun d => d.parameters.length) = some 4 := by decide +kernel
def rm_X5_freeSlot : Room := { frames := 3, cells := 0, slots := 0, locals := 66 }
set_option maxHeartbeats 4000000 in
set_option maxRecDepth 100000 in
theorem k_X5_freeSlot (l : Launch) (D : va_G) (cI cZ : ClassId) (a_t a_t_cu a_t_tr a_t_s0 a_t_s1 a_t_cu_ct a_t_cu_cl a_t_cu_cl_sh a_t_cu_ct_fe a_t_cu_ct_se a_t_cu_ct_pa a_t_cu_ct_sl : Nat) (v_t_cu_tm : Int32) (v_t_cu_ct_ex : Int32) (v_t_cu_ct_pa : Nat → Int32) (v_t_cu_ct_sl : Nat → Int32) (v_t_cu_cl_sh_nd : Int32) (v_t_cu_cl_sh_sn : Int32) (p1 : Int32) (p2 : Int32) (p3 : Int32) (p4 : Int32) (q : Int32) (hf : fX5_freeSlot v_t_cu_ct_ex v_t_cu_ct_pa v_t_cu_ct_sl v_t_cu_cl_sh_nd v_t_cu_cl_sh_sn p1 p2 p3 p4 = some q) : CI l D cI cZ yX5_freeSlot wsX5_freeSlot rm_X5_freeSlot [.ref a_t, .int p1, .int p2, .int p3, .int p4] (wo_X5_freeSlot cI cZ a_t a_t_cu a_t_tr a_t_s0 a_t_s1 a_t_cu_ct a_t_cu_cl a_t_cu_cl_sh a_t_cu_ct_fe a_t_cu_ct_se a_t_cu_ct_pa a_t_cu_ct_sl v_t_cu_tm v_t_cu_ct_ex v_t_cu_ct_pa v_t_cu_ct_sl v_t_cu_cl_sh_nd v_t_cu_cl_sh_sn) (wo_X5_freeSlot cI cZ a_t a_t_cu a_t_tr a_t_s0 a_t_s1 a_t_cu_ct a_t_cu_cl a_t_cu_cl_sh a_t_cu_ct_fe a_t_cu_ct_se a_t_cu_ct_pa a_t_cu_ct_sl v_t_cu_tm v_t_cu_ct_ex v_t_cu_ct_pa v_t_cu_ct_sl v_t_cu_cl_sh_nd v_t_cu_cl_sh_sn) q := by
  refine CI.mk (cc := cX5_freeSlot) (maxL := 9) (by decide) rfl (Nat.le_of_ble_eq_true rfl) ?_
  intro p e s m below meth c ls A X hP hD hl hS
  have hx := X.1.1
  have hb := X.1.2.1
  have hl : lv_has ls 9 [(0, .ref a_t), (1, .int p1), (2, .int p2), (3, .int p3), (4, .int p4)] := hl
  have inX2 : ∀ w ∈ u_ws RX2 TX2 2, w ∈ wsX5_freeSlot := fun _ h => List.mem_cons_of_mem _ (List.mem_append_left _ (List.mem_append_right _ h))
  have inX3 : ∀ w ∈ u_ws RX3 TX3 4, w ∈ wsX5_freeSlot := fun _ h => List.mem_cons_of_mem _ (List.mem_append_left _ (List.mem_append_left _ (List.mem_append_right _ h)))
  have inX5 : ∀ w ∈ u_ws RX5 TX5 4, w ∈ wsX5_freeSlot := fun _ h => List.mem_cons_of_mem _ (List.mem_append_left _ (List.mem_append_left _ (List.mem_append_left _ (List.mem_append_right _ h))))
  have L50 : ∀ (K : Int32 → Int32 → Option (Int32)) (hKK : ∀ (x7_50 : Int32) (x8_50 : Int32) (H : Heap) (locs : List Loc) (ls : Array Slot), K x7_50 x8_50 = some q → va_P D vwCl (wo_X5_freeSlot cI cZ a_t a_t_cu a_t_tr a_t_s0 a_t_s1 a_t_cu_ct a_t_cu_cl a_t_cu_cl_sh a_t_cu_ct_fe a_t_cu_ct_se a_t_cu_ct_pa a_t_cu_ct_sl v_t_cu_tm v_t_cu_ct_ex v_t_cu_ct_pa v_t_cu_ct_sl v_t_cu_cl_sh_nd v_t_cu_cl_sh_sn) H → va_D A (wo_X5_freeSlot cI cZ a_t a_t_cu a_t_tr a_t_s0 a_t_s1 a_t_cu_ct a_t_cu_cl a_t_cu_cl_sh a_t_cu_ct_fe a_t_cu_ct_se a_t_cu_ct_pa a_t_cu_ct_sl v_t_cu_tm v_t_cu_ct_ex v_t_cu_ct_pa v_t_cu_ct_sl v_t_cu_cl_sh_nd v_t_cu_cl_sh_sn) → va_S A s.heap H locs → lv_has ls 9 [] → W p l e rm_X5_freeSlot s m ([.ref a_t, .int p1, .int p2, .int p3, .int p4] : List Value).toArray below meth c H locs 0 0 (MQ below (QI D (wo_X5_freeSlot cI cZ a_t a_t_cu a_t_tr a_t_s0 a_t_s1 a_t_cu_ct a_t_cu_cl a_t_cu_cl_sh a_t_cu_ct_fe a_t_cu_ct_se a_t_cu_ct_pa a_t_cu_ct_sl v_t_cu_tm v_t_cu_ct_ex v_t_cu_ct_pa v_t_cu_ct_sl v_t_cu_cl_sh_nd v_t_cu_cl_sh_sn) q A) ([.ref a_t, .int p1, .int p2, .int p3, .int p4] : List Value).toArray s 0 0 A) (F0 m 84 ls [])) (k : Nat) (x7_50 : Int32) (x8_50 : Int32) (H : Heap) (locs : List Loc) (ls : Array Slot), fX5_freeSlot_L50 v_t_cu_ct_ex v_t_cu_ct_pa v_t_cu_ct_sl v_t_cu_cl_sh_nd v_t_cu_cl_sh_sn p1 p2 p3 p4 K k x7_50 x8_50 = some q → va_P D vwCl (wo_X5_freeSlot cI cZ a_t a_t_cu a_t_tr a_t_s0 a_t_s1 a_t_cu_ct a_t_cu_cl a_t_cu_cl_sh a_t_cu_ct_fe a_t_cu_ct_se a_t_cu_ct_pa a_t_cu_ct_sl v_t_cu_tm v_t_cu_ct_ex v_t_cu_ct_pa v_t_cu_ct_sl v_t_cu_cl_sh_nd v_t_cu_cl_sh_sn) H → va_D A (wo_X5_freeSlot cI cZ a_t a_t_cu a_t_tr a_t_s0 a_t_s1 a_t_cu_ct a_t_cu_cl a_t_cu_cl_sh a_t_cu_ct_fe a_t_cu_ct_se a_t_cu_ct_pa a_t_cu_ct_sl v_t_cu_tm v_t_cu_ct_ex v_t_cu_ct_pa v_t_cu_ct_sl v_t_cu_cl_sh_nd v_t_cu_cl_sh_sn) → va_S A s.heap H locs → lv_has ls 9 [(0, .ref a_t), (7, .int x7_50), (8, .int x8_50)] → W p l e rm_X5_freeSlot s m ([.ref a_t, .int p1, .int p2, .int p3, .int p4] : List Value).toArray below meth c H locs 0 0 (MQ below (QI D (wo_X5_freeSlot cI cZ a_t a_t_cu a_t_tr a_t_s0 a_t_s1 a_t_cu_ct a_t_cu_cl a_t_cu_cl_sh a_t_cu_ct_fe a_t_cu_ct_se a_t_cu_ct_pa a_t_cu_ct_sl v_t_cu_tm v_t_cu_ct_ex v_t_cu_ct_pa v_t_cu_ct_sl v_t_cu_cl_sh_nd v_t_cu_cl_sh_sn) q A) ([.ref a_t, .int p1, .int p2, .int p3, .int p4] : List Value).toArray s 0 0 A) (F0 m 50 ls []) := by
    intro K hKK k
    induction k with
    | zero => intro x7_50 x8_50 H locs ls hf; rw [fX5_freeSlot_L50] at hf; cases hf
    | succ k ih =>
      intro x7_50 x8_50 H locs ls hf hP hD hS hl
      rw [fX5_freeSlot_L50] at hf
      refine lv_iload hx hb dX5_freeSlot_50 (lv_at hl 2 rfl) ?_
      refine lv_aload_n hx hb dX5_freeSlot_52 rfl (lv_at hl 0 rfl) ?_
      refine getO X hP inX5 0 rfl rfl 0 (by decide) (List.mem_of_getElem? (i := 1) rfl) rfl dX5_freeSlot_53 ?_
      refine getN X hP inX3 1 rfl rfl 2 (by decide) 16 rfl rfl dX5_freeSlot_56 ?_
      refine getN X hP inX2 5 rfl rfl 1 (by decide) 2 rfl rfl dX5_freeSlot_59 ?_
      refine lv_icmp_ge (tgt := 84) hx hb dX5_freeSlot_62 (by decide) (fun hc => ?_) (fun hc => ?_)
      · replace hf := ifp hc hf
        exact hKK _ _ _ _ ls hf hP hD hS (lv_sub hl [] rfl)
      · replace hf := ifn hc hf
        refine lv_iload hx hb dX5_freeSlot_65 (lv_at hl 1 rfl) ?_
        refine lv_iload hx hb dX5_freeSlot_67 (lv_at hl 2 rfl) ?_
        obtain ⟨q69, e69, hf⟩ := bnd hf
        refine callSI X (k_X5_contains l D cI cZ    x7_50 x8_50 q69 e69) (va_cwS 2 X.1.2.2.2.2 gX5_freeSlot_X5_contains rfl rfl rfl kd_X5_contains ⟨Nat.le_of_ble_eq_true rfl, Nat.le_of_ble_eq_true rfl⟩) hP hD hS hl.1 [] (by decide) (wo_X5_freeSlot cI cZ a_t a_t_cu a_t_tr a_t_s0 a_t_s1 a_t_cu_ct a_t_cu_cl a_t_cu_cl_sh a_t_cu_ct_fe a_t_cu_ct_se a_t_cu_ct_pa a_t_cu_ct_sl v_t_cu_tm v_t_cu_ct_ex v_t_cu_ct_pa v_t_cu_ct_sl v_t_cu_cl_sh_nd v_t_cu_cl_sh_sn) rfl rfl rfl rfl rfl (rest := []) rfl (Nat.le_of_ble_eq_true rfl) dX5_freeSlot_69 ⟨Nat.zero_le _, Nat.zero_le _⟩ (fun H locs hP hD hS => ?_)
        refine lv_if_ne (tgt := 78) hx hb dX5_freeSlot_72 (by decide) (fun hc => ?_) (fun hc => ?_)
        · replace hf := ifp (b2i_nz hc) hf
          refine lv_iinc (v := (x8_50 + nI 1)) (lv' := [(8, .int (x8_50 + nI 1)), (0, .ref a_t), (7, .int x7_50)]) hx hb dX5_freeSlot_78 hl (k := 2) rfl (inc_1 _) (by decide) rfl (fun ls hl => ?_)
          refine lv_goto (tgt := 50) hx hb dX5_freeSlot_81 (by decide) ?_
          exact ih _ _ _ _ ls hf hP hD hS (lv_sub hl [1, 2, 0] rfl)
        · replace hf := ifn (b2i_z hc) hf
          refine lv_iload hx hb dX5_freeSlot_75 (lv_at hl 2 rfl) ?_
          obtain rfl := Option.some.inj hf
          exact retI X hS hP rfl dX5_freeSlot_77
  unfold fX5_freeSlot at hf
  refine lv_aload_n hx hb dX5_freeSlot_0 rfl (lv_at hl 0 rfl) ?_
  refine lv_iload_n hx hb dX5_freeSlot_1 rfl (lv_at hl 1 rfl) ?_
  refine lv_iload_n hx hb dX5_freeSlot_2 rfl (lv_at hl 2 rfl) ?_
  obtain ⟨q3, e3, hf⟩ := bnd hf
  refine callVI X (k_X5_faultOfEnds l D cI cZ a_t a_t_cu a_t_tr a_t_s0 a_t_s1 a_t_cu_ct a_t_cu_cl a_t_cu_cl_sh  v_t_cu_tm v_t_cu_cl_sh_nd v_t_cu_cl_sh_sn p1 p2 q3 e3) (cwV 2 X.1.2.2.2.2 gX5_freeSlot_X5_faultOfEnds rfl rfl rfl kd_X5_faultOfEnds ⟨Nat.le_of_ble_eq_true rfl, Nat.le_of_ble_eq_true rfl⟩) hP hD hS hl.1 0 5 rfl rfl [0, 1, 5] (by decide) (wo_X5_freeSlot cI cZ a_t a_t_cu a_t_tr a_t_s0 a_t_s1 a_t_cu_ct a_t_cu_cl a_t_cu_cl_sh a_t_cu_ct_fe a_t_cu_ct_se a_t_cu_ct_pa a_t_cu_ct_sl v_t_cu_tm v_t_cu_ct_ex v_t_cu_ct_pa v_t_cu_ct_sl v_t_cu_cl_sh_nd v_t_cu_cl_sh_sn) rfl rfl rfl rfl rfl (rest := []) rfl (Nat.le_of_ble_eq_true rfl) dX5_freeSlot_3 ⟨Nat.zero_le _, Nat.zero_le _⟩ (fun H locs hP hD hS => ?_)
  refine lv_istore (lv' := [(5, .int q3), (0, .ref a_t), (1, .int p1), (2, .int p2), (3, .int p3), (4, .int p4)]) hx hb dX5_freeSlot_6 hl (by decide) rfl (fun ls hl => ?_)
  refine lv_iload hx hb dX5_freeSlot_8 (lv_at hl 0 rfl) ?_
  refine lv_if_eq (tgt := 16) hx hb dX5_freeSlot_10 (by decide) (fun hc => ?_) (fun hc => ?_)
  · replace hf := ifp hc hf
    refine lv_aload_n hx hb dX5_freeSlot_16 rfl (lv_at hl 1 rfl) ?_
    refine getO X hP inX5 0 rfl rfl 0 (by decide) (List.mem_of_getElem? (i := 1) rfl) rfl dX5_freeSlot_17 ?_
    refine getN X hP inX3 1 rfl rfl 2 (by decide) 16 rfl rfl dX5_freeSlot_20 ?_
    refine lv_iload_n hx hb dX5_freeSlot_23 rfl (lv_at hl 2 rfl) ?_
    refine lv_iload_n hx hb dX5_freeSlot_24 rfl (lv_at hl 3 rfl) ?_
    refine lv_iload_n hx hb dX5_freeSlot_25 rfl (lv_at hl 4 rfl) ?_
    obtain ⟨q26, e26, hf⟩ := bnd hf
    refine callVI X (k_X2_route l D cI cZ a_t_cu_cl_sh  v_t_cu_cl_sh_nd v_t_cu_cl_sh_sn p1 p2 p3 q26 e26) (cwV 3 X.1.2.2.2.2 gX5_freeSlot_X2_route rfl rfl rfl kd_X2_route ⟨Nat.le_of_ble_eq_true rfl, Nat.le_of_ble_eq_true rfl⟩) hP hD hS hl.1 5 2 rfl rfl [5] (by decide) (wo_X5_freeSlot cI cZ a_t a_t_cu a_t_tr a_t_s0 a_t_s1 a_t_cu_ct a_t_cu_cl a_t_cu_cl_sh a_t_cu_ct_fe a_t_cu_ct_se a_t_cu_ct_pa a_t_cu_ct_sl v_t_cu_tm v_t_cu_ct_ex v_t_cu_ct_pa v_t_cu_ct_sl v_t_cu_cl_sh_nd v_t_cu_cl_sh_sn) rfl rfl rfl rfl rfl (rest := []) rfl (Nat.le_of_ble_eq_true rfl) dX5_freeSlot_26 ⟨Nat.zero_le _, Nat.zero_le _⟩ (fun H locs hP hD hS => ?_)
    refine lv_istore (lv' := [(6, .int q26), (5, .int q3), (0, .ref a_t), (1, .int p1), (2, .int p2), (3, .int p3), (4, .int p4)]) hx hb dX5_freeSlot_29 hl (by decide) rfl (fun ls hl => ?_)
    refine lv_aload_n hx hb dX5_freeSlot_31 rfl (lv_at hl 2 rfl) ?_
    refine getO X hP inX5 0 rfl rfl 0 (by decide) (List.mem_of_getElem? (i := 1) rfl) rfl dX5_freeSlot_32 ?_
    refine getN X hP inX3 1 rfl rfl 0 (by decide) 14 rfl rfl dX5_freeSlot_35 ?_
    refine lv_iload hx hb dX5_freeSlot_38 (lv_at hl 0 rfl) ?_
    refine lv_iload hx hb dX5_freeSlot_40 (lv_at hl 6 rfl) ?_
    obtain ⟨q42, e42, hf⟩ := bnd hf
    refine callVI X (k_X0_slotsUsed l D cI cZ a_t_cu_ct a_t_cu_ct_fe a_t_cu_ct_se a_t_cu_ct_pa a_t_cu_ct_sl  v_t_cu_ct_ex v_t_cu_ct_pa v_t_cu_ct_sl q26 p4 q42 e42) (cwV 2 X.1.2.2.2.2 gX5_freeSlot_X0_slotsUsed rfl rfl rfl kd_X0_slotsUsed ⟨Nat.le_of_ble_eq_true rfl, Nat.le_of_ble_eq_true rfl⟩) hP hD hS hl.1 2 0 rfl rfl [2, 3, 4] (by decide) (wo_X5_freeSlot cI cZ a_t a_t_cu a_t_tr a_t_s0 a_t_s1 a_t_cu_ct a_t_cu_cl a_t_cu_cl_sh a_t_cu_ct_fe a_t_cu_ct_se a_t_cu_ct_pa a_t_cu_ct_sl v_t_cu_tm v_t_cu_ct_ex v_t_cu_ct_pa v_t_cu_ct_sl v_t_cu_cl_sh_nd v_t_cu_cl_sh_sn) rfl rfl rfl rfl rfl (rest := []) rfl (Nat.le_of_ble_eq_true rfl) dX5_freeSlot_42 ⟨Nat.zero_le _, Nat.zero_le _⟩ (fun H locs hP hD hS => ?_)
    refine lv_istore (lv' := [(7, .int q42), (6, .int q26), (5, .int q3), (0, .ref a_t), (1, .int p1), (2, .int p2), (3, .int p3), (4, .int p4)]) hx hb dX5_freeSlot_45 hl (by decide) rfl (fun ls hl => ?_)
    refine lv_iconst hx hb dX5_freeSlot_47 ic_0 ?_
    refine lv_istore (lv' := [(8, .int 0), (7, .int q42), (6, .int q26), (5, .int q3), (0, .ref a_t), (1, .int p1), (2, .int p2), (3, .int p3), (4, .int p4)]) hx hb dX5_freeSlot_48 hl (by decide) rfl (fun ls hl => ?_)
    refine L50 _ (fun x7_50 x8_50 H locs ls hf hP hD hS hl => ?_) FU _ _ _ _ ls hf hP hD hS (lv_sub hl [4, 1, 0] rfl)
    refine lv_bipush hx hb dX5_freeSlot_84 bp_m9 ?_
    obtain rfl := Option.some.inj hf
    exact retI X hS hP rfl dX5_freeSlot_86
  · replace hf := ifn hc hf
    refine lv_iload hx hb dX5_freeSlot_13 (lv_at hl 0 rfl) ?_
    obtain rfl := Option.some.inj hf
    exact retI X hS hP rfl dX5_freeSlot_15

abbrev wo_X5_circuitsOn (cI cZ : ClassId) (a_t a_t_cu a_t_tr a_t_s0 a_t_s1 a_t_cu_ct a_t_cu_cl a_t_cu_cl_sh a_t_cu_ct_fe a_t_cu_ct_se a_t_cu_ct_pa a_t_cu_ct_sl : Nat) (v_t_cu_tm : Int32) (v_t_cu_ct_ex : Int32) (v_t_cu_ct_pa : Nat → Int32) (v_t_cu_cl_sh_nd : Int32) (v_t_cu_cl_sh_sn : Int32) : va_W := [(a_t, oX5 a_t_cu a_t_tr a_t_s0 a_t_s1), (a_t_cu, oX3 a_t_cu_ct a_t_cu_cl a_t_cu_cl_sh v_t_cu_tm), (a_t_cu_ct, oX0 a_t_cu_ct_fe a_t_cu_ct_se a_t_cu_ct_pa a_t_cu_ct_sl v_t_cu_ct_ex), (a_t_cu_ct_pa, rI cI 16 v_t_cu_ct_pa), (a_t_cu_cl_sh, oX2 v_t_cu_cl_sh_nd v_t_cu_cl_sh_sn)]
def fX5_circuitsOn (v_t_cu_ct_pa : Nat → Int32) (v_t_cu_cl_sh_nd : Int32) (p1 : Int32) : Option (Int32) := ((fX2_hasSpan v_t_cu_cl_sh_nd p1).bind (fun q8 => (if q8 = true then ((fX0_crossing v_t_cu_ct_pa ((nI 1) <<< (p1 &&& 31))).bind (fun q27 => (some q27))) else (some (-2)))))
theorem kd_X5_circuitsOn : yX5_circuitsOn.cls = RX5 ∧ yX5_circuitsOn.cls ≠ "java/lang/invoke/MethodHandle" ∧ yX5_circuitsOn.cls ≠ "java/lang/invoke/VarHandle" ∧ (parseMethodDescriptor yX5_circuitsOn.desc).map (fun d => d.parameters.length) = some 1 := by decide +kernel
def rm_X5_circuitsOn : Room := { frames := 1, cells := 0, slots := 0, locals := 23 }
set_option maxHeartbeats 4000000 in
set_option maxRecDepth 100000 in
theorem k_X5_circuitsOn (l : Launch) (D : va_G) (cI cZ : ClassId) (a_t a_t_cu a_t_tr a_t_s0 a_t_s1 a_t_cu_ct a_t_cu_cl a_t_cu_cl_sh a_t_cu_ct_fe a_t_cu_ct_se a_t_cu_ct_pa a_t_cu_ct_sl : Nat) (v_t_cu_tm : Int32) (v_t_cu_ct_ex : Int32) (v_t_cu_ct_pa : Nat → Int32) (v_t_cu_cl_sh_nd : Int32) (v_t_cu_cl_sh_sn : Int32) (p1 : Int32) (q : Int32) (hf : fX5_circuitsOn v_t_cu_ct_pa v_t_cu_cl_sh_nd p1 = some q) : CI l D cI cZ yX5_circuitsOn wsX5_circuitsOn rm_X5_circuitsOn [.ref a_t, .int p1] (wo_X5_circuitsOn cI cZ a_t a_t_cu a_t_tr a_t_s0 a_t_s1 a_t_cu_ct a_t_cu_cl a_t_cu_cl_sh a_t_cu_ct_fe a_t_cu_ct_se a_t_cu_ct_pa a_t_cu_ct_sl v_t_cu_tm v_t_cu_ct_ex v_t_cu_ct_pa v_t_cu_cl_sh_nd v_t_cu_cl_sh_sn) (wo_X5_circuitsOn cI cZ a_t a_t_cu a_t_tr a_t_s0 a_t_s1 a_t_cu_ct a_t_cu_cl a_t_cu_cl_sh a_t_cu_ct_fe a_t_cu_ct_se a_t_cu_ct_pa a_t_cu_ct_sl v_t_cu_tm v_t_cu_ct_ex v_t_cu_ct_pa v_t_cu_cl_sh_nd v_t_cu_cl_sh_sn) q := by
  refine CI.mk (cc := cX5_circuitsOn) (maxL := 2) (by decide) rfl (Nat.le_of_ble_eq_true rfl) ?_
  intro p e s m below meth c ls A X hP hD hl hS
  have hx := X.1.1
  have hb := X.1.2.1
  have hl : lv_has ls 2 [(0, .ref a_t), (1, .int p1)] := hl
  have inX3 : ∀ w ∈ u_ws RX3 TX3 4, w ∈ wsX5_circuitsOn := fun _ h => List.mem_cons_of_mem _ (List.mem_append_left _ (List.mem_append_left _ (List.mem_append_right _ h)))
  have inX5 : ∀ w ∈ u_ws RX5 TX5 4, w ∈ wsX5_circuitsOn := fun _ h => List.mem_cons_of_mem _ (List.mem_append_left _ (List.mem_append_left _ (List.mem_append_left _ (List.mem_append_right _ h))))
  unfold fX5_circuitsOn at hf
  refine lv_aload_n hx hb dX5_circuitsOn_0 rfl (lv_at hl 0 rfl) ?_
  refine getO X hP inX5 0 rfl rfl 0 (by decide) (List.mem_of_getElem? (i := 1) rfl) rfl dX5_circuitsOn_1 ?_
  refine getN X hP inX3 1 rfl rfl 2 (by decide) 16 rfl rfl dX5_circuitsOn_4 ?_
  refine lv_iload_n hx hb dX5_circuitsOn_7 rfl (lv_at hl 1 rfl) ?_
  obtain ⟨q8, e8, hf⟩ := bnd hf
  refine callVI X (k_X2_hasSpan l D cI cZ a_t_cu_cl_sh  v_t_cu_cl_sh_nd v_t_cu_cl_sh_sn p1 q8 e8) (cwV 1 X.1.2.2.2.2 gX5_circuitsOn_X2_hasSpan rfl rfl rfl kd_X2_hasSpan ⟨Nat.le_of_ble_eq_true rfl, Nat.le_of_ble_eq_true rfl⟩) hP hD hS hl.1 4 2 rfl rfl [4] (by decide) (wo_X5_circuitsOn cI cZ a_t a_t_cu a_t_tr a_t_s0 a_t_s1 a_t_cu_ct a_t_cu_cl a_t_cu_cl_sh a_t_cu_ct_fe a_t_cu_ct_se a_t_cu_ct_pa a_t_cu_ct_sl v_t_cu_tm v_t_cu_ct_ex v_t_cu_ct_pa v_t_cu_cl_sh_nd v_t_cu_cl_sh_sn) rfl rfl rfl rfl rfl (rest := []) rfl (Nat.le_of_ble_eq_true rfl) dX5_circuitsOn_8 ⟨Nat.zero_le _, Nat.zero_le _⟩ (fun H locs hP hD hS => ?_)
  refine lv_if_ne (tgt := 17) hx hb dX5_circuitsOn_11 (by decide) (fun hc => ?_) (fun hc => ?_)
  · replace hf := ifp (b2i_nz hc) hf
    refine lv_aload_n hx hb dX5_circuitsOn_17 rfl (lv_at hl 0 rfl) ?_
    refine getO X hP inX5 0 rfl rfl 0 (by decide) (List.mem_of_getElem? (i := 1) rfl) rfl dX5_circuitsOn_18 ?_
    refine getN X hP inX3 1 rfl rfl 0 (by decide) 14 rfl rfl dX5_circuitsOn_21 ?_
    refine lv_iconst hx hb dX5_circuitsOn_24 ic_1 ?_
    refine lv_iload_n hx hb dX5_circuitsOn_25 rfl (lv_at hl 1 rfl) ?_
    refine lv_ishl hx hb dX5_circuitsOn_26 ?_
    obtain ⟨q27, e27, hf⟩ := bnd hf
    refine callVI X (k_X0_crossing l D cI cZ a_t_cu_ct a_t_cu_ct_fe a_t_cu_ct_se a_t_cu_ct_pa a_t_cu_ct_sl  v_t_cu_ct_ex v_t_cu_ct_pa ((nI 1) <<< (p1 &&& 31)) q27 e27) (cwV 1 X.1.2.2.2.2 gX5_circuitsOn_X0_crossing rfl rfl rfl kd_X0_crossing ⟨Nat.le_of_ble_eq_true rfl, Nat.le_of_ble_eq_true rfl⟩) hP hD hS hl.1 2 0 rfl rfl [2, 3] (by decide) (wo_X5_circuitsOn cI cZ a_t a_t_cu a_t_tr a_t_s0 a_t_s1 a_t_cu_ct a_t_cu_cl a_t_cu_cl_sh a_t_cu_ct_fe a_t_cu_ct_se a_t_cu_ct_pa a_t_cu_ct_sl v_t_cu_tm v_t_cu_ct_ex v_t_cu_ct_pa v_t_cu_cl_sh_nd v_t_cu_cl_sh_sn) rfl rfl rfl rfl rfl (rest := []) rfl (Nat.le_of_ble_eq_true rfl) dX5_circuitsOn_27 ⟨Nat.zero_le _, Nat.zero_le _⟩ (fun H locs hP hD hS => ?_)
    obtain rfl := Option.some.inj hf
    exact retI X hS hP rfl dX5_circuitsOn_30
  · replace hf := ifn (b2i_z hc) hf
    refine lv_bipush hx hb dX5_circuitsOn_14 bp_m2 ?_
    obtain rfl := Option.some.inj hf
    exact retI X hS hP rfl dX5_circuitsOn_16

abbrev wo_X5_pathLength (cI cZ : ClassId) (a_t a_t_cu a_t_tr a_t_s0 a_t_s1 a_t_cu_ct a_t_cu_cl a_t_cu_cl_sh a_t_cu_ct_fe a_t_cu_ct_se a_t_cu_ct_pa a_t_cu_ct_sl : Nat) (v_t_cu_tm : Int32) (v_t_cu_ct_ex : Int32) (v_t_cu_ct_pa : Nat → Int32) : va_W := [(a_t, oX5 a_t_cu a_t_tr a_t_s0 a_t_s1), (a_t_cu, oX3 a_t_cu_ct a_t_cu_cl a_t_cu_cl_sh v_t_cu_tm), (a_t_cu_ct, oX0 a_t_cu_ct_fe a_t_cu_ct_se a_t_cu_ct_pa a_t_cu_ct_sl v_t_cu_ct_ex), (a_t_cu_ct_pa, rI cI 16 v_t_cu_ct_pa)]
def fX5_pathLength (v_t_cu_ct_pa : Nat → Int32) (p1 : Int32) : Option (Int32) := ((fX0_has v_t_cu_ct_pa p1).bind (fun q8 => (if q8 = true then ((fX0_pathOf v_t_cu_ct_pa p1).bind (fun q25 => ((fJ6_bitCount_0f7a4 q25).bind (fun q28 => (some q28))))) else (some (-3)))))
theorem kd_X5_pathLength : yX5_pathLength.cls = RX5 ∧ yX5_pathLength.cls ≠ "java/lang/invoke/MethodHandle" ∧ yX5_pathLength.cls ≠ "java/lang/invoke/VarHandle" ∧ (parseMethodDescriptor yX5_pathLength.desc).map (fun d => d.parameters.length) = some 1 := by decide +kernel
def rm_X5_pathLength : Room := { frames := 2, cells := 0, slots := 0, locals := 42 }
set_option maxHeartbeats 4000000 in
set_option maxRecDepth 100000 in
theorem k_X5_pathLength (l : Launch) (D : va_G) (cI cZ : ClassId) (a_t a_t_cu a_t_tr a_t_s0 a_t_s1 a_t_cu_ct a_t_cu_cl a_t_cu_cl_sh a_t_cu_ct_fe a_t_cu_ct_se a_t_cu_ct_pa a_t_cu_ct_sl : Nat) (v_t_cu_tm : Int32) (v_t_cu_ct_ex : Int32) (v_t_cu_ct_pa : Nat → Int32) (p1 : Int32) (q : Int32) (hf : fX5_pathLength v_t_cu_ct_pa p1 = some q) : CI l D cI cZ yX5_pathLength wsX5_pathLength rm_X5_pathLength [.ref a_t, .int p1] (wo_X5_pathLength cI cZ a_t a_t_cu a_t_tr a_t_s0 a_t_s1 a_t_cu_ct a_t_cu_cl a_t_cu_cl_sh a_t_cu_ct_fe a_t_cu_ct_se a_t_cu_ct_pa a_t_cu_ct_sl v_t_cu_tm v_t_cu_ct_ex v_t_cu_ct_pa) (wo_X5_pathLength cI cZ a_t a_t_cu a_t_tr a_t_s0 a_t_s1 a_t_cu_ct a_t_cu_cl a_t_cu_cl_sh a_t_cu_ct_fe a_t_cu_ct_se a_t_cu_ct_pa a_t_cu_ct_sl v_t_cu_tm v_t_cu_ct_ex v_t_cu_ct_pa) q := by
  refine CI.mk (cc := cX5_pathLength) (maxL := 2) (by decide) rfl (Nat.le_of_ble_eq_true rfl) ?_
  intro p e s m below meth c ls A X hP hD hl hS
  have hx := X.1.1
  have hb := X.1.2.1
  have hl : lv_has ls 2 [(0, .ref a_t), (1, .int p1)] := hl
  have inX3 : ∀ w ∈ u_ws RX3 TX3 4, w ∈ wsX5_pathLength := fun _ h => List.mem_cons_of_mem _ (List.mem_append_left _ (List.mem_append_right _ h))
  have inX5 : ∀ w ∈ u_ws RX5 TX5 4, w ∈ wsX5_pathLength := fun _ h => List.mem_cons_of_mem _ (List.mem_append_left _ (List.mem_append_left _ (List.mem_append_right _ h)))
  unfold fX5_pathLength at hf
  refine lv_aload_n hx hb dX5_pathLength_0 rfl (lv_at hl 0 rfl) ?_
  refine getO X hP inX5 0 rfl rfl 0 (by decide) (List.mem_of_getElem? (i := 1) rfl) rfl dX5_pathLength_1 ?_
  refine getN X hP inX3 1 rfl rfl 0 (by decide) 14 rfl rfl dX5_pathLength_4 ?_
  refine lv_iload_n hx hb dX5_pathLength_7 rfl (lv_at hl 1 rfl) ?_
  obtain ⟨q8, e8, hf⟩ := bnd hf
  refine callVI X (k_X0_has l D cI cZ a_t_cu_ct a_t_cu_ct_fe a_t_cu_ct_se a_t_cu_ct_pa a_t_cu_ct_sl  v_t_cu_ct_ex v_t_cu_ct_pa p1 q8 e8) (cwV 1 X.1.2.2.2.2 gX5_pathLength_X0_has rfl rfl rfl kd_X0_has ⟨Nat.le_of_ble_eq_true rfl, Nat.le_of_ble_eq_true rfl⟩) hP hD hS hl.1 2 0 rfl rfl [2, 3] (by decide) (wo_X5_pathLength cI cZ a_t a_t_cu a_t_tr a_t_s0 a_t_s1 a_t_cu_ct a_t_cu_cl a_t_cu_cl_sh a_t_cu_ct_fe a_t_cu_ct_se a_t_cu_ct_pa a_t_cu_ct_sl v_t_cu_tm v_t_cu_ct_ex v_t_cu_ct_pa) rfl rfl rfl rfl rfl (rest := []) rfl (Nat.le_of_ble_eq_true rfl) dX5_pathLength_8 ⟨Nat.zero_le _, Nat.zero_le _⟩ (fun H locs hP hD hS => ?_)
  refine lv_if_ne (tgt := 17) hx hb dX5_pathLength_11 (by decide) (fun hc => ?_) (fun hc => ?_)
  · replace hf := ifp (b2i_nz hc) hf
    refine lv_aload_n hx hb dX5_pathLength_17 rfl (lv_at hl 0 rfl) ?_
    refine getO X hP inX5 0 rfl rfl 0 (by decide) (List.mem_of_getElem? (i := 1) rfl) rfl dX5_pathLength_18 ?_
    refine getN X hP inX3 1 rfl rfl 0 (by decide) 14 rfl rfl dX5_pathLength_21 ?_
    refine lv_iload_n hx hb dX5_pathLength_24 rfl (lv_at hl 1 rfl) ?_
    obtain ⟨q25, e25, hf⟩ := bnd hf
    refine callVI X (k_X0_pathOf l D cI cZ a_t_cu_ct a_t_cu_ct_fe a_t_cu_ct_se a_t_cu_ct_pa a_t_cu_ct_sl  v_t_cu_ct_ex v_t_cu_ct_pa p1 q25 e25) (cwV 1 X.1.2.2.2.2 gX5_pathLength_X0_pathOf rfl rfl rfl kd_X0_pathOf ⟨Nat.le_of_ble_eq_true rfl, Nat.le_of_ble_eq_true rfl⟩) hP hD hS hl.1 2 0 rfl rfl [2, 3] (by decide) (wo_X5_pathLength cI cZ a_t a_t_cu a_t_tr a_t_s0 a_t_s1 a_t_cu_ct a_t_cu_cl a_t_cu_cl_sh a_t_cu_ct_fe a_t_cu_ct_se a_t_cu_ct_pa a_t_cu_ct_sl v_t_cu_tm v_t_cu_ct_ex v_t_cu_ct_pa) rfl rfl rfl rfl rfl (rest := []) rfl (Nat.le_of_ble_eq_true rfl) dX5_pathLength_25 ⟨Nat.zero_le _, Nat.zero_le _⟩ (fun H locs hP hD hS => ?_)
    obtain ⟨q28, e28, hf⟩ := bnd hf
    refine callSI X (k_J6_bitCount_0f7a4 l D cI cZ    q25 q28 e28) (va_cwS 1 X.1.2.2.2.2 gX5_pathLength_J6_bitCount_0f7a4 rfl rfl rfl kd_J6_bitCount_0f7a4 ⟨Nat.le_of_ble_eq_true rfl, Nat.le_of_ble_eq_true rfl⟩) hP hD hS hl.1 [] (by decide) (wo_X5_pathLength cI cZ a_t a_t_cu a_t_tr a_t_s0 a_t_s1 a_t_cu_ct a_t_cu_cl a_t_cu_cl_sh a_t_cu_ct_fe a_t_cu_ct_se a_t_cu_ct_pa a_t_cu_ct_sl v_t_cu_tm v_t_cu_ct_ex v_t_cu_ct_pa) rfl rfl rfl rfl rfl (rest := []) rfl (Nat.le_of_ble_eq_true rfl) dX5_pathLength_28 ⟨Nat.zero_le _, Nat.zero_le _⟩ (fun H locs hP hD hS => ?_)
    obtain rfl := Option.some.inj hf
    exact retI X hS hP rfl dX5_pathLength_31
  · replace hf := ifn (b2i_z hc) hf
    refine lv_bipush hx hb dX5_pathLength_14 bp_m3 ?_
    obtain rfl := Option.some.inj hf
    exact retI X hS hP rfl dX5_pathLength_16

abbrev wo_X5_failWorking (cI cZ : ClassId) (a_t a_t_cu a_t_tr a_t_s0 a_t_s1 a_t_cu_ct a_t_cu_cl a_t_cu_cl_sh a_t_cu_cl_cmd a_t_cu_cl_tim a_t_cu_cl_hel a_t_cu_cl_dir a_t_cu_cl_seg : Nat) (v_t_cu_tm : Int32) (v_t_cu_cl_fw : Int32) (v_t_cu_cl_fp : Int32) (v_t_cu_cl_fn : Int32) (v_t_cu_cl_rt : Int32) (v_t_cu_cl_wd : Int32) (v_t_cu_cl_pd : Int32) (v_t_cu_cl_ss : Int32) (v_t_cu_cl_rs : Int32) (v_t_cu_cl_sh_nd : Int32) (v_t_cu_cl_sh_sn : Int32) (v_t_cu_cl_cmd : Nat → Int32) (v_t_cu_cl_tim : Nat → Int32) (v_t_cu_cl_hel : Nat → Int32) (v_t_cu_cl_dir : Nat → Int32) (v_t_cu_cl_seg : Nat → Int32) : va_W := [(a_t, oX5 a_t_cu a_t_tr a_t_s0 a_t_s1), (a_t_cu, oX3 a_t_cu_ct a_t_cu_cl a_t_cu_cl_sh v_t_cu_tm), (a_t_cu_cl, oX1 a_t_cu_cl_sh v_t_cu_cl_fw v_t_cu_cl_fp v_t_cu_cl_fn a_t_cu_cl_cmd a_t_cu_cl_tim a_t_cu_cl_hel v_t_cu_cl_rt v_t_cu_cl_wd v_t_cu_cl_pd a_t_cu_cl_dir v_t_cu_cl_ss v_t_cu_cl_rs a_t_cu_cl_seg), (a_t_cu_cl_sh, oX2 v_t_cu_cl_sh_nd v_t_cu_cl_sh_sn), (a_t_cu_cl_cmd, rI cI 8 v_t_cu_cl_cmd), (a_t_cu_cl_tim, rI cI 8 v_t_cu_cl_tim), (a_t_cu_cl_hel, rI cI 8 v_t_cu_cl_hel), (a_t_cu_cl_dir, rI cI 8 v_t_cu_cl_dir), (a_t_cu_cl_seg, rI cI 8 v_t_cu_cl_seg)]
def fX5_failWorking (v_t_cu_cl_fw : Int32) (v_t_cu_cl_fp : Int32) (v_t_cu_cl_fn : Int32) (v_t_cu_cl_rt : Int32) (v_t_cu_cl_wd : Int32) (v_t_cu_cl_pd : Int32) (v_t_cu_cl_ss : Int32) (v_t_cu_cl_rs : Int32) (v_t_cu_cl_sh_nd : Int32) (v_t_cu_cl_cmd : Nat → Int32) (v_t_cu_cl_tim : Nat → Int32) (v_t_cu_cl_hel : Nat → Int32) (v_t_cu_cl_dir : Nat → Int32) (v_t_cu_cl_seg : Nat → Int32) (p1 : Int32) (p2 : Int32) : Option (Int32 × Int32 × Int32 × Int32 × Int32 × Int32 × (Nat → Int32) × (Nat → Int32) × (Nat → Int32) × (Nat → Int32)) := ((fX2_hasSpan v_t_cu_cl_sh_nd p1).bind (fun q8 => (if q8 = true then ((fX5_marked v_t_cu_cl_fw p1 p2).bind (fun q38 => ((fX1_run q38 v_t_cu_cl_fp v_t_cu_cl_fn v_t_cu_cl_rt v_t_cu_cl_wd v_t_cu_cl_pd v_t_cu_cl_ss v_t_cu_cl_rs v_t_cu_cl_sh_nd v_t_cu_cl_cmd v_t_cu_cl_tim v_t_cu_cl_hel v_t_cu_cl_dir v_t_cu_cl_seg).bind (fun q51 => ((fX5_contains v_t_cu_cl_fw p1).bind (fun q56 => (if q56 = true then (some ((nI 1), q38, q51.1, q51.2.1, q51.2.2.1, q51.2.2.2.1, q51.2.2.2.2.1, q51.2.2.2.2.2.1, q51.2.2.2.2.2.2.1, q51.2.2.2.2.2.2.2)) else (some (0, q38, q51.1, q51.2.1, q51.2.2.1, q51.2.2.2.1, q51.2.2.2.2.1, q51.2.2.2.2.2.1, q51.2.2.2.2.2.2.1, q51.2.2.2.2.2.2.2))))))))) else (some ((-2), v_t_cu_cl_fw, v_t_cu_cl_wd, v_t_cu_cl_pd, v_t_cu_cl_ss, v_t_cu_cl_rs, v_t_cu_cl_tim, v_t_cu_cl_hel, v_t_cu_cl_dir, v_t_cu_cl_seg)))))
theorem kd_X5_failWorking : yX5_failWorking.cls = RX5 ∧ yX5_failWorking.cls ≠ "java/lang/invoke/MethodHandle" ∧ yX5_failWorking.cls ≠ "java/lang/invoke/VarHandle" ∧ (parseMethodDescriptor yX5_failWorking.desc).map (fun d => d.parameters.length) = some 2 := by decide +kernel
def rm_X5_failWorking : Room := { frames := 5, cells := 0, slots := 0, locals := 108 }
set_option maxHeartbeats 4000000 in
set_option maxRecDepth 100000 in
theorem k_X5_failWorking (l : Launch) (D : va_G) (cI cZ : ClassId) (a_t a_t_cu a_t_tr a_t_s0 a_t_s1 a_t_cu_ct a_t_cu_cl a_t_cu_cl_sh a_t_cu_cl_cmd a_t_cu_cl_tim a_t_cu_cl_hel a_t_cu_cl_dir a_t_cu_cl_seg : Nat) (v_t_cu_tm : Int32) (v_t_cu_cl_fw : Int32) (v_t_cu_cl_fp : Int32) (v_t_cu_cl_fn : Int32) (v_t_cu_cl_rt : Int32) (v_t_cu_cl_wd : Int32) (v_t_cu_cl_pd : Int32) (v_t_cu_cl_ss : Int32) (v_t_cu_cl_rs : Int32) (v_t_cu_cl_sh_nd : Int32) (v_t_cu_cl_sh_sn : Int32) (v_t_cu_cl_cmd : Nat → Int32) (v_t_cu_cl_tim : Nat → Int32) (v_t_cu_cl_hel : Nat → Int32) (v_t_cu_cl_dir : Nat → Int32) (v_t_cu_cl_seg : Nat → Int32) (p1 : Int32) (p2 : Int32) (q : Int32 × Int32 × Int32 × Int32 × Int32 × Int32 × (Nat → Int32) × (Nat → Int32) × (Nat → Int32) × (Nat → Int32)) (hf : fX5_failWorking v_t_cu_cl_fw v_t_cu_cl_fp v_t_cu_cl_fn v_t_cu_cl_rt v_t_cu_cl_wd v_t_cu_cl_pd v_t_cu_cl_ss v_t_cu_cl_rs v_t_cu_cl_sh_nd v_t_cu_cl_cmd v_t_cu_cl_tim v_t_cu_cl_hel v_t_cu_cl_dir v_t_cu_cl_seg p1 p2 = some q) : CI l D cI cZ yX5_failWorking wsX5_failWorking rm_X5_failWorking [.ref a_t, .int p1, .int p2] (wo_X5_failWorking cI cZ a_t a_t_cu a_t_tr a_t_s0 a_t_s1 a_t_cu_ct a_t_cu_cl a_t_cu_cl_sh a_t_cu_cl_cmd a_t_cu_cl_tim a_t_cu_cl_hel a_t_cu_cl_dir a_t_cu_cl_seg v_t_cu_tm v_t_cu_cl_fw v_t_cu_cl_fp v_t_cu_cl_fn v_t_cu_cl_rt v_t_cu_cl_wd v_t_cu_cl_pd v_t_cu_cl_ss v_t_cu_cl_rs v_t_cu_cl_sh_nd v_t_cu_cl_sh_sn v_t_cu_cl_cmd v_t_cu_cl_tim v_t_cu_cl_hel v_t_cu_cl_dir v_t_cu_cl_seg) (wo_X5_failWorking cI cZ a_t a_t_cu a_t_tr a_t_s0 a_t_s1 a_t_cu_ct a_t_cu_cl a_t_cu_cl_sh a_t_cu_cl_cmd a_t_cu_cl_tim a_t_cu_cl_hel a_t_cu_cl_dir a_t_cu_cl_seg v_t_cu_tm q.2.1 v_t_cu_cl_fp v_t_cu_cl_fn v_t_cu_cl_rt q.2.2.1 q.2.2.2.1 q.2.2.2.2.1 q.2.2.2.2.2.1 v_t_cu_cl_sh_nd v_t_cu_cl_sh_sn v_t_cu_cl_cmd q.2.2.2.2.2.2.1 q.2.2.2.2.2.2.2.1 q.2.2.2.2.2.2.2.2.1 q.2.2.2.2.2.2.2.2.2) q.1 := by
  refine CI.mk (cc := cX5_failWorking) (maxL := 4) (by decide) rfl (Nat.le_of_ble_eq_true rfl) ?_
  intro p e s m below meth c ls A X hP hD hl hS
  have hx := X.1.1
  have hb := X.1.2.1
  have hl : lv_has ls 4 [(0, .ref a_t), (1, .int p1), (2, .int p2)] := hl
  have inX1 : ∀ w ∈ u_ws RX1 TX1 14, w ∈ wsX5_failWorking := fun _ h => List.mem_cons_of_mem _ (List.mem_append_left _ (List.mem_append_right _ h))
  have inX3 : ∀ w ∈ u_ws RX3 TX3 4, w ∈ wsX5_failWorking := fun _ h => List.mem_cons_of_mem _ (List.mem_append_left _ (List.mem_append_left _ (List.mem_append_right _ h)))
  have inX5 : ∀ w ∈ u_ws RX5 TX5 4, w ∈ wsX5_failWorking := fun _ h => List.mem_cons_of_mem _ (List.mem_append_left _ (List.mem_append_left _ (List.mem_append_left _ (List.mem_append_right _ h))))
  unfold fX5_failWorking at hf
  refine lv_aload_n hx hb dX5_failWorking_0 rfl (lv_at hl 0 rfl) ?_
  refine getO X hP inX5 0 rfl rfl 0 (by decide) (List.mem_of_getElem? (i := 1) rfl) rfl dX5_failWorking_1 ?_
  refine getN X hP inX3 1 rfl rfl 2 (by decide) 16 rfl rfl dX5_failWorking_4 ?_
  refine lv_iload_n hx hb dX5_failWorking_7 rfl (lv_at hl 1 rfl) ?_
  obtain ⟨q8, e8, hf⟩ := bnd hf
  refine callVI X (k_X2_hasSpan l D cI cZ a_t_cu_cl_sh  v_t_cu_cl_sh_nd v_t_cu_cl_sh_sn p1 q8 e8) (cwV 1 X.1.2.2.2.2 gX5_failWorking_X2_hasSpan rfl rfl rfl kd_X2_hasSpan ⟨Nat.le_of_ble_eq_true rfl, Nat.le_of_ble_eq_true rfl⟩) hP hD hS hl.1 3 2 rfl rfl [3] (by decide) (wo_X5_failWorking cI cZ a_t a_t_cu a_t_tr a_t_s0 a_t_s1 a_t_cu_ct a_t_cu_cl a_t_cu_cl_sh a_t_cu_cl_cmd a_t_cu_cl_tim a_t_cu_cl_hel a_t_cu_cl_dir a_t_cu_cl_seg v_t_cu_tm v_t_cu_cl_fw v_t_cu_cl_fp v_t_cu_cl_fn v_t_cu_cl_rt v_t_cu_cl_wd v_t_cu_cl_pd v_t_cu_cl_ss v_t_cu_cl_rs v_t_cu_cl_sh_nd v_t_cu_cl_sh_sn v_t_cu_cl_cmd v_t_cu_cl_tim v_t_cu_cl_hel v_t_cu_cl_dir v_t_cu_cl_seg) rfl rfl rfl rfl rfl (rest := []) rfl (Nat.le_of_ble_eq_true rfl) dX5_failWorking_8 ⟨Nat.zero_le _, Nat.zero_le _⟩ (fun H locs hP hD hS => ?_)
  refine lv_if_ne (tgt := 17) hx hb dX5_failWorking_11 (by decide) (fun hc => ?_) (fun hc => ?_)
  · replace hf := ifp (b2i_nz hc) hf
    refine lv_aload_n hx hb dX5_failWorking_17 rfl (lv_at hl 0 rfl) ?_
    refine getO X hP inX5 0 rfl rfl 0 (by decide) (List.mem_of_getElem? (i := 1) rfl) rfl dX5_failWorking_18 ?_
    refine getN X hP inX3 1 rfl rfl 1 (by decide) 15 rfl rfl dX5_failWorking_21 ?_
    refine getN X hP inX1 2 rfl rfl 1 (by decide) 5 rfl rfl dX5_failWorking_24 ?_
    refine lv_istore_n (lv' := [(3, .int v_t_cu_cl_fw), (0, .ref a_t), (1, .int p1), (2, .int p2)]) hx hb dX5_failWorking_27 rfl hl (by decide) rfl (fun ls hl => ?_)
    refine lv_aload_n hx hb dX5_failWorking_28 rfl (lv_at hl 1 rfl) ?_
    refine getO X hP inX5 0 rfl rfl 0 (by decide) (List.mem_of_getElem? (i := 1) rfl) rfl dX5_failWorking_29 ?_
    refine getN X hP inX3 1 rfl rfl 1 (by decide) 15 rfl rfl dX5_failWorking_32 ?_
    refine lv_iload_n hx hb dX5_failWorking_35 rfl (lv_at hl 0 rfl) ?_
    refine lv_iload_n hx hb dX5_failWorking_36 rfl (lv_at hl 2 rfl) ?_
    refine lv_iload_n hx hb dX5_failWorking_37 rfl (lv_at hl 3 rfl) ?_
    obtain ⟨q38, e38, hf⟩ := bnd hf
    refine callSI X (k_X5_marked l D cI cZ    v_t_cu_cl_fw p1 p2 q38 e38) (va_cwS 3 X.1.2.2.2.2 gX5_failWorking_X5_marked rfl rfl rfl kd_X5_marked ⟨Nat.le_of_ble_eq_true rfl, Nat.le_of_ble_eq_true rfl⟩) hP hD hS hl.1 [] (by decide) (wo_X5_failWorking cI cZ a_t a_t_cu a_t_tr a_t_s0 a_t_s1 a_t_cu_ct a_t_cu_cl a_t_cu_cl_sh a_t_cu_cl_cmd a_t_cu_cl_tim a_t_cu_cl_hel a_t_cu_cl_dir a_t_cu_cl_seg v_t_cu_tm v_t_cu_cl_fw v_t_cu_cl_fp v_t_cu_cl_fn v_t_cu_cl_rt v_t_cu_cl_wd v_t_cu_cl_pd v_t_cu_cl_ss v_t_cu_cl_rs v_t_cu_cl_sh_nd v_t_cu_cl_sh_sn v_t_cu_cl_cmd v_t_cu_cl_tim v_t_cu_cl_hel v_t_cu_cl_dir v_t_cu_cl_seg) rfl rfl rfl rfl rfl (rest := [.ref a_t_cu_cl]) rfl (Nat.le_of_ble_eq_true rfl) dX5_failWorking_38 ⟨Nat.zero_le _, Nat.zero_le _⟩ (fun H locs hP hD hS => ?_)
    refine putN X hP hD hS inX1 tyX1 tyX1_ok nmX1 2 rfl rfl 1 (by decide) 5 rfl rfl rfl rfl (Nat.le_of_ble_eq_true rfl) dX5_failWorking_41 (wo_X5_failWorking cI cZ a_t a_t_cu a_t_tr a_t_s0 a_t_s1 a_t_cu_ct a_t_cu_cl a_t_cu_cl_sh a_t_cu_cl_cmd a_t_cu_cl_tim a_t_cu_cl_hel a_t_cu_cl_dir a_t_cu_cl_seg v_t_cu_tm q38 v_t_cu_cl_fp v_t_cu_cl_fn v_t_cu_cl_rt v_t_cu_cl_wd v_t_cu_cl_pd v_t_cu_cl_ss v_t_cu_cl_rs v_t_cu_cl_sh_nd v_t_cu_cl_sh_sn v_t_cu_cl_cmd v_t_cu_cl_tim v_t_cu_cl_hel v_t_cu_cl_dir v_t_cu_cl_seg) rfl (fun H locs hP hD hS => ?_)
    refine lv_aload_n hx hb dX5_failWorking_44 rfl (lv_at hl 1 rfl) ?_
    refine getO X hP inX5 0 rfl rfl 0 (by decide) (List.mem_of_getElem? (i := 1) rfl) rfl dX5_failWorking_45 ?_
    refine getN X hP inX3 1 rfl rfl 1 (by decide) 15 rfl rfl dX5_failWorking_48 ?_
    obtain ⟨q51, e51, hf⟩ := bnd hf
    refine callVV X (k_X1_run l D cI cZ a_t_cu_cl a_t_cu_cl_sh a_t_cu_cl_cmd a_t_cu_cl_tim a_t_cu_cl_hel a_t_cu_cl_dir a_t_cu_cl_seg  q38 v_t_cu_cl_fp v_t_cu_cl_fn v_t_cu_cl_rt v_t_cu_cl_wd v_t_cu_cl_pd v_t_cu_cl_ss v_t_cu_cl_rs v_t_cu_cl_sh_nd v_t_cu_cl_sh_sn v_t_cu_cl_cmd v_t_cu_cl_tim v_t_cu_cl_hel v_t_cu_cl_dir v_t_cu_cl_seg  q51 e51) (cwV 0 X.1.2.2.2.2 gX5_failWorking_X1_run rfl rfl rfl kd_X1_run ⟨Nat.le_of_ble_eq_true rfl, Nat.le_of_ble_eq_true rfl⟩) hP hD hS hl.1 2 1 rfl rfl [2, 3, 4, 5, 6, 7, 8] (by decide) (wo_X5_failWorking cI cZ a_t a_t_cu a_t_tr a_t_s0 a_t_s1 a_t_cu_ct a_t_cu_cl a_t_cu_cl_sh a_t_cu_cl_cmd a_t_cu_cl_tim a_t_cu_cl_hel a_t_cu_cl_dir a_t_cu_cl_seg v_t_cu_tm q38 v_t_cu_cl_fp v_t_cu_cl_fn v_t_cu_cl_rt q51.1 q51.2.1 q51.2.2.1 q51.2.2.2.1 v_t_cu_cl_sh_nd v_t_cu_cl_sh_sn v_t_cu_cl_cmd q51.2.2.2.2.1 q51.2.2.2.2.2.1 q51.2.2.2.2.2.2.1 q51.2.2.2.2.2.2.2) rfl rfl rfl rfl rfl (rest := []) rfl (Nat.le_of_ble_eq_true rfl) dX5_failWorking_51 ⟨Nat.zero_le _, Nat.zero_le _⟩ (fun H locs hP hD hS => ?_)
    refine lv_iload_n hx hb dX5_failWorking_54 rfl (lv_at hl 0 rfl) ?_
    refine lv_iload_n hx hb dX5_failWorking_55 rfl (lv_at hl 2 rfl) ?_
    obtain ⟨q56, e56, hf⟩ := bnd hf
    refine callSI X (k_X5_contains l D cI cZ    v_t_cu_cl_fw p1 q56 e56) (va_cwS 2 X.1.2.2.2.2 gX5_failWorking_X5_contains rfl rfl rfl kd_X5_contains ⟨Nat.le_of_ble_eq_true rfl, Nat.le_of_ble_eq_true rfl⟩) hP hD hS hl.1 [] (by decide) (wo_X5_failWorking cI cZ a_t a_t_cu a_t_tr a_t_s0 a_t_s1 a_t_cu_ct a_t_cu_cl a_t_cu_cl_sh a_t_cu_cl_cmd a_t_cu_cl_tim a_t_cu_cl_hel a_t_cu_cl_dir a_t_cu_cl_seg v_t_cu_tm q38 v_t_cu_cl_fp v_t_cu_cl_fn v_t_cu_cl_rt q51.1 q51.2.1 q51.2.2.1 q51.2.2.2.1 v_t_cu_cl_sh_nd v_t_cu_cl_sh_sn v_t_cu_cl_cmd q51.2.2.2.2.1 q51.2.2.2.2.2.1 q51.2.2.2.2.2.2.1 q51.2.2.2.2.2.2.2) rfl rfl rfl rfl rfl (rest := []) rfl (Nat.le_of_ble_eq_true rfl) dX5_failWorking_56 ⟨Nat.zero_le _, Nat.zero_le _⟩ (fun H locs hP hD hS => ?_)
    refine lv_if_eq (tgt := 66) hx hb dX5_failWorking_59 (by decide) (fun hc => ?_) (fun hc => ?_)
    · replace hf := ifn (b2i_z hc) hf
      refine lv_iconst hx hb dX5_failWorking_66 ic_0 ?_
      obtain rfl := Option.some.inj hf
      exact retI X hS hP rfl dX5_failWorking_67
    · replace hf := ifp (b2i_nz hc) hf
      refine lv_iconst hx hb dX5_failWorking_62 ic_1 ?_
      refine lv_goto (tgt := 67) hx hb dX5_failWorking_63 (by decide) ?_
      obtain rfl := Option.some.inj hf
      exact retI X hS hP rfl dX5_failWorking_67
  · replace hf := ifn (b2i_z hc) hf
    refine lv_bipush hx hb dX5_failWorking_14 bp_m2 ?_
    obtain rfl := Option.some.inj hf
    exact retI X hS hP rfl dX5_failWorking_16

abbrev wo_X5_failProtection (cI cZ : ClassId) (a_t a_t_cu a_t_tr a_t_s0 a_t_s1 a_t_cu_ct a_t_cu_cl a_t_cu_cl_sh a_t_cu_cl_cmd a_t_cu_cl_tim a_t_cu_cl_hel a_t_cu_cl_dir a_t_cu_cl_seg : Nat) (v_t_cu_tm : Int32) (v_t_cu_cl_fw : Int32) (v_t_cu_cl_fp : Int32) (v_t_cu_cl_fn : Int32) (v_t_cu_cl_rt : Int32) (v_t_cu_cl_wd : Int32) (v_t_cu_cl_pd : Int32) (v_t_cu_cl_ss : Int32) (v_t_cu_cl_rs : Int32) (v_t_cu_cl_sh_nd : Int32) (v_t_cu_cl_sh_sn : Int32) (v_t_cu_cl_cmd : Nat → Int32) (v_t_cu_cl_tim : Nat → Int32) (v_t_cu_cl_hel : Nat → Int32) (v_t_cu_cl_dir : Nat → Int32) (v_t_cu_cl_seg : Nat → Int32) : va_W := [(a_t, oX5 a_t_cu a_t_tr a_t_s0 a_t_s1), (a_t_cu, oX3 a_t_cu_ct a_t_cu_cl a_t_cu_cl_sh v_t_cu_tm), (a_t_cu_cl, oX1 a_t_cu_cl_sh v_t_cu_cl_fw v_t_cu_cl_fp v_t_cu_cl_fn a_t_cu_cl_cmd a_t_cu_cl_tim a_t_cu_cl_hel v_t_cu_cl_rt v_t_cu_cl_wd v_t_cu_cl_pd a_t_cu_cl_dir v_t_cu_cl_ss v_t_cu_cl_rs a_t_cu_cl_seg), (a_t_cu_cl_sh, oX2 v_t_cu_cl_sh_nd v_t_cu_cl_sh_sn), (a_t_cu_cl_cmd, rI cI 8 v_t_cu_cl_cmd), (a_t_cu_cl_tim, rI cI 8 v_t_cu_cl_tim), (a_t_cu_cl_hel, rI cI 8 v_t_cu_cl_hel), (a_t_cu_cl_dir, rI cI 8 v_t_cu_cl_dir), (a_t_cu_cl_seg, rI cI 8 v_t_cu_cl_seg)]
def fX5_failProtection (v_t_cu_cl_fw : Int32) (v_t_cu_cl_fp : Int32) (v_t_cu_cl_fn : Int32) (v_t_cu_cl_rt : Int32) (v_t_cu_cl_wd : Int32) (v_t_cu_cl_pd : Int32) (v_t_cu_cl_ss : Int32) (v_t_cu_cl_rs : Int32) (v_t_cu_cl_sh_nd : Int32) (v_t_cu_cl_cmd : Nat → Int32) (v_t_cu_cl_tim : Nat → Int32) (v_t_cu_cl_hel : Nat → Int32) (v_t_cu_cl_dir : Nat → Int32) (v_t_cu_cl_seg : Nat → Int32) (p1 : Int32) (p2 : Int32) : Option (Int32 × Int32 × Int32 × Int32 × Int32 × Int32 × (Nat → Int32) × (Nat → Int32) × (Nat → Int32) × (Nat → Int32)) := ((fX2_hasSpan v_t_cu_cl_sh_nd p1).bind (fun q8 => (if q8 = true then ((fX5_marked v_t_cu_cl_fp p1 p2).bind (fun q38 => ((fX1_run v_t_cu_cl_fw q38 v_t_cu_cl_fn v_t_cu_cl_rt v_t_cu_cl_wd v_t_cu_cl_pd v_t_cu_cl_ss v_t_cu_cl_rs v_t_cu_cl_sh_nd v_t_cu_cl_cmd v_t_cu_cl_tim v_t_cu_cl_hel v_t_cu_cl_dir v_t_cu_cl_seg).bind (fun q51 => ((fX5_contains v_t_cu_cl_fp p1).bind (fun q56 => (if q56 = true then (some ((nI 1), q38, q51.1, q51.2.1, q51.2.2.1, q51.2.2.2.1, q51.2.2.2.2.1, q51.2.2.2.2.2.1, q51.2.2.2.2.2.2.1, q51.2.2.2.2.2.2.2)) else (some (0, q38, q51.1, q51.2.1, q51.2.2.1, q51.2.2.2.1, q51.2.2.2.2.1, q51.2.2.2.2.2.1, q51.2.2.2.2.2.2.1, q51.2.2.2.2.2.2.2))))))))) else (some ((-2), v_t_cu_cl_fp, v_t_cu_cl_wd, v_t_cu_cl_pd, v_t_cu_cl_ss, v_t_cu_cl_rs, v_t_cu_cl_tim, v_t_cu_cl_hel, v_t_cu_cl_dir, v_t_cu_cl_seg)))))
theorem kd_X5_failProtection : yX5_failProtection.cls = RX5 ∧ yX5_failProtection.cls ≠ "java/lang/invoke/MethodHandle" ∧ yX5_failProtection.cls ≠ "java/lang/invoke/VarHandle" ∧ (parseMethodDescriptor yX5_failProtection.desc).map (fun d => d.parameters.length) = some 2 := by decide +kernel
def rm_X5_failProtection : Room := { frames := 5, cells := 0, slots := 0, locals := 108 }
set_option maxHeartbeats 4000000 in
set_option maxRecDepth 100000 in
theorem k_X5_failProtection (l : Launch) (D : va_G) (cI cZ : ClassId) (a_t a_t_cu a_t_tr a_t_s0 a_t_s1 a_t_cu_ct a_t_cu_cl a_t_cu_cl_sh a_t_cu_cl_cmd a_t_cu_cl_tim a_t_cu_cl_hel a_t_cu_cl_dir a_t_cu_cl_seg : Nat) (v_t_cu_tm : Int32) (v_t_cu_cl_fw : Int32) (v_t_cu_cl_fp : Int32) (v_t_cu_cl_fn : Int32) (v_t_cu_cl_rt : Int32) (v_t_cu_cl_wd : Int32) (v_t_cu_cl_pd : Int32) (v_t_cu_cl_ss : Int32) (v_t_cu_cl_rs : Int32) (v_t_cu_cl_sh_nd : Int32) (v_t_cu_cl_sh_sn : Int32) (v_t_cu_cl_cmd : Nat → Int32) (v_t_cu_cl_tim : Nat → Int32) (v_t_cu_cl_hel : Nat → Int32) (v_t_cu_cl_dir : Nat → Int32) (v_t_cu_cl_seg : Nat → Int32) (p1 : Int32) (p2 : Int32) (q : Int32 × Int32 × Int32 × Int32 × Int32 × Int32 × (Nat → Int32) × (Nat → Int32) × (Nat → Int32) × (Nat → Int32)) (hf : fX5_failProtection v_t_cu_cl_fw v_t_cu_cl_fp v_t_cu_cl_fn v_t_cu_cl_rt v_t_cu_cl_wd v_t_cu_cl_pd v_t_cu_cl_ss v_t_cu_cl_rs v_t_cu_cl_sh_nd v_t_cu_cl_cmd v_t_cu_cl_tim v_t_cu_cl_hel v_t_cu_cl_dir v_t_cu_cl_seg p1 p2 = some q) : CI l D cI cZ yX5_failProtection wsX5_failProtection rm_X5_failProtection [.ref a_t, .int p1, .int p2] (wo_X5_failProtection cI cZ a_t a_t_cu a_t_tr a_t_s0 a_t_s1 a_t_cu_ct a_t_cu_cl a_t_cu_cl_sh a_t_cu_cl_cmd a_t_cu_cl_tim a_t_cu_cl_hel a_t_cu_cl_dir a_t_cu_cl_seg v_t_cu_tm v_t_cu_cl_fw v_t_cu_cl_fp v_t_cu_cl_fn v_t_cu_cl_rt v_t_cu_cl_wd v_t_cu_cl_pd v_t_cu_cl_ss v_t_cu_cl_rs v_t_cu_cl_sh_nd v_t_cu_cl_sh_sn v_t_cu_cl_cmd v_t_cu_cl_tim v_t_cu_cl_hel v_t_cu_cl_dir v_t_cu_cl_seg) (wo_X5_failProtection cI cZ a_t a_t_cu a_t_tr a_t_s0 a_t_s1 a_t_cu_ct a_t_cu_cl a_t_cu_cl_sh a_t_cu_cl_cmd a_t_cu_cl_tim a_t_cu_cl_hel a_t_cu_cl_dir a_t_cu_cl_seg v_t_cu_tm v_t_cu_cl_fw q.2.1 v_t_cu_cl_fn v_t_cu_cl_rt q.2.2.1 q.2.2.2.1 q.2.2.2.2.1 q.2.2.2.2.2.1 v_t_cu_cl_sh_nd v_t_cu_cl_sh_sn v_t_cu_cl_cmd q.2.2.2.2.2.2.1 q.2.2.2.2.2.2.2.1 q.2.2.2.2.2.2.2.2.1 q.2.2.2.2.2.2.2.2.2) q.1 := by
  refine CI.mk (cc := cX5_failProtection) (maxL := 4) (by decide) rfl (Nat.le_of_ble_eq_true rfl) ?_
  intro p e s m below meth c ls A X hP hD hl hS
  have hx := X.1.1
  have hb := X.1.2.1
  have hl : lv_has ls 4 [(0, .ref a_t), (1, .int p1), (2, .int p2)] := hl
  have inX1 : ∀ w ∈ u_ws RX1 TX1 14, w ∈ wsX5_failProtection := fun _ h => List.mem_cons_of_mem _ (List.mem_append_left _ (List.mem_append_right _ h))
  have inX3 : ∀ w ∈ u_ws RX3 TX3 4, w ∈ wsX5_failProtection := fun _ h => List.mem_cons_of_mem _ (List.mem_append_left _ (List.mem_append_left _ (List.mem_append_right _ h)))
  have inX5 : ∀ w ∈ u_ws RX5 TX5 4, w ∈ wsX5_failProtection := fun _ h => List.mem_cons_of_mem _ (List.mem_append_left _ (List.mem_append_left _ (List.mem_append_left _ (List.mem_append_right _ h))))
  unfold fX5_failProtection at hf
  refine lv_aload_n hx hb dX5_failProtection_0 rfl (lv_at hl 0 rfl) ?_
  refine getO X hP inX5 0 rfl rfl 0 (by decide) (List.mem_of_getElem? (i := 1) rfl) rfl dX5_failProtection_1 ?_
  refine getN X hP inX3 1 rfl rfl 2 (by decide) 16 rfl rfl dX5_failProtection_4 ?_
  refine lv_iload_n hx hb dX5_failProtection_7 rfl (lv_at hl 1 rfl) ?_
  obtain ⟨q8, e8, hf⟩ := bnd hf
  refine callVI X (k_X2_hasSpan l D cI cZ a_t_cu_cl_sh  v_t_cu_cl_sh_nd v_t_cu_cl_sh_sn p1 q8 e8) (cwV 1 X.1.2.2.2.2 gX5_failProtection_X2_hasSpan rfl rfl rfl kd_X2_hasSpan ⟨Nat.le_of_ble_eq_true rfl, Nat.le_of_ble_eq_true rfl⟩) hP hD hS hl.1 3 2 rfl rfl [3] (by decide) (wo_X5_failProtection cI cZ a_t a_t_cu a_t_tr a_t_s0 a_t_s1 a_t_cu_ct a_t_cu_cl a_t_cu_cl_sh a_t_cu_cl_cmd a_t_cu_cl_tim a_t_cu_cl_hel a_t_cu_cl_dir a_t_cu_cl_seg v_t_cu_tm v_t_cu_cl_fw v_t_cu_cl_fp v_t_cu_cl_fn v_t_cu_cl_rt v_t_cu_cl_wd v_t_cu_cl_pd v_t_cu_cl_ss v_t_cu_cl_rs v_t_cu_cl_sh_nd v_t_cu_cl_sh_sn v_t_cu_cl_cmd v_t_cu_cl_tim v_t_cu_cl_hel v_t_cu_cl_dir v_t_cu_cl_seg) rfl rfl rfl rfl rfl (rest := []) rfl (Nat.le_of_ble_eq_true rfl) dX5_failProtection_8 ⟨Nat.zero_le _, Nat.zero_le _⟩ (fun H locs hP hD hS => ?_)
  refine lv_if_ne (tgt := 17) hx hb dX5_failProtection_11 (by decide) (fun hc => ?_) (fun hc => ?_)
  · replace hf := ifp (b2i_nz hc) hf
    refine lv_aload_n hx hb dX5_failProtection_17 rfl (lv_at hl 0 rfl) ?_
    refine getO X hP inX5 0 rfl rfl 0 (by decide) (List.mem_of_getElem? (i := 1) rfl) rfl dX5_failProtection_18 ?_
    refine getN X hP inX3 1 rfl rfl 1 (by decide) 15 rfl rfl dX5_failProtection_21 ?_
    refine getN X hP inX1 2 rfl rfl 2 (by decide) 6 rfl rfl dX5_failProtection_24 ?_
    refine lv_istore_n (lv' := [(3, .int v_t_cu_cl_fp), (0, .ref a_t), (1, .int p1), (2, .int p2)]) hx hb dX5_failProtection_27 rfl hl (by decide) rfl (fun ls hl => ?_)
    refine lv_aload_n hx hb dX5_failProtection_28 rfl (lv_at hl 1 rfl) ?_
    refine getO X hP inX5 0 rfl rfl 0 (by decide) (List.mem_of_getElem? (i := 1) rfl) rfl dX5_failProtection_29 ?_
    refine getN X hP inX3 1 rfl rfl 1 (by decide) 15 rfl rfl dX5_failProtection_32 ?_
    refine lv_iload_n hx hb dX5_failProtection_35 rfl (lv_at hl 0 rfl) ?_
    refine lv_iload_n hx hb dX5_failProtection_36 rfl (lv_at hl 2 rfl) ?_
    refine lv_iload_n hx hb dX5_failProtection_37 rfl (lv_at hl 3 rfl) ?_
    obtain ⟨q38, e38, hf⟩ := bnd hf
    refine callSI X (k_X5_marked l D cI cZ    v_t_cu_cl_fp p1 p2 q38 e38) (va_cwS 3 X.1.2.2.2.2 gX5_failProtection_X5_marked rfl rfl rfl kd_X5_marked ⟨Nat.le_of_ble_eq_true rfl, Nat.le_of_ble_eq_true rfl⟩) hP hD hS hl.1 [] (by decide) (wo_X5_failProtection cI cZ a_t a_t_cu a_t_tr a_t_s0 a_t_s1 a_t_cu_ct a_t_cu_cl a_t_cu_cl_sh a_t_cu_cl_cmd a_t_cu_cl_tim a_t_cu_cl_hel a_t_cu_cl_dir a_t_cu_cl_seg v_t_cu_tm v_t_cu_cl_fw v_t_cu_cl_fp v_t_cu_cl_fn v_t_cu_cl_rt v_t_cu_cl_wd v_t_cu_cl_pd v_t_cu_cl_ss v_t_cu_cl_rs v_t_cu_cl_sh_nd v_t_cu_cl_sh_sn v_t_cu_cl_cmd v_t_cu_cl_tim v_t_cu_cl_hel v_t_cu_cl_dir v_t_cu_cl_seg) rfl rfl rfl rfl rfl (rest := [.ref a_t_cu_cl]) rfl (Nat.le_of_ble_eq_true rfl) dX5_failProtection_38 ⟨Nat.zero_le _, Nat.zero_le _⟩ (fun H locs hP hD hS => ?_)
    refine putN X hP hD hS inX1 tyX1 tyX1_ok nmX1 2 rfl rfl 2 (by decide) 6 rfl rfl rfl rfl (Nat.le_of_ble_eq_true rfl) dX5_failProtection_41 (wo_X5_failProtection cI cZ a_t a_t_cu a_t_tr a_t_s0 a_t_s1 a_t_cu_ct a_t_cu_cl a_t_cu_cl_sh a_t_cu_cl_cmd a_t_cu_cl_tim a_t_cu_cl_hel a_t_cu_cl_dir a_t_cu_cl_seg v_t_cu_tm v_t_cu_cl_fw q38 v_t_cu_cl_fn v_t_cu_cl_rt v_t_cu_cl_wd v_t_cu_cl_pd v_t_cu_cl_ss v_t_cu_cl_rs v_t_cu_cl_sh_nd v_t_cu_cl_sh_sn v_t_cu_cl_cmd v_t_cu_cl_tim v_t_cu_cl_hel v_t_cu_cl_dir v_t_cu_cl_seg) rfl (fun H locs hP hD hS => ?_)
    refine lv_aload_n hx hb dX5_failProtection_44 rfl (lv_at hl 1 rfl) ?_
    refine getO X hP inX5 0 rfl rfl 0 (by decide) (List.mem_of_getElem? (i := 1) rfl) rfl dX5_failProtection_45 ?_
    refine getN X hP inX3 1 rfl rfl 1 (by decide) 15 rfl rfl dX5_failProtection_48 ?_
    obtain ⟨q51, e51, hf⟩ := bnd hf
    refine callVV X (k_X1_run l D cI cZ a_t_cu_cl a_t_cu_cl_sh a_t_cu_cl_cmd a_t_cu_cl_tim a_t_cu_cl_hel a_t_cu_cl_dir a_t_cu_cl_seg  v_t_cu_cl_fw q38 v_t_cu_cl_fn v_t_cu_cl_rt v_t_cu_cl_wd v_t_cu_cl_pd v_t_cu_cl_ss v_t_cu_cl_rs v_t_cu_cl_sh_nd v_t_cu_cl_sh_sn v_t_cu_cl_cmd v_t_cu_cl_tim v_t_cu_cl_hel v_t_cu_cl_dir v_t_cu_cl_seg  q51 e51) (cwV 0 X.1.2.2.2.2 gX5_failProtection_X1_run rfl rfl rfl kd_X1_run ⟨Nat.le_of_ble_eq_true rfl, Nat.le_of_ble_eq_true rfl⟩) hP hD hS hl.1 2 1 rfl rfl [2, 3, 4, 5, 6, 7, 8] (by decide) (wo_X5_failProtection cI cZ a_t a_t_cu a_t_tr a_t_s0 a_t_s1 a_t_cu_ct a_t_cu_cl a_t_cu_cl_sh a_t_cu_cl_cmd a_t_cu_cl_tim a_t_cu_cl_hel a_t_cu_cl_dir a_t_cu_cl_seg v_t_cu_tm v_t_cu_cl_fw q38 v_t_cu_cl_fn v_t_cu_cl_rt q51.1 q51.2.1 q51.2.2.1 q51.2.2.2.1 v_t_cu_cl_sh_nd v_t_cu_cl_sh_sn v_t_cu_cl_cmd q51.2.2.2.2.1 q51.2.2.2.2.2.1 q51.2.2.2.2.2.2.1 q51.2.2.2.2.2.2.2) rfl rfl rfl rfl rfl (rest := []) rfl (Nat.le_of_ble_eq_true rfl) dX5_failProtection_51 ⟨Nat.zero_le _, Nat.zero_le _⟩ (fun H locs hP hD hS => ?_)
    refine lv_iload_n hx hb dX5_failProtection_54 rfl (lv_at hl 0 rfl) ?_
    refine lv_iload_n hx hb dX5_failProtection_55 rfl (lv_at hl 2 rfl) ?_
    obtain ⟨q56, e56, hf⟩ := bnd hf
    refine callSI X (k_X5_contains l D cI cZ    v_t_cu_cl_fp p1 q56 e56) (va_cwS 2 X.1.2.2.2.2 gX5_failProtection_X5_contains rfl rfl rfl kd_X5_contains ⟨Nat.le_of_ble_eq_true rfl, Nat.le_of_ble_eq_true rfl⟩) hP hD hS hl.1 [] (by decide) (wo_X5_failProtection cI cZ a_t a_t_cu a_t_tr a_t_s0 a_t_s1 a_t_cu_ct a_t_cu_cl a_t_cu_cl_sh a_t_cu_cl_cmd a_t_cu_cl_tim a_t_cu_cl_hel a_t_cu_cl_dir a_t_cu_cl_seg v_t_cu_tm v_t_cu_cl_fw q38 v_t_cu_cl_fn v_t_cu_cl_rt q51.1 q51.2.1 q51.2.2.1 q51.2.2.2.1 v_t_cu_cl_sh_nd v_t_cu_cl_sh_sn v_t_cu_cl_cmd q51.2.2.2.2.1 q51.2.2.2.2.2.1 q51.2.2.2.2.2.2.1 q51.2.2.2.2.2.2.2) rfl rfl rfl rfl rfl (rest := []) rfl (Nat.le_of_ble_eq_true rfl) dX5_failProtection_56 ⟨Nat.zero_le _, Nat.zero_le _⟩ (fun H locs hP hD hS => ?_)
    refine lv_if_eq (tgt := 66) hx hb dX5_failProtection_59 (by decide) (fun hc => ?_) (fun hc => ?_)
    · replace hf := ifn (b2i_z hc) hf
      refine lv_iconst hx hb dX5_failProtection_66 ic_0 ?_
      obtain rfl := Option.some.inj hf
      exact retI X hS hP rfl dX5_failProtection_67
    · replace hf := ifp (b2i_nz hc) hf
      refine lv_iconst hx hb dX5_failProtection_62 ic_1 ?_
      refine lv_goto (tgt := 67) hx hb dX5_failProtection_63 (by decide) ?_
      obtain rfl := Option.some.inj hf
      exact retI X hS hP rfl dX5_failProtection_67
  · replace hf := ifn (b2i_z hc) hf
    refine lv_bipush hx hb dX5_failProtection_14 bp_m2 ?_
    obtain rfl := Option.some.inj hf
    exact retI X hS hP rfl dX5_failProtection_16

abbrev wo_X5_failNode (cI cZ : ClassId) (a_t a_t_cu a_t_tr a_t_s0 a_t_s1 a_t_cu_ct a_t_cu_cl a_t_cu_cl_sh a_t_cu_cl_cmd a_t_cu_cl_tim a_t_cu_cl_hel a_t_cu_cl_dir a_t_cu_cl_seg : Nat) (v_t_cu_tm : Int32) (v_t_cu_cl_fw : Int32) (v_t_cu_cl_fp : Int32) (v_t_cu_cl_fn : Int32) (v_t_cu_cl_rt : Int32) (v_t_cu_cl_wd : Int32) (v_t_cu_cl_pd : Int32) (v_t_cu_cl_ss : Int32) (v_t_cu_cl_rs : Int32) (v_t_cu_cl_sh_nd : Int32) (v_t_cu_cl_sh_sn : Int32) (v_t_cu_cl_cmd : Nat → Int32) (v_t_cu_cl_tim : Nat → Int32) (v_t_cu_cl_hel : Nat → Int32) (v_t_cu_cl_dir : Nat → Int32) (v_t_cu_cl_seg : Nat → Int32) : va_W := [(a_t, oX5 a_t_cu a_t_tr a_t_s0 a_t_s1), (a_t_cu, oX3 a_t_cu_ct a_t_cu_cl a_t_cu_cl_sh v_t_cu_tm), (a_t_cu_cl, oX1 a_t_cu_cl_sh v_t_cu_cl_fw v_t_cu_cl_fp v_t_cu_cl_fn a_t_cu_cl_cmd a_t_cu_cl_tim a_t_cu_cl_hel v_t_cu_cl_rt v_t_cu_cl_wd v_t_cu_cl_pd a_t_cu_cl_dir v_t_cu_cl_ss v_t_cu_cl_rs a_t_cu_cl_seg), (a_t_cu_cl_sh, oX2 v_t_cu_cl_sh_nd v_t_cu_cl_sh_sn), (a_t_cu_cl_cmd, rI cI 8 v_t_cu_cl_cmd), (a_t_cu_cl_tim, rI cI 8 v_t_cu_cl_tim), (a_t_cu_cl_hel, rI cI 8 v_t_cu_cl_hel), (a_t_cu_cl_dir, rI cI 8 v_t_cu_cl_dir), (a_t_cu_cl_seg, rI cI 8 v_t_cu_cl_seg)]
def fX5_failNode (v_t_cu_cl_fw : Int32) (v_t_cu_cl_fp : Int32) (v_t_cu_cl_fn : Int32) (v_t_cu_cl_rt : Int32) (v_t_cu_cl_wd : Int32) (v_t_cu_cl_pd : Int32) (v_t_cu_cl_ss : Int32) (v_t_cu_cl_rs : Int32) (v_t_cu_cl_sh_nd : Int32) (v_t_cu_cl_cmd : Nat → Int32) (v_t_cu_cl_tim : Nat → Int32) (v_t_cu_cl_hel : Nat → Int32) (v_t_cu_cl_dir : Nat → Int32) (v_t_cu_cl_seg : Nat → Int32) (p1 : Int32) (p2 : Int32) : Option (Int32 × Int32 × Int32 × Int32 × Int32 × Int32 × (Nat → Int32) × (Nat → Int32) × (Nat → Int32) × (Nat → Int32)) := ((fX2_hasNode v_t_cu_cl_sh_nd p1).bind (fun q8 => (if q8 = true then ((fX5_marked v_t_cu_cl_fn p1 p2).bind (fun q37 => ((fX1_run v_t_cu_cl_fw v_t_cu_cl_fp q37 v_t_cu_cl_rt v_t_cu_cl_wd v_t_cu_cl_pd v_t_cu_cl_ss v_t_cu_cl_rs v_t_cu_cl_sh_nd v_t_cu_cl_cmd v_t_cu_cl_tim v_t_cu_cl_hel v_t_cu_cl_dir v_t_cu_cl_seg).bind (fun q50 => ((fX5_contains v_t_cu_cl_fn p1).bind (fun q55 => (if q55 = true then (some ((nI 1), q37, q50.1, q50.2.1, q50.2.2.1, q50.2.2.2.1, q50.2.2.2.2.1, q50.2.2.2.2.2.1, q50.2.2.2.2.2.2.1, q50.2.2.2.2.2.2.2)) else (some (0, q37, q50.1, q50.2.1, q50.2.2.1, q50.2.2.2.1, q50.2.2.2.2.1, q50.2.2.2.2.2.1, q50.2.2.2.2.2.2.1, q50.2.2.2.2.2.2.2))))))))) else (some ((-1), v_t_cu_cl_fn, v_t_cu_cl_wd, v_t_cu_cl_pd, v_t_cu_cl_ss, v_t_cu_cl_rs, v_t_cu_cl_tim, v_t_cu_cl_hel, v_t_cu_cl_dir, v_t_cu_cl_seg)))))
theorem kd_X5_failNode : yX5_failNode.cls = RX5 ∧ yX5_failNode.cls ≠ "java/lang/invoke/MethodHandle" ∧ yX5_failNode.cls ≠ "java/lang/invoke/VarHandle" ∧ (parseMethodDescriptor yX5_failNode.desc).map (fun d => d.parameters.length) = some 2 := by decide +kernel
def rm_X5_failNode : Room := { frames := 5, cells := 0, slots := 0, locals := 108 }
set_option maxHeartbeats 4000000 in
set_option maxRecDepth 100000 in
theorem k_X5_failNode (l : Launch) (D : va_G) (cI cZ : ClassId) (a_t a_t_cu a_t_tr a_t_s0 a_t_s1 a_t_cu_ct a_t_cu_cl a_t_cu_cl_sh a_t_cu_cl_cmd a_t_cu_cl_tim a_t_cu_cl_hel a_t_cu_cl_dir a_t_cu_cl_seg : Nat) (v_t_cu_tm : Int32) (v_t_cu_cl_fw : Int32) (v_t_cu_cl_fp : Int32) (v_t_cu_cl_fn : Int32) (v_t_cu_cl_rt : Int32) (v_t_cu_cl_wd : Int32) (v_t_cu_cl_pd : Int32) (v_t_cu_cl_ss : Int32) (v_t_cu_cl_rs : Int32) (v_t_cu_cl_sh_nd : Int32) (v_t_cu_cl_sh_sn : Int32) (v_t_cu_cl_cmd : Nat → Int32) (v_t_cu_cl_tim : Nat → Int32) (v_t_cu_cl_hel : Nat → Int32) (v_t_cu_cl_dir : Nat → Int32) (v_t_cu_cl_seg : Nat → Int32) (p1 : Int32) (p2 : Int32) (q : Int32 × Int32 × Int32 × Int32 × Int32 × Int32 × (Nat → Int32) × (Nat → Int32) × (Nat → Int32) × (Nat → Int32)) (hf : fX5_failNode v_t_cu_cl_fw v_t_cu_cl_fp v_t_cu_cl_fn v_t_cu_cl_rt v_t_cu_cl_wd v_t_cu_cl_pd v_t_cu_cl_ss v_t_cu_cl_rs v_t_cu_cl_sh_nd v_t_cu_cl_cmd v_t_cu_cl_tim v_t_cu_cl_hel v_t_cu_cl_dir v_t_cu_cl_seg p1 p2 = some q) : CI l D cI cZ yX5_failNode wsX5_failNode rm_X5_failNode [.ref a_t, .int p1, .int p2] (wo_X5_failNode cI cZ a_t a_t_cu a_t_tr a_t_s0 a_t_s1 a_t_cu_ct a_t_cu_cl a_t_cu_cl_sh a_t_cu_cl_cmd a_t_cu_cl_tim a_t_cu_cl_hel a_t_cu_cl_dir a_t_cu_cl_seg v_t_cu_tm v_t_cu_cl_fw v_t_cu_cl_fp v_t_cu_cl_fn v_t_cu_cl_rt v_t_cu_cl_wd v_t_cu_cl_pd v_t_cu_cl_ss v_t_cu_cl_rs v_t_cu_cl_sh_nd v_t_cu_cl_sh_sn v_t_cu_cl_cmd v_t_cu_cl_tim v_t_cu_cl_hel v_t_cu_cl_dir v_t_cu_cl_seg) (wo_X5_failNode cI cZ a_t a_t_cu a_t_tr a_t_s0 a_t_s1 a_t_cu_ct a_t_cu_cl a_t_cu_cl_sh a_t_cu_cl_cmd a_t_cu_cl_tim a_t_cu_cl_hel a_t_cu_cl_dir a_t_cu_cl_seg v_t_cu_tm v_t_cu_cl_fw v_t_cu_cl_fp q.2.1 v_t_cu_cl_rt q.2.2.1 q.2.2.2.1 q.2.2.2.2.1 q.2.2.2.2.2.1 v_t_cu_cl_sh_nd v_t_cu_cl_sh_sn v_t_cu_cl_cmd q.2.2.2.2.2.2.1 q.2.2.2.2.2.2.2.1 q.2.2.2.2.2.2.2.2.1 q.2.2.2.2.2.2.2.2.2) q.1 := by
  refine CI.mk (cc := cX5_failNode) (maxL := 4) (by decide) rfl (Nat.le_of_ble_eq_true rfl) ?_
  intro p e s m below meth c ls A X hP hD hl hS
  have hx := X.1.1
  have hb := X.1.2.1
  have hl : lv_has ls 4 [(0, .ref a_t), (1, .int p1), (2, .int p2)] := hl
  have inX1 : ∀ w ∈ u_ws RX1 TX1 14, w ∈ wsX5_failNode := fun _ h => List.mem_cons_of_mem _ (List.mem_append_left _ (List.mem_append_right _ h))
  have inX3 : ∀ w ∈ u_ws RX3 TX3 4, w ∈ wsX5_failNode := fun _ h => List.mem_cons_of_mem _ (List.mem_append_left _ (List.mem_append_left _ (List.mem_append_right _ h)))
  have inX5 : ∀ w ∈ u_ws RX5 TX5 4, w ∈ wsX5_failNode := fun _ h => List.mem_cons_of_mem _ (List.mem_append_left _ (List.mem_append_left _ (List.mem_append_left _ (List.mem_append_right _ h))))
  unfold fX5_failNode at hf
  refine lv_aload_n hx hb dX5_failNode_0 rfl (lv_at hl 0 rfl) ?_
  refine getO X hP inX5 0 rfl rfl 0 (by decide) (List.mem_of_getElem? (i := 1) rfl) rfl dX5_failNode_1 ?_
  refine getN X hP inX3 1 rfl rfl 2 (by decide) 16 rfl rfl dX5_failNode_4 ?_
  refine lv_iload_n hx hb dX5_failNode_7 rfl (lv_at hl 1 rfl) ?_
  obtain ⟨q8, e8, hf⟩ := bnd hf
  refine callVI X (k_X2_hasNode l D cI cZ a_t_cu_cl_sh  v_t_cu_cl_sh_nd v_t_cu_cl_sh_sn p1 q8 e8) (cwV 1 X.1.2.2.2.2 gX5_failNode_X2_hasNode rfl rfl rfl kd_X2_hasNode ⟨Nat.le_of_ble_eq_true rfl, Nat.le_of_ble_eq_true rfl⟩) hP hD hS hl.1 3 2 rfl rfl [3] (by decide) (wo_X5_failNode cI cZ a_t a_t_cu a_t_tr a_t_s0 a_t_s1 a_t_cu_ct a_t_cu_cl a_t_cu_cl_sh a_t_cu_cl_cmd a_t_cu_cl_tim a_t_cu_cl_hel a_t_cu_cl_dir a_t_cu_cl_seg v_t_cu_tm v_t_cu_cl_fw v_t_cu_cl_fp v_t_cu_cl_fn v_t_cu_cl_rt v_t_cu_cl_wd v_t_cu_cl_pd v_t_cu_cl_ss v_t_cu_cl_rs v_t_cu_cl_sh_nd v_t_cu_cl_sh_sn v_t_cu_cl_cmd v_t_cu_cl_tim v_t_cu_cl_hel v_t_cu_cl_dir v_t_cu_cl_seg) rfl rfl rfl rfl rfl (rest := []) rfl (Nat.le_of_ble_eq_true rfl) dX5_failNode_8 ⟨Nat.zero_le _, Nat.zero_le _⟩ (fun H locs hP hD hS => ?_)
  refine lv_if_ne (tgt := 16) hx hb dX5_failNode_11 (by decide) (fun hc => ?_) (fun hc => ?_)
  · replace hf := ifp (b2i_nz hc) hf
    refine lv_aload_n hx hb dX5_failNode_16 rfl (lv_at hl 0 rfl) ?_
    refine getO X hP inX5 0 rfl rfl 0 (by decide) (List.mem_of_getElem? (i := 1) rfl) rfl dX5_failNode_17 ?_
    refine getN X hP inX3 1 rfl rfl 1 (by decide) 15 rfl rfl dX5_failNode_20 ?_
    refine getN X hP inX1 2 rfl rfl 3 (by decide) 7 rfl rfl dX5_failNode_23 ?_
    refine lv_istore_n (lv' := [(3, .int v_t_cu_cl_fn), (0, .ref a_t), (1, .int p1), (2, .int p2)]) hx hb dX5_failNode_26 rfl hl (by decide) rfl (fun ls hl => ?_)
    refine lv_aload_n hx hb dX5_failNode_27 rfl (lv_at hl 1 rfl) ?_
    refine getO X hP inX5 0 rfl rfl 0 (by decide) (List.mem_of_getElem? (i := 1) rfl) rfl dX5_failNode_28 ?_
    refine getN X hP inX3 1 rfl rfl 1 (by decide) 15 rfl rfl dX5_failNode_31 ?_
    refine lv_iload_n hx hb dX5_failNode_34 rfl (lv_at hl 0 rfl) ?_
    refine lv_iload_n hx hb dX5_failNode_35 rfl (lv_at hl 2 rfl) ?_
    refine lv_iload_n hx hb dX5_failNode_36 rfl (lv_at hl 3 rfl) ?_
    obtain ⟨q37, e37, hf⟩ := bnd hf
    refine callSI X (k_X5_marked l D cI cZ    v_t_cu_cl_fn p1 p2 q37 e37) (va_cwS 3 X.1.2.2.2.2 gX5_failNode_X5_marked rfl rfl rfl kd_X5_marked ⟨Nat.le_of_ble_eq_true rfl, Nat.le_of_ble_eq_true rfl⟩) hP hD hS hl.1 [] (by decide) (wo_X5_failNode cI cZ a_t a_t_cu a_t_tr a_t_s0 a_t_s1 a_t_cu_ct a_t_cu_cl a_t_cu_cl_sh a_t_cu_cl_cmd a_t_cu_cl_tim a_t_cu_cl_hel a_t_cu_cl_dir a_t_cu_cl_seg v_t_cu_tm v_t_cu_cl_fw v_t_cu_cl_fp v_t_cu_cl_fn v_t_cu_cl_rt v_t_cu_cl_wd v_t_cu_cl_pd v_t_cu_cl_ss v_t_cu_cl_rs v_t_cu_cl_sh_nd v_t_cu_cl_sh_sn v_t_cu_cl_cmd v_t_cu_cl_tim v_t_cu_cl_hel v_t_cu_cl_dir v_t_cu_cl_seg) rfl rfl rfl rfl rfl (rest := [.ref a_t_cu_cl]) rfl (Nat.le_of_ble_eq_true rfl) dX5_failNode_37 ⟨Nat.zero_le _, Nat.zero_le _⟩ (fun H locs hP hD hS => ?_)
    refine putN X hP hD hS inX1 tyX1 tyX1_ok nmX1 2 rfl rfl 3 (by decide) 7 rfl rfl rfl rfl (Nat.le_of_ble_eq_true rfl) dX5_failNode_40 (wo_X5_failNode cI cZ a_t a_t_cu a_t_tr a_t_s0 a_t_s1 a_t_cu_ct a_t_cu_cl a_t_cu_cl_sh a_t_cu_cl_cmd a_t_cu_cl_tim a_t_cu_cl_hel a_t_cu_cl_dir a_t_cu_cl_seg v_t_cu_tm v_t_cu_cl_fw v_t_cu_cl_fp q37 v_t_cu_cl_rt v_t_cu_cl_wd v_t_cu_cl_pd v_t_cu_cl_ss v_t_cu_cl_rs v_t_cu_cl_sh_nd v_t_cu_cl_sh_sn v_t_cu_cl_cmd v_t_cu_cl_tim v_t_cu_cl_hel v_t_cu_cl_dir v_t_cu_cl_seg) rfl (fun H locs hP hD hS => ?_)
    refine lv_aload_n hx hb dX5_failNode_43 rfl (lv_at hl 1 rfl) ?_
    refine getO X hP inX5 0 rfl rfl 0 (by decide) (List.mem_of_getElem? (i := 1) rfl) rfl dX5_failNode_44 ?_
    refine getN X hP inX3 1 rfl rfl 1 (by decide) 15 rfl rfl dX5_failNode_47 ?_
    obtain ⟨q50, e50, hf⟩ := bnd hf
    refine callVV X (k_X1_run l D cI cZ a_t_cu_cl a_t_cu_cl_sh a_t_cu_cl_cmd a_t_cu_cl_tim a_t_cu_cl_hel a_t_cu_cl_dir a_t_cu_cl_seg  v_t_cu_cl_fw v_t_cu_cl_fp q37 v_t_cu_cl_rt v_t_cu_cl_wd v_t_cu_cl_pd v_t_cu_cl_ss v_t_cu_cl_rs v_t_cu_cl_sh_nd v_t_cu_cl_sh_sn v_t_cu_cl_cmd v_t_cu_cl_tim v_t_cu_cl_hel v_t_cu_cl_dir v_t_cu_cl_seg  q50 e50) (cwV 0 X.1.2.2.2.2 gX5_failNode_X1_run rfl rfl rfl kd_X1_run ⟨Nat.le_of_ble_eq_true rfl, Nat.le_of_ble_eq_true rfl⟩) hP hD hS hl.1 2 1 rfl rfl [2, 3, 4, 5, 6, 7, 8] (by decide) (wo_X5_failNode cI cZ a_t a_t_cu a_t_tr a_t_s0 a_t_s1 a_t_cu_ct a_t_cu_cl a_t_cu_cl_sh a_t_cu_cl_cmd a_t_cu_cl_tim a_t_cu_cl_hel a_t_cu_cl_dir a_t_cu_cl_seg v_t_cu_tm v_t_cu_cl_fw v_t_cu_cl_fp q37 v_t_cu_cl_rt q50.1 q50.2.1 q50.2.2.1 q50.2.2.2.1 v_t_cu_cl_sh_nd v_t_cu_cl_sh_sn v_t_cu_cl_cmd q50.2.2.2.2.1 q50.2.2.2.2.2.1 q50.2.2.2.2.2.2.1 q50.2.2.2.2.2.2.2) rfl rfl rfl rfl rfl (rest := []) rfl (Nat.le_of_ble_eq_true rfl) dX5_failNode_50 ⟨Nat.zero_le _, Nat.zero_le _⟩ (fun H locs hP hD hS => ?_)
    refine lv_iload_n hx hb dX5_failNode_53 rfl (lv_at hl 0 rfl) ?_
    refine lv_iload_n hx hb dX5_failNode_54 rfl (lv_at hl 2 rfl) ?_
    obtain ⟨q55, e55, hf⟩ := bnd hf
    refine callSI X (k_X5_contains l D cI cZ    v_t_cu_cl_fn p1 q55 e55) (va_cwS 2 X.1.2.2.2.2 gX5_failNode_X5_contains rfl rfl rfl kd_X5_contains ⟨Nat.le_of_ble_eq_true rfl, Nat.le_of_ble_eq_true rfl⟩) hP hD hS hl.1 [] (by decide) (wo_X5_failNode cI cZ a_t a_t_cu a_t_tr a_t_s0 a_t_s1 a_t_cu_ct a_t_cu_cl a_t_cu_cl_sh a_t_cu_cl_cmd a_t_cu_cl_tim a_t_cu_cl_hel a_t_cu_cl_dir a_t_cu_cl_seg v_t_cu_tm v_t_cu_cl_fw v_t_cu_cl_fp q37 v_t_cu_cl_rt q50.1 q50.2.1 q50.2.2.1 q50.2.2.2.1 v_t_cu_cl_sh_nd v_t_cu_cl_sh_sn v_t_cu_cl_cmd q50.2.2.2.2.1 q50.2.2.2.2.2.1 q50.2.2.2.2.2.2.1 q50.2.2.2.2.2.2.2) rfl rfl rfl rfl rfl (rest := []) rfl (Nat.le_of_ble_eq_true rfl) dX5_failNode_55 ⟨Nat.zero_le _, Nat.zero_le _⟩ (fun H locs hP hD hS => ?_)
    refine lv_if_eq (tgt := 65) hx hb dX5_failNode_58 (by decide) (fun hc => ?_) (fun hc => ?_)
    · replace hf := ifn (b2i_z hc) hf
      refine lv_iconst hx hb dX5_failNode_65 ic_0 ?_
      obtain rfl := Option.some.inj hf
      exact retI X hS hP rfl dX5_failNode_66
    · replace hf := ifp (b2i_nz hc) hf
      refine lv_iconst hx hb dX5_failNode_61 ic_1 ?_
      refine lv_goto (tgt := 66) hx hb dX5_failNode_62 (by decide) ?_
      obtain rfl := Option.some.inj hf
      exact retI X hS hP rfl dX5_failNode_66
  · replace hf := ifn (b2i_z hc) hf
    refine lv_iconst hx hb dX5_failNode_14 ic_m1 ?_
    obtain rfl := Option.some.inj hf
    exact retI X hS hP rfl dX5_failNode_15

abbrev wo_X5_command (cI cZ : ClassId) (a_t a_t_cu a_t_tr a_t_s0 a_t_s1 a_t_cu_ct a_t_cu_cl a_t_cu_cl_sh a_t_cu_cl_cmd a_t_cu_cl_tim a_t_cu_cl_hel a_t_cu_cl_dir a_t_cu_cl_seg : Nat) (v_t_cu_tm : Int32) (v_t_cu_cl_fw : Int32) (v_t_cu_cl_fp : Int32) (v_t_cu_cl_fn : Int32) (v_t_cu_cl_rt : Int32) (v_t_cu_cl_wd : Int32) (v_t_cu_cl_pd : Int32) (v_t_cu_cl_ss : Int32) (v_t_cu_cl_rs : Int32) (v_t_cu_cl_sh_nd : Int32) (v_t_cu_cl_sh_sn : Int32) (v_t_cu_cl_cmd : Nat → Int32) (v_t_cu_cl_tim : Nat → Int32) (v_t_cu_cl_hel : Nat → Int32) (v_t_cu_cl_dir : Nat → Int32) (v_t_cu_cl_seg : Nat → Int32) : va_W := [(a_t, oX5 a_t_cu a_t_tr a_t_s0 a_t_s1), (a_t_cu, oX3 a_t_cu_ct a_t_cu_cl a_t_cu_cl_sh v_t_cu_tm), (a_t_cu_cl, oX1 a_t_cu_cl_sh v_t_cu_cl_fw v_t_cu_cl_fp v_t_cu_cl_fn a_t_cu_cl_cmd a_t_cu_cl_tim a_t_cu_cl_hel v_t_cu_cl_rt v_t_cu_cl_wd v_t_cu_cl_pd a_t_cu_cl_dir v_t_cu_cl_ss v_t_cu_cl_rs a_t_cu_cl_seg), (a_t_cu_cl_sh, oX2 v_t_cu_cl_sh_nd v_t_cu_cl_sh_sn), (a_t_cu_cl_cmd, rI cI 8 v_t_cu_cl_cmd), (a_t_cu_cl_tim, rI cI 8 v_t_cu_cl_tim), (a_t_cu_cl_hel, rI cI 8 v_t_cu_cl_hel), (a_t_cu_cl_dir, rI cI 8 v_t_cu_cl_dir), (a_t_cu_cl_seg, rI cI 8 v_t_cu_cl_seg)]
def fX5_command (v_t_cu_cl_fw : Int32) (v_t_cu_cl_fp : Int32) (v_t_cu_cl_fn : Int32) (v_t_cu_cl_rt : Int32) (v_t_cu_cl_wd : Int32) (v_t_cu_cl_pd : Int32) (v_t_cu_cl_ss : Int32) (v_t_cu_cl_rs : Int32) (v_t_cu_cl_sh_nd : Int32) (v_t_cu_cl_cmd : Nat → Int32) (v_t_cu_cl_tim : Nat → Int32) (v_t_cu_cl_hel : Nat → Int32) (v_t_cu_cl_dir : Nat → Int32) (v_t_cu_cl_seg : Nat → Int32) (p1 : Int32) (p2 : Int32) : Option (Int32 × Int32 × Int32 × Int32 × Int32 × (Nat → Int32) × (Nat → Int32) × (Nat → Int32) × (Nat → Int32) × (Nat → Int32)) := ((fX2_hasSpan v_t_cu_cl_sh_nd p1).bind (fun q8 => (if q8 = true then ((fX5_isCommand p2).bind (fun q18 => (if q18 = true then ((fX1_replaceCommand v_t_cu_cl_sh_nd v_t_cu_cl_cmd p1 p2).bind (fun q36 => ((fX1_run v_t_cu_cl_fw v_t_cu_cl_fp v_t_cu_cl_fn v_t_cu_cl_rt v_t_cu_cl_wd v_t_cu_cl_pd v_t_cu_cl_ss v_t_cu_cl_rs v_t_cu_cl_sh_nd q36.2 v_t_cu_cl_tim v_t_cu_cl_hel v_t_cu_cl_dir v_t_cu_cl_seg).bind (fun q47 => (some (q36.1, q47.1, q47.2.1, q47.2.2.1, q47.2.2.2.1, q36.2, q47.2.2.2.2.1, q47.2.2.2.2.2.1, q47.2.2.2.2.2.2.1, q47.2.2.2.2.2.2.2)))))) else (some ((-4), v_t_cu_cl_wd, v_t_cu_cl_pd, v_t_cu_cl_ss, v_t_cu_cl_rs, v_t_cu_cl_cmd, v_t_cu_cl_tim, v_t_cu_cl_hel, v_t_cu_cl_dir, v_t_cu_cl_seg))))) else (some ((-2), v_t_cu_cl_wd, v_t_cu_cl_pd, v_t_cu_cl_ss, v_t_cu_cl_rs, v_t_cu_cl_cmd, v_t_cu_cl_tim, v_t_cu_cl_hel, v_t_cu_cl_dir, v_t_cu_cl_seg)))))
theorem kd_X5_command : yX5_command.cls = RX5 ∧ yX5_command.cls ≠ "java/lang/invoke/MethodHandle" ∧ yX5_command.cls ≠ "java/lang/invoke/VarHandle" ∧ (parseMethodDescriptor yX5_command.desc).map (fun d => d.parameters.length) = some 2 := by decide +kernel
def rm_X5_command : Room := { frames := 5, cells := 0, slots := 0, locals := 108 }
set_option maxHeartbeats 4000000 in
set_option maxRecDepth 100000 in
theorem k_X5_command (l : Launch) (D : va_G) (cI cZ : ClassId) (a_t a_t_cu a_t_tr a_t_s0 a_t_s1 a_t_cu_ct a_t_cu_cl a_t_cu_cl_sh a_t_cu_cl_cmd a_t_cu_cl_tim a_t_cu_cl_hel a_t_cu_cl_dir a_t_cu_cl_seg : Nat) (v_t_cu_tm : Int32) (v_t_cu_cl_fw : Int32) (v_t_cu_cl_fp : Int32) (v_t_cu_cl_fn : Int32) (v_t_cu_cl_rt : Int32) (v_t_cu_cl_wd : Int32) (v_t_cu_cl_pd : Int32) (v_t_cu_cl_ss : Int32) (v_t_cu_cl_rs : Int32) (v_t_cu_cl_sh_nd : Int32) (v_t_cu_cl_sh_sn : Int32) (v_t_cu_cl_cmd : Nat → Int32) (v_t_cu_cl_tim : Nat → Int32) (v_t_cu_cl_hel : Nat → Int32) (v_t_cu_cl_dir : Nat → Int32) (v_t_cu_cl_seg : Nat → Int32) (p1 : Int32) (p2 : Int32) (q : Int32 × Int32 × Int32 × Int32 × Int32 × (Nat → Int32) × (Nat → Int32) × (Nat → Int32) × (Nat → Int32) × (Nat → Int32)) (hf : fX5_command v_t_cu_cl_fw v_t_cu_cl_fp v_t_cu_cl_fn v_t_cu_cl_rt v_t_cu_cl_wd v_t_cu_cl_pd v_t_cu_cl_ss v_t_cu_cl_rs v_t_cu_cl_sh_nd v_t_cu_cl_cmd v_t_cu_cl_tim v_t_cu_cl_hel v_t_cu_cl_dir v_t_cu_cl_seg p1 p2 = some q) : CI l D cI cZ yX5_command wsX5_command rm_X5_command [.ref a_t, .int p1, .int p2] (wo_X5_command cI cZ a_t a_t_cu a_t_tr a_t_s0 a_t_s1 a_t_cu_ct a_t_cu_cl a_t_cu_cl_sh a_t_cu_cl_cmd a_t_cu_cl_tim a_t_cu_cl_hel a_t_cu_cl_dir a_t_cu_cl_seg v_t_cu_tm v_t_cu_cl_fw v_t_cu_cl_fp v_t_cu_cl_fn v_t_cu_cl_rt v_t_cu_cl_wd v_t_cu_cl_pd v_t_cu_cl_ss v_t_cu_cl_rs v_t_cu_cl_sh_nd v_t_cu_cl_sh_sn v_t_cu_cl_cmd v_t_cu_cl_tim v_t_cu_cl_hel v_t_cu_cl_dir v_t_cu_cl_seg) (wo_X5_command cI cZ a_t a_t_cu a_t_tr a_t_s0 a_t_s1 a_t_cu_ct a_t_cu_cl a_t_cu_cl_sh a_t_cu_cl_cmd a_t_cu_cl_tim a_t_cu_cl_hel a_t_cu_cl_dir a_t_cu_cl_seg v_t_cu_tm v_t_cu_cl_fw v_t_cu_cl_fp v_t_cu_cl_fn v_t_cu_cl_rt q.2.1 q.2.2.1 q.2.2.2.1 q.2.2.2.2.1 v_t_cu_cl_sh_nd v_t_cu_cl_sh_sn q.2.2.2.2.2.1 q.2.2.2.2.2.2.1 q.2.2.2.2.2.2.2.1 q.2.2.2.2.2.2.2.2.1 q.2.2.2.2.2.2.2.2.2) q.1 := by
  refine CI.mk (cc := cX5_command) (maxL := 4) (by decide) rfl (Nat.le_of_ble_eq_true rfl) ?_
  intro p e s m below meth c ls A X hP hD hl hS
  have hx := X.1.1
  have hb := X.1.2.1
  have hl : lv_has ls 4 [(0, .ref a_t), (1, .int p1), (2, .int p2)] := hl
  have inX3 : ∀ w ∈ u_ws RX3 TX3 4, w ∈ wsX5_command := fun _ h => List.mem_cons_of_mem _ (List.mem_append_left _ (List.mem_append_left _ (List.mem_append_right _ h)))
  have inX5 : ∀ w ∈ u_ws RX5 TX5 4, w ∈ wsX5_command := fun _ h => List.mem_cons_of_mem _ (List.mem_append_left _ (List.mem_append_left _ (List.mem_append_left _ (List.mem_append_right _ h))))
  unfold fX5_command at hf
  refine lv_aload_n hx hb dX5_command_0 rfl (lv_at hl 0 rfl) ?_
  refine getO X hP inX5 0 rfl rfl 0 (by decide) (List.mem_of_getElem? (i := 1) rfl) rfl dX5_command_1 ?_
  refine getN X hP inX3 1 rfl rfl 2 (by decide) 16 rfl rfl dX5_command_4 ?_
  refine lv_iload_n hx hb dX5_command_7 rfl (lv_at hl 1 rfl) ?_
  obtain ⟨q8, e8, hf⟩ := bnd hf
  refine callVI X (k_X2_hasSpan l D cI cZ a_t_cu_cl_sh  v_t_cu_cl_sh_nd v_t_cu_cl_sh_sn p1 q8 e8) (cwV 1 X.1.2.2.2.2 gX5_command_X2_hasSpan rfl rfl rfl kd_X2_hasSpan ⟨Nat.le_of_ble_eq_true rfl, Nat.le_of_ble_eq_true rfl⟩) hP hD hS hl.1 3 2 rfl rfl [3] (by decide) (wo_X5_command cI cZ a_t a_t_cu a_t_tr a_t_s0 a_t_s1 a_t_cu_ct a_t_cu_cl a_t_cu_cl_sh a_t_cu_cl_cmd a_t_cu_cl_tim a_t_cu_cl_hel a_t_cu_cl_dir a_t_cu_cl_seg v_t_cu_tm v_t_cu_cl_fw v_t_cu_cl_fp v_t_cu_cl_fn v_t_cu_cl_rt v_t_cu_cl_wd v_t_cu_cl_pd v_t_cu_cl_ss v_t_cu_cl_rs v_t_cu_cl_sh_nd v_t_cu_cl_sh_sn v_t_cu_cl_cmd v_t_cu_cl_tim v_t_cu_cl_hel v_t_cu_cl_dir v_t_cu_cl_seg) rfl rfl rfl rfl rfl (rest := []) rfl (Nat.le_of_ble_eq_true rfl) dX5_command_8 ⟨Nat.zero_le _, Nat.zero_le _⟩ (fun H locs hP hD hS => ?_)
  refine lv_if_ne (tgt := 17) hx hb dX5_command_11 (by decide) (fun hc => ?_) (fun hc => ?_)
  · replace hf := ifp (b2i_nz hc) hf
    refine lv_iload_n hx hb dX5_command_17 rfl (lv_at hl 2 rfl) ?_
    obtain ⟨q18, e18, hf⟩ := bnd hf
    refine callSI X (k_X5_isCommand l D cI cZ    p2 q18 e18) (va_cwS 1 X.1.2.2.2.2 gX5_command_X5_isCommand rfl rfl rfl kd_X5_isCommand ⟨Nat.le_of_ble_eq_true rfl, Nat.le_of_ble_eq_true rfl⟩) hP hD hS hl.1 [] (by decide) (wo_X5_command cI cZ a_t a_t_cu a_t_tr a_t_s0 a_t_s1 a_t_cu_ct a_t_cu_cl a_t_cu_cl_sh a_t_cu_cl_cmd a_t_cu_cl_tim a_t_cu_cl_hel a_t_cu_cl_dir a_t_cu_cl_seg v_t_cu_tm v_t_cu_cl_fw v_t_cu_cl_fp v_t_cu_cl_fn v_t_cu_cl_rt v_t_cu_cl_wd v_t_cu_cl_pd v_t_cu_cl_ss v_t_cu_cl_rs v_t_cu_cl_sh_nd v_t_cu_cl_sh_sn v_t_cu_cl_cmd v_t_cu_cl_tim v_t_cu_cl_hel v_t_cu_cl_dir v_t_cu_cl_seg) rfl rfl rfl rfl rfl (rest := []) rfl (Nat.le_of_ble_eq_true rfl) dX5_command_18 ⟨Nat.zero_le _, Nat.zero_le _⟩ (fun H locs hP hD hS => ?_)
    refine lv_if_ne (tgt := 27) hx hb dX5_command_21 (by decide) (fun hc => ?_) (fun hc => ?_)
    · replace hf := ifp (b2i_nz hc) hf
      refine lv_aload_n hx hb dX5_command_27 rfl (lv_at hl 0 rfl) ?_
      refine getO X hP inX5 0 rfl rfl 0 (by decide) (List.mem_of_getElem? (i := 1) rfl) rfl dX5_command_28 ?_
      refine getN X hP inX3 1 rfl rfl 1 (by decide) 15 rfl rfl dX5_command_31 ?_
      refine lv_iload_n hx hb dX5_command_34 rfl (lv_at hl 1 rfl) ?_
      refine lv_iload_n hx hb dX5_command_35 rfl (lv_at hl 2 rfl) ?_
      obtain ⟨q36, e36, hf⟩ := bnd hf
      refine callVI X (k_X1_replaceCommand l D cI cZ a_t_cu_cl a_t_cu_cl_sh a_t_cu_cl_cmd a_t_cu_cl_tim a_t_cu_cl_hel a_t_cu_cl_dir a_t_cu_cl_seg  v_t_cu_cl_fw v_t_cu_cl_fp v_t_cu_cl_fn v_t_cu_cl_rt v_t_cu_cl_wd v_t_cu_cl_pd v_t_cu_cl_ss v_t_cu_cl_rs v_t_cu_cl_sh_nd v_t_cu_cl_sh_sn v_t_cu_cl_cmd p1 p2 q36 e36) (cwV 2 X.1.2.2.2.2 gX5_command_X1_replaceCommand rfl rfl rfl kd_X1_replaceCommand ⟨Nat.le_of_ble_eq_true rfl, Nat.le_of_ble_eq_true rfl⟩) hP hD hS hl.1 2 1 rfl rfl [2, 3, 4] (by decide) (wo_X5_command cI cZ a_t a_t_cu a_t_tr a_t_s0 a_t_s1 a_t_cu_ct a_t_cu_cl a_t_cu_cl_sh a_t_cu_cl_cmd a_t_cu_cl_tim a_t_cu_cl_hel a_t_cu_cl_dir a_t_cu_cl_seg v_t_cu_tm v_t_cu_cl_fw v_t_cu_cl_fp v_t_cu_cl_fn v_t_cu_cl_rt v_t_cu_cl_wd v_t_cu_cl_pd v_t_cu_cl_ss v_t_cu_cl_rs v_t_cu_cl_sh_nd v_t_cu_cl_sh_sn q36.2 v_t_cu_cl_tim v_t_cu_cl_hel v_t_cu_cl_dir v_t_cu_cl_seg) rfl rfl rfl rfl rfl (rest := []) rfl (Nat.le_of_ble_eq_true rfl) dX5_command_36 ⟨Nat.zero_le _, Nat.zero_le _⟩ (fun H locs hP hD hS => ?_)
      refine lv_istore_n (lv' := [(3, .int q36.1), (0, .ref a_t), (1, .int p1), (2, .int p2)]) hx hb dX5_command_39 rfl hl (by decide) rfl (fun ls hl => ?_)
      refine lv_aload_n hx hb dX5_command_40 rfl (lv_at hl 1 rfl) ?_
      refine getO X hP inX5 0 rfl rfl 0 (by decide) (List.mem_of_getElem? (i := 1) rfl) rfl dX5_command_41 ?_
      refine getN X hP inX3 1 rfl rfl 1 (by decide) 15 rfl rfl dX5_command_44 ?_
      obtain ⟨q47, e47, hf⟩ := bnd hf
      refine callVV X (k_X1_run l D cI cZ a_t_cu_cl a_t_cu_cl_sh a_t_cu_cl_cmd a_t_cu_cl_tim a_t_cu_cl_hel a_t_cu_cl_dir a_t_cu_cl_seg  v_t_cu_cl_fw v_t_cu_cl_fp v_t_cu_cl_fn v_t_cu_cl_rt v_t_cu_cl_wd v_t_cu_cl_pd v_t_cu_cl_ss v_t_cu_cl_rs v_t_cu_cl_sh_nd v_t_cu_cl_sh_sn q36.2 v_t_cu_cl_tim v_t_cu_cl_hel v_t_cu_cl_dir v_t_cu_cl_seg  q47 e47) (cwV 0 X.1.2.2.2.2 gX5_command_X1_run rfl rfl rfl kd_X1_run ⟨Nat.le_of_ble_eq_true rfl, Nat.le_of_ble_eq_true rfl⟩) hP hD hS hl.1 2 1 rfl rfl [2, 3, 4, 5, 6, 7, 8] (by decide) (wo_X5_command cI cZ a_t a_t_cu a_t_tr a_t_s0 a_t_s1 a_t_cu_ct a_t_cu_cl a_t_cu_cl_sh a_t_cu_cl_cmd a_t_cu_cl_tim a_t_cu_cl_hel a_t_cu_cl_dir a_t_cu_cl_seg v_t_cu_tm v_t_cu_cl_fw v_t_cu_cl_fp v_t_cu_cl_fn v_t_cu_cl_rt q47.1 q47.2.1 q47.2.2.1 q47.2.2.2.1 v_t_cu_cl_sh_nd v_t_cu_cl_sh_sn q36.2 q47.2.2.2.2.1 q47.2.2.2.2.2.1 q47.2.2.2.2.2.2.1 q47.2.2.2.2.2.2.2) rfl rfl rfl rfl rfl (rest := []) rfl (Nat.le_of_ble_eq_true rfl) dX5_command_47 ⟨Nat.zero_le _, Nat.zero_le _⟩ (fun H locs hP hD hS => ?_)
      refine lv_iload_n hx hb dX5_command_50 rfl (lv_at hl 0 rfl) ?_
      obtain rfl := Option.some.inj hf
      exact retI X hS hP rfl dX5_command_51
    · replace hf := ifn (b2i_z hc) hf
      refine lv_bipush hx hb dX5_command_24 bp_m4 ?_
      obtain rfl := Option.some.inj hf
      exact retI X hS hP rfl dX5_command_26
  · replace hf := ifn (b2i_z hc) hf
    refine lv_bipush hx hb dX5_command_14 bp_m2 ?_
    obtain rfl := Option.some.inj hf
    exact retI X hS hP rfl dX5_command_16

abbrev wo_X5_setRestoreTime (cI cZ : ClassId) (a_t a_t_cu a_t_tr a_t_s0 a_t_s1 a_t_cu_ct a_t_cu_cl a_t_cu_cl_sh a_t_cu_cl_cmd a_t_cu_cl_tim a_t_cu_cl_hel a_t_cu_cl_dir a_t_cu_cl_seg : Nat) (v_t_cu_tm : Int32) (v_t_cu_cl_fw : Int32) (v_t_cu_cl_fp : Int32) (v_t_cu_cl_fn : Int32) (v_t_cu_cl_rt : Int32) (v_t_cu_cl_wd : Int32) (v_t_cu_cl_pd : Int32) (v_t_cu_cl_ss : Int32) (v_t_cu_cl_rs : Int32) : va_W := [(a_t, oX5 a_t_cu a_t_tr a_t_s0 a_t_s1), (a_t_cu, oX3 a_t_cu_ct a_t_cu_cl a_t_cu_cl_sh v_t_cu_tm), (a_t_cu_cl, oX1 a_t_cu_cl_sh v_t_cu_cl_fw v_t_cu_cl_fp v_t_cu_cl_fn a_t_cu_cl_cmd a_t_cu_cl_tim a_t_cu_cl_hel v_t_cu_cl_rt v_t_cu_cl_wd v_t_cu_cl_pd a_t_cu_cl_dir v_t_cu_cl_ss v_t_cu_cl_rs a_t_cu_cl_seg)]
def fX5_setRestoreTime (v_t_cu_cl_rt : Int32) (p1 : Int32) : Option (Int32 × Int32) := (if p1 < 0 then (some ((-4), v_t_cu_cl_rt)) else (if p1 ≤ (nI 60) then (some (v_t_cu_cl_rt, p1)) else (some ((-4), v_t_cu_cl_rt))))
theorem kd_X5_setRestoreTime : yX5_setRestoreTime.cls = RX5 ∧ yX5_setRestoreTime.cls ≠ "java/lang/invoke/MethodHandle" ∧ yX5_setRestoreTime.cls ≠ "java/lang/invoke/VarHandle" ∧ (parseMethodDescriptor yX5_setRestoreTime.desc).map (fun d => d.parameters.length) = some 1 := by decide +kernel
def rm_X5_setRestoreTime : Room := { frames := 0, cells := 0, slots := 0, locals := 0 }
set_option maxHeartbeats 4000000 in
set_option maxRecDepth 100000 in
theorem k_X5_setRestoreTime (l : Launch) (D : va_G) (cI cZ : ClassId) (a_t a_t_cu a_t_tr a_t_s0 a_t_s1 a_t_cu_ct a_t_cu_cl a_t_cu_cl_sh a_t_cu_cl_cmd a_t_cu_cl_tim a_t_cu_cl_hel a_t_cu_cl_dir a_t_cu_cl_seg : Nat) (v_t_cu_tm : Int32) (v_t_cu_cl_fw : Int32) (v_t_cu_cl_fp : Int32) (v_t_cu_cl_fn : Int32) (v_t_cu_cl_rt : Int32) (v_t_cu_cl_wd : Int32) (v_t_cu_cl_pd : Int32) (v_t_cu_cl_ss : Int32) (v_t_cu_cl_rs : Int32) (p1 : Int32) (q : Int32 × Int32) (hf : fX5_setRestoreTime v_t_cu_cl_rt p1 = some q) : CI l D cI cZ yX5_setRestoreTime wsX5_setRestoreTime rm_X5_setRestoreTime [.ref a_t, .int p1] (wo_X5_setRestoreTime cI cZ a_t a_t_cu a_t_tr a_t_s0 a_t_s1 a_t_cu_ct a_t_cu_cl a_t_cu_cl_sh a_t_cu_cl_cmd a_t_cu_cl_tim a_t_cu_cl_hel a_t_cu_cl_dir a_t_cu_cl_seg v_t_cu_tm v_t_cu_cl_fw v_t_cu_cl_fp v_t_cu_cl_fn v_t_cu_cl_rt v_t_cu_cl_wd v_t_cu_cl_pd v_t_cu_cl_ss v_t_cu_cl_rs) (wo_X5_setRestoreTime cI cZ a_t a_t_cu a_t_tr a_t_s0 a_t_s1 a_t_cu_ct a_t_cu_cl a_t_cu_cl_sh a_t_cu_cl_cmd a_t_cu_cl_tim a_t_cu_cl_hel a_t_cu_cl_dir a_t_cu_cl_seg v_t_cu_tm v_t_cu_cl_fw v_t_cu_cl_fp v_t_cu_cl_fn q.2 v_t_cu_cl_wd v_t_cu_cl_pd v_t_cu_cl_ss v_t_cu_cl_rs) q.1 := by
  refine CI.mk (cc := cX5_setRestoreTime) (maxL := 3) (by decide) rfl (Nat.le_of_ble_eq_true rfl) ?_
  intro p e s m below meth c ls A X hP hD hl hS
  have hx := X.1.1
  have hb := X.1.2.1
  have hl : lv_has ls 3 [(0, .ref a_t), (1, .int p1)] := hl
  have inX1 : ∀ w ∈ u_ws RX1 TX1 14, w ∈ wsX5_setRestoreTime := fun _ h => List.mem_cons_of_mem _ (List.mem_append_right _ h)
  have inX3 : ∀ w ∈ u_ws RX3 TX3 4, w ∈ wsX5_setRestoreTime := fun _ h => List.mem_cons_of_mem _ (List.mem_append_left _ (List.mem_append_right _ h))
  have inX5 : ∀ w ∈ u_ws RX5 TX5 4, w ∈ wsX5_setRestoreTime := fun _ h => List.mem_cons_of_mem _ (List.mem_append_left _ (List.mem_append_left _ (List.mem_append_right _ h)))
  unfold fX5_setRestoreTime at hf
  refine lv_iload_n hx hb dX5_setRestoreTime_0 rfl (lv_at hl 1 rfl) ?_
  refine lv_if_lt (tgt := 10) hx hb dX5_setRestoreTime_1 (by decide) (fun hc => ?_) (fun hc => ?_)
  · replace hf := ifp hc hf
    refine lv_bipush hx hb dX5_setRestoreTime_10 bp_m4 ?_
    obtain rfl := Option.some.inj hf
    exact retI X hS hP rfl dX5_setRestoreTime_12
  · replace hf := ifn hc hf
    refine lv_iload_n hx hb dX5_setRestoreTime_4 rfl (lv_at hl 1 rfl) ?_
    refine lv_bipush hx hb dX5_setRestoreTime_5 bp_60 ?_
    refine lv_icmp_le (tgt := 13) hx hb dX5_setRestoreTime_7 (by decide) (fun hc => ?_) (fun hc => ?_)
    · replace hf := ifp hc hf
      refine lv_aload_n hx hb dX5_setRestoreTime_13 rfl (lv_at hl 0 rfl) ?_
      refine getO X hP inX5 0 rfl rfl 0 (by decide) (List.mem_of_getElem? (i := 1) rfl) rfl dX5_setRestoreTime_14 ?_
      refine getN X hP inX3 1 rfl rfl 1 (by decide) 15 rfl rfl dX5_setRestoreTime_17 ?_
      refine getN X hP inX1 2 rfl rfl 7 (by decide) 8 rfl rfl dX5_setRestoreTime_20 ?_
      refine lv_istore_n (lv' := [(2, .int v_t_cu_cl_rt), (0, .ref a_t), (1, .int p1)]) hx hb dX5_setRestoreTime_23 rfl hl (by decide) rfl (fun ls hl => ?_)
      refine lv_aload_n hx hb dX5_setRestoreTime_24 rfl (lv_at hl 1 rfl) ?_
      refine getO X hP inX5 0 rfl rfl 0 (by decide) (List.mem_of_getElem? (i := 1) rfl) rfl dX5_setRestoreTime_25 ?_
      refine getN X hP inX3 1 rfl rfl 1 (by decide) 15 rfl rfl dX5_setRestoreTime_28 ?_
      refine lv_iload_n hx hb dX5_setRestoreTime_31 rfl (lv_at hl 2 rfl) ?_
      refine putN X hP hD hS inX1 tyX1 tyX1_ok nmX1 2 rfl rfl 7 (by decide) 8 rfl rfl rfl rfl (Nat.le_of_ble_eq_true rfl) dX5_setRestoreTime_32 (wo_X5_setRestoreTime cI cZ a_t a_t_cu a_t_tr a_t_s0 a_t_s1 a_t_cu_ct a_t_cu_cl a_t_cu_cl_sh a_t_cu_cl_cmd a_t_cu_cl_tim a_t_cu_cl_hel a_t_cu_cl_dir a_t_cu_cl_seg v_t_cu_tm v_t_cu_cl_fw v_t_cu_cl_fp v_t_cu_cl_fn p1 v_t_cu_cl_wd v_t_cu_cl_pd v_t_cu_cl_ss v_t_cu_cl_rs) rfl (fun H locs hP hD hS => ?_)
      refine lv_iload_n hx hb dX5_setRestoreTime_35 rfl (lv_at hl 0 rfl) ?_
      obtain rfl := Option.some.inj hf
      exact retI X hS hP rfl dX5_setRestoreTime_36
    · replace hf := ifn hc hf
      refine lv_bipush hx hb dX5_setRestoreTime_10 bp_m4 ?_
      obtain rfl := Option.some.inj hf
      exact retI X hS hP rfl dX5_setRestoreTime_12

abbrev wo_X5_advance (cI cZ : ClassId) (a_t a_t_cu a_t_tr a_t_s0 a_t_s1 a_t_cu_ct a_t_cu_cl a_t_cu_cl_sh a_t_cu_cl_cmd a_t_cu_cl_tim a_t_cu_cl_hel a_t_cu_cl_dir a_t_cu_cl_seg : Nat) (v_t_cu_tm : Int32) (v_t_cu_cl_fw : Int32) (v_t_cu_cl_fp : Int32) (v_t_cu_cl_fn : Int32) (v_t_cu_cl_rt : Int32) (v_t_cu_cl_wd : Int32) (v_t_cu_cl_pd : Int32) (v_t_cu_cl_ss : Int32) (v_t_cu_cl_rs : Int32) (v_t_cu_cl_sh_nd : Int32) (v_t_cu_cl_sh_sn : Int32) (v_t_cu_cl_cmd : Nat → Int32) (v_t_cu_cl_tim : Nat → Int32) (v_t_cu_cl_hel : Nat → Int32) (v_t_cu_cl_dir : Nat → Int32) (v_t_cu_cl_seg : Nat → Int32) : va_W := [(a_t, oX5 a_t_cu a_t_tr a_t_s0 a_t_s1), (a_t_cu, oX3 a_t_cu_ct a_t_cu_cl a_t_cu_cl_sh v_t_cu_tm), (a_t_cu_cl, oX1 a_t_cu_cl_sh v_t_cu_cl_fw v_t_cu_cl_fp v_t_cu_cl_fn a_t_cu_cl_cmd a_t_cu_cl_tim a_t_cu_cl_hel v_t_cu_cl_rt v_t_cu_cl_wd v_t_cu_cl_pd a_t_cu_cl_dir v_t_cu_cl_ss v_t_cu_cl_rs a_t_cu_cl_seg), (a_t_cu_cl_sh, oX2 v_t_cu_cl_sh_nd v_t_cu_cl_sh_sn), (a_t_cu_cl_cmd, rI cI 8 v_t_cu_cl_cmd), (a_t_cu_cl_tim, rI cI 8 v_t_cu_cl_tim), (a_t_cu_cl_hel, rI cI 8 v_t_cu_cl_hel), (a_t_cu_cl_dir, rI cI 8 v_t_cu_cl_dir), (a_t_cu_cl_seg, rI cI 8 v_t_cu_cl_seg)]
def fX5_advance_L16 (v_t_cu_cl_fw : Int32) (v_t_cu_cl_fp : Int32) (v_t_cu_cl_fn : Int32) (v_t_cu_cl_rt : Int32) (v_t_cu_cl_sh_nd : Int32) (v_t_cu_cl_cmd : Nat → Int32) (p1 : Int32) (K : Int32 → Int32 → Int32 → Int32 → Int32 → Int32 → (Nat → Int32) → (Nat → Int32) → (Nat → Int32) → (Nat → Int32) → Option (Int32 × Int32 × Int32 × Int32 × Int32 × Int32 × (Nat → Int32) × (Nat → Int32) × (Nat → Int32) × (Nat → Int32))) : Nat → Int32 → Int32 → Int32 → Int32 → Int32 → Int32 → (Nat → Int32) → (Nat → Int32) → (Nat → Int32) → (Nat → Int32) → Option (Int32 × Int32 × Int32 × Int32 × Int32 × Int32 × (Nat → Int32) × (Nat → Int32) × (Nat → Int32) × (Nat → Int32))
  | 0, _, _, _, _, _, _, _, _, _, _ => none
  | k + 1, x2_16, v_t_cu_tm_16, v_t_cu_cl_wd_16, v_t_cu_cl_pd_16, v_t_cu_cl_ss_16, v_t_cu_cl_rs_16, v_t_cu_cl_tim_16, v_t_cu_cl_hel_16, v_t_cu_cl_dir_16, v_t_cu_cl_seg_16 => (if p1 ≤ x2_16 then (K x2_16 v_t_cu_tm_16 v_t_cu_cl_wd_16 v_t_cu_cl_pd_16 v_t_cu_cl_ss_16 v_t_cu_cl_rs_16 v_t_cu_cl_tim_16 v_t_cu_cl_hel_16 v_t_cu_cl_dir_16 v_t_cu_cl_seg_16) else ((fX3_passSecond v_t_cu_tm_16 v_t_cu_cl_fw v_t_cu_cl_fp v_t_cu_cl_fn v_t_cu_cl_rt v_t_cu_cl_wd_16 v_t_cu_cl_pd_16 v_t_cu_cl_ss_16 v_t_cu_cl_rs_16 v_t_cu_cl_sh_nd v_t_cu_cl_cmd v_t_cu_cl_tim_16 v_t_cu_cl_hel_16 v_t_cu_cl_dir_16 v_t_cu_cl_seg_16).bind (fun q25 => (fX5_advance_L16 v_t_cu_cl_fw v_t_cu_cl_fp v_t_cu_cl_fn v_t_cu_cl_rt v_t_cu_cl_sh_nd v_t_cu_cl_cmd p1 K k (x2_16 + nI 1) q25.1 q25.2.1 q25.2.2.1 q25.2.2.2.1 q25.2.2.2.2.1 q25.2.2.2.2.2.1 q25.2.2.2.2.2.2.1 q25.2.2.2.2.2.2.2.1 q25.2.2.2.2.2.2.2.2))))
def fX5_advance (v_t_cu_tm : Int32) (v_t_cu_cl_fw : Int32) (v_t_cu_cl_fp : Int32) (v_t_cu_cl_fn : Int32) (v_t_cu_cl_rt : Int32) (v_t_cu_cl_wd : Int32) (v_t_cu_cl_pd : Int32) (v_t_cu_cl_ss : Int32) (v_t_cu_cl_rs : Int32) (v_t_cu_cl_sh_nd : Int32) (v_t_cu_cl_cmd : Nat → Int32) (v_t_cu_cl_tim : Nat → Int32) (v_t_cu_cl_hel : Nat → Int32) (v_t_cu_cl_dir : Nat → Int32) (v_t_cu_cl_seg : Nat → Int32) (p1 : Int32) : Option (Int32 × Int32 × Int32 × Int32 × Int32 × Int32 × (Nat → Int32) × (Nat → Int32) × (Nat → Int32) × (Nat → Int32)) := (if p1 < (nI 1) then (some ((-4), v_t_cu_tm, v_t_cu_cl_wd, v_t_cu_cl_pd, v_t_cu_cl_ss, v_t_cu_cl_rs, v_t_cu_cl_tim, v_t_cu_cl_hel, v_t_cu_cl_dir, v_t_cu_cl_seg)) else (if p1 ≤ (nI 100) then (fX5_advance_L16 v_t_cu_cl_fw v_t_cu_cl_fp v_t_cu_cl_fn v_t_cu_cl_rt v_t_cu_cl_sh_nd v_t_cu_cl_cmd p1 (fun x2_16 v_t_cu_tm_16 v_t_cu_cl_wd_16 v_t_cu_cl_pd_16 v_t_cu_cl_ss_16 v_t_cu_cl_rs_16 v_t_cu_cl_tim_16 v_t_cu_cl_hel_16 v_t_cu_cl_dir_16 v_t_cu_cl_seg_16 => (some (v_t_cu_tm_16, v_t_cu_tm_16, v_t_cu_cl_wd_16, v_t_cu_cl_pd_16, v_t_cu_cl_ss_16, v_t_cu_cl_rs_16, v_t_cu_cl_tim_16, v_t_cu_cl_hel_16, v_t_cu_cl_dir_16, v_t_cu_cl_seg_16))) FU 0 v_t_cu_tm v_t_cu_cl_wd v_t_cu_cl_pd v_t_cu_cl_ss v_t_cu_cl_rs v_t_cu_cl_tim v_t_cu_cl_hel v_t_cu_cl_dir v_t_cu_cl_seg) else (some ((-4), v_t_cu_tm, v_t_cu_cl_wd, v_t_cu_cl_pd, v_t_cu_cl_ss, v_t_cu_cl_rs, v_t_cu_cl_tim, v_t_cu_cl_hel, v_t_cu_cl_dir, v_t_cu_cl_seg))))
theorem kd_X5_advance : yX5_advance.cls = RX5 ∧ yX5_advance.cls ≠ "java/lang/invoke/MethodHandle" ∧ yX5_advance.cls ≠ "java/lang/invoke/VarHandle" ∧ (parseMethodDescriptor yX5_advance.desc).map (fun d => d.parameters.length) = some 1 := by decide +kernel
def rm_X5_advance : Room := { frames := 6, cells := 0, slots := 0, locals := 128 }
set_option maxHeartbeats 4000000 in
set_option maxRecDepth 100000 in
theorem k_X5_advance (l : Launch) (D : va_G) (cI cZ : ClassId) (a_t a_t_cu a_t_tr a_t_s0 a_t_s1 a_t_cu_ct a_t_cu_cl a_t_cu_cl_sh a_t_cu_cl_cmd a_t_cu_cl_tim a_t_cu_cl_hel a_t_cu_cl_dir a_t_cu_cl_seg : Nat) (v_t_cu_tm : Int32) (v_t_cu_cl_fw : Int32) (v_t_cu_cl_fp : Int32) (v_t_cu_cl_fn : Int32) (v_t_cu_cl_rt : Int32) (v_t_cu_cl_wd : Int32) (v_t_cu_cl_pd : Int32) (v_t_cu_cl_ss : Int32) (v_t_cu_cl_rs : Int32) (v_t_cu_cl_sh_nd : Int32) (v_t_cu_cl_sh_sn : Int32) (v_t_cu_cl_cmd : Nat → Int32) (v_t_cu_cl_tim : Nat → Int32) (v_t_cu_cl_hel : Nat → Int32) (v_t_cu_cl_dir : Nat → Int32) (v_t_cu_cl_seg : Nat → Int32) (p1 : Int32) (q : Int32 × Int32 × Int32 × Int32 × Int32 × Int32 × (Nat → Int32) × (Nat → Int32) × (Nat → Int32) × (Nat → Int32)) (hf : fX5_advance v_t_cu_tm v_t_cu_cl_fw v_t_cu_cl_fp v_t_cu_cl_fn v_t_cu_cl_rt v_t_cu_cl_wd v_t_cu_cl_pd v_t_cu_cl_ss v_t_cu_cl_rs v_t_cu_cl_sh_nd v_t_cu_cl_cmd v_t_cu_cl_tim v_t_cu_cl_hel v_t_cu_cl_dir v_t_cu_cl_seg p1 = some q) : CI l D cI cZ yX5_advance wsX5_advance rm_X5_advance [.ref a_t, .int p1] (wo_X5_advance cI cZ a_t a_t_cu a_t_tr a_t_s0 a_t_s1 a_t_cu_ct a_t_cu_cl a_t_cu_cl_sh a_t_cu_cl_cmd a_t_cu_cl_tim a_t_cu_cl_hel a_t_cu_cl_dir a_t_cu_cl_seg v_t_cu_tm v_t_cu_cl_fw v_t_cu_cl_fp v_t_cu_cl_fn v_t_cu_cl_rt v_t_cu_cl_wd v_t_cu_cl_pd v_t_cu_cl_ss v_t_cu_cl_rs v_t_cu_cl_sh_nd v_t_cu_cl_sh_sn v_t_cu_cl_cmd v_t_cu_cl_tim v_t_cu_cl_hel v_t_cu_cl_dir v_t_cu_cl_seg) (wo_X5_advance cI cZ a_t a_t_cu a_t_tr a_t_s0 a_t_s1 a_t_cu_ct a_t_cu_cl a_t_cu_cl_sh a_t_cu_cl_cmd a_t_cu_cl_tim a_t_cu_cl_hel a_t_cu_cl_dir a_t_cu_cl_seg q.2.1 v_t_cu_cl_fw v_t_cu_cl_fp v_t_cu_cl_fn v_t_cu_cl_rt q.2.2.1 q.2.2.2.1 q.2.2.2.2.1 q.2.2.2.2.2.1 v_t_cu_cl_sh_nd v_t_cu_cl_sh_sn v_t_cu_cl_cmd q.2.2.2.2.2.2.1 q.2.2.2.2.2.2.2.1 q.2.2.2.2.2.2.2.2.1 q.2.2.2.2.2.2.2.2.2) q.1 := by
  refine CI.mk (cc := cX5_advance) (maxL := 3) (by decide) rfl (Nat.le_of_ble_eq_true rfl) ?_
  intro p e s m below meth c ls A X hP hD hl hS
  have hx := X.1.1
  have hb := X.1.2.1
  have hl : lv_has ls 3 [(0, .ref a_t), (1, .int p1)] := hl
  have inX3 : ∀ w ∈ u_ws RX3 TX3 4, w ∈ wsX5_advance := fun _ h => List.mem_cons_of_mem _ (List.mem_append_left _ (List.mem_append_left _ (List.mem_append_right _ h)))
  have inX5 : ∀ w ∈ u_ws RX5 TX5 4, w ∈ wsX5_advance := fun _ h => List.mem_cons_of_mem _ (List.mem_append_left _ (List.mem_append_left _ (List.mem_append_left _ (List.mem_append_right _ h))))
  have L16 : ∀ (K : Int32 → Int32 → Int32 → Int32 → Int32 → Int32 → (Nat → Int32) → (Nat → Int32) → (Nat → Int32) → (Nat → Int32) → Option (Int32 × Int32 × Int32 × Int32 × Int32 × Int32 × (Nat → Int32) × (Nat → Int32) × (Nat → Int32) × (Nat → Int32))) (hKK : ∀ (x2_16 : Int32) (v_t_cu_tm_16 : Int32) (v_t_cu_cl_wd_16 : Int32) (v_t_cu_cl_pd_16 : Int32) (v_t_cu_cl_ss_16 : Int32) (v_t_cu_cl_rs_16 : Int32) (v_t_cu_cl_tim_16 : Nat → Int32) (v_t_cu_cl_hel_16 : Nat → Int32) (v_t_cu_cl_dir_16 : Nat → Int32) (v_t_cu_cl_seg_16 : Nat → Int32) (H : Heap) (locs : List Loc) (ls : Array Slot), K x2_16 v_t_cu_tm_16 v_t_cu_cl_wd_16 v_t_cu_cl_pd_16 v_t_cu_cl_ss_16 v_t_cu_cl_rs_16 v_t_cu_cl_tim_16 v_t_cu_cl_hel_16 v_t_cu_cl_dir_16 v_t_cu_cl_seg_16 = some q → va_P D vwCl (wo_X5_advance cI cZ a_t a_t_cu a_t_tr a_t_s0 a_t_s1 a_t_cu_ct a_t_cu_cl a_t_cu_cl_sh a_t_cu_cl_cmd a_t_cu_cl_tim a_t_cu_cl_hel a_t_cu_cl_dir a_t_cu_cl_seg v_t_cu_tm_16 v_t_cu_cl_fw v_t_cu_cl_fp v_t_cu_cl_fn v_t_cu_cl_rt v_t_cu_cl_wd_16 v_t_cu_cl_pd_16 v_t_cu_cl_ss_16 v_t_cu_cl_rs_16 v_t_cu_cl_sh_nd v_t_cu_cl_sh_sn v_t_cu_cl_cmd v_t_cu_cl_tim_16 v_t_cu_cl_hel_16 v_t_cu_cl_dir_16 v_t_cu_cl_seg_16) H → va_D A (wo_X5_advance cI cZ a_t a_t_cu a_t_tr a_t_s0 a_t_s1 a_t_cu_ct a_t_cu_cl a_t_cu_cl_sh a_t_cu_cl_cmd a_t_cu_cl_tim a_t_cu_cl_hel a_t_cu_cl_dir a_t_cu_cl_seg v_t_cu_tm_16 v_t_cu_cl_fw v_t_cu_cl_fp v_t_cu_cl_fn v_t_cu_cl_rt v_t_cu_cl_wd_16 v_t_cu_cl_pd_16 v_t_cu_cl_ss_16 v_t_cu_cl_rs_16 v_t_cu_cl_sh_nd v_t_cu_cl_sh_sn v_t_cu_cl_cmd v_t_cu_cl_tim_16 v_t_cu_cl_hel_16 v_t_cu_cl_dir_16 v_t_cu_cl_seg_16) → va_S A s.heap H locs → lv_has ls 3 [(0, .ref a_t)] → W p l e rm_X5_advance s m ([.ref a_t, .int p1] : List Value).toArray below meth c H locs 0 0 (MQ below (QI D (wo_X5_advance cI cZ a_t a_t_cu a_t_tr a_t_s0 a_t_s1 a_t_cu_ct a_t_cu_cl a_t_cu_cl_sh a_t_cu_cl_cmd a_t_cu_cl_tim a_t_cu_cl_hel a_t_cu_cl_dir a_t_cu_cl_seg q.2.1 v_t_cu_cl_fw v_t_cu_cl_fp v_t_cu_cl_fn v_t_cu_cl_rt q.2.2.1 q.2.2.2.1 q.2.2.2.2.1 q.2.2.2.2.2.1 v_t_cu_cl_sh_nd v_t_cu_cl_sh_sn v_t_cu_cl_cmd q.2.2.2.2.2.2.1 q.2.2.2.2.2.2.2.1 q.2.2.2.2.2.2.2.2.1 q.2.2.2.2.2.2.2.2.2) q.1 A) ([.ref a_t, .int p1] : List Value).toArray s 0 0 A) (F0 m 34 ls [])) (k : Nat) (x2_16 : Int32) (v_t_cu_tm_16 : Int32) (v_t_cu_cl_wd_16 : Int32) (v_t_cu_cl_pd_16 : Int32) (v_t_cu_cl_ss_16 : Int32) (v_t_cu_cl_rs_16 : Int32) (v_t_cu_cl_tim_16 : Nat → Int32) (v_t_cu_cl_hel_16 : Nat → Int32) (v_t_cu_cl_dir_16 : Nat → Int32) (v_t_cu_cl_seg_16 : Nat → Int32) (H : Heap) (locs : List Loc) (ls : Array Slot), fX5_advance_L16 v_t_cu_cl_fw v_t_cu_cl_fp v_t_cu_cl_fn v_t_cu_cl_rt v_t_cu_cl_sh_nd v_t_cu_cl_cmd p1 K k x2_16 v_t_cu_tm_16 v_t_cu_cl_wd_16 v_t_cu_cl_pd_16 v_t_cu_cl_ss_16 v_t_cu_cl_rs_16 v_t_cu_cl_tim_16 v_t_cu_cl_hel_16 v_t_cu_cl_dir_16 v_t_cu_cl_seg_16 = some q → va_P D vwCl (wo_X5_advance cI cZ a_t a_t_cu a_t_tr a_t_s0 a_t_s1 a_t_cu_ct a_t_cu_cl a_t_cu_cl_sh a_t_cu_cl_cmd a_t_cu_cl_tim a_t_cu_cl_hel a_t_cu_cl_dir a_t_cu_cl_seg v_t_cu_tm_16 v_t_cu_cl_fw v_t_cu_cl_fp v_t_cu_cl_fn v_t_cu_cl_rt v_t_cu_cl_wd_16 v_t_cu_cl_pd_16 v_t_cu_cl_ss_16 v_t_cu_cl_rs_16 v_t_cu_cl_sh_nd v_t_cu_cl_sh_sn v_t_cu_cl_cmd v_t_cu_cl_tim_16 v_t_cu_cl_hel_16 v_t_cu_cl_dir_16 v_t_cu_cl_seg_16) H → va_D A (wo_X5_advance cI cZ a_t a_t_cu a_t_tr a_t_s0 a_t_s1 a_t_cu_ct a_t_cu_cl a_t_cu_cl_sh a_t_cu_cl_cmd a_t_cu_cl_tim a_t_cu_cl_hel a_t_cu_cl_dir a_t_cu_cl_seg v_t_cu_tm_16 v_t_cu_cl_fw v_t_cu_cl_fp v_t_cu_cl_fn v_t_cu_cl_rt v_t_cu_cl_wd_16 v_t_cu_cl_pd_16 v_t_cu_cl_ss_16 v_t_cu_cl_rs_16 v_t_cu_cl_sh_nd v_t_cu_cl_sh_sn v_t_cu_cl_cmd v_t_cu_cl_tim_16 v_t_cu_cl_hel_16 v_t_cu_cl_dir_16 v_t_cu_cl_seg_16) → va_S A s.heap H locs → lv_has ls 3 [(0, .ref a_t), (1, .int p1), (2, .int x2_16)] → W p l e rm_X5_advance s m ([.ref a_t, .int p1] : List Value).toArray below meth c H locs 0 0 (MQ below (QI D (wo_X5_advance cI cZ a_t a_t_cu a_t_tr a_t_s0 a_t_s1 a_t_cu_ct a_t_cu_cl a_t_cu_cl_sh a_t_cu_cl_cmd a_t_cu_cl_tim a_t_cu_cl_hel a_t_cu_cl_dir a_t_cu_cl_seg q.2.1 v_t_cu_cl_fw v_t_cu_cl_fp v_t_cu_cl_fn v_t_cu_cl_rt q.2.2.1 q.2.2.2.1 q.2.2.2.2.1 q.2.2.2.2.2.1 v_t_cu_cl_sh_nd v_t_cu_cl_sh_sn v_t_cu_cl_cmd q.2.2.2.2.2.2.1 q.2.2.2.2.2.2.2.1 q.2.2.2.2.2.2.2.2.1 q.2.2.2.2.2.2.2.2.2) q.1 A) ([.ref a_t, .int p1] : List Value).toArray s 0 0 A) (F0 m 16 ls []) := by
    intro K hKK k
    induction k with
    | zero => intro x2_16 v_t_cu_tm_16 v_t_cu_cl_wd_16 v_t_cu_cl_pd_16 v_t_cu_cl_ss_16 v_t_cu_cl_rs_16 v_t_cu_cl_tim_16 v_t_cu_cl_hel_16 v_t_cu_cl_dir_16 v_t_cu_cl_seg_16 H locs ls hf; rw [fX5_advance_L16] at hf; cases hf
    | succ k ih =>
      intro x2_16 v_t_cu_tm_16 v_t_cu_cl_wd_16 v_t_cu_cl_pd_16 v_t_cu_cl_ss_16 v_t_cu_cl_rs_16 v_t_cu_cl_tim_16 v_t_cu_cl_hel_16 v_t_cu_cl_dir_16 v_t_cu_cl_seg_16 H locs ls hf hP hD hS hl
      rw [fX5_advance_L16] at hf
      refine lv_iload_n hx hb dX5_advance_16 rfl (lv_at hl 2 rfl) ?_
      refine lv_iload_n hx hb dX5_advance_17 rfl (lv_at hl 1 rfl) ?_
      refine lv_icmp_ge (tgt := 34) hx hb dX5_advance_18 (by decide) (fun hc => ?_) (fun hc => ?_)
      · replace hf := ifp hc hf
        exact hKK _ _ _ _ _ _ _ _ _ _ _ _ ls hf hP hD hS (lv_sub hl [0] rfl)
      · replace hf := ifn hc hf
        refine lv_aload_n hx hb dX5_advance_21 rfl (lv_at hl 0 rfl) ?_
        refine getO X hP inX5 0 rfl rfl 0 (by decide) (List.mem_of_getElem? (i := 1) rfl) rfl dX5_advance_22 ?_
        obtain ⟨q25, e25, hf⟩ := bnd hf
        refine callVV X (k_X3_passSecond l D cI cZ a_t_cu a_t_cu_ct a_t_cu_cl a_t_cu_cl_sh a_t_cu_cl_cmd a_t_cu_cl_tim a_t_cu_cl_hel a_t_cu_cl_dir a_t_cu_cl_seg  v_t_cu_tm_16 v_t_cu_cl_fw v_t_cu_cl_fp v_t_cu_cl_fn v_t_cu_cl_rt v_t_cu_cl_wd_16 v_t_cu_cl_pd_16 v_t_cu_cl_ss_16 v_t_cu_cl_rs_16 v_t_cu_cl_sh_nd v_t_cu_cl_sh_sn v_t_cu_cl_cmd v_t_cu_cl_tim_16 v_t_cu_cl_hel_16 v_t_cu_cl_dir_16 v_t_cu_cl_seg_16  q25 e25) (cwV 0 X.1.2.2.2.2 gX5_advance_X3_passSecond rfl rfl rfl kd_X3_passSecond ⟨Nat.le_of_ble_eq_true rfl, Nat.le_of_ble_eq_true rfl⟩) hP hD hS hl.1 1 3 rfl rfl [1, 2, 3, 4, 5, 6, 7, 8] (by decide) (wo_X5_advance cI cZ a_t a_t_cu a_t_tr a_t_s0 a_t_s1 a_t_cu_ct a_t_cu_cl a_t_cu_cl_sh a_t_cu_cl_cmd a_t_cu_cl_tim a_t_cu_cl_hel a_t_cu_cl_dir a_t_cu_cl_seg q25.1 v_t_cu_cl_fw v_t_cu_cl_fp v_t_cu_cl_fn v_t_cu_cl_rt q25.2.1 q25.2.2.1 q25.2.2.2.1 q25.2.2.2.2.1 v_t_cu_cl_sh_nd v_t_cu_cl_sh_sn v_t_cu_cl_cmd q25.2.2.2.2.2.1 q25.2.2.2.2.2.2.1 q25.2.2.2.2.2.2.2.1 q25.2.2.2.2.2.2.2.2) rfl rfl rfl rfl rfl (rest := []) rfl (Nat.le_of_ble_eq_true rfl) dX5_advance_25 ⟨Nat.zero_le _, Nat.zero_le _⟩ (fun H locs hP hD hS => ?_)
        refine lv_iinc (v := (x2_16 + nI 1)) (lv' := [(2, .int (x2_16 + nI 1)), (0, .ref a_t), (1, .int p1)]) hx hb dX5_advance_28 hl (k := 2) rfl (inc_1 _) (by decide) rfl (fun ls hl => ?_)
        refine lv_goto (tgt := 16) hx hb dX5_advance_31 (by decide) ?_
        exact ih _ _ _ _ _ _ _ _ _ _ _ _ ls hf hP hD hS (lv_sub hl [1, 2, 0] rfl)
  unfold fX5_advance at hf
  refine lv_iload_n hx hb dX5_advance_0 rfl (lv_at hl 1 rfl) ?_
  refine lv_iconst hx hb dX5_advance_1 ic_1 ?_
  refine lv_icmp_lt (tgt := 11) hx hb dX5_advance_2 (by decide) (fun hc => ?_) (fun hc => ?_)
  · replace hf := ifp hc hf
    refine lv_bipush hx hb dX5_advance_11 bp_m4 ?_
    obtain rfl := Option.some.inj hf
    exact retI X hS hP rfl dX5_advance_13
  · replace hf := ifn hc hf
    refine lv_iload_n hx hb dX5_advance_5 rfl (lv_at hl 1 rfl) ?_
    refine lv_bipush hx hb dX5_advance_6 bp_100 ?_
    refine lv_icmp_le (tgt := 14) hx hb dX5_advance_8 (by decide) (fun hc => ?_) (fun hc => ?_)
    · replace hf := ifp hc hf
      refine lv_iconst hx hb dX5_advance_14 ic_0 ?_
      refine lv_istore_n (lv' := [(2, .int 0), (0, .ref a_t), (1, .int p1)]) hx hb dX5_advance_15 rfl hl (by decide) rfl (fun ls hl => ?_)
      refine L16 _ (fun x2_16 v_t_cu_tm_16 v_t_cu_cl_wd_16 v_t_cu_cl_pd_16 v_t_cu_cl_ss_16 v_t_cu_cl_rs_16 v_t_cu_cl_tim_16 v_t_cu_cl_hel_16 v_t_cu_cl_dir_16 v_t_cu_cl_seg_16 H locs ls hf hP hD hS hl => ?_) FU _ _ _ _ _ _ _ _ _ _ _ _ ls hf hP hD hS (lv_sub hl [1, 2, 0] rfl)
      refine lv_aload_n hx hb dX5_advance_34 rfl (lv_at hl 0 rfl) ?_
      refine getO X hP inX5 0 rfl rfl 0 (by decide) (List.mem_of_getElem? (i := 1) rfl) rfl dX5_advance_35 ?_
      refine getN X hP inX3 1 rfl rfl 3 (by decide) 17 rfl rfl dX5_advance_38 ?_
      obtain rfl := Option.some.inj hf
      exact retI X hS hP rfl dX5_advance_41
    · replace hf := ifn hc hf
      refine lv_bipush hx hb dX5_advance_11 bp_m4 ?_
      obtain rfl := Option.some.inj hf
      exact retI X hS hP rfl dX5_advance_13

abbrev wo_X5_clock (cI cZ : ClassId) (a_t a_t_cu a_t_tr a_t_s0 a_t_s1 a_t_cu_ct a_t_cu_cl a_t_cu_cl_sh : Nat) (v_t_cu_tm : Int32) : va_W := [(a_t, oX5 a_t_cu a_t_tr a_t_s0 a_t_s1), (a_t_cu, oX3 a_t_cu_ct a_t_cu_cl a_t_cu_cl_sh v_t_cu_tm)]
def fX5_clock (v_t_cu_tm : Int32) : Option (Int32) := (some v_t_cu_tm)
theorem kd_X5_clock : yX5_clock.cls = RX5 ∧ yX5_clock.cls ≠ "java/lang/invoke/MethodHandle" ∧ yX5_clock.cls ≠ "java/lang/invoke/VarHandle" ∧ (parseMethodDescriptor yX5_clock.desc).map (fun d => d.parameters.length) = some 0 := by decide +kernel
def rm_X5_clock : Room := { frames := 0, cells := 0, slots := 0, locals := 0 }
set_option maxHeartbeats 4000000 in
set_option maxRecDepth 100000 in
theorem k_X5_clock (l : Launch) (D : va_G) (cI cZ : ClassId) (a_t a_t_cu a_t_tr a_t_s0 a_t_s1 a_t_cu_ct a_t_cu_cl a_t_cu_cl_sh : Nat) (v_t_cu_tm : Int32) (q : Int32) (hf : fX5_clock v_t_cu_tm = some q) : CI l D cI cZ yX5_clock wsX5_clock rm_X5_clock [.ref a_t] (wo_X5_clock cI cZ a_t a_t_cu a_t_tr a_t_s0 a_t_s1 a_t_cu_ct a_t_cu_cl a_t_cu_cl_sh v_t_cu_tm) (wo_X5_clock cI cZ a_t a_t_cu a_t_tr a_t_s0 a_t_s1 a_t_cu_ct a_t_cu_cl a_t_cu_cl_sh v_t_cu_tm) q := by
  refine CI.mk (cc := cX5_clock) (maxL := 1) (by decide) rfl (Nat.le_of_ble_eq_true rfl) ?_
  intro p e s m below meth c ls A X hP hD hl hS
  have hx := X.1.1
  have hb := X.1.2.1
  have hl : lv_has ls 1 [(0, .ref a_t)] := hl
  have inX3 : ∀ w ∈ u_ws RX3 TX3 4, w ∈ wsX5_clock := fun _ h => List.mem_cons_of_mem _ (List.mem_append_right _ h)
  have inX5 : ∀ w ∈ u_ws RX5 TX5 4, w ∈ wsX5_clock := fun _ h => List.mem_cons_of_mem _ (List.mem_append_left _ (List.mem_append_right _ h))
  unfold fX5_clock at hf
  refine lv_aload_n hx hb dX5_clock_0 rfl (lv_at hl 0 rfl) ?_
  refine getO X hP inX5 0 rfl rfl 0 (by decide) (List.mem_of_getElem? (i := 1) rfl) rfl dX5_clock_1 ?_
  refine getN X hP inX3 1 rfl rfl 3 (by decide) 17 rfl rfl dX5_clock_4 ?_
  obtain rfl := Option.some.inj hf
  exact retI X hS hP rfl dX5_clock_7

abbrev wo_X5_request (cI cZ : ClassId) (a_t a_t_cu a_t_tr a_t_s0 a_t_s1 a_t_cu_ct a_t_cu_cl a_t_cu_cl_sh a_t_cu_cl_cmd a_t_cu_cl_tim a_t_cu_cl_hel a_t_cu_cl_dir a_t_cu_cl_seg : Nat) (v_t_cu_tm : Int32) (v_t_cu_cl_fw : Int32) (v_t_cu_cl_fp : Int32) (v_t_cu_cl_fn : Int32) (v_t_cu_cl_rt : Int32) (v_t_cu_cl_wd : Int32) (v_t_cu_cl_pd : Int32) (v_t_cu_cl_ss : Int32) (v_t_cu_cl_rs : Int32) (v_t_cu_cl_sh_nd : Int32) (v_t_cu_cl_sh_sn : Int32) (v_t_cu_cl_tim : Nat → Int32) (v_t_cu_cl_hel : Nat → Int32) (v_t_cu_cl_dir : Nat → Int32) : va_W := [(a_t, oX5 a_t_cu a_t_tr a_t_s0 a_t_s1), (a_t_cu, oX3 a_t_cu_ct a_t_cu_cl a_t_cu_cl_sh v_t_cu_tm), (a_t_cu_cl, oX1 a_t_cu_cl_sh v_t_cu_cl_fw v_t_cu_cl_fp v_t_cu_cl_fn a_t_cu_cl_cmd a_t_cu_cl_tim a_t_cu_cl_hel v_t_cu_cl_rt v_t_cu_cl_wd v_t_cu_cl_pd a_t_cu_cl_dir v_t_cu_cl_ss v_t_cu_cl_rs a_t_cu_cl_seg), (a_t_cu_cl_sh, oX2 v_t_cu_cl_sh_nd v_t_cu_cl_sh_sn), (a_t_cu_cl_tim, rI cI 8 v_t_cu_cl_tim), (a_t_cu_cl_hel, rI cI 8 v_t_cu_cl_hel), (a_t_cu_cl_dir, rI cI 8 v_t_cu_cl_dir)]
def fX5_request (v_t_cu_cl_sh_nd : Int32) (v_t_cu_cl_tim : Nat → Int32) (v_t_cu_cl_hel : Nat → Int32) (v_t_cu_cl_dir : Nat → Int32) (p1 : Int32) : Option (Int32) := ((fX2_hasSpan v_t_cu_cl_sh_nd p1).bind (fun q8 => (if q8 = true then ((fX1_requestAt v_t_cu_cl_sh_nd v_t_cu_cl_tim v_t_cu_cl_hel v_t_cu_cl_dir p1).bind (fun q25 => (some q25))) else (some (-2)))))
theorem kd_X5_request : yX5_request.cls = RX5 ∧ yX5_request.cls ≠ "java/lang/invoke/MethodHandle" ∧ yX5_request.cls ≠ "java/lang/invoke/VarHandle" ∧ (parseMethodDescriptor yX5_request.desc).map (fun d => d.parameters.length) = some 1 := by decide +kernel
def rm_X5_request : Room := { frames := 2, cells := 0, slots := 0, locals := 43 }
set_option maxHeartbeats 4000000 in
set_option maxRecDepth 100000 in
theorem k_X5_request (l : Launch) (D : va_G) (cI cZ : ClassId) (a_t a_t_cu a_t_tr a_t_s0 a_t_s1 a_t_cu_ct a_t_cu_cl a_t_cu_cl_sh a_t_cu_cl_cmd a_t_cu_cl_tim a_t_cu_cl_hel a_t_cu_cl_dir a_t_cu_cl_seg : Nat) (v_t_cu_tm : Int32) (v_t_cu_cl_fw : Int32) (v_t_cu_cl_fp : Int32) (v_t_cu_cl_fn : Int32) (v_t_cu_cl_rt : Int32) (v_t_cu_cl_wd : Int32) (v_t_cu_cl_pd : Int32) (v_t_cu_cl_ss : Int32) (v_t_cu_cl_rs : Int32) (v_t_cu_cl_sh_nd : Int32) (v_t_cu_cl_sh_sn : Int32) (v_t_cu_cl_tim : Nat → Int32) (v_t_cu_cl_hel : Nat → Int32) (v_t_cu_cl_dir : Nat → Int32) (p1 : Int32) (q : Int32) (hf : fX5_request v_t_cu_cl_sh_nd v_t_cu_cl_tim v_t_cu_cl_hel v_t_cu_cl_dir p1 = some q) : CI l D cI cZ yX5_request wsX5_request rm_X5_request [.ref a_t, .int p1] (wo_X5_request cI cZ a_t a_t_cu a_t_tr a_t_s0 a_t_s1 a_t_cu_ct a_t_cu_cl a_t_cu_cl_sh a_t_cu_cl_cmd a_t_cu_cl_tim a_t_cu_cl_hel a_t_cu_cl_dir a_t_cu_cl_seg v_t_cu_tm v_t_cu_cl_fw v_t_cu_cl_fp v_t_cu_cl_fn v_t_cu_cl_rt v_t_cu_cl_wd v_t_cu_cl_pd v_t_cu_cl_ss v_t_cu_cl_rs v_t_cu_cl_sh_nd v_t_cu_cl_sh_sn v_t_cu_cl_tim v_t_cu_cl_hel v_t_cu_cl_dir) (wo_X5_request cI cZ a_t a_t_cu a_t_tr a_t_s0 a_t_s1 a_t_cu_ct a_t_cu_cl a_t_cu_cl_sh a_t_cu_cl_cmd a_t_cu_cl_tim a_t_cu_cl_hel a_t_cu_cl_dir a_t_cu_cl_seg v_t_cu_tm v_t_cu_cl_fw v_t_cu_cl_fp v_t_cu_cl_fn v_t_cu_cl_rt v_t_cu_cl_wd v_t_cu_cl_pd v_t_cu_cl_ss v_t_cu_cl_rs v_t_cu_cl_sh_nd v_t_cu_cl_sh_sn v_t_cu_cl_tim v_t_cu_cl_hel v_t_cu_cl_dir) q := by
  refine CI.mk (cc := cX5_request) (maxL := 2) (by decide) rfl (Nat.le_of_ble_eq_true rfl) ?_
  intro p e s m below meth c ls A X hP hD hl hS
  have hx := X.1.1
  have hb := X.1.2.1
  have hl : lv_has ls 2 [(0, .ref a_t), (1, .int p1)] := hl
  have inX3 : ∀ w ∈ u_ws RX3 TX3 4, w ∈ wsX5_request := fun _ h => List.mem_cons_of_mem _ (List.mem_append_left _ (List.mem_append_left _ (List.mem_append_right _ h)))
  have inX5 : ∀ w ∈ u_ws RX5 TX5 4, w ∈ wsX5_request := fun _ h => List.mem_cons_of_mem _ (List.mem_append_left _ (List.mem_append_left _ (List.mem_append_left _ (List.mem_append_right _ h))))
  unfold fX5_request at hf
  refine lv_aload_n hx hb dX5_request_0 rfl (lv_at hl 0 rfl) ?_
  refine getO X hP inX5 0 rfl rfl 0 (by decide) (List.mem_of_getElem? (i := 1) rfl) rfl dX5_request_1 ?_
  refine getN X hP inX3 1 rfl rfl 2 (by decide) 16 rfl rfl dX5_request_4 ?_
  refine lv_iload_n hx hb dX5_request_7 rfl (lv_at hl 1 rfl) ?_
  obtain ⟨q8, e8, hf⟩ := bnd hf
  refine callVI X (k_X2_hasSpan l D cI cZ a_t_cu_cl_sh  v_t_cu_cl_sh_nd v_t_cu_cl_sh_sn p1 q8 e8) (cwV 1 X.1.2.2.2.2 gX5_request_X2_hasSpan rfl rfl rfl kd_X2_hasSpan ⟨Nat.le_of_ble_eq_true rfl, Nat.le_of_ble_eq_true rfl⟩) hP hD hS hl.1 3 2 rfl rfl [3] (by decide) (wo_X5_request cI cZ a_t a_t_cu a_t_tr a_t_s0 a_t_s1 a_t_cu_ct a_t_cu_cl a_t_cu_cl_sh a_t_cu_cl_cmd a_t_cu_cl_tim a_t_cu_cl_hel a_t_cu_cl_dir a_t_cu_cl_seg v_t_cu_tm v_t_cu_cl_fw v_t_cu_cl_fp v_t_cu_cl_fn v_t_cu_cl_rt v_t_cu_cl_wd v_t_cu_cl_pd v_t_cu_cl_ss v_t_cu_cl_rs v_t_cu_cl_sh_nd v_t_cu_cl_sh_sn v_t_cu_cl_tim v_t_cu_cl_hel v_t_cu_cl_dir) rfl rfl rfl rfl rfl (rest := []) rfl (Nat.le_of_ble_eq_true rfl) dX5_request_8 ⟨Nat.zero_le _, Nat.zero_le _⟩ (fun H locs hP hD hS => ?_)
  refine lv_if_ne (tgt := 17) hx hb dX5_request_11 (by decide) (fun hc => ?_) (fun hc => ?_)
  · replace hf := ifp (b2i_nz hc) hf
    refine lv_aload_n hx hb dX5_request_17 rfl (lv_at hl 0 rfl) ?_
    refine getO X hP inX5 0 rfl rfl 0 (by decide) (List.mem_of_getElem? (i := 1) rfl) rfl dX5_request_18 ?_
    refine getN X hP inX3 1 rfl rfl 1 (by decide) 15 rfl rfl dX5_request_21 ?_
    refine lv_iload_n hx hb dX5_request_24 rfl (lv_at hl 1 rfl) ?_
    obtain ⟨q25, e25, hf⟩ := bnd hf
    refine callVI X (k_X1_requestAt l D cI cZ a_t_cu_cl a_t_cu_cl_sh a_t_cu_cl_cmd a_t_cu_cl_tim a_t_cu_cl_hel a_t_cu_cl_dir a_t_cu_cl_seg  v_t_cu_cl_fw v_t_cu_cl_fp v_t_cu_cl_fn v_t_cu_cl_rt v_t_cu_cl_wd v_t_cu_cl_pd v_t_cu_cl_ss v_t_cu_cl_rs v_t_cu_cl_sh_nd v_t_cu_cl_sh_sn v_t_cu_cl_tim v_t_cu_cl_hel v_t_cu_cl_dir p1 q25 e25) (cwV 1 X.1.2.2.2.2 gX5_request_X1_requestAt rfl rfl rfl kd_X1_requestAt ⟨Nat.le_of_ble_eq_true rfl, Nat.le_of_ble_eq_true rfl⟩) hP hD hS hl.1 2 1 rfl rfl [2, 3, 4, 5, 6] (by decide) (wo_X5_request cI cZ a_t a_t_cu a_t_tr a_t_s0 a_t_s1 a_t_cu_ct a_t_cu_cl a_t_cu_cl_sh a_t_cu_cl_cmd a_t_cu_cl_tim a_t_cu_cl_hel a_t_cu_cl_dir a_t_cu_cl_seg v_t_cu_tm v_t_cu_cl_fw v_t_cu_cl_fp v_t_cu_cl_fn v_t_cu_cl_rt v_t_cu_cl_wd v_t_cu_cl_pd v_t_cu_cl_ss v_t_cu_cl_rs v_t_cu_cl_sh_nd v_t_cu_cl_sh_sn v_t_cu_cl_tim v_t_cu_cl_hel v_t_cu_cl_dir) rfl rfl rfl rfl rfl (rest := []) rfl (Nat.le_of_ble_eq_true rfl) dX5_request_25 ⟨Nat.zero_le _, Nat.zero_le _⟩ (fun H locs hP hD hS => ?_)
    obtain rfl := Option.some.inj hf
    exact retI X hS hP rfl dX5_request_28
  · replace hf := ifn (b2i_z hc) hf
    refine lv_bipush hx hb dX5_request_14 bp_m2 ?_
    obtain rfl := Option.some.inj hf
    exact retI X hS hP rfl dX5_request_16

abbrev wo_X5_switchOf (cI cZ : ClassId) (a_t a_t_cu a_t_tr a_t_s0 a_t_s1 a_t_cu_ct a_t_cu_cl a_t_cu_cl_sh a_t_cu_cl_cmd a_t_cu_cl_tim a_t_cu_cl_hel a_t_cu_cl_dir a_t_cu_cl_seg : Nat) (v_t_cu_tm : Int32) (v_t_cu_cl_fw : Int32) (v_t_cu_cl_fp : Int32) (v_t_cu_cl_fn : Int32) (v_t_cu_cl_rt : Int32) (v_t_cu_cl_wd : Int32) (v_t_cu_cl_pd : Int32) (v_t_cu_cl_ss : Int32) (v_t_cu_cl_rs : Int32) (v_t_cu_cl_sh_nd : Int32) (v_t_cu_cl_sh_sn : Int32) : va_W := [(a_t, oX5 a_t_cu a_t_tr a_t_s0 a_t_s1), (a_t_cu, oX3 a_t_cu_ct a_t_cu_cl a_t_cu_cl_sh v_t_cu_tm), (a_t_cu_cl, oX1 a_t_cu_cl_sh v_t_cu_cl_fw v_t_cu_cl_fp v_t_cu_cl_fn a_t_cu_cl_cmd a_t_cu_cl_tim a_t_cu_cl_hel v_t_cu_cl_rt v_t_cu_cl_wd v_t_cu_cl_pd a_t_cu_cl_dir v_t_cu_cl_ss v_t_cu_cl_rs a_t_cu_cl_seg), (a_t_cu_cl_sh, oX2 v_t_cu_cl_sh_nd v_t_cu_cl_sh_sn)]
def fX5_switchOf (v_t_cu_cl_ss : Int32) (v_t_cu_cl_rs : Int32) (v_t_cu_cl_sh_nd : Int32) (p1 : Int32) : Option (Int32) := ((fX2_hasSpan v_t_cu_cl_sh_nd p1).bind (fun q8 => (if q8 = true then ((fX1_switchAt v_t_cu_cl_ss v_t_cu_cl_rs p1).bind (fun q25 => (some q25))) else (some (-2)))))
theorem kd_X5_switchOf : yX5_switchOf.cls = RX5 ∧ yX5_switchOf.cls ≠ "java/lang/invoke/MethodHandle" ∧ yX5_switchOf.cls ≠ "java/lang/invoke/VarHandle" ∧ (parseMethodDescriptor yX5_switchOf.desc).map (fun d => d.parameters.length) = some 1 := by decide +kernel
def rm_X5_switchOf : Room := { frames := 2, cells := 0, slots := 0, locals := 42 }
set_option maxHeartbeats 4000000 in
set_option maxRecDepth 100000 in
theorem k_X5_switchOf (l : Launch) (D : va_G) (cI cZ : ClassId) (a_t a_t_cu a_t_tr a_t_s0 a_t_s1 a_t_cu_ct a_t_cu_cl a_t_cu_cl_sh a_t_cu_cl_cmd a_t_cu_cl_tim a_t_cu_cl_hel a_t_cu_cl_dir a_t_cu_cl_seg : Nat) (v_t_cu_tm : Int32) (v_t_cu_cl_fw : Int32) (v_t_cu_cl_fp : Int32) (v_t_cu_cl_fn : Int32) (v_t_cu_cl_rt : Int32) (v_t_cu_cl_wd : Int32) (v_t_cu_cl_pd : Int32) (v_t_cu_cl_ss : Int32) (v_t_cu_cl_rs : Int32) (v_t_cu_cl_sh_nd : Int32) (v_t_cu_cl_sh_sn : Int32) (p1 : Int32) (q : Int32) (hf : fX5_switchOf v_t_cu_cl_ss v_t_cu_cl_rs v_t_cu_cl_sh_nd p1 = some q) : CI l D cI cZ yX5_switchOf wsX5_switchOf rm_X5_switchOf [.ref a_t, .int p1] (wo_X5_switchOf cI cZ a_t a_t_cu a_t_tr a_t_s0 a_t_s1 a_t_cu_ct a_t_cu_cl a_t_cu_cl_sh a_t_cu_cl_cmd a_t_cu_cl_tim a_t_cu_cl_hel a_t_cu_cl_dir a_t_cu_cl_seg v_t_cu_tm v_t_cu_cl_fw v_t_cu_cl_fp v_t_cu_cl_fn v_t_cu_cl_rt v_t_cu_cl_wd v_t_cu_cl_pd v_t_cu_cl_ss v_t_cu_cl_rs v_t_cu_cl_sh_nd v_t_cu_cl_sh_sn) (wo_X5_switchOf cI cZ a_t a_t_cu a_t_tr a_t_s0 a_t_s1 a_t_cu_ct a_t_cu_cl a_t_cu_cl_sh a_t_cu_cl_cmd a_t_cu_cl_tim a_t_cu_cl_hel a_t_cu_cl_dir a_t_cu_cl_seg v_t_cu_tm v_t_cu_cl_fw v_t_cu_cl_fp v_t_cu_cl_fn v_t_cu_cl_rt v_t_cu_cl_wd v_t_cu_cl_pd v_t_cu_cl_ss v_t_cu_cl_rs v_t_cu_cl_sh_nd v_t_cu_cl_sh_sn) q := by
  refine CI.mk (cc := cX5_switchOf) (maxL := 2) (by decide) rfl (Nat.le_of_ble_eq_true rfl) ?_
  intro p e s m below meth c ls A X hP hD hl hS
  have hx := X.1.1
  have hb := X.1.2.1
  have hl : lv_has ls 2 [(0, .ref a_t), (1, .int p1)] := hl
  have inX3 : ∀ w ∈ u_ws RX3 TX3 4, w ∈ wsX5_switchOf := fun _ h => List.mem_cons_of_mem _ (List.mem_append_left _ (List.mem_append_left _ (List.mem_append_right _ h)))
  have inX5 : ∀ w ∈ u_ws RX5 TX5 4, w ∈ wsX5_switchOf := fun _ h => List.mem_cons_of_mem _ (List.mem_append_left _ (List.mem_append_left _ (List.mem_append_left _ (List.mem_append_right _ h))))
  unfold fX5_switchOf at hf
  refine lv_aload_n hx hb dX5_switchOf_0 rfl (lv_at hl 0 rfl) ?_
  refine getO X hP inX5 0 rfl rfl 0 (by decide) (List.mem_of_getElem? (i := 1) rfl) rfl dX5_switchOf_1 ?_
  refine getN X hP inX3 1 rfl rfl 2 (by decide) 16 rfl rfl dX5_switchOf_4 ?_
  refine lv_iload_n hx hb dX5_switchOf_7 rfl (lv_at hl 1 rfl) ?_
  obtain ⟨q8, e8, hf⟩ := bnd hf
  refine callVI X (k_X2_hasSpan l D cI cZ a_t_cu_cl_sh  v_t_cu_cl_sh_nd v_t_cu_cl_sh_sn p1 q8 e8) (cwV 1 X.1.2.2.2.2 gX5_switchOf_X2_hasSpan rfl rfl rfl kd_X2_hasSpan ⟨Nat.le_of_ble_eq_true rfl, Nat.le_of_ble_eq_true rfl⟩) hP hD hS hl.1 3 2 rfl rfl [3] (by decide) (wo_X5_switchOf cI cZ a_t a_t_cu a_t_tr a_t_s0 a_t_s1 a_t_cu_ct a_t_cu_cl a_t_cu_cl_sh a_t_cu_cl_cmd a_t_cu_cl_tim a_t_cu_cl_hel a_t_cu_cl_dir a_t_cu_cl_seg v_t_cu_tm v_t_cu_cl_fw v_t_cu_cl_fp v_t_cu_cl_fn v_t_cu_cl_rt v_t_cu_cl_wd v_t_cu_cl_pd v_t_cu_cl_ss v_t_cu_cl_rs v_t_cu_cl_sh_nd v_t_cu_cl_sh_sn) rfl rfl rfl rfl rfl (rest := []) rfl (Nat.le_of_ble_eq_true rfl) dX5_switchOf_8 ⟨Nat.zero_le _, Nat.zero_le _⟩ (fun H locs hP hD hS => ?_)
  refine lv_if_ne (tgt := 17) hx hb dX5_switchOf_11 (by decide) (fun hc => ?_) (fun hc => ?_)
  · replace hf := ifp (b2i_nz hc) hf
    refine lv_aload_n hx hb dX5_switchOf_17 rfl (lv_at hl 0 rfl) ?_
    refine getO X hP inX5 0 rfl rfl 0 (by decide) (List.mem_of_getElem? (i := 1) rfl) rfl dX5_switchOf_18 ?_
    refine getN X hP inX3 1 rfl rfl 1 (by decide) 15 rfl rfl dX5_switchOf_21 ?_
    refine lv_iload_n hx hb dX5_switchOf_24 rfl (lv_at hl 1 rfl) ?_
    obtain ⟨q25, e25, hf⟩ := bnd hf
    refine callVI X (k_X1_switchAt l D cI cZ a_t_cu_cl a_t_cu_cl_sh a_t_cu_cl_cmd a_t_cu_cl_tim a_t_cu_cl_hel a_t_cu_cl_dir a_t_cu_cl_seg  v_t_cu_cl_fw v_t_cu_cl_fp v_t_cu_cl_fn v_t_cu_cl_rt v_t_cu_cl_wd v_t_cu_cl_pd v_t_cu_cl_ss v_t_cu_cl_rs p1 q25 e25) (cwV 1 X.1.2.2.2.2 gX5_switchOf_X1_switchAt rfl rfl rfl kd_X1_switchAt ⟨Nat.le_of_ble_eq_true rfl, Nat.le_of_ble_eq_true rfl⟩) hP hD hS hl.1 2 1 rfl rfl [2] (by decide) (wo_X5_switchOf cI cZ a_t a_t_cu a_t_tr a_t_s0 a_t_s1 a_t_cu_ct a_t_cu_cl a_t_cu_cl_sh a_t_cu_cl_cmd a_t_cu_cl_tim a_t_cu_cl_hel a_t_cu_cl_dir a_t_cu_cl_seg v_t_cu_tm v_t_cu_cl_fw v_t_cu_cl_fp v_t_cu_cl_fn v_t_cu_cl_rt v_t_cu_cl_wd v_t_cu_cl_pd v_t_cu_cl_ss v_t_cu_cl_rs v_t_cu_cl_sh_nd v_t_cu_cl_sh_sn) rfl rfl rfl rfl rfl (rest := []) rfl (Nat.le_of_ble_eq_true rfl) dX5_switchOf_25 ⟨Nat.zero_le _, Nat.zero_le _⟩ (fun H locs hP hD hS => ?_)
    obtain rfl := Option.some.inj hf
    exact retI X hS hP rfl dX5_switchOf_28
  · replace hf := ifn (b2i_z hc) hf
    refine lv_bipush hx hb dX5_switchOf_14 bp_m2 ?_
    obtain rfl := Option.some.inj hf
    exact retI X hS hP rfl dX5_switchOf_16

abbrev wo_X5_restoreTimer (cI cZ : ClassId) (a_t a_t_cu a_t_tr a_t_s0 a_t_s1 a_t_cu_ct a_t_cu_cl a_t_cu_cl_sh a_t_cu_cl_cmd a_t_cu_cl_tim a_t_cu_cl_hel a_t_cu_cl_dir a_t_cu_cl_seg : Nat) (v_t_cu_tm : Int32) (v_t_cu_cl_fw : Int32) (v_t_cu_cl_fp : Int32) (v_t_cu_cl_fn : Int32) (v_t_cu_cl_rt : Int32) (v_t_cu_cl_wd : Int32) (v_t_cu_cl_pd : Int32) (v_t_cu_cl_ss : Int32) (v_t_cu_cl_rs : Int32) (v_t_cu_cl_sh_nd : Int32) (v_t_cu_cl_sh_sn : Int32) (v_t_cu_cl_tim : Nat → Int32) : va_W := [(a_t, oX5 a_t_cu a_t_tr a_t_s0 a_t_s1), (a_t_cu, oX3 a_t_cu_ct a_t_cu_cl a_t_cu_cl_sh v_t_cu_tm), (a_t_cu_cl, oX1 a_t_cu_cl_sh v_t_cu_cl_fw v_t_cu_cl_fp v_t_cu_cl_fn a_t_cu_cl_cmd a_t_cu_cl_tim a_t_cu_cl_hel v_t_cu_cl_rt v_t_cu_cl_wd v_t_cu_cl_pd a_t_cu_cl_dir v_t_cu_cl_ss v_t_cu_cl_rs a_t_cu_cl_seg), (a_t_cu_cl_sh, oX2 v_t_cu_cl_sh_nd v_t_cu_cl_sh_sn), (a_t_cu_cl_tim, rI cI 8 v_t_cu_cl_tim)]
def fX5_restoreTimer (v_t_cu_cl_sh_nd : Int32) (v_t_cu_cl_tim : Nat → Int32) (p1 : Int32) : Option (Int32) := ((fX2_hasSpan v_t_cu_cl_sh_nd p1).bind (fun q8 => (if q8 = true then ((fX1_timerAt v_t_cu_cl_sh_nd v_t_cu_cl_tim p1).bind (fun q25 => (some q25))) else (some (-2)))))
theorem kd_X5_restoreTimer : yX5_restoreTimer.cls = RX5 ∧ yX5_restoreTimer.cls ≠ "java/lang/invoke/MethodHandle" ∧ yX5_restoreTimer.cls ≠ "java/lang/invoke/VarHandle" ∧ (parseMethodDescriptor yX5_restoreTimer.desc).map (fun d => d.parameters.length) = some 1 := by decide +kernel
def rm_X5_restoreTimer : Room := { frames := 2, cells := 0, slots := 0, locals := 42 }
set_option maxHeartbeats 4000000 in
set_option maxRecDepth 100000 in
theorem k_X5_restoreTimer (l : Launch) (D : va_G) (cI cZ : ClassId) (a_t a_t_cu a_t_tr a_t_s0 a_t_s1 a_t_cu_ct a_t_cu_cl a_t_cu_cl_sh a_t_cu_cl_cmd a_t_cu_cl_tim a_t_cu_cl_hel a_t_cu_cl_dir a_t_cu_cl_seg : Nat) (v_t_cu_tm : Int32) (v_t_cu_cl_fw : Int32) (v_t_cu_cl_fp : Int32) (v_t_cu_cl_fn : Int32) (v_t_cu_cl_rt : Int32) (v_t_cu_cl_wd : Int32) (v_t_cu_cl_pd : Int32) (v_t_cu_cl_ss : Int32) (v_t_cu_cl_rs : Int32) (v_t_cu_cl_sh_nd : Int32) (v_t_cu_cl_sh_sn : Int32) (v_t_cu_cl_tim : Nat → Int32) (p1 : Int32) (q : Int32) (hf : fX5_restoreTimer v_t_cu_cl_sh_nd v_t_cu_cl_tim p1 = some q) : CI l D cI cZ yX5_restoreTimer wsX5_restoreTimer rm_X5_restoreTimer [.ref a_t, .int p1] (wo_X5_restoreTimer cI cZ a_t a_t_cu a_t_tr a_t_s0 a_t_s1 a_t_cu_ct a_t_cu_cl a_t_cu_cl_sh a_t_cu_cl_cmd a_t_cu_cl_tim a_t_cu_cl_hel a_t_cu_cl_dir a_t_cu_cl_seg v_t_cu_tm v_t_cu_cl_fw v_t_cu_cl_fp v_t_cu_cl_fn v_t_cu_cl_rt v_t_cu_cl_wd v_t_cu_cl_pd v_t_cu_cl_ss v_t_cu_cl_rs v_t_cu_cl_sh_nd v_t_cu_cl_sh_sn v_t_cu_cl_tim) (wo_X5_restoreTimer cI cZ a_t a_t_cu a_t_tr a_t_s0 a_t_s1 a_t_cu_ct a_t_cu_cl a_t_cu_cl_sh a_t_cu_cl_cmd a_t_cu_cl_tim a_t_cu_cl_hel a_t_cu_cl_dir a_t_cu_cl_seg v_t_cu_tm v_t_cu_cl_fw v_t_cu_cl_fp v_t_cu_cl_fn v_t_cu_cl_rt v_t_cu_cl_wd v_t_cu_cl_pd v_t_cu_cl_ss v_t_cu_cl_rs v_t_cu_cl_sh_nd v_t_cu_cl_sh_sn v_t_cu_cl_tim) q := by
  refine CI.mk (cc := cX5_restoreTimer) (maxL := 2) (by decide) rfl (Nat.le_of_ble_eq_true rfl) ?_
  intro p e s m below meth c ls A X hP hD hl hS
  have hx := X.1.1
  have hb := X.1.2.1
  have hl : lv_has ls 2 [(0, .ref a_t), (1, .int p1)] := hl
  have inX3 : ∀ w ∈ u_ws RX3 TX3 4, w ∈ wsX5_restoreTimer := fun _ h => List.mem_cons_of_mem _ (List.mem_append_left _ (List.mem_append_left _ (List.mem_append_right _ h)))
  have inX5 : ∀ w ∈ u_ws RX5 TX5 4, w ∈ wsX5_restoreTimer := fun _ h => List.mem_cons_of_mem _ (List.mem_append_left _ (List.mem_append_left _ (List.mem_append_left _ (List.mem_append_right _ h))))
  unfold fX5_restoreTimer at hf
  refine lv_aload_n hx hb dX5_restoreTimer_0 rfl (lv_at hl 0 rfl) ?_
  refine getO X hP inX5 0 rfl rfl 0 (by decide) (List.mem_of_getElem? (i := 1) rfl) rfl dX5_restoreTimer_1 ?_
  refine getN X hP inX3 1 rfl rfl 2 (by decide) 16 rfl rfl dX5_restoreTimer_4 ?_
  refine lv_iload_n hx hb dX5_restoreTimer_7 rfl (lv_at hl 1 rfl) ?_
  obtain ⟨q8, e8, hf⟩ := bnd hf
  refine callVI X (k_X2_hasSpan l D cI cZ a_t_cu_cl_sh  v_t_cu_cl_sh_nd v_t_cu_cl_sh_sn p1 q8 e8) (cwV 1 X.1.2.2.2.2 gX5_restoreTimer_X2_hasSpan rfl rfl rfl kd_X2_hasSpan ⟨Nat.le_of_ble_eq_true rfl, Nat.le_of_ble_eq_true rfl⟩) hP hD hS hl.1 3 2 rfl rfl [3] (by decide) (wo_X5_restoreTimer cI cZ a_t a_t_cu a_t_tr a_t_s0 a_t_s1 a_t_cu_ct a_t_cu_cl a_t_cu_cl_sh a_t_cu_cl_cmd a_t_cu_cl_tim a_t_cu_cl_hel a_t_cu_cl_dir a_t_cu_cl_seg v_t_cu_tm v_t_cu_cl_fw v_t_cu_cl_fp v_t_cu_cl_fn v_t_cu_cl_rt v_t_cu_cl_wd v_t_cu_cl_pd v_t_cu_cl_ss v_t_cu_cl_rs v_t_cu_cl_sh_nd v_t_cu_cl_sh_sn v_t_cu_cl_tim) rfl rfl rfl rfl rfl (rest := []) rfl (Nat.le_of_ble_eq_true rfl) dX5_restoreTimer_8 ⟨Nat.zero_le _, Nat.zero_le _⟩ (fun H locs hP hD hS => ?_)
  refine lv_if_ne (tgt := 17) hx hb dX5_restoreTimer_11 (by decide) (fun hc => ?_) (fun hc => ?_)
  · replace hf := ifp (b2i_nz hc) hf
    refine lv_aload_n hx hb dX5_restoreTimer_17 rfl (lv_at hl 0 rfl) ?_
    refine getO X hP inX5 0 rfl rfl 0 (by decide) (List.mem_of_getElem? (i := 1) rfl) rfl dX5_restoreTimer_18 ?_
    refine getN X hP inX3 1 rfl rfl 1 (by decide) 15 rfl rfl dX5_restoreTimer_21 ?_
    refine lv_iload_n hx hb dX5_restoreTimer_24 rfl (lv_at hl 1 rfl) ?_
    obtain ⟨q25, e25, hf⟩ := bnd hf
    refine callVI X (k_X1_timerAt l D cI cZ a_t_cu_cl a_t_cu_cl_sh a_t_cu_cl_cmd a_t_cu_cl_tim a_t_cu_cl_hel a_t_cu_cl_dir a_t_cu_cl_seg  v_t_cu_cl_fw v_t_cu_cl_fp v_t_cu_cl_fn v_t_cu_cl_rt v_t_cu_cl_wd v_t_cu_cl_pd v_t_cu_cl_ss v_t_cu_cl_rs v_t_cu_cl_sh_nd v_t_cu_cl_sh_sn v_t_cu_cl_tim p1 q25 e25) (cwV 1 X.1.2.2.2.2 gX5_restoreTimer_X1_timerAt rfl rfl rfl kd_X1_timerAt ⟨Nat.le_of_ble_eq_true rfl, Nat.le_of_ble_eq_true rfl⟩) hP hD hS hl.1 2 1 rfl rfl [2, 3, 4] (by decide) (wo_X5_restoreTimer cI cZ a_t a_t_cu a_t_tr a_t_s0 a_t_s1 a_t_cu_ct a_t_cu_cl a_t_cu_cl_sh a_t_cu_cl_cmd a_t_cu_cl_tim a_t_cu_cl_hel a_t_cu_cl_dir a_t_cu_cl_seg v_t_cu_tm v_t_cu_cl_fw v_t_cu_cl_fp v_t_cu_cl_fn v_t_cu_cl_rt v_t_cu_cl_wd v_t_cu_cl_pd v_t_cu_cl_ss v_t_cu_cl_rs v_t_cu_cl_sh_nd v_t_cu_cl_sh_sn v_t_cu_cl_tim) rfl rfl rfl rfl rfl (rest := []) rfl (Nat.le_of_ble_eq_true rfl) dX5_restoreTimer_25 ⟨Nat.zero_le _, Nat.zero_le _⟩ (fun H locs hP hD hS => ?_)
    obtain rfl := Option.some.inj hf
    exact retI X hS hP rfl dX5_restoreTimer_28
  · replace hf := ifn (b2i_z hc) hf
    refine lv_bipush hx hb dX5_restoreTimer_14 bp_m2 ?_
    obtain rfl := Option.some.inj hf
    exact retI X hS hP rfl dX5_restoreTimer_16

abbrev wo_X5_segment (cI cZ : ClassId) (a_t a_t_cu a_t_tr a_t_s0 a_t_s1 a_t_cu_ct a_t_cu_cl a_t_cu_cl_sh a_t_cu_cl_cmd a_t_cu_cl_tim a_t_cu_cl_hel a_t_cu_cl_dir a_t_cu_cl_seg : Nat) (v_t_cu_tm : Int32) (v_t_cu_cl_fw : Int32) (v_t_cu_cl_fp : Int32) (v_t_cu_cl_fn : Int32) (v_t_cu_cl_rt : Int32) (v_t_cu_cl_wd : Int32) (v_t_cu_cl_pd : Int32) (v_t_cu_cl_ss : Int32) (v_t_cu_cl_rs : Int32) (v_t_cu_cl_sh_nd : Int32) (v_t_cu_cl_sh_sn : Int32) (v_t_cu_cl_seg : Nat → Int32) : va_W := [(a_t, oX5 a_t_cu a_t_tr a_t_s0 a_t_s1), (a_t_cu, oX3 a_t_cu_ct a_t_cu_cl a_t_cu_cl_sh v_t_cu_tm), (a_t_cu_cl, oX1 a_t_cu_cl_sh v_t_cu_cl_fw v_t_cu_cl_fp v_t_cu_cl_fn a_t_cu_cl_cmd a_t_cu_cl_tim a_t_cu_cl_hel v_t_cu_cl_rt v_t_cu_cl_wd v_t_cu_cl_pd a_t_cu_cl_dir v_t_cu_cl_ss v_t_cu_cl_rs a_t_cu_cl_seg), (a_t_cu_cl_sh, oX2 v_t_cu_cl_sh_nd v_t_cu_cl_sh_sn), (a_t_cu_cl_seg, rI cI 8 v_t_cu_cl_seg)]
def fX5_segment (v_t_cu_cl_sh_nd : Int32) (v_t_cu_cl_seg : Nat → Int32) (p1 : Int32) : Option (Int32) := ((fX2_hasNode v_t_cu_cl_sh_nd p1).bind (fun q8 => (if q8 = true then ((fX1_segmentOf v_t_cu_cl_sh_nd v_t_cu_cl_seg p1).bind (fun q24 => (some q24))) else (some (-1)))))
theorem kd_X5_segment : yX5_segment.cls = RX5 ∧ yX5_segment.cls ≠ "java/lang/invoke/MethodHandle" ∧ yX5_segment.cls ≠ "java/lang/invoke/VarHandle" ∧ (parseMethodDescriptor yX5_segment.desc).map (fun d => d.parameters.length) = some 1 := by decide +kernel
def rm_X5_segment : Room := { frames := 2, cells := 0, slots := 0, locals := 42 }
set_option maxHeartbeats 4000000 in
set_option maxRecDepth 100000 in
theorem k_X5_segment (l : Launch) (D : va_G) (cI cZ : ClassId) (a_t a_t_cu a_t_tr a_t_s0 a_t_s1 a_t_cu_ct a_t_cu_cl a_t_cu_cl_sh a_t_cu_cl_cmd a_t_cu_cl_tim a_t_cu_cl_hel a_t_cu_cl_dir a_t_cu_cl_seg : Nat) (v_t_cu_tm : Int32) (v_t_cu_cl_fw : Int32) (v_t_cu_cl_fp : Int32) (v_t_cu_cl_fn : Int32) (v_t_cu_cl_rt : Int32) (v_t_cu_cl_wd : Int32) (v_t_cu_cl_pd : Int32) (v_t_cu_cl_ss : Int32) (v_t_cu_cl_rs : Int32) (v_t_cu_cl_sh_nd : Int32) (v_t_cu_cl_sh_sn : Int32) (v_t_cu_cl_seg : Nat → Int32) (p1 : Int32) (q : Int32) (hf : fX5_segment v_t_cu_cl_sh_nd v_t_cu_cl_seg p1 = some q) : CI l D cI cZ yX5_segment wsX5_segment rm_X5_segment [.ref a_t, .int p1] (wo_X5_segment cI cZ a_t a_t_cu a_t_tr a_t_s0 a_t_s1 a_t_cu_ct a_t_cu_cl a_t_cu_cl_sh a_t_cu_cl_cmd a_t_cu_cl_tim a_t_cu_cl_hel a_t_cu_cl_dir a_t_cu_cl_seg v_t_cu_tm v_t_cu_cl_fw v_t_cu_cl_fp v_t_cu_cl_fn v_t_cu_cl_rt v_t_cu_cl_wd v_t_cu_cl_pd v_t_cu_cl_ss v_t_cu_cl_rs v_t_cu_cl_sh_nd v_t_cu_cl_sh_sn v_t_cu_cl_seg) (wo_X5_segment cI cZ a_t a_t_cu a_t_tr a_t_s0 a_t_s1 a_t_cu_ct a_t_cu_cl a_t_cu_cl_sh a_t_cu_cl_cmd a_t_cu_cl_tim a_t_cu_cl_hel a_t_cu_cl_dir a_t_cu_cl_seg v_t_cu_tm v_t_cu_cl_fw v_t_cu_cl_fp v_t_cu_cl_fn v_t_cu_cl_rt v_t_cu_cl_wd v_t_cu_cl_pd v_t_cu_cl_ss v_t_cu_cl_rs v_t_cu_cl_sh_nd v_t_cu_cl_sh_sn v_t_cu_cl_seg) q := by
  refine CI.mk (cc := cX5_segment) (maxL := 2) (by decide) rfl (Nat.le_of_ble_eq_true rfl) ?_
  intro p e s m below meth c ls A X hP hD hl hS
  have hx := X.1.1
  have hb := X.1.2.1
  have hl : lv_has ls 2 [(0, .ref a_t), (1, .int p1)] := hl
  have inX3 : ∀ w ∈ u_ws RX3 TX3 4, w ∈ wsX5_segment := fun _ h => List.mem_cons_of_mem _ (List.mem_append_left _ (List.mem_append_left _ (List.mem_append_right _ h)))
  have inX5 : ∀ w ∈ u_ws RX5 TX5 4, w ∈ wsX5_segment := fun _ h => List.mem_cons_of_mem _ (List.mem_append_left _ (List.mem_append_left _ (List.mem_append_left _ (List.mem_append_right _ h))))
  unfold fX5_segment at hf
  refine lv_aload_n hx hb dX5_segment_0 rfl (lv_at hl 0 rfl) ?_
  refine getO X hP inX5 0 rfl rfl 0 (by decide) (List.mem_of_getElem? (i := 1) rfl) rfl dX5_segment_1 ?_
  refine getN X hP inX3 1 rfl rfl 2 (by decide) 16 rfl rfl dX5_segment_4 ?_
  refine lv_iload_n hx hb dX5_segment_7 rfl (lv_at hl 1 rfl) ?_
  obtain ⟨q8, e8, hf⟩ := bnd hf
  refine callVI X (k_X2_hasNode l D cI cZ a_t_cu_cl_sh  v_t_cu_cl_sh_nd v_t_cu_cl_sh_sn p1 q8 e8) (cwV 1 X.1.2.2.2.2 gX5_segment_X2_hasNode rfl rfl rfl kd_X2_hasNode ⟨Nat.le_of_ble_eq_true rfl, Nat.le_of_ble_eq_true rfl⟩) hP hD hS hl.1 3 2 rfl rfl [3] (by decide) (wo_X5_segment cI cZ a_t a_t_cu a_t_tr a_t_s0 a_t_s1 a_t_cu_ct a_t_cu_cl a_t_cu_cl_sh a_t_cu_cl_cmd a_t_cu_cl_tim a_t_cu_cl_hel a_t_cu_cl_dir a_t_cu_cl_seg v_t_cu_tm v_t_cu_cl_fw v_t_cu_cl_fp v_t_cu_cl_fn v_t_cu_cl_rt v_t_cu_cl_wd v_t_cu_cl_pd v_t_cu_cl_ss v_t_cu_cl_rs v_t_cu_cl_sh_nd v_t_cu_cl_sh_sn v_t_cu_cl_seg) rfl rfl rfl rfl rfl (rest := []) rfl (Nat.le_of_ble_eq_true rfl) dX5_segment_8 ⟨Nat.zero_le _, Nat.zero_le _⟩ (fun H locs hP hD hS => ?_)
  refine lv_if_ne (tgt := 16) hx hb dX5_segment_11 (by decide) (fun hc => ?_) (fun hc => ?_)
  · replace hf := ifp (b2i_nz hc) hf
    refine lv_aload_n hx hb dX5_segment_16 rfl (lv_at hl 0 rfl) ?_
    refine getO X hP inX5 0 rfl rfl 0 (by decide) (List.mem_of_getElem? (i := 1) rfl) rfl dX5_segment_17 ?_
    refine getN X hP inX3 1 rfl rfl 1 (by decide) 15 rfl rfl dX5_segment_20 ?_
    refine lv_iload_n hx hb dX5_segment_23 rfl (lv_at hl 1 rfl) ?_
    obtain ⟨q24, e24, hf⟩ := bnd hf
    refine callVI X (k_X1_segmentOf l D cI cZ a_t_cu_cl a_t_cu_cl_sh a_t_cu_cl_cmd a_t_cu_cl_tim a_t_cu_cl_hel a_t_cu_cl_dir a_t_cu_cl_seg  v_t_cu_cl_fw v_t_cu_cl_fp v_t_cu_cl_fn v_t_cu_cl_rt v_t_cu_cl_wd v_t_cu_cl_pd v_t_cu_cl_ss v_t_cu_cl_rs v_t_cu_cl_sh_nd v_t_cu_cl_sh_sn v_t_cu_cl_seg p1 q24 e24) (cwV 1 X.1.2.2.2.2 gX5_segment_X1_segmentOf rfl rfl rfl kd_X1_segmentOf ⟨Nat.le_of_ble_eq_true rfl, Nat.le_of_ble_eq_true rfl⟩) hP hD hS hl.1 2 1 rfl rfl [2, 3, 4] (by decide) (wo_X5_segment cI cZ a_t a_t_cu a_t_tr a_t_s0 a_t_s1 a_t_cu_ct a_t_cu_cl a_t_cu_cl_sh a_t_cu_cl_cmd a_t_cu_cl_tim a_t_cu_cl_hel a_t_cu_cl_dir a_t_cu_cl_seg v_t_cu_tm v_t_cu_cl_fw v_t_cu_cl_fp v_t_cu_cl_fn v_t_cu_cl_rt v_t_cu_cl_wd v_t_cu_cl_pd v_t_cu_cl_ss v_t_cu_cl_rs v_t_cu_cl_sh_nd v_t_cu_cl_sh_sn v_t_cu_cl_seg) rfl rfl rfl rfl rfl (rest := []) rfl (Nat.le_of_ble_eq_true rfl) dX5_segment_24 ⟨Nat.zero_le _, Nat.zero_le _⟩ (fun H locs hP hD hS => ?_)
    obtain rfl := Option.some.inj hf
    exact retI X hS hP rfl dX5_segment_27
  · replace hf := ifn (b2i_z hc) hf
    refine lv_iconst hx hb dX5_segment_14 ic_m1 ?_
    obtain rfl := Option.some.inj hf
    exact retI X hS hP rfl dX5_segment_15

abbrev wo_X5_state (cI cZ : ClassId) (a_t a_t_cu a_t_tr a_t_s0 a_t_s1 a_t_cu_ct a_t_cu_cl a_t_cu_cl_sh a_t_cu_ct_fe a_t_cu_ct_se a_t_cu_ct_pa a_t_cu_ct_sl a_t_cu_cl_cmd a_t_cu_cl_tim a_t_cu_cl_hel a_t_cu_cl_dir a_t_cu_cl_seg : Nat) (v_t_cu_tm : Int32) (v_t_cu_ct_ex : Int32) (v_t_cu_ct_fe : Nat → Int32) (v_t_cu_ct_se : Nat → Int32) (v_t_cu_ct_pa : Nat → Int32) (v_t_cu_cl_fw : Int32) (v_t_cu_cl_fp : Int32) (v_t_cu_cl_fn : Int32) (v_t_cu_cl_rt : Int32) (v_t_cu_cl_wd : Int32) (v_t_cu_cl_pd : Int32) (v_t_cu_cl_ss : Int32) (v_t_cu_cl_rs : Int32) (v_t_cu_cl_sh_nd : Int32) (v_t_cu_cl_sh_sn : Int32) (v_t_cu_cl_seg : Nat → Int32) : va_W := [(a_t, oX5 a_t_cu a_t_tr a_t_s0 a_t_s1), (a_t_cu, oX3 a_t_cu_ct a_t_cu_cl a_t_cu_cl_sh v_t_cu_tm), (a_t_cu_ct, oX0 a_t_cu_ct_fe a_t_cu_ct_se a_t_cu_ct_pa a_t_cu_ct_sl v_t_cu_ct_ex), (a_t_cu_ct_fe, rI cI 16 v_t_cu_ct_fe), (a_t_cu_ct_se, rI cI 16 v_t_cu_ct_se), (a_t_cu_ct_pa, rI cI 16 v_t_cu_ct_pa), (a_t_cu_cl, oX1 a_t_cu_cl_sh v_t_cu_cl_fw v_t_cu_cl_fp v_t_cu_cl_fn a_t_cu_cl_cmd a_t_cu_cl_tim a_t_cu_cl_hel v_t_cu_cl_rt v_t_cu_cl_wd v_t_cu_cl_pd a_t_cu_cl_dir v_t_cu_cl_ss v_t_cu_cl_rs a_t_cu_cl_seg), (a_t_cu_cl_sh, oX2 v_t_cu_cl_sh_nd v_t_cu_cl_sh_sn), (a_t_cu_cl_seg, rI cI 8 v_t_cu_cl_seg)]
def fX5_state (v_t_cu_ct_ex : Int32) (v_t_cu_ct_fe : Nat → Int32) (v_t_cu_ct_se : Nat → Int32) (v_t_cu_ct_pa : Nat → Int32) (v_t_cu_cl_wd : Int32) (v_t_cu_cl_pd : Int32) (v_t_cu_cl_ss : Int32) (v_t_cu_cl_rs : Int32) (v_t_cu_cl_sh_nd : Int32) (v_t_cu_cl_seg : Nat → Int32) (p1 : Int32) : Option (Int32) := ((fX0_has v_t_cu_ct_pa p1).bind (fun q8 => (if q8 = true then ((fX3_stateOf v_t_cu_ct_ex v_t_cu_ct_fe v_t_cu_ct_se v_t_cu_ct_pa v_t_cu_cl_wd v_t_cu_cl_pd v_t_cu_cl_ss v_t_cu_cl_rs v_t_cu_cl_sh_nd v_t_cu_cl_seg p1).bind (fun q22 => (some q22))) else (some (-3)))))
theorem kd_X5_state : yX5_state.cls = RX5 ∧ yX5_state.cls ≠ "java/lang/invoke/MethodHandle" ∧ yX5_state.cls ≠ "java/lang/invoke/VarHandle" ∧ (parseMethodDescriptor yX5_state.desc).map (fun d => d.parameters.length) = some 1 := by decide +kernel
def rm_X5_state : Room := { frames := 4, cells := 0, slots := 0, locals := 92 }
set_option maxHeartbeats 4000000 in
set_option maxRecDepth 100000 in
theorem k_X5_state (l : Launch) (D : va_G) (cI cZ : ClassId) (a_t a_t_cu a_t_tr a_t_s0 a_t_s1 a_t_cu_ct a_t_cu_cl a_t_cu_cl_sh a_t_cu_ct_fe a_t_cu_ct_se a_t_cu_ct_pa a_t_cu_ct_sl a_t_cu_cl_cmd a_t_cu_cl_tim a_t_cu_cl_hel a_t_cu_cl_dir a_t_cu_cl_seg : Nat) (v_t_cu_tm : Int32) (v_t_cu_ct_ex : Int32) (v_t_cu_ct_fe : Nat → Int32) (v_t_cu_ct_se : Nat → Int32) (v_t_cu_ct_pa : Nat → Int32) (v_t_cu_cl_fw : Int32) (v_t_cu_cl_fp : Int32) (v_t_cu_cl_fn : Int32) (v_t_cu_cl_rt : Int32) (v_t_cu_cl_wd : Int32) (v_t_cu_cl_pd : Int32) (v_t_cu_cl_ss : Int32) (v_t_cu_cl_rs : Int32) (v_t_cu_cl_sh_nd : Int32) (v_t_cu_cl_sh_sn : Int32) (v_t_cu_cl_seg : Nat → Int32) (p1 : Int32) (q : Int32) (hf : fX5_state v_t_cu_ct_ex v_t_cu_ct_fe v_t_cu_ct_se v_t_cu_ct_pa v_t_cu_cl_wd v_t_cu_cl_pd v_t_cu_cl_ss v_t_cu_cl_rs v_t_cu_cl_sh_nd v_t_cu_cl_seg p1 = some q) : CI l D cI cZ yX5_state wsX5_state rm_X5_state [.ref a_t, .int p1] (wo_X5_state cI cZ a_t a_t_cu a_t_tr a_t_s0 a_t_s1 a_t_cu_ct a_t_cu_cl a_t_cu_cl_sh a_t_cu_ct_fe a_t_cu_ct_se a_t_cu_ct_pa a_t_cu_ct_sl a_t_cu_cl_cmd a_t_cu_cl_tim a_t_cu_cl_hel a_t_cu_cl_dir a_t_cu_cl_seg v_t_cu_tm v_t_cu_ct_ex v_t_cu_ct_fe v_t_cu_ct_se v_t_cu_ct_pa v_t_cu_cl_fw v_t_cu_cl_fp v_t_cu_cl_fn v_t_cu_cl_rt v_t_cu_cl_wd v_t_cu_cl_pd v_t_cu_cl_ss v_t_cu_cl_rs v_t_cu_cl_sh_nd v_t_cu_cl_sh_sn v_t_cu_cl_seg) (wo_X5_state cI cZ a_t a_t_cu a_t_tr a_t_s0 a_t_s1 a_t_cu_ct a_t_cu_cl a_t_cu_cl_sh a_t_cu_ct_fe a_t_cu_ct_se a_t_cu_ct_pa a_t_cu_ct_sl a_t_cu_cl_cmd a_t_cu_cl_tim a_t_cu_cl_hel a_t_cu_cl_dir a_t_cu_cl_seg v_t_cu_tm v_t_cu_ct_ex v_t_cu_ct_fe v_t_cu_ct_se v_t_cu_ct_pa v_t_cu_cl_fw v_t_cu_cl_fp v_t_cu_cl_fn v_t_cu_cl_rt v_t_cu_cl_wd v_t_cu_cl_pd v_t_cu_cl_ss v_t_cu_cl_rs v_t_cu_cl_sh_nd v_t_cu_cl_sh_sn v_t_cu_cl_seg) q := by
  refine CI.mk (cc := cX5_state) (maxL := 2) (by decide) rfl (Nat.le_of_ble_eq_true rfl) ?_
  intro p e s m below meth c ls A X hP hD hl hS
  have hx := X.1.1
  have hb := X.1.2.1
  have hl : lv_has ls 2 [(0, .ref a_t), (1, .int p1)] := hl
  have inX3 : ∀ w ∈ u_ws RX3 TX3 4, w ∈ wsX5_state := fun _ h => List.mem_cons_of_mem _ (List.mem_append_left _ (List.mem_append_left _ (List.mem_append_left _ (List.mem_append_right _ h))))
  have inX5 : ∀ w ∈ u_ws RX5 TX5 4, w ∈ wsX5_state := fun _ h => List.mem_cons_of_mem _ (List.mem_append_left _ (List.mem_append_left _ (List.mem_append_left _ (List.mem_append_left _ (List.mem_append_right _ h)))))
  unfold fX5_state at hf
  refine lv_aload_n hx hb dX5_state_0 rfl (lv_at hl 0 rfl) ?_
  refine getO X hP inX5 0 rfl rfl 0 (by decide) (List.mem_of_getElem? (i := 1) rfl) rfl dX5_state_1 ?_
  refine getN X hP inX3 1 rfl rfl 0 (by decide) 14 rfl rfl dX5_state_4 ?_
  refine lv_iload_n hx hb dX5_state_7 rfl (lv_at hl 1 rfl) ?_
  obtain ⟨q8, e8, hf⟩ := bnd hf
  refine callVI X (k_X0_has l D cI cZ a_t_cu_ct a_t_cu_ct_fe a_t_cu_ct_se a_t_cu_ct_pa a_t_cu_ct_sl  v_t_cu_ct_ex v_t_cu_ct_pa p1 q8 e8) (cwV 1 X.1.2.2.2.2 gX5_state_X0_has rfl rfl rfl kd_X0_has ⟨Nat.le_of_ble_eq_true rfl, Nat.le_of_ble_eq_true rfl⟩) hP hD hS hl.1 2 0 rfl rfl [2, 5] (by decide) (wo_X5_state cI cZ a_t a_t_cu a_t_tr a_t_s0 a_t_s1 a_t_cu_ct a_t_cu_cl a_t_cu_cl_sh a_t_cu_ct_fe a_t_cu_ct_se a_t_cu_ct_pa a_t_cu_ct_sl a_t_cu_cl_cmd a_t_cu_cl_tim a_t_cu_cl_hel a_t_cu_cl_dir a_t_cu_cl_seg v_t_cu_tm v_t_cu_ct_ex v_t_cu_ct_fe v_t_cu_ct_se v_t_cu_ct_pa v_t_cu_cl_fw v_t_cu_cl_fp v_t_cu_cl_fn v_t_cu_cl_rt v_t_cu_cl_wd v_t_cu_cl_pd v_t_cu_cl_ss v_t_cu_cl_rs v_t_cu_cl_sh_nd v_t_cu_cl_sh_sn v_t_cu_cl_seg) rfl rfl rfl rfl rfl (rest := []) rfl (Nat.le_of_ble_eq_true rfl) dX5_state_8 ⟨Nat.zero_le _, Nat.zero_le _⟩ (fun H locs hP hD hS => ?_)
  refine lv_if_ne (tgt := 17) hx hb dX5_state_11 (by decide) (fun hc => ?_) (fun hc => ?_)
  · replace hf := ifp (b2i_nz hc) hf
    refine lv_aload_n hx hb dX5_state_17 rfl (lv_at hl 0 rfl) ?_
    refine getO X hP inX5 0 rfl rfl 0 (by decide) (List.mem_of_getElem? (i := 1) rfl) rfl dX5_state_18 ?_
    refine lv_iload_n hx hb dX5_state_21 rfl (lv_at hl 1 rfl) ?_
    obtain ⟨q22, e22, hf⟩ := bnd hf
    refine callVI X (k_X3_stateOf l D cI cZ a_t_cu a_t_cu_ct a_t_cu_cl a_t_cu_cl_sh a_t_cu_ct_fe a_t_cu_ct_se a_t_cu_ct_pa a_t_cu_ct_sl a_t_cu_cl_cmd a_t_cu_cl_tim a_t_cu_cl_hel a_t_cu_cl_dir a_t_cu_cl_seg  v_t_cu_tm v_t_cu_ct_ex v_t_cu_ct_fe v_t_cu_ct_se v_t_cu_ct_pa v_t_cu_cl_fw v_t_cu_cl_fp v_t_cu_cl_fn v_t_cu_cl_rt v_t_cu_cl_wd v_t_cu_cl_pd v_t_cu_cl_ss v_t_cu_cl_rs v_t_cu_cl_sh_nd v_t_cu_cl_sh_sn v_t_cu_cl_seg p1 q22 e22) (cwV 1 X.1.2.2.2.2 gX5_state_X3_stateOf rfl rfl rfl kd_X3_stateOf ⟨Nat.le_of_ble_eq_true rfl, Nat.le_of_ble_eq_true rfl⟩) hP hD hS hl.1 1 3 rfl rfl [1, 2, 3, 4, 5, 6, 7, 8] (by decide) (wo_X5_state cI cZ a_t a_t_cu a_t_tr a_t_s0 a_t_s1 a_t_cu_ct a_t_cu_cl a_t_cu_cl_sh a_t_cu_ct_fe a_t_cu_ct_se a_t_cu_ct_pa a_t_cu_ct_sl a_t_cu_cl_cmd a_t_cu_cl_tim a_t_cu_cl_hel a_t_cu_cl_dir a_t_cu_cl_seg v_t_cu_tm v_t_cu_ct_ex v_t_cu_ct_fe v_t_cu_ct_se v_t_cu_ct_pa v_t_cu_cl_fw v_t_cu_cl_fp v_t_cu_cl_fn v_t_cu_cl_rt v_t_cu_cl_wd v_t_cu_cl_pd v_t_cu_cl_ss v_t_cu_cl_rs v_t_cu_cl_sh_nd v_t_cu_cl_sh_sn v_t_cu_cl_seg) rfl rfl rfl rfl rfl (rest := []) rfl (Nat.le_of_ble_eq_true rfl) dX5_state_22 ⟨Nat.zero_le _, Nat.zero_le _⟩ (fun H locs hP hD hS => ?_)
    obtain rfl := Option.some.inj hf
    exact retI X hS hP rfl dX5_state_25
  · replace hf := ifn (b2i_z hc) hf
    refine lv_bipush hx hb dX5_state_14 bp_m3 ?_
    obtain rfl := Option.some.inj hf
    exact retI X hS hP rfl dX5_state_16

abbrev wo_X5_circuitsIn (cI cZ : ClassId) (a_t a_t_cu a_t_tr a_t_s0 a_t_s1 a_t_cu_ct a_t_cu_cl a_t_cu_cl_sh a_t_cu_ct_fe a_t_cu_ct_se a_t_cu_ct_pa a_t_cu_ct_sl a_t_cu_cl_cmd a_t_cu_cl_tim a_t_cu_cl_hel a_t_cu_cl_dir a_t_cu_cl_seg : Nat) (v_t_cu_tm : Int32) (v_t_cu_ct_ex : Int32) (v_t_cu_ct_fe : Nat → Int32) (v_t_cu_ct_se : Nat → Int32) (v_t_cu_ct_pa : Nat → Int32) (v_t_cu_cl_fw : Int32) (v_t_cu_cl_fp : Int32) (v_t_cu_cl_fn : Int32) (v_t_cu_cl_rt : Int32) (v_t_cu_cl_wd : Int32) (v_t_cu_cl_pd : Int32) (v_t_cu_cl_ss : Int32) (v_t_cu_cl_rs : Int32) (v_t_cu_cl_sh_nd : Int32) (v_t_cu_cl_sh_sn : Int32) (v_t_cu_cl_seg : Nat → Int32) : va_W := [(a_t, oX5 a_t_cu a_t_tr a_t_s0 a_t_s1), (a_t_cu, oX3 a_t_cu_ct a_t_cu_cl a_t_cu_cl_sh v_t_cu_tm), (a_t_cu_ct, oX0 a_t_cu_ct_fe a_t_cu_ct_se a_t_cu_ct_pa a_t_cu_ct_sl v_t_cu_ct_ex), (a_t_cu_ct_fe, rI cI 16 v_t_cu_ct_fe), (a_t_cu_ct_se, rI cI 16 v_t_cu_ct_se), (a_t_cu_ct_pa, rI cI 16 v_t_cu_ct_pa), (a_t_cu_cl, oX1 a_t_cu_cl_sh v_t_cu_cl_fw v_t_cu_cl_fp v_t_cu_cl_fn a_t_cu_cl_cmd a_t_cu_cl_tim a_t_cu_cl_hel v_t_cu_cl_rt v_t_cu_cl_wd v_t_cu_cl_pd a_t_cu_cl_dir v_t_cu_cl_ss v_t_cu_cl_rs a_t_cu_cl_seg), (a_t_cu_cl_sh, oX2 v_t_cu_cl_sh_nd v_t_cu_cl_sh_sn), (a_t_cu_cl_seg, rI cI 8 v_t_cu_cl_seg)]
def fX5_circuitsIn (v_t_cu_ct_ex : Int32) (v_t_cu_ct_fe : Nat → Int32) (v_t_cu_ct_se : Nat → Int32) (v_t_cu_ct_pa : Nat → Int32) (v_t_cu_cl_wd : Int32) (v_t_cu_cl_pd : Int32) (v_t_cu_cl_ss : Int32) (v_t_cu_cl_rs : Int32) (v_t_cu_cl_sh_nd : Int32) (v_t_cu_cl_seg : Nat → Int32) (p1 : Int32) : Option (Int32) := (if p1 < 0 then (some (-4)) else (if p1 ≤ (nI 5) then ((fX3_allInState v_t_cu_ct_ex v_t_cu_ct_fe v_t_cu_ct_se v_t_cu_ct_pa v_t_cu_cl_wd v_t_cu_cl_pd v_t_cu_cl_ss v_t_cu_cl_rs v_t_cu_cl_sh_nd v_t_cu_cl_seg p1).bind (fun q17 => (some q17))) else (some (-4))))
theorem kd_X5_circuitsIn : yX5_circuitsIn.cls = RX5 ∧ yX5_circuitsIn.cls ≠ "java/lang/invoke/MethodHandle" ∧ yX5_circuitsIn.cls ≠ "java/lang/invoke/VarHandle" ∧ (parseMethodDescriptor yX5_circuitsIn.desc).map (fun d => d.parameters.length) = some 1 := by decide +kernel
def rm_X5_circuitsIn : Room := { frames := 5, cells := 0, slots := 0, locals := 115 }
set_option maxHeartbeats 4000000 in
set_option maxRecDepth 100000 in
theorem k_X5_circuitsIn (l : Launch) (D : va_G) (cI cZ : ClassId) (a_t a_t_cu a_t_tr a_t_s0 a_t_s1 a_t_cu_ct a_t_cu_cl a_t_cu_cl_sh a_t_cu_ct_fe a_t_cu_ct_se a_t_cu_ct_pa a_t_cu_ct_sl a_t_cu_cl_cmd a_t_cu_cl_tim a_t_cu_cl_hel a_t_cu_cl_dir a_t_cu_cl_seg : Nat) (v_t_cu_tm : Int32) (v_t_cu_ct_ex : Int32) (v_t_cu_ct_fe : Nat → Int32) (v_t_cu_ct_se : Nat → Int32) (v_t_cu_ct_pa : Nat → Int32) (v_t_cu_cl_fw : Int32) (v_t_cu_cl_fp : Int32) (v_t_cu_cl_fn : Int32) (v_t_cu_cl_rt : Int32) (v_t_cu_cl_wd : Int32) (v_t_cu_cl_pd : Int32) (v_t_cu_cl_ss : Int32) (v_t_cu_cl_rs : Int32) (v_t_cu_cl_sh_nd : Int32) (v_t_cu_cl_sh_sn : Int32) (v_t_cu_cl_seg : Nat → Int32) (p1 : Int32) (q : Int32) (hf : fX5_circuitsIn v_t_cu_ct_ex v_t_cu_ct_fe v_t_cu_ct_se v_t_cu_ct_pa v_t_cu_cl_wd v_t_cu_cl_pd v_t_cu_cl_ss v_t_cu_cl_rs v_t_cu_cl_sh_nd v_t_cu_cl_seg p1 = some q) : CI l D cI cZ yX5_circuitsIn wsX5_circuitsIn rm_X5_circuitsIn [.ref a_t, .int p1] (wo_X5_circuitsIn cI cZ a_t a_t_cu a_t_tr a_t_s0 a_t_s1 a_t_cu_ct a_t_cu_cl a_t_cu_cl_sh a_t_cu_ct_fe a_t_cu_ct_se a_t_cu_ct_pa a_t_cu_ct_sl a_t_cu_cl_cmd a_t_cu_cl_tim a_t_cu_cl_hel a_t_cu_cl_dir a_t_cu_cl_seg v_t_cu_tm v_t_cu_ct_ex v_t_cu_ct_fe v_t_cu_ct_se v_t_cu_ct_pa v_t_cu_cl_fw v_t_cu_cl_fp v_t_cu_cl_fn v_t_cu_cl_rt v_t_cu_cl_wd v_t_cu_cl_pd v_t_cu_cl_ss v_t_cu_cl_rs v_t_cu_cl_sh_nd v_t_cu_cl_sh_sn v_t_cu_cl_seg) (wo_X5_circuitsIn cI cZ a_t a_t_cu a_t_tr a_t_s0 a_t_s1 a_t_cu_ct a_t_cu_cl a_t_cu_cl_sh a_t_cu_ct_fe a_t_cu_ct_se a_t_cu_ct_pa a_t_cu_ct_sl a_t_cu_cl_cmd a_t_cu_cl_tim a_t_cu_cl_hel a_t_cu_cl_dir a_t_cu_cl_seg v_t_cu_tm v_t_cu_ct_ex v_t_cu_ct_fe v_t_cu_ct_se v_t_cu_ct_pa v_t_cu_cl_fw v_t_cu_cl_fp v_t_cu_cl_fn v_t_cu_cl_rt v_t_cu_cl_wd v_t_cu_cl_pd v_t_cu_cl_ss v_t_cu_cl_rs v_t_cu_cl_sh_nd v_t_cu_cl_sh_sn v_t_cu_cl_seg) q := by
  refine CI.mk (cc := cX5_circuitsIn) (maxL := 2) (by decide) rfl (Nat.le_of_ble_eq_true rfl) ?_
  intro p e s m below meth c ls A X hP hD hl hS
  have hx := X.1.1
  have hb := X.1.2.1
  have hl : lv_has ls 2 [(0, .ref a_t), (1, .int p1)] := hl
  have inX5 : ∀ w ∈ u_ws RX5 TX5 4, w ∈ wsX5_circuitsIn := fun _ h => List.mem_cons_of_mem _ (List.mem_append_left _ (List.mem_append_left _ (List.mem_append_left _ (List.mem_append_left _ (List.mem_append_right _ h)))))
  unfold fX5_circuitsIn at hf
  refine lv_iload_n hx hb dX5_circuitsIn_0 rfl (lv_at hl 1 rfl) ?_
  refine lv_if_lt (tgt := 9) hx hb dX5_circuitsIn_1 (by decide) (fun hc => ?_) (fun hc => ?_)
  · replace hf := ifp hc hf
    refine lv_bipush hx hb dX5_circuitsIn_9 bp_m4 ?_
    obtain rfl := Option.some.inj hf
    exact retI X hS hP rfl dX5_circuitsIn_11
  · replace hf := ifn hc hf
    refine lv_iload_n hx hb dX5_circuitsIn_4 rfl (lv_at hl 1 rfl) ?_
    refine lv_iconst hx hb dX5_circuitsIn_5 ic_5 ?_
    refine lv_icmp_le (tgt := 12) hx hb dX5_circuitsIn_6 (by decide) (fun hc => ?_) (fun hc => ?_)
    · replace hf := ifp hc hf
      refine lv_aload_n hx hb dX5_circuitsIn_12 rfl (lv_at hl 0 rfl) ?_
      refine getO X hP inX5 0 rfl rfl 0 (by decide) (List.mem_of_getElem? (i := 1) rfl) rfl dX5_circuitsIn_13 ?_
      refine lv_iload_n hx hb dX5_circuitsIn_16 rfl (lv_at hl 1 rfl) ?_
      obtain ⟨q17, e17, hf⟩ := bnd hf
      refine callVI X (k_X3_allInState l D cI cZ a_t_cu a_t_cu_ct a_t_cu_cl a_t_cu_cl_sh a_t_cu_ct_fe a_t_cu_ct_se a_t_cu_ct_pa a_t_cu_ct_sl a_t_cu_cl_cmd a_t_cu_cl_tim a_t_cu_cl_hel a_t_cu_cl_dir a_t_cu_cl_seg  v_t_cu_tm v_t_cu_ct_ex v_t_cu_ct_fe v_t_cu_ct_se v_t_cu_ct_pa v_t_cu_cl_fw v_t_cu_cl_fp v_t_cu_cl_fn v_t_cu_cl_rt v_t_cu_cl_wd v_t_cu_cl_pd v_t_cu_cl_ss v_t_cu_cl_rs v_t_cu_cl_sh_nd v_t_cu_cl_sh_sn v_t_cu_cl_seg p1 q17 e17) (cwV 1 X.1.2.2.2.2 gX5_circuitsIn_X3_allInState rfl rfl rfl kd_X3_allInState ⟨Nat.le_of_ble_eq_true rfl, Nat.le_of_ble_eq_true rfl⟩) hP hD hS hl.1 1 3 rfl rfl [1, 2, 3, 4, 5, 6, 7, 8] (by decide) (wo_X5_circuitsIn cI cZ a_t a_t_cu a_t_tr a_t_s0 a_t_s1 a_t_cu_ct a_t_cu_cl a_t_cu_cl_sh a_t_cu_ct_fe a_t_cu_ct_se a_t_cu_ct_pa a_t_cu_ct_sl a_t_cu_cl_cmd a_t_cu_cl_tim a_t_cu_cl_hel a_t_cu_cl_dir a_t_cu_cl_seg v_t_cu_tm v_t_cu_ct_ex v_t_cu_ct_fe v_t_cu_ct_se v_t_cu_ct_pa v_t_cu_cl_fw v_t_cu_cl_fp v_t_cu_cl_fn v_t_cu_cl_rt v_t_cu_cl_wd v_t_cu_cl_pd v_t_cu_cl_ss v_t_cu_cl_rs v_t_cu_cl_sh_nd v_t_cu_cl_sh_sn v_t_cu_cl_seg) rfl rfl rfl rfl rfl (rest := []) rfl (Nat.le_of_ble_eq_true rfl) dX5_circuitsIn_17 ⟨Nat.zero_le _, Nat.zero_le _⟩ (fun H locs hP hD hS => ?_)
      obtain rfl := Option.some.inj hf
      exact retI X hS hP rfl dX5_circuitsIn_20
    · replace hf := ifn hc hf
      refine lv_bipush hx hb dX5_circuitsIn_9 bp_m4 ?_
      obtain rfl := Option.some.inj hf
      exact retI X hS hP rfl dX5_circuitsIn_11

abbrev wo_X5_deliveredCount (cI cZ : ClassId) (a_t a_t_cu a_t_tr a_t_s0 a_t_s1 a_t_cu_ct a_t_cu_cl a_t_cu_cl_sh a_t_cu_ct_fe a_t_cu_ct_se a_t_cu_ct_pa a_t_cu_ct_sl a_t_cu_cl_cmd a_t_cu_cl_tim a_t_cu_cl_hel a_t_cu_cl_dir a_t_cu_cl_seg : Nat) (v_t_cu_tm : Int32) (v_t_cu_ct_ex : Int32) (v_t_cu_ct_fe : Nat → Int32) (v_t_cu_ct_se : Nat → Int32) (v_t_cu_ct_pa : Nat → Int32) (v_t_cu_cl_fw : Int32) (v_t_cu_cl_fp : Int32) (v_t_cu_cl_fn : Int32) (v_t_cu_cl_rt : Int32) (v_t_cu_cl_wd : Int32) (v_t_cu_cl_pd : Int32) (v_t_cu_cl_ss : Int32) (v_t_cu_cl_rs : Int32) (v_t_cu_cl_sh_nd : Int32) (v_t_cu_cl_sh_sn : Int32) (v_t_cu_cl_seg : Nat → Int32) : va_W := [(a_t, oX5 a_t_cu a_t_tr a_t_s0 a_t_s1), (a_t_cu, oX3 a_t_cu_ct a_t_cu_cl a_t_cu_cl_sh v_t_cu_tm), (a_t_cu_ct, oX0 a_t_cu_ct_fe a_t_cu_ct_se a_t_cu_ct_pa a_t_cu_ct_sl v_t_cu_ct_ex), (a_t_cu_ct_fe, rI cI 16 v_t_cu_ct_fe), (a_t_cu_ct_se, rI cI 16 v_t_cu_ct_se), (a_t_cu_ct_pa, rI cI 16 v_t_cu_ct_pa), (a_t_cu_cl, oX1 a_t_cu_cl_sh v_t_cu_cl_fw v_t_cu_cl_fp v_t_cu_cl_fn a_t_cu_cl_cmd a_t_cu_cl_tim a_t_cu_cl_hel v_t_cu_cl_rt v_t_cu_cl_wd v_t_cu_cl_pd a_t_cu_cl_dir v_t_cu_cl_ss v_t_cu_cl_rs a_t_cu_cl_seg), (a_t_cu_cl_sh, oX2 v_t_cu_cl_sh_nd v_t_cu_cl_sh_sn), (a_t_cu_cl_seg, rI cI 8 v_t_cu_cl_seg)]
def fX5_deliveredCount (v_t_cu_ct_ex : Int32) (v_t_cu_ct_fe : Nat → Int32) (v_t_cu_ct_se : Nat → Int32) (v_t_cu_ct_pa : Nat → Int32) (v_t_cu_cl_wd : Int32) (v_t_cu_cl_pd : Int32) (v_t_cu_cl_ss : Int32) (v_t_cu_cl_rs : Int32) (v_t_cu_cl_sh_nd : Int32) (v_t_cu_cl_seg : Nat → Int32) : Option (Int32) := ((fX3_countDelivered v_t_cu_ct_ex v_t_cu_ct_fe v_t_cu_ct_se v_t_cu_ct_pa v_t_cu_cl_wd v_t_cu_cl_pd v_t_cu_cl_ss v_t_cu_cl_rs v_t_cu_cl_sh_nd v_t_cu_cl_seg).bind (fun q4 => (some q4)))
theorem kd_X5_deliveredCount : yX5_deliveredCount.cls = RX5 ∧ yX5_deliveredCount.cls ≠ "java/lang/invoke/MethodHandle" ∧ yX5_deliveredCount.cls ≠ "java/lang/invoke/VarHandle" ∧ (parseMethodDescriptor yX5_deliveredCount.desc).map (fun d => d.parameters.length) = some 0 := by decide +kernel
def rm_X5_deliveredCount : Room := { frames := 5, cells := 0, slots := 0, locals := 114 }
set_option maxHeartbeats 4000000 in
set_option maxRecDepth 100000 in
theorem k_X5_deliveredCount (l : Launch) (D : va_G) (cI cZ : ClassId) (a_t a_t_cu a_t_tr a_t_s0 a_t_s1 a_t_cu_ct a_t_cu_cl a_t_cu_cl_sh a_t_cu_ct_fe a_t_cu_ct_se a_t_cu_ct_pa a_t_cu_ct_sl a_t_cu_cl_cmd a_t_cu_cl_tim a_t_cu_cl_hel a_t_cu_cl_dir a_t_cu_cl_seg : Nat) (v_t_cu_tm : Int32) (v_t_cu_ct_ex : Int32) (v_t_cu_ct_fe : Nat → Int32) (v_t_cu_ct_se : Nat → Int32) (v_t_cu_ct_pa : Nat → Int32) (v_t_cu_cl_fw : Int32) (v_t_cu_cl_fp : Int32) (v_t_cu_cl_fn : Int32) (v_t_cu_cl_rt : Int32) (v_t_cu_cl_wd : Int32) (v_t_cu_cl_pd : Int32) (v_t_cu_cl_ss : Int32) (v_t_cu_cl_rs : Int32) (v_t_cu_cl_sh_nd : Int32) (v_t_cu_cl_sh_sn : Int32) (v_t_cu_cl_seg : Nat → Int32) (q : Int32) (hf : fX5_deliveredCount v_t_cu_ct_ex v_t_cu_ct_fe v_t_cu_ct_se v_t_cu_ct_pa v_t_cu_cl_wd v_t_cu_cl_pd v_t_cu_cl_ss v_t_cu_cl_rs v_t_cu_cl_sh_nd v_t_cu_cl_seg = some q) : CI l D cI cZ yX5_deliveredCount wsX5_deliveredCount rm_X5_deliveredCount [.ref a_t] (wo_X5_deliveredCount cI cZ a_t a_t_cu a_t_tr a_t_s0 a_t_s1 a_t_cu_ct a_t_cu_cl a_t_cu_cl_sh a_t_cu_ct_fe a_t_cu_ct_se a_t_cu_ct_pa a_t_cu_ct_sl a_t_cu_cl_cmd a_t_cu_cl_tim a_t_cu_cl_hel a_t_cu_cl_dir a_t_cu_cl_seg v_t_cu_tm v_t_cu_ct_ex v_t_cu_ct_fe v_t_cu_ct_se v_t_cu_ct_pa v_t_cu_cl_fw v_t_cu_cl_fp v_t_cu_cl_fn v_t_cu_cl_rt v_t_cu_cl_wd v_t_cu_cl_pd v_t_cu_cl_ss v_t_cu_cl_rs v_t_cu_cl_sh_nd v_t_cu_cl_sh_sn v_t_cu_cl_seg) (wo_X5_deliveredCount cI cZ a_t a_t_cu a_t_tr a_t_s0 a_t_s1 a_t_cu_ct a_t_cu_cl a_t_cu_cl_sh a_t_cu_ct_fe a_t_cu_ct_se a_t_cu_ct_pa a_t_cu_ct_sl a_t_cu_cl_cmd a_t_cu_cl_tim a_t_cu_cl_hel a_t_cu_cl_dir a_t_cu_cl_seg v_t_cu_tm v_t_cu_ct_ex v_t_cu_ct_fe v_t_cu_ct_se v_t_cu_ct_pa v_t_cu_cl_fw v_t_cu_cl_fp v_t_cu_cl_fn v_t_cu_cl_rt v_t_cu_cl_wd v_t_cu_cl_pd v_t_cu_cl_ss v_t_cu_cl_rs v_t_cu_cl_sh_nd v_t_cu_cl_sh_sn v_t_cu_cl_seg) q := by
  refine CI.mk (cc := cX5_deliveredCount) (maxL := 1) (by decide) rfl (Nat.le_of_ble_eq_true rfl) ?_
  intro p e s m below meth c ls A X hP hD hl hS
  have hx := X.1.1
  have hb := X.1.2.1
  have hl : lv_has ls 1 [(0, .ref a_t)] := hl
  have inX5 : ∀ w ∈ u_ws RX5 TX5 4, w ∈ wsX5_deliveredCount := fun _ h => List.mem_cons_of_mem _ (List.mem_append_left _ (List.mem_append_left _ (List.mem_append_left _ (List.mem_append_left _ (List.mem_append_right _ h)))))
  unfold fX5_deliveredCount at hf
  refine lv_aload_n hx hb dX5_deliveredCount_0 rfl (lv_at hl 0 rfl) ?_
  refine getO X hP inX5 0 rfl rfl 0 (by decide) (List.mem_of_getElem? (i := 1) rfl) rfl dX5_deliveredCount_1 ?_
  obtain ⟨q4, e4, hf⟩ := bnd hf
  refine callVI X (k_X3_countDelivered l D cI cZ a_t_cu a_t_cu_ct a_t_cu_cl a_t_cu_cl_sh a_t_cu_ct_fe a_t_cu_ct_se a_t_cu_ct_pa a_t_cu_ct_sl a_t_cu_cl_cmd a_t_cu_cl_tim a_t_cu_cl_hel a_t_cu_cl_dir a_t_cu_cl_seg  v_t_cu_tm v_t_cu_ct_ex v_t_cu_ct_fe v_t_cu_ct_se v_t_cu_ct_pa v_t_cu_cl_fw v_t_cu_cl_fp v_t_cu_cl_fn v_t_cu_cl_rt v_t_cu_cl_wd v_t_cu_cl_pd v_t_cu_cl_ss v_t_cu_cl_rs v_t_cu_cl_sh_nd v_t_cu_cl_sh_sn v_t_cu_cl_seg  q4 e4) (cwV 0 X.1.2.2.2.2 gX5_deliveredCount_X3_countDelivered rfl rfl rfl kd_X3_countDelivered ⟨Nat.le_of_ble_eq_true rfl, Nat.le_of_ble_eq_true rfl⟩) hP hD hS hl.1 1 3 rfl rfl [1, 2, 3, 4, 5, 6, 7, 8] (by decide) (wo_X5_deliveredCount cI cZ a_t a_t_cu a_t_tr a_t_s0 a_t_s1 a_t_cu_ct a_t_cu_cl a_t_cu_cl_sh a_t_cu_ct_fe a_t_cu_ct_se a_t_cu_ct_pa a_t_cu_ct_sl a_t_cu_cl_cmd a_t_cu_cl_tim a_t_cu_cl_hel a_t_cu_cl_dir a_t_cu_cl_seg v_t_cu_tm v_t_cu_ct_ex v_t_cu_ct_fe v_t_cu_ct_se v_t_cu_ct_pa v_t_cu_cl_fw v_t_cu_cl_fp v_t_cu_cl_fn v_t_cu_cl_rt v_t_cu_cl_wd v_t_cu_cl_pd v_t_cu_cl_ss v_t_cu_cl_rs v_t_cu_cl_sh_nd v_t_cu_cl_sh_sn v_t_cu_cl_seg) rfl rfl rfl rfl rfl (rest := []) rfl (Nat.le_of_ble_eq_true rfl) dX5_deliveredCount_4 ⟨Nat.zero_le _, Nat.zero_le _⟩ (fun H locs hP hD hS => ?_)
  obtain rfl := Option.some.inj hf
  exact retI X hS hP rfl dX5_deliveredCount_7

abbrev wo_X5_hops (cI cZ : ClassId) (a_t a_t_cu a_t_tr a_t_s0 a_t_s1 a_t_cu_ct a_t_cu_cl a_t_cu_cl_sh a_t_cu_ct_fe a_t_cu_ct_se a_t_cu_ct_pa a_t_cu_ct_sl a_t_cu_cl_cmd a_t_cu_cl_tim a_t_cu_cl_hel a_t_cu_cl_dir a_t_cu_cl_seg : Nat) (v_t_cu_tm : Int32) (v_t_cu_ct_ex : Int32) (v_t_cu_ct_fe : Nat → Int32) (v_t_cu_ct_se : Nat → Int32) (v_t_cu_ct_pa : Nat → Int32) (v_t_cu_cl_fw : Int32) (v_t_cu_cl_fp : Int32) (v_t_cu_cl_fn : Int32) (v_t_cu_cl_rt : Int32) (v_t_cu_cl_wd : Int32) (v_t_cu_cl_pd : Int32) (v_t_cu_cl_ss : Int32) (v_t_cu_cl_rs : Int32) (v_t_cu_cl_sh_nd : Int32) (v_t_cu_cl_sh_sn : Int32) (v_t_cu_cl_seg : Nat → Int32) : va_W := [(a_t, oX5 a_t_cu a_t_tr a_t_s0 a_t_s1), (a_t_cu, oX3 a_t_cu_ct a_t_cu_cl a_t_cu_cl_sh v_t_cu_tm), (a_t_cu_ct, oX0 a_t_cu_ct_fe a_t_cu_ct_se a_t_cu_ct_pa a_t_cu_ct_sl v_t_cu_ct_ex), (a_t_cu_ct_fe, rI cI 16 v_t_cu_ct_fe), (a_t_cu_ct_se, rI cI 16 v_t_cu_ct_se), (a_t_cu_ct_pa, rI cI 16 v_t_cu_ct_pa), (a_t_cu_cl, oX1 a_t_cu_cl_sh v_t_cu_cl_fw v_t_cu_cl_fp v_t_cu_cl_fn a_t_cu_cl_cmd a_t_cu_cl_tim a_t_cu_cl_hel v_t_cu_cl_rt v_t_cu_cl_wd v_t_cu_cl_pd a_t_cu_cl_dir v_t_cu_cl_ss v_t_cu_cl_rs a_t_cu_cl_seg), (a_t_cu_cl_sh, oX2 v_t_cu_cl_sh_nd v_t_cu_cl_sh_sn), (a_t_cu_cl_seg, rI cI 8 v_t_cu_cl_seg)]
def fX5_hops (v_t_cu_ct_ex : Int32) (v_t_cu_ct_fe : Nat → Int32) (v_t_cu_ct_se : Nat → Int32) (v_t_cu_ct_pa : Nat → Int32) (v_t_cu_cl_wd : Int32) (v_t_cu_cl_pd : Int32) (v_t_cu_cl_ss : Int32) (v_t_cu_cl_rs : Int32) (v_t_cu_cl_sh_nd : Int32) (v_t_cu_cl_seg : Nat → Int32) (p1 : Int32) : Option (Int32) := ((fX0_has v_t_cu_ct_pa p1).bind (fun q8 => (if q8 = true then ((fX3_hopsOf v_t_cu_ct_ex v_t_cu_ct_fe v_t_cu_ct_se v_t_cu_ct_pa v_t_cu_cl_wd v_t_cu_cl_pd v_t_cu_cl_ss v_t_cu_cl_rs v_t_cu_cl_sh_nd v_t_cu_cl_seg p1).bind (fun q22 => (some q22))) else (some (-3)))))
theorem kd_X5_hops : yX5_hops.cls = RX5 ∧ yX5_hops.cls ≠ "java/lang/invoke/MethodHandle" ∧ yX5_hops.cls ≠ "java/lang/invoke/VarHandle" ∧ (parseMethodDescriptor yX5_hops.desc).map (fun d => d.parameters.length) = some 1 := by decide +kernel
def rm_X5_hops : Room := { frames := 5, cells := 0, slots := 0, locals := 117 }
set_option maxHeartbeats 4000000 in
set_option maxRecDepth 100000 in
theorem k_X5_hops (l : Launch) (D : va_G) (cI cZ : ClassId) (a_t a_t_cu a_t_tr a_t_s0 a_t_s1 a_t_cu_ct a_t_cu_cl a_t_cu_cl_sh a_t_cu_ct_fe a_t_cu_ct_se a_t_cu_ct_pa a_t_cu_ct_sl a_t_cu_cl_cmd a_t_cu_cl_tim a_t_cu_cl_hel a_t_cu_cl_dir a_t_cu_cl_seg : Nat) (v_t_cu_tm : Int32) (v_t_cu_ct_ex : Int32) (v_t_cu_ct_fe : Nat → Int32) (v_t_cu_ct_se : Nat → Int32) (v_t_cu_ct_pa : Nat → Int32) (v_t_cu_cl_fw : Int32) (v_t_cu_cl_fp : Int32) (v_t_cu_cl_fn : Int32) (v_t_cu_cl_rt : Int32) (v_t_cu_cl_wd : Int32) (v_t_cu_cl_pd : Int32) (v_t_cu_cl_ss : Int32) (v_t_cu_cl_rs : Int32) (v_t_cu_cl_sh_nd : Int32) (v_t_cu_cl_sh_sn : Int32) (v_t_cu_cl_seg : Nat → Int32) (p1 : Int32) (q : Int32) (hf : fX5_hops v_t_cu_ct_ex v_t_cu_ct_fe v_t_cu_ct_se v_t_cu_ct_pa v_t_cu_cl_wd v_t_cu_cl_pd v_t_cu_cl_ss v_t_cu_cl_rs v_t_cu_cl_sh_nd v_t_cu_cl_seg p1 = some q) : CI l D cI cZ yX5_hops wsX5_hops rm_X5_hops [.ref a_t, .int p1] (wo_X5_hops cI cZ a_t a_t_cu a_t_tr a_t_s0 a_t_s1 a_t_cu_ct a_t_cu_cl a_t_cu_cl_sh a_t_cu_ct_fe a_t_cu_ct_se a_t_cu_ct_pa a_t_cu_ct_sl a_t_cu_cl_cmd a_t_cu_cl_tim a_t_cu_cl_hel a_t_cu_cl_dir a_t_cu_cl_seg v_t_cu_tm v_t_cu_ct_ex v_t_cu_ct_fe v_t_cu_ct_se v_t_cu_ct_pa v_t_cu_cl_fw v_t_cu_cl_fp v_t_cu_cl_fn v_t_cu_cl_rt v_t_cu_cl_wd v_t_cu_cl_pd v_t_cu_cl_ss v_t_cu_cl_rs v_t_cu_cl_sh_nd v_t_cu_cl_sh_sn v_t_cu_cl_seg) (wo_X5_hops cI cZ a_t a_t_cu a_t_tr a_t_s0 a_t_s1 a_t_cu_ct a_t_cu_cl a_t_cu_cl_sh a_t_cu_ct_fe a_t_cu_ct_se a_t_cu_ct_pa a_t_cu_ct_sl a_t_cu_cl_cmd a_t_cu_cl_tim a_t_cu_cl_hel a_t_cu_cl_dir a_t_cu_cl_seg v_t_cu_tm v_t_cu_ct_ex v_t_cu_ct_fe v_t_cu_ct_se v_t_cu_ct_pa v_t_cu_cl_fw v_t_cu_cl_fp v_t_cu_cl_fn v_t_cu_cl_rt v_t_cu_cl_wd v_t_cu_cl_pd v_t_cu_cl_ss v_t_cu_cl_rs v_t_cu_cl_sh_nd v_t_cu_cl_sh_sn v_t_cu_cl_seg) q := by
  refine CI.mk (cc := cX5_hops) (maxL := 2) (by decide) rfl (Nat.le_of_ble_eq_true rfl) ?_
  intro p e s m below meth c ls A X hP hD hl hS
  have hx := X.1.1
  have hb := X.1.2.1
  have hl : lv_has ls 2 [(0, .ref a_t), (1, .int p1)] := hl
  have inX3 : ∀ w ∈ u_ws RX3 TX3 4, w ∈ wsX5_hops := fun _ h => List.mem_cons_of_mem _ (List.mem_append_left _ (List.mem_append_left _ (List.mem_append_left _ (List.mem_append_right _ h))))
  have inX5 : ∀ w ∈ u_ws RX5 TX5 4, w ∈ wsX5_hops := fun _ h => List.mem_cons_of_mem _ (List.mem_append_left _ (List.mem_append_left _ (List.mem_append_left _ (List.mem_append_left _ (List.mem_append_right _ h)))))
  unfold fX5_hops at hf
  refine lv_aload_n hx hb dX5_hops_0 rfl (lv_at hl 0 rfl) ?_
  refine getO X hP inX5 0 rfl rfl 0 (by decide) (List.mem_of_getElem? (i := 1) rfl) rfl dX5_hops_1 ?_
  refine getN X hP inX3 1 rfl rfl 0 (by decide) 14 rfl rfl dX5_hops_4 ?_
  refine lv_iload_n hx hb dX5_hops_7 rfl (lv_at hl 1 rfl) ?_
  obtain ⟨q8, e8, hf⟩ := bnd hf
  refine callVI X (k_X0_has l D cI cZ a_t_cu_ct a_t_cu_ct_fe a_t_cu_ct_se a_t_cu_ct_pa a_t_cu_ct_sl  v_t_cu_ct_ex v_t_cu_ct_pa p1 q8 e8) (cwV 1 X.1.2.2.2.2 gX5_hops_X0_has rfl rfl rfl kd_X0_has ⟨Nat.le_of_ble_eq_true rfl, Nat.le_of_ble_eq_true rfl⟩) hP hD hS hl.1 2 0 rfl rfl [2, 5] (by decide) (wo_X5_hops cI cZ a_t a_t_cu a_t_tr a_t_s0 a_t_s1 a_t_cu_ct a_t_cu_cl a_t_cu_cl_sh a_t_cu_ct_fe a_t_cu_ct_se a_t_cu_ct_pa a_t_cu_ct_sl a_t_cu_cl_cmd a_t_cu_cl_tim a_t_cu_cl_hel a_t_cu_cl_dir a_t_cu_cl_seg v_t_cu_tm v_t_cu_ct_ex v_t_cu_ct_fe v_t_cu_ct_se v_t_cu_ct_pa v_t_cu_cl_fw v_t_cu_cl_fp v_t_cu_cl_fn v_t_cu_cl_rt v_t_cu_cl_wd v_t_cu_cl_pd v_t_cu_cl_ss v_t_cu_cl_rs v_t_cu_cl_sh_nd v_t_cu_cl_sh_sn v_t_cu_cl_seg) rfl rfl rfl rfl rfl (rest := []) rfl (Nat.le_of_ble_eq_true rfl) dX5_hops_8 ⟨Nat.zero_le _, Nat.zero_le _⟩ (fun H locs hP hD hS => ?_)
  refine lv_if_ne (tgt := 17) hx hb dX5_hops_11 (by decide) (fun hc => ?_) (fun hc => ?_)
  · replace hf := ifp (b2i_nz hc) hf
    refine lv_aload_n hx hb dX5_hops_17 rfl (lv_at hl 0 rfl) ?_
    refine getO X hP inX5 0 rfl rfl 0 (by decide) (List.mem_of_getElem? (i := 1) rfl) rfl dX5_hops_18 ?_
    refine lv_iload_n hx hb dX5_hops_21 rfl (lv_at hl 1 rfl) ?_
    obtain ⟨q22, e22, hf⟩ := bnd hf
    refine callVI X (k_X3_hopsOf l D cI cZ a_t_cu a_t_cu_ct a_t_cu_cl a_t_cu_cl_sh a_t_cu_ct_fe a_t_cu_ct_se a_t_cu_ct_pa a_t_cu_ct_sl a_t_cu_cl_cmd a_t_cu_cl_tim a_t_cu_cl_hel a_t_cu_cl_dir a_t_cu_cl_seg  v_t_cu_tm v_t_cu_ct_ex v_t_cu_ct_fe v_t_cu_ct_se v_t_cu_ct_pa v_t_cu_cl_fw v_t_cu_cl_fp v_t_cu_cl_fn v_t_cu_cl_rt v_t_cu_cl_wd v_t_cu_cl_pd v_t_cu_cl_ss v_t_cu_cl_rs v_t_cu_cl_sh_nd v_t_cu_cl_sh_sn v_t_cu_cl_seg p1 q22 e22) (cwV 1 X.1.2.2.2.2 gX5_hops_X3_hopsOf rfl rfl rfl kd_X3_hopsOf ⟨Nat.le_of_ble_eq_true rfl, Nat.le_of_ble_eq_true rfl⟩) hP hD hS hl.1 1 3 rfl rfl [1, 2, 3, 4, 5, 6, 7, 8] (by decide) (wo_X5_hops cI cZ a_t a_t_cu a_t_tr a_t_s0 a_t_s1 a_t_cu_ct a_t_cu_cl a_t_cu_cl_sh a_t_cu_ct_fe a_t_cu_ct_se a_t_cu_ct_pa a_t_cu_ct_sl a_t_cu_cl_cmd a_t_cu_cl_tim a_t_cu_cl_hel a_t_cu_cl_dir a_t_cu_cl_seg v_t_cu_tm v_t_cu_ct_ex v_t_cu_ct_fe v_t_cu_ct_se v_t_cu_ct_pa v_t_cu_cl_fw v_t_cu_cl_fp v_t_cu_cl_fn v_t_cu_cl_rt v_t_cu_cl_wd v_t_cu_cl_pd v_t_cu_cl_ss v_t_cu_cl_rs v_t_cu_cl_sh_nd v_t_cu_cl_sh_sn v_t_cu_cl_seg) rfl rfl rfl rfl rfl (rest := []) rfl (Nat.le_of_ble_eq_true rfl) dX5_hops_22 ⟨Nat.zero_le _, Nat.zero_le _⟩ (fun H locs hP hD hS => ?_)
    obtain rfl := Option.some.inj hf
    exact retI X hS hP rfl dX5_hops_25
  · replace hf := ifn (b2i_z hc) hf
    refine lv_bipush hx hb dX5_hops_14 bp_m3 ?_
    obtain rfl := Option.some.inj hf
    exact retI X hS hP rfl dX5_hops_16

abbrev wo_X5_averageHops (cI cZ : ClassId) (a_t a_t_cu a_t_tr a_t_s0 a_t_s1 a_t_cu_ct a_t_cu_cl a_t_cu_cl_sh a_t_cu_ct_fe a_t_cu_ct_se a_t_cu_ct_pa a_t_cu_ct_sl a_t_cu_cl_cmd a_t_cu_cl_tim a_t_cu_cl_hel a_t_cu_cl_dir a_t_cu_cl_seg : Nat) (v_t_cu_tm : Int32) (v_t_cu_ct_ex : Int32) (v_t_cu_ct_fe : Nat → Int32) (v_t_cu_ct_se : Nat → Int32) (v_t_cu_ct_pa : Nat → Int32) (v_t_cu_cl_fw : Int32) (v_t_cu_cl_fp : Int32) (v_t_cu_cl_fn : Int32) (v_t_cu_cl_rt : Int32) (v_t_cu_cl_wd : Int32) (v_t_cu_cl_pd : Int32) (v_t_cu_cl_ss : Int32) (v_t_cu_cl_rs : Int32) (v_t_cu_cl_sh_nd : Int32) (v_t_cu_cl_sh_sn : Int32) (v_t_cu_cl_seg : Nat → Int32) : va_W := [(a_t, oX5 a_t_cu a_t_tr a_t_s0 a_t_s1), (a_t_cu, oX3 a_t_cu_ct a_t_cu_cl a_t_cu_cl_sh v_t_cu_tm), (a_t_cu_ct, oX0 a_t_cu_ct_fe a_t_cu_ct_se a_t_cu_ct_pa a_t_cu_ct_sl v_t_cu_ct_ex), (a_t_cu_ct_fe, rI cI 16 v_t_cu_ct_fe), (a_t_cu_ct_se, rI cI 16 v_t_cu_ct_se), (a_t_cu_ct_pa, rI cI 16 v_t_cu_ct_pa), (a_t_cu_cl, oX1 a_t_cu_cl_sh v_t_cu_cl_fw v_t_cu_cl_fp v_t_cu_cl_fn a_t_cu_cl_cmd a_t_cu_cl_tim a_t_cu_cl_hel v_t_cu_cl_rt v_t_cu_cl_wd v_t_cu_cl_pd a_t_cu_cl_dir v_t_cu_cl_ss v_t_cu_cl_rs a_t_cu_cl_seg), (a_t_cu_cl_sh, oX2 v_t_cu_cl_sh_nd v_t_cu_cl_sh_sn), (a_t_cu_cl_seg, rI cI 8 v_t_cu_cl_seg)]
def fX5_averageHops (v_t_cu_ct_ex : Int32) (v_t_cu_ct_fe : Nat → Int32) (v_t_cu_ct_se : Nat → Int32) (v_t_cu_ct_pa : Nat → Int32) (v_t_cu_cl_wd : Int32) (v_t_cu_cl_pd : Int32) (v_t_cu_cl_ss : Int32) (v_t_cu_cl_rs : Int32) (v_t_cu_cl_sh_nd : Int32) (v_t_cu_cl_seg : Nat → Int32) : Option (Int32) := ((fX3_countDelivered v_t_cu_ct_ex v_t_cu_ct_fe v_t_cu_ct_se v_t_cu_ct_pa v_t_cu_cl_wd v_t_cu_cl_pd v_t_cu_cl_ss v_t_cu_cl_rs v_t_cu_cl_sh_nd v_t_cu_cl_seg).bind (fun q4 => (if 0 < q4 then ((fX3_sumOfHops v_t_cu_ct_ex v_t_cu_ct_fe v_t_cu_ct_se v_t_cu_ct_pa v_t_cu_cl_wd v_t_cu_cl_pd v_t_cu_cl_ss v_t_cu_cl_rs v_t_cu_cl_sh_nd v_t_cu_cl_seg).bind (fun q21 => (if q4 = 0 then none else (some (((nI 100) * q21) / q4))))) else (some (-9)))))
theorem kd_X5_averageHops : yX5_averageHops.cls = RX5 ∧ yX5_averageHops.cls ≠ "java/lang/invoke/MethodHandle" ∧ yX5_averageHops.cls ≠ "java/lang/invoke/VarHandle" ∧ (parseMethodDescriptor yX5_averageHops.desc).map (fun d => d.parameters.length) = some 0 := by decide +kernel
def rm_X5_averageHops : Room := { frames := 6, cells := 0, slots := 0, locals := 140 }
set_option maxHeartbeats 4000000 in
set_option maxRecDepth 100000 in
theorem k_X5_averageHops (l : Launch) (D : va_G) (cI cZ : ClassId) (a_t a_t_cu a_t_tr a_t_s0 a_t_s1 a_t_cu_ct a_t_cu_cl a_t_cu_cl_sh a_t_cu_ct_fe a_t_cu_ct_se a_t_cu_ct_pa a_t_cu_ct_sl a_t_cu_cl_cmd a_t_cu_cl_tim a_t_cu_cl_hel a_t_cu_cl_dir a_t_cu_cl_seg : Nat) (v_t_cu_tm : Int32) (v_t_cu_ct_ex : Int32) (v_t_cu_ct_fe : Nat → Int32) (v_t_cu_ct_se : Nat → Int32) (v_t_cu_ct_pa : Nat → Int32) (v_t_cu_cl_fw : Int32) (v_t_cu_cl_fp : Int32) (v_t_cu_cl_fn : Int32) (v_t_cu_cl_rt : Int32) (v_t_cu_cl_wd : Int32) (v_t_cu_cl_pd : Int32) (v_t_cu_cl_ss : Int32) (v_t_cu_cl_rs : Int32) (v_t_cu_cl_sh_nd : Int32) (v_t_cu_cl_sh_sn : Int32) (v_t_cu_cl_seg : Nat → Int32) (q : Int32) (hf : fX5_averageHops v_t_cu_ct_ex v_t_cu_ct_fe v_t_cu_ct_se v_t_cu_ct_pa v_t_cu_cl_wd v_t_cu_cl_pd v_t_cu_cl_ss v_t_cu_cl_rs v_t_cu_cl_sh_nd v_t_cu_cl_seg = some q) : CI l D cI cZ yX5_averageHops wsX5_averageHops rm_X5_averageHops [.ref a_t] (wo_X5_averageHops cI cZ a_t a_t_cu a_t_tr a_t_s0 a_t_s1 a_t_cu_ct a_t_cu_cl a_t_cu_cl_sh a_t_cu_ct_fe a_t_cu_ct_se a_t_cu_ct_pa a_t_cu_ct_sl a_t_cu_cl_cmd a_t_cu_cl_tim a_t_cu_cl_hel a_t_cu_cl_dir a_t_cu_cl_seg v_t_cu_tm v_t_cu_ct_ex v_t_cu_ct_fe v_t_cu_ct_se v_t_cu_ct_pa v_t_cu_cl_fw v_t_cu_cl_fp v_t_cu_cl_fn v_t_cu_cl_rt v_t_cu_cl_wd v_t_cu_cl_pd v_t_cu_cl_ss v_t_cu_cl_rs v_t_cu_cl_sh_nd v_t_cu_cl_sh_sn v_t_cu_cl_seg) (wo_X5_averageHops cI cZ a_t a_t_cu a_t_tr a_t_s0 a_t_s1 a_t_cu_ct a_t_cu_cl a_t_cu_cl_sh a_t_cu_ct_fe a_t_cu_ct_se a_t_cu_ct_pa a_t_cu_ct_sl a_t_cu_cl_cmd a_t_cu_cl_tim a_t_cu_cl_hel a_t_cu_cl_dir a_t_cu_cl_seg v_t_cu_tm v_t_cu_ct_ex v_t_cu_ct_fe v_t_cu_ct_se v_t_cu_ct_pa v_t_cu_cl_fw v_t_cu_cl_fp v_t_cu_cl_fn v_t_cu_cl_rt v_t_cu_cl_wd v_t_cu_cl_pd v_t_cu_cl_ss v_t_cu_cl_rs v_t_cu_cl_sh_nd v_t_cu_cl_sh_sn v_t_cu_cl_seg) q := by
  refine CI.mk (cc := cX5_averageHops) (maxL := 2) (by decide) rfl (Nat.le_of_ble_eq_true rfl) ?_
  intro p e s m below meth c ls A X hP hD hl hS
  have hx := X.1.1
  have hb := X.1.2.1
  have hl : lv_has ls 2 [(0, .ref a_t)] := hl
  have inX5 : ∀ w ∈ u_ws RX5 TX5 4, w ∈ wsX5_averageHops := fun _ h => List.mem_cons_of_mem _ (List.mem_append_left _ (List.mem_append_left _ (List.mem_append_left _ (List.mem_append_left _ (List.mem_append_right _ h)))))
  unfold fX5_averageHops at hf
  refine lv_aload_n hx hb dX5_averageHops_0 rfl (lv_at hl 0 rfl) ?_
  refine getO X hP inX5 0 rfl rfl 0 (by decide) (List.mem_of_getElem? (i := 1) rfl) rfl dX5_averageHops_1 ?_
  obtain ⟨q4, e4, hf⟩ := bnd hf
  refine callVI X (k_X3_countDelivered l D cI cZ a_t_cu a_t_cu_ct a_t_cu_cl a_t_cu_cl_sh a_t_cu_ct_fe a_t_cu_ct_se a_t_cu_ct_pa a_t_cu_ct_sl a_t_cu_cl_cmd a_t_cu_cl_tim a_t_cu_cl_hel a_t_cu_cl_dir a_t_cu_cl_seg  v_t_cu_tm v_t_cu_ct_ex v_t_cu_ct_fe v_t_cu_ct_se v_t_cu_ct_pa v_t_cu_cl_fw v_t_cu_cl_fp v_t_cu_cl_fn v_t_cu_cl_rt v_t_cu_cl_wd v_t_cu_cl_pd v_t_cu_cl_ss v_t_cu_cl_rs v_t_cu_cl_sh_nd v_t_cu_cl_sh_sn v_t_cu_cl_seg  q4 e4) (cwV 0 X.1.2.2.2.2 gX5_averageHops_X3_countDelivered rfl rfl rfl kd_X3_countDelivered ⟨Nat.le_of_ble_eq_true rfl, Nat.le_of_ble_eq_true rfl⟩) hP hD hS hl.1 1 3 rfl rfl [1, 2, 3, 4, 5, 6, 7, 8] (by decide) (wo_X5_averageHops cI cZ a_t a_t_cu a_t_tr a_t_s0 a_t_s1 a_t_cu_ct a_t_cu_cl a_t_cu_cl_sh a_t_cu_ct_fe a_t_cu_ct_se a_t_cu_ct_pa a_t_cu_ct_sl a_t_cu_cl_cmd a_t_cu_cl_tim a_t_cu_cl_hel a_t_cu_cl_dir a_t_cu_cl_seg v_t_cu_tm v_t_cu_ct_ex v_t_cu_ct_fe v_t_cu_ct_se v_t_cu_ct_pa v_t_cu_cl_fw v_t_cu_cl_fp v_t_cu_cl_fn v_t_cu_cl_rt v_t_cu_cl_wd v_t_cu_cl_pd v_t_cu_cl_ss v_t_cu_cl_rs v_t_cu_cl_sh_nd v_t_cu_cl_sh_sn v_t_cu_cl_seg) rfl rfl rfl rfl rfl (rest := []) rfl (Nat.le_of_ble_eq_true rfl) dX5_averageHops_4 ⟨Nat.zero_le _, Nat.zero_le _⟩ (fun H locs hP hD hS => ?_)
  refine lv_istore_n (lv' := [(1, .int q4), (0, .ref a_t)]) hx hb dX5_averageHops_7 rfl hl (by decide) rfl (fun ls hl => ?_)
  refine lv_iload_n hx hb dX5_averageHops_8 rfl (lv_at hl 0 rfl) ?_
  refine lv_if_gt (tgt := 15) hx hb dX5_averageHops_9 (by decide) (fun hc => ?_) (fun hc => ?_)
  · replace hf := ifp hc hf
    refine lv_bipush hx hb dX5_averageHops_15 bp_100 ?_
    refine lv_aload_n hx hb dX5_averageHops_17 rfl (lv_at hl 1 rfl) ?_
    refine getO X hP inX5 0 rfl rfl 0 (by decide) (List.mem_of_getElem? (i := 1) rfl) rfl dX5_averageHops_18 ?_
    obtain ⟨q21, e21, hf⟩ := bnd hf
    refine callVI X (k_X3_sumOfHops l D cI cZ a_t_cu a_t_cu_ct a_t_cu_cl a_t_cu_cl_sh a_t_cu_ct_fe a_t_cu_ct_se a_t_cu_ct_pa a_t_cu_ct_sl a_t_cu_cl_cmd a_t_cu_cl_tim a_t_cu_cl_hel a_t_cu_cl_dir a_t_cu_cl_seg  v_t_cu_tm v_t_cu_ct_ex v_t_cu_ct_fe v_t_cu_ct_se v_t_cu_ct_pa v_t_cu_cl_fw v_t_cu_cl_fp v_t_cu_cl_fn v_t_cu_cl_rt v_t_cu_cl_wd v_t_cu_cl_pd v_t_cu_cl_ss v_t_cu_cl_rs v_t_cu_cl_sh_nd v_t_cu_cl_sh_sn v_t_cu_cl_seg  q21 e21) (cwV 0 X.1.2.2.2.2 gX5_averageHops_X3_sumOfHops rfl rfl rfl kd_X3_sumOfHops ⟨Nat.le_of_ble_eq_true rfl, Nat.le_of_ble_eq_true rfl⟩) hP hD hS hl.1 1 3 rfl rfl [1, 2, 3, 4, 5, 6, 7, 8] (by decide) (wo_X5_averageHops cI cZ a_t a_t_cu a_t_tr a_t_s0 a_t_s1 a_t_cu_ct a_t_cu_cl a_t_cu_cl_sh a_t_cu_ct_fe a_t_cu_ct_se a_t_cu_ct_pa a_t_cu_ct_sl a_t_cu_cl_cmd a_t_cu_cl_tim a_t_cu_cl_hel a_t_cu_cl_dir a_t_cu_cl_seg v_t_cu_tm v_t_cu_ct_ex v_t_cu_ct_fe v_t_cu_ct_se v_t_cu_ct_pa v_t_cu_cl_fw v_t_cu_cl_fp v_t_cu_cl_fn v_t_cu_cl_rt v_t_cu_cl_wd v_t_cu_cl_pd v_t_cu_cl_ss v_t_cu_cl_rs v_t_cu_cl_sh_nd v_t_cu_cl_sh_sn v_t_cu_cl_seg) rfl rfl rfl rfl rfl (rest := [.int (nI 100)]) rfl (Nat.le_of_ble_eq_true rfl) dX5_averageHops_21 ⟨Nat.zero_le _, Nat.zero_le _⟩ (fun H locs hP hD hS => ?_)
    refine lv_imul hx hb dX5_averageHops_24 ?_
    refine lv_iload_n hx hb dX5_averageHops_25 rfl (lv_at hl 0 rfl) ?_
    obtain ⟨g26, hf⟩ := grd hf
    refine lv_idiv hx hb dX5_averageHops_26 g26 ?_
    obtain rfl := Option.some.inj hf
    exact retI X hS hP rfl dX5_averageHops_27
  · replace hf := ifn hc hf
    refine lv_bipush hx hb dX5_averageHops_12 bp_m9 ?_
    obtain rfl := Option.some.inj hf
    exact retI X hS hP rfl dX5_averageHops_14

abbrev wo_X5_squelchedAt (cI cZ : ClassId) (a_t a_t_cu a_t_tr a_t_s0 a_t_s1 a_t_cu_ct a_t_cu_cl a_t_cu_cl_sh a_t_cu_ct_fe a_t_cu_ct_se a_t_cu_ct_pa a_t_cu_ct_sl a_t_cu_cl_cmd a_t_cu_cl_tim a_t_cu_cl_hel a_t_cu_cl_dir a_t_cu_cl_seg : Nat) (v_t_cu_tm : Int32) (v_t_cu_ct_ex : Int32) (v_t_cu_ct_fe : Nat → Int32) (v_t_cu_ct_se : Nat → Int32) (v_t_cu_ct_pa : Nat → Int32) (v_t_cu_cl_fw : Int32) (v_t_cu_cl_fp : Int32) (v_t_cu_cl_fn : Int32) (v_t_cu_cl_rt : Int32) (v_t_cu_cl_wd : Int32) (v_t_cu_cl_pd : Int32) (v_t_cu_cl_ss : Int32) (v_t_cu_cl_rs : Int32) (v_t_cu_cl_sh_nd : Int32) (v_t_cu_cl_sh_sn : Int32) (v_t_cu_cl_seg : Nat → Int32) : va_W := [(a_t, oX5 a_t_cu a_t_tr a_t_s0 a_t_s1), (a_t_cu, oX3 a_t_cu_ct a_t_cu_cl a_t_cu_cl_sh v_t_cu_tm), (a_t_cu_ct, oX0 a_t_cu_ct_fe a_t_cu_ct_se a_t_cu_ct_pa a_t_cu_ct_sl v_t_cu_ct_ex), (a_t_cu_ct_fe, rI cI 16 v_t_cu_ct_fe), (a_t_cu_ct_se, rI cI 16 v_t_cu_ct_se), (a_t_cu_ct_pa, rI cI 16 v_t_cu_ct_pa), (a_t_cu_cl, oX1 a_t_cu_cl_sh v_t_cu_cl_fw v_t_cu_cl_fp v_t_cu_cl_fn a_t_cu_cl_cmd a_t_cu_cl_tim a_t_cu_cl_hel v_t_cu_cl_rt v_t_cu_cl_wd v_t_cu_cl_pd a_t_cu_cl_dir v_t_cu_cl_ss v_t_cu_cl_rs a_t_cu_cl_seg), (a_t_cu_cl_sh, oX2 v_t_cu_cl_sh_nd v_t_cu_cl_sh_sn), (a_t_cu_cl_seg, rI cI 8 v_t_cu_cl_seg)]
def fX5_squelchedAt (v_t_cu_ct_ex : Int32) (v_t_cu_ct_fe : Nat → Int32) (v_t_cu_ct_se : Nat → Int32) (v_t_cu_ct_pa : Nat → Int32) (v_t_cu_cl_wd : Int32) (v_t_cu_cl_pd : Int32) (v_t_cu_cl_ss : Int32) (v_t_cu_cl_rs : Int32) (v_t_cu_cl_sh_nd : Int32) (v_t_cu_cl_seg : Nat → Int32) (p1 : Int32) : Option (Int32) := ((fX2_hasNode v_t_cu_cl_sh_nd p1).bind (fun q8 => (if q8 = true then ((fX2_spansAt v_t_cu_cl_sh_nd p1).bind (fun q24 => ((fX3_allInState v_t_cu_ct_ex v_t_cu_ct_fe v_t_cu_ct_se v_t_cu_ct_pa v_t_cu_cl_wd v_t_cu_cl_pd v_t_cu_cl_ss v_t_cu_cl_rs v_t_cu_cl_sh_nd v_t_cu_cl_seg (nI 3)).bind (fun q44 => ((fX0_crossing v_t_cu_ct_pa (q24 &&& v_t_cu_cl_rs)).bind (fun q55 => (some (q44 &&& q55)))))))) else (some (-1)))))
theorem kd_X5_squelchedAt : yX5_squelchedAt.cls = RX5 ∧ yX5_squelchedAt.cls ≠ "java/lang/invoke/MethodHandle" ∧ yX5_squelchedAt.cls ≠ "java/lang/invoke/VarHandle" ∧ (parseMethodDescriptor yX5_squelchedAt.desc).map (fun d => d.parameters.length) = some 1 := by decide +kernel
def rm_X5_squelchedAt : Room := { frames := 5, cells := 0, slots := 0, locals := 115 }
set_option maxHeartbeats 4000000 in
set_option maxRecDepth 100000 in
theorem k_X5_squelchedAt (l : Launch) (D : va_G) (cI cZ : ClassId) (a_t a_t_cu a_t_tr a_t_s0 a_t_s1 a_t_cu_ct a_t_cu_cl a_t_cu_cl_sh a_t_cu_ct_fe a_t_cu_ct_se a_t_cu_ct_pa a_t_cu_ct_sl a_t_cu_cl_cmd a_t_cu_cl_tim a_t_cu_cl_hel a_t_cu_cl_dir a_t_cu_cl_seg : Nat) (v_t_cu_tm : Int32) (v_t_cu_ct_ex : Int32) (v_t_cu_ct_fe : Nat → Int32) (v_t_cu_ct_se : Nat → Int32) (v_t_cu_ct_pa : Nat → Int32) (v_t_cu_cl_fw : Int32) (v_t_cu_cl_fp : Int32) (v_t_cu_cl_fn : Int32) (v_t_cu_cl_rt : Int32) (v_t_cu_cl_wd : Int32) (v_t_cu_cl_pd : Int32) (v_t_cu_cl_ss : Int32) (v_t_cu_cl_rs : Int32) (v_t_cu_cl_sh_nd : Int32) (v_t_cu_cl_sh_sn : Int32) (v_t_cu_cl_seg : Nat → Int32) (p1 : Int32) (q : Int32) (hf : fX5_squelchedAt v_t_cu_ct_ex v_t_cu_ct_fe v_t_cu_ct_se v_t_cu_ct_pa v_t_cu_cl_wd v_t_cu_cl_pd v_t_cu_cl_ss v_t_cu_cl_rs v_t_cu_cl_sh_nd v_t_cu_cl_seg p1 = some q) : CI l D cI cZ yX5_squelchedAt wsX5_squelchedAt rm_X5_squelchedAt [.ref a_t, .int p1] (wo_X5_squelchedAt cI cZ a_t a_t_cu a_t_tr a_t_s0 a_t_s1 a_t_cu_ct a_t_cu_cl a_t_cu_cl_sh a_t_cu_ct_fe a_t_cu_ct_se a_t_cu_ct_pa a_t_cu_ct_sl a_t_cu_cl_cmd a_t_cu_cl_tim a_t_cu_cl_hel a_t_cu_cl_dir a_t_cu_cl_seg v_t_cu_tm v_t_cu_ct_ex v_t_cu_ct_fe v_t_cu_ct_se v_t_cu_ct_pa v_t_cu_cl_fw v_t_cu_cl_fp v_t_cu_cl_fn v_t_cu_cl_rt v_t_cu_cl_wd v_t_cu_cl_pd v_t_cu_cl_ss v_t_cu_cl_rs v_t_cu_cl_sh_nd v_t_cu_cl_sh_sn v_t_cu_cl_seg) (wo_X5_squelchedAt cI cZ a_t a_t_cu a_t_tr a_t_s0 a_t_s1 a_t_cu_ct a_t_cu_cl a_t_cu_cl_sh a_t_cu_ct_fe a_t_cu_ct_se a_t_cu_ct_pa a_t_cu_ct_sl a_t_cu_cl_cmd a_t_cu_cl_tim a_t_cu_cl_hel a_t_cu_cl_dir a_t_cu_cl_seg v_t_cu_tm v_t_cu_ct_ex v_t_cu_ct_fe v_t_cu_ct_se v_t_cu_ct_pa v_t_cu_cl_fw v_t_cu_cl_fp v_t_cu_cl_fn v_t_cu_cl_rt v_t_cu_cl_wd v_t_cu_cl_pd v_t_cu_cl_ss v_t_cu_cl_rs v_t_cu_cl_sh_nd v_t_cu_cl_sh_sn v_t_cu_cl_seg) q := by
  refine CI.mk (cc := cX5_squelchedAt) (maxL := 3) (by decide) rfl (Nat.le_of_ble_eq_true rfl) ?_
  intro p e s m below meth c ls A X hP hD hl hS
  have hx := X.1.1
  have hb := X.1.2.1
  have hl : lv_has ls 3 [(0, .ref a_t), (1, .int p1)] := hl
  have inX1 : ∀ w ∈ u_ws RX1 TX1 14, w ∈ wsX5_squelchedAt := fun _ h => List.mem_cons_of_mem _ (List.mem_append_left _ (List.mem_append_left _ (List.mem_append_right _ h)))
  have inX3 : ∀ w ∈ u_ws RX3 TX3 4, w ∈ wsX5_squelchedAt := fun _ h => List.mem_cons_of_mem _ (List.mem_append_left _ (List.mem_append_left _ (List.mem_append_left _ (List.mem_append_right _ h))))
  have inX5 : ∀ w ∈ u_ws RX5 TX5 4, w ∈ wsX5_squelchedAt := fun _ h => List.mem_cons_of_mem _ (List.mem_append_left _ (List.mem_append_left _ (List.mem_append_left _ (List.mem_append_left _ (List.mem_append_right _ h)))))
  unfold fX5_squelchedAt at hf
  refine lv_aload_n hx hb dX5_squelchedAt_0 rfl (lv_at hl 0 rfl) ?_
  refine getO X hP inX5 0 rfl rfl 0 (by decide) (List.mem_of_getElem? (i := 1) rfl) rfl dX5_squelchedAt_1 ?_
  refine getN X hP inX3 1 rfl rfl 2 (by decide) 16 rfl rfl dX5_squelchedAt_4 ?_
  refine lv_iload_n hx hb dX5_squelchedAt_7 rfl (lv_at hl 1 rfl) ?_
  obtain ⟨q8, e8, hf⟩ := bnd hf
  refine callVI X (k_X2_hasNode l D cI cZ a_t_cu_cl_sh  v_t_cu_cl_sh_nd v_t_cu_cl_sh_sn p1 q8 e8) (cwV 1 X.1.2.2.2.2 gX5_squelchedAt_X2_hasNode rfl rfl rfl kd_X2_hasNode ⟨Nat.le_of_ble_eq_true rfl, Nat.le_of_ble_eq_true rfl⟩) hP hD hS hl.1 7 2 rfl rfl [7] (by decide) (wo_X5_squelchedAt cI cZ a_t a_t_cu a_t_tr a_t_s0 a_t_s1 a_t_cu_ct a_t_cu_cl a_t_cu_cl_sh a_t_cu_ct_fe a_t_cu_ct_se a_t_cu_ct_pa a_t_cu_ct_sl a_t_cu_cl_cmd a_t_cu_cl_tim a_t_cu_cl_hel a_t_cu_cl_dir a_t_cu_cl_seg v_t_cu_tm v_t_cu_ct_ex v_t_cu_ct_fe v_t_cu_ct_se v_t_cu_ct_pa v_t_cu_cl_fw v_t_cu_cl_fp v_t_cu_cl_fn v_t_cu_cl_rt v_t_cu_cl_wd v_t_cu_cl_pd v_t_cu_cl_ss v_t_cu_cl_rs v_t_cu_cl_sh_nd v_t_cu_cl_sh_sn v_t_cu_cl_seg) rfl rfl rfl rfl rfl (rest := []) rfl (Nat.le_of_ble_eq_true rfl) dX5_squelchedAt_8 ⟨Nat.zero_le _, Nat.zero_le _⟩ (fun H locs hP hD hS => ?_)
  refine lv_if_ne (tgt := 16) hx hb dX5_squelchedAt_11 (by decide) (fun hc => ?_) (fun hc => ?_)
  · replace hf := ifp (b2i_nz hc) hf
    refine lv_aload_n hx hb dX5_squelchedAt_16 rfl (lv_at hl 0 rfl) ?_
    refine getO X hP inX5 0 rfl rfl 0 (by decide) (List.mem_of_getElem? (i := 1) rfl) rfl dX5_squelchedAt_17 ?_
    refine getN X hP inX3 1 rfl rfl 2 (by decide) 16 rfl rfl dX5_squelchedAt_20 ?_
    refine lv_iload_n hx hb dX5_squelchedAt_23 rfl (lv_at hl 1 rfl) ?_
    obtain ⟨q24, e24, hf⟩ := bnd hf
    refine callVI X (k_X2_spansAt l D cI cZ a_t_cu_cl_sh  v_t_cu_cl_sh_nd v_t_cu_cl_sh_sn p1 q24 e24) (cwV 1 X.1.2.2.2.2 gX5_squelchedAt_X2_spansAt rfl rfl rfl kd_X2_spansAt ⟨Nat.le_of_ble_eq_true rfl, Nat.le_of_ble_eq_true rfl⟩) hP hD hS hl.1 7 2 rfl rfl [7] (by decide) (wo_X5_squelchedAt cI cZ a_t a_t_cu a_t_tr a_t_s0 a_t_s1 a_t_cu_ct a_t_cu_cl a_t_cu_cl_sh a_t_cu_ct_fe a_t_cu_ct_se a_t_cu_ct_pa a_t_cu_ct_sl a_t_cu_cl_cmd a_t_cu_cl_tim a_t_cu_cl_hel a_t_cu_cl_dir a_t_cu_cl_seg v_t_cu_tm v_t_cu_ct_ex v_t_cu_ct_fe v_t_cu_ct_se v_t_cu_ct_pa v_t_cu_cl_fw v_t_cu_cl_fp v_t_cu_cl_fn v_t_cu_cl_rt v_t_cu_cl_wd v_t_cu_cl_pd v_t_cu_cl_ss v_t_cu_cl_rs v_t_cu_cl_sh_nd v_t_cu_cl_sh_sn v_t_cu_cl_seg) rfl rfl rfl rfl rfl (rest := []) rfl (Nat.le_of_ble_eq_true rfl) dX5_squelchedAt_24 ⟨Nat.zero_le _, Nat.zero_le _⟩ (fun H locs hP hD hS => ?_)
    refine lv_aload_n hx hb dX5_squelchedAt_27 rfl (lv_at hl 0 rfl) ?_
    refine getO X hP inX5 0 rfl rfl 0 (by decide) (List.mem_of_getElem? (i := 1) rfl) rfl dX5_squelchedAt_28 ?_
    refine getN X hP inX3 1 rfl rfl 1 (by decide) 15 rfl rfl dX5_squelchedAt_31 ?_
    refine getN X hP inX1 6 rfl rfl 12 (by decide) 13 rfl rfl dX5_squelchedAt_34 ?_
    refine lv_iand hx hb dX5_squelchedAt_37 ?_
    refine lv_istore_n (lv' := [(2, .int (q24 &&& v_t_cu_cl_rs)), (0, .ref a_t), (1, .int p1)]) hx hb dX5_squelchedAt_38 rfl hl (by decide) rfl (fun ls hl => ?_)
    refine lv_aload_n hx hb dX5_squelchedAt_39 rfl (lv_at hl 1 rfl) ?_
    refine getO X hP inX5 0 rfl rfl 0 (by decide) (List.mem_of_getElem? (i := 1) rfl) rfl dX5_squelchedAt_40 ?_
    refine lv_iconst hx hb dX5_squelchedAt_43 ic_3 ?_
    obtain ⟨q44, e44, hf⟩ := bnd hf
    refine callVI X (k_X3_allInState l D cI cZ a_t_cu a_t_cu_ct a_t_cu_cl a_t_cu_cl_sh a_t_cu_ct_fe a_t_cu_ct_se a_t_cu_ct_pa a_t_cu_ct_sl a_t_cu_cl_cmd a_t_cu_cl_tim a_t_cu_cl_hel a_t_cu_cl_dir a_t_cu_cl_seg  v_t_cu_tm v_t_cu_ct_ex v_t_cu_ct_fe v_t_cu_ct_se v_t_cu_ct_pa v_t_cu_cl_fw v_t_cu_cl_fp v_t_cu_cl_fn v_t_cu_cl_rt v_t_cu_cl_wd v_t_cu_cl_pd v_t_cu_cl_ss v_t_cu_cl_rs v_t_cu_cl_sh_nd v_t_cu_cl_sh_sn v_t_cu_cl_seg (nI 3) q44 e44) (cwV 1 X.1.2.2.2.2 gX5_squelchedAt_X3_allInState rfl rfl rfl kd_X3_allInState ⟨Nat.le_of_ble_eq_true rfl, Nat.le_of_ble_eq_true rfl⟩) hP hD hS hl.1 1 3 rfl rfl [1, 2, 3, 4, 5, 6, 7, 8] (by decide) (wo_X5_squelchedAt cI cZ a_t a_t_cu a_t_tr a_t_s0 a_t_s1 a_t_cu_ct a_t_cu_cl a_t_cu_cl_sh a_t_cu_ct_fe a_t_cu_ct_se a_t_cu_ct_pa a_t_cu_ct_sl a_t_cu_cl_cmd a_t_cu_cl_tim a_t_cu_cl_hel a_t_cu_cl_dir a_t_cu_cl_seg v_t_cu_tm v_t_cu_ct_ex v_t_cu_ct_fe v_t_cu_ct_se v_t_cu_ct_pa v_t_cu_cl_fw v_t_cu_cl_fp v_t_cu_cl_fn v_t_cu_cl_rt v_t_cu_cl_wd v_t_cu_cl_pd v_t_cu_cl_ss v_t_cu_cl_rs v_t_cu_cl_sh_nd v_t_cu_cl_sh_sn v_t_cu_cl_seg) rfl rfl rfl rfl rfl (rest := []) rfl (Nat.le_of_ble_eq_true rfl) dX5_squelchedAt_44 ⟨Nat.zero_le _, Nat.zero_le _⟩ (fun H locs hP hD hS => ?_)
    refine lv_aload_n hx hb dX5_squelchedAt_47 rfl (lv_at hl 1 rfl) ?_
    refine getO X hP inX5 0 rfl rfl 0 (by decide) (List.mem_of_getElem? (i := 1) rfl) rfl dX5_squelchedAt_48 ?_
    refine getN X hP inX3 1 rfl rfl 0 (by decide) 14 rfl rfl dX5_squelchedAt_51 ?_
    refine lv_iload_n hx hb dX5_squelchedAt_54 rfl (lv_at hl 0 rfl) ?_
    obtain ⟨q55, e55, hf⟩ := bnd hf
    refine callVI X (k_X0_crossing l D cI cZ a_t_cu_ct a_t_cu_ct_fe a_t_cu_ct_se a_t_cu_ct_pa a_t_cu_ct_sl  v_t_cu_ct_ex v_t_cu_ct_pa (q24 &&& v_t_cu_cl_rs) q55 e55) (cwV 1 X.1.2.2.2.2 gX5_squelchedAt_X0_crossing rfl rfl rfl kd_X0_crossing ⟨Nat.le_of_ble_eq_true rfl, Nat.le_of_ble_eq_true rfl⟩) hP hD hS hl.1 2 0 rfl rfl [2, 5] (by decide) (wo_X5_squelchedAt cI cZ a_t a_t_cu a_t_tr a_t_s0 a_t_s1 a_t_cu_ct a_t_cu_cl a_t_cu_cl_sh a_t_cu_ct_fe a_t_cu_ct_se a_t_cu_ct_pa a_t_cu_ct_sl a_t_cu_cl_cmd a_t_cu_cl_tim a_t_cu_cl_hel a_t_cu_cl_dir a_t_cu_cl_seg v_t_cu_tm v_t_cu_ct_ex v_t_cu_ct_fe v_t_cu_ct_se v_t_cu_ct_pa v_t_cu_cl_fw v_t_cu_cl_fp v_t_cu_cl_fn v_t_cu_cl_rt v_t_cu_cl_wd v_t_cu_cl_pd v_t_cu_cl_ss v_t_cu_cl_rs v_t_cu_cl_sh_nd v_t_cu_cl_sh_sn v_t_cu_cl_seg) rfl rfl rfl rfl rfl (rest := [.int q44]) rfl (Nat.le_of_ble_eq_true rfl) dX5_squelchedAt_55 ⟨Nat.zero_le _, Nat.zero_le _⟩ (fun H locs hP hD hS => ?_)
    refine lv_iand hx hb dX5_squelchedAt_58 ?_
    obtain rfl := Option.some.inj hf
    exact retI X hS hP rfl dX5_squelchedAt_59
  · replace hf := ifn (b2i_z hc) hf
    refine lv_iconst hx hb dX5_squelchedAt_14 ic_m1 ?_
    obtain rfl := Option.some.inj hf
    exact retI X hS hP rfl dX5_squelchedAt_15
