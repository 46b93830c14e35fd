abbrev wo_X3_startAnew (cI cZ : ClassId) (a_t a_t_ct a_t_cl a_t_cl_sh a_t_ct_fe a_t_ct_se a_t_ct_pa a_t_ct_sl a_t_cl_cmd a_t_cl_tim a_t_cl_hel a_t_cl_dir a_t_cl_seg : Nat) (v_t_tm : Int32) (v_t_ct_ex : Int32) (v_t_ct_pa : Nat → Int32) (v_t_cl_fw : Int32) (v_t_cl_fp : Int32) (v_t_cl_fn : Int32) (v_t_cl_rt : Int32) (v_t_cl_wd : Int32) (v_t_cl_pd : Int32) (v_t_cl_ss : Int32) (v_t_cl_rs : Int32) (v_t_cl_sh_nd : Int32) (v_t_cl_sh_sn : Int32) (v_t_cl_cmd : Nat → Int32) (v_t_cl_tim : Nat → Int32) (v_t_cl_dir : Nat → Int32) (v_t_cl_seg : Nat → Int32) : va_W := [(a_t, oX3 a_t_ct a_t_cl a_t_cl_sh v_t_tm), (a_t_ct, oX0 a_t_ct_fe a_t_ct_se a_t_ct_pa a_t_ct_sl v_t_ct_ex), (a_t_ct_pa, rI cI 16 v_t_ct_pa), (a_t_cl, oX1 a_t_cl_sh v_t_cl_fw v_t_cl_fp v_t_cl_fn a_t_cl_cmd a_t_cl_tim a_t_cl_hel v_t_cl_rt v_t_cl_wd v_t_cl_pd a_t_cl_dir v_t_cl_ss v_t_cl_rs a_t_cl_seg), (a_t_cl_sh, oX2 v_t_cl_sh_nd v_t_cl_sh_sn), (a_t_cl_cmd, rI cI 8 v_t_cl_cmd), (a_t_cl_tim, rI cI 8 v_t_cl_tim), (a_t_cl_dir, rI cI 8 v_t_cl_dir), (a_t_cl_seg, rI cI 8 v_t_cl_seg)]
def fX3_startAnew (v_t_tm : Int32) (v_t_ct_ex : Int32) (v_t_ct_pa : Nat → Int32) (v_t_cl_fw : Int32) (v_t_cl_fp : Int32) (v_t_cl_fn : Int32) (v_t_cl_wd : Int32) (v_t_cl_pd : Int32) (v_t_cl_ss : Int32) (v_t_cl_rs : Int32) (v_t_cl_sh_nd : Int32) (v_t_cl_sh_sn : Int32) (v_t_cl_cmd : Nat → Int32) (v_t_cl_tim : Nat → Int32) (v_t_cl_dir : Nat → Int32) (v_t_cl_seg : Nat → Int32) (p1 : Int32) (p2 : Int32) : Option (Int32 × Int32 × (Nat → Int32) × Int32 × Int32 × Int32 × Int32 × Int32 × Int32 × Int32 × Int32 × Int32 × (Nat → Int32) × (Nat → Int32) × (Nat → Int32) × (Nat → Int32)) := ((fX0_takeAllAway v_t_ct_ex v_t_ct_pa).bind (fun q4 => ((fX1_startAnew v_t_cl_fw v_t_cl_fp v_t_cl_fn v_t_cl_wd v_t_cl_pd v_t_cl_ss v_t_cl_rs v_t_cl_sh_nd v_t_cl_sh_sn v_t_cl_cmd v_t_cl_tim v_t_cl_dir v_t_cl_seg p1 p2).bind (fun q13 => (some (0, q4.1, q4.2, q13.1, q13.2.1, q13.2.2.1, q13.2.2.2.1, q13.2.2.2.2.1, q13.2.2.2.2.2.1, q13.2.2.2.2.2.2.1, q13.2.2.2.2.2.2.2.1, q13.2.2.2.2.2.2.2.2.1, q13.2.2.2.2.2.2.2.2.2.1, q13.2.2.2.2.2.2.2.2.2.2.1, q13.2.2.2.2.2.2.2.2.2.2.2.1, q13.2.2.2.2.2.2.2.2.2.2.2.2))))))
theorem kd_X3_startAnew : yX3_startAnew.cls = RX3 ∧ yX3_startAnew.cls ≠ "java/lang/invoke/MethodHandle" ∧ yX3_startAnew.cls ≠ "java/lang/invoke/VarHandle" ∧ (parseMethodDescriptor yX3_startAnew.desc).map (fun d => d.parameters.length) = some 2 := by decide +kernel
def rm_X3_startAnew : Room := { frames := 2, cells := 0, slots := 0, locals := 43 }
set_option maxHeartbeats 4000000 in
set_option maxRecDepth 100000 in
theorem k_X3_startAnew (l : Launch) (D : va_G) (cI cZ : ClassId) (a_t a_t_ct a_t_cl a_t_cl_sh a_t_ct_fe a_t_ct_se a_t_ct_pa a_t_ct_sl a_t_cl_cmd a_t_cl_tim a_t_cl_hel a_t_cl_dir a_t_cl_seg : Nat) (v_t_tm : Int32) (v_t_ct_ex : Int32) (v_t_ct_pa : Nat → Int32) (v_t_cl_fw : Int32) (v_t_cl_fp : Int32) (v_t_cl_fn : Int32) (v_t_cl_rt : Int32) (v_t_cl_wd : Int32) (v_t_cl_pd : Int32) (v_t_cl_ss : Int32) (v_t_cl_rs : Int32) (v_t_cl_sh_nd : Int32) (v_t_cl_sh_sn : Int32) (v_t_cl_cmd : Nat → Int32) (v_t_cl_tim : Nat → Int32) (v_t_cl_dir : Nat → Int32) (v_t_cl_seg : Nat → Int32) (p1 : Int32) (p2 : Int32) (q : Int32 × Int32 × (Nat → Int32) × Int32 × Int32 × Int32 × Int32 × Int32 × Int32 × Int32 × Int32 × Int32 × (Nat → Int32) × (Nat → Int32) × (Nat → Int32) × (Nat → Int32)) (hf : fX3_startAnew v_t_tm v_t_ct_ex v_t_ct_pa v_t_cl_fw v_t_cl_fp v_t_cl_fn v_t_cl_wd v_t_cl_pd v_t_cl_ss v_t_cl_rs v_t_cl_sh_nd v_t_cl_sh_sn v_t_cl_cmd v_t_cl_tim v_t_cl_dir v_t_cl_seg p1 p2 = some q) : CV l D cI cZ yX3_startAnew wsX3_startAnew rm_X3_startAnew [.ref a_t, .int p1, .int p2] (wo_X3_startAnew cI cZ a_t a_t_ct a_t_cl a_t_cl_sh a_t_ct_fe a_t_ct_se a_t_ct_pa a_t_ct_sl a_t_cl_cmd a_t_cl_tim a_t_cl_hel a_t_cl_dir a_t_cl_seg v_t_tm v_t_ct_ex v_t_ct_pa v_t_cl_fw v_t_cl_fp v_t_cl_fn v_t_cl_rt v_t_cl_wd v_t_cl_pd v_t_cl_ss v_t_cl_rs v_t_cl_sh_nd v_t_cl_sh_sn v_t_cl_cmd v_t_cl_tim v_t_cl_dir v_t_cl_seg) (wo_X3_startAnew cI cZ a_t a_t_ct a_t_cl a_t_cl_sh a_t_ct_fe a_t_ct_se a_t_ct_pa a_t_ct_sl a_t_cl_cmd a_t_cl_tim a_t_cl_hel a_t_cl_dir a_t_cl_seg q.1 q.2.1 q.2.2.1 q.2.2.2.1 q.2.2.2.2.1 q.2.2.2.2.2.1 v_t_cl_rt q.2.2.2.2.2.2.1 q.2.2.2.2.2.2.2.1 q.2.2.2.2.2.2.2.2.1 q.2.2.2.2.2.2.2.2.2.1 q.2.2.2.2.2.2.2.2.2.2.1 q.2.2.2.2.2.2.2.2.2.2.2.1 q.2.2.2.2.2.2.2.2.2.2.2.2.1 q.2.2.2.2.2.2.2.2.2.2.2.2.2.1 q.2.2.2.2.2.2.2.2.2.2.2.2.2.2.1 q.2.2.2.2.2.2.2.2.2.2.2.2.2.2.2) := by
  refine CV.mk (cc := cX3_startAnew) (maxL := 3) (by decide) rfl (Nat.le_of_ble_eq_true rfl) ?_
  intro p e s m below meth c ls A X hP hD hl hS
  have hx := X.1.1
  have hb := X.1.2.1
  have hl : lv_has ls 3 [(0, .ref a_t), (1, .int p1), (2, .int p2)] := hl
  have inX3 : ∀ w ∈ u_ws RX3 TX3 4, w ∈ wsX3_startAnew := fun _ h => List.mem_cons_of_mem _ (List.mem_append_left _ (List.mem_append_left _ (List.mem_append_left _ (List.mem_append_right _ h))))
  unfold fX3_startAnew at hf
  refine lv_aload_n hx hb dX3_startAnew_0 rfl (lv_at hl 0 rfl) ?_
  refine getO X hP inX3 0 rfl rfl 0 (by decide) (List.mem_of_getElem? (i := 1) rfl) rfl dX3_startAnew_1 ?_
  obtain ⟨q4, e4, hf⟩ := bnd hf
  refine callVV X (k_X0_takeAllAway l D cI cZ a_t_ct a_t_ct_fe a_t_ct_se a_t_ct_pa a_t_ct_sl  v_t_ct_ex v_t_ct_pa  q4 e4) (cwV 0 X.1.2.2.2.2 gX3_startAnew_X0_takeAllAway rfl rfl rfl kd_X0_takeAllAway ⟨Nat.le_of_ble_eq_true rfl, Nat.le_of_ble_eq_true rfl⟩) hP hD hS hl.1 1 0 rfl rfl [1, 2] (by decide) (wo_X3_startAnew cI cZ a_t a_t_ct a_t_cl a_t_cl_sh a_t_ct_fe a_t_ct_se a_t_ct_pa a_t_ct_sl a_t_cl_cmd a_t_cl_tim a_t_cl_hel a_t_cl_dir a_t_cl_seg v_t_tm q4.1 q4.2 v_t_cl_fw v_t_cl_fp v_t_cl_fn v_t_cl_rt v_t_cl_wd v_t_cl_pd v_t_cl_ss v_t_cl_rs v_t_cl_sh_nd v_t_cl_sh_sn v_t_cl_cmd v_t_cl_tim v_t_cl_dir v_t_cl_seg) rfl rfl rfl rfl rfl (rest := []) rfl (Nat.le_of_ble_eq_true rfl) dX3_startAnew_4 ⟨Nat.zero_le _, Nat.zero_le _⟩ (fun H locs hP hD hS => ?_)
  refine lv_aload_n hx hb dX3_startAnew_7 rfl (lv_at hl 0 rfl) ?_
  refine getO X hP inX3 0 rfl rfl 1 (by decide) (List.mem_of_getElem? (i := 2) rfl) rfl dX3_startAnew_8 ?_
  refine lv_iload_n hx hb dX3_startAnew_11 rfl (lv_at hl 1 rfl) ?_
  refine lv_iload_n hx hb dX3_startAnew_12 rfl (lv_at hl 2 rfl) ?_
  obtain ⟨q13, e13, hf⟩ := bnd hf
  refine callVV X (k_X1_startAnew l D cI cZ a_t_cl a_t_cl_sh a_t_cl_cmd a_t_cl_tim a_t_cl_hel a_t_cl_dir a_t_cl_seg  v_t_cl_fw v_t_cl_fp v_t_cl_fn v_t_cl_rt v_t_cl_wd v_t_cl_pd v_t_cl_ss v_t_cl_rs v_t_cl_sh_nd v_t_cl_sh_sn v_t_cl_cmd v_t_cl_tim v_t_cl_dir v_t_cl_seg p1 p2 q13 e13) (cwV 2 X.1.2.2.2.2 gX3_startAnew_X1_startAnew rfl rfl rfl kd_X1_startAnew ⟨Nat.le_of_ble_eq_true rfl, Nat.le_of_ble_eq_true rfl⟩) hP hD hS hl.1 3 1 rfl rfl [3, 4, 5, 6, 7, 8] (by decide) (wo_X3_startAnew cI cZ a_t a_t_ct a_t_cl a_t_cl_sh a_t_ct_fe a_t_ct_se a_t_ct_pa a_t_ct_sl a_t_cl_cmd a_t_cl_tim a_t_cl_hel a_t_cl_dir a_t_cl_seg v_t_tm q4.1 q4.2 q13.1 q13.2.1 q13.2.2.1 v_t_cl_rt q13.2.2.2.1 q13.2.2.2.2.1 q13.2.2.2.2.2.1 q13.2.2.2.2.2.2.1 q13.2.2.2.2.2.2.2.1 q13.2.2.2.2.2.2.2.2.1 q13.2.2.2.2.2.2.2.2.2.1 q13.2.2.2.2.2.2.2.2.2.2.1 q13.2.2.2.2.2.2.2.2.2.2.2.1 q13.2.2.2.2.2.2.2.2.2.2.2.2) rfl rfl rfl rfl rfl (rest := []) rfl (Nat.le_of_ble_eq_true rfl) dX3_startAnew_13 ⟨Nat.zero_le _, Nat.zero_le _⟩ (fun H locs hP hD hS => ?_)
  refine lv_aload_n hx hb dX3_startAnew_16 rfl (lv_at hl 0 rfl) ?_
  refine lv_iconst hx hb dX3_startAnew_17 ic_0 ?_
  refine putO X hP hD hS inX3 tyX3 tyX3_ok nmX3 0 rfl rfl 3 (by decide) (List.mem_of_getElem? (i := 3) rfl) rfl rfl rfl (Nat.le_of_ble_eq_true rfl) dX3_startAnew_18 (wo_X3_startAnew cI cZ a_t a_t_ct a_t_cl a_t_cl_sh a_t_ct_fe a_t_ct_se a_t_ct_pa a_t_ct_sl a_t_cl_cmd a_t_cl_tim a_t_cl_hel a_t_cl_dir a_t_cl_seg 0 q4.1 q4.2 q13.1 q13.2.1 q13.2.2.1 v_t_cl_rt q13.2.2.2.1 q13.2.2.2.2.1 q13.2.2.2.2.2.1 q13.2.2.2.2.2.2.1 q13.2.2.2.2.2.2.2.1 q13.2.2.2.2.2.2.2.2.1 q13.2.2.2.2.2.2.2.2.2.1 q13.2.2.2.2.2.2.2.2.2.2.1 q13.2.2.2.2.2.2.2.2.2.2.2.1 q13.2.2.2.2.2.2.2.2.2.2.2.2) rfl (fun H locs hP hD hS => ?_)
  obtain rfl := Option.some.inj hf
  exact retV X hS hP dX3_startAnew_21

abbrev wo_X3_copyFrom (cI cZ : ClassId) (a_t a_t_ct a_t_cl a_t_cl_sh a_t_ct_fe a_t_ct_se a_t_ct_pa a_t_ct_sl a_t_cl_cmd a_t_cl_tim a_t_cl_hel a_t_cl_dir a_t_cl_seg a_o a_o_ct a_o_cl a_o_cl_sh a_o_ct_fe a_o_ct_se a_o_ct_pa a_o_ct_sl a_o_cl_cmd a_o_cl_tim a_o_cl_hel a_o_cl_dir a_o_cl_seg : Nat) (v_t_tm : Int32) (v_t_ct_ex : Int32) (v_t_ct_fe : Nat → Int32) (v_t_ct_se : Nat → Int32) (v_t_ct_pa : Nat → Int32) (v_t_ct_sl : Nat → Int32) (v_t_cl_fw : Int32) (v_t_cl_fp : Int32) (v_t_cl_fn : Int32) (v_t_cl_rt : Int32) (v_t_cl_wd : Int32) (v_t_cl_pd : Int32) (v_t_cl_ss : Int32) (v_t_cl_rs : Int32) (v_t_cl_sh_nd : Int32) (v_t_cl_sh_sn : Int32) (v_t_cl_cmd : Nat → Int32) (v_t_cl_tim : Nat → Int32) (v_t_cl_hel : Nat → Int32) (v_t_cl_dir : Nat → Int32) (v_t_cl_seg : Nat → Int32) (v_o_tm : Int32) (v_o_ct_ex : Int32) (v_o_ct_fe : Nat → Int32) (v_o_ct_se : Nat → Int32) (v_o_ct_pa : Nat → Int32) (v_o_ct_sl : Nat → Int32) (v_o_cl_fw : Int32) (v_o_cl_fp : Int32) (v_o_cl_fn : Int32) (v_o_cl_rt : Int32) (v_o_cl_wd : Int32) (v_o_cl_pd : Int32) (v_o_cl_ss : Int32) (v_o_cl_rs : Int32) (v_o_cl_sh_nd : Int32) (v_o_cl_sh_sn : Int32) (v_o_cl_cmd : Nat → Int32) (v_o_cl_tim : Nat → Int32) (v_o_cl_hel : Nat → Int32) (v_o_cl_dir : Nat → Int32) (v_o_cl_seg : Nat → Int32) : va_W := [(a_t, oX3 a_t_ct a_t_cl a_t_cl_sh v_t_tm), (a_t_ct, oX0 a_t_ct_fe a_t_ct_se a_t_ct_pa a_t_ct_sl v_t_ct_ex), (a_t_ct_fe, rI cI 16 v_t_ct_fe), (a_t_ct_se, rI cI 16 v_t_ct_se), (a_t_ct_pa, rI cI 16 v_t_ct_pa), (a_t_ct_sl, rI cI 16 v_t_ct_sl), (a_t_cl, oX1 a_t_cl_sh v_t_cl_fw v_t_cl_fp v_t_cl_fn a_t_cl_cmd a_t_cl_tim a_t_cl_hel v_t_cl_rt v_t_cl_wd v_t_cl_pd a_t_cl_dir v_t_cl_ss v_t_cl_rs a_t_cl_seg), (a_t_cl_sh, oX2 v_t_cl_sh_nd v_t_cl_sh_sn), (a_t_cl_cmd, rI cI 8 v_t_cl_cmd), (a_t_cl_tim, rI cI 8 v_t_cl_tim), (a_t_cl_hel, rI cI 8 v_t_cl_hel), (a_t_cl_dir, rI cI 8 v_t_cl_dir), (a_t_cl_seg, rI cI 8 v_t_cl_seg), (a_o, oX3 a_o_ct a_o_cl a_o_cl_sh v_o_tm), (a_o_ct, oX0 a_o_ct_fe a_o_ct_se a_o_ct_pa a_o_ct_sl v_o_ct_ex), (a_o_ct_fe, rI cI 16 v_o_ct_fe), (a_o_ct_se, rI cI 16 v_o_ct_se), (a_o_ct_pa, rI cI 16 v_o_ct_pa), (a_o_ct_sl, rI cI 16 v_o_ct_sl), (a_o_cl, oX1 a_o_cl_sh v_o_cl_fw v_o_cl_fp v_o_cl_fn a_o_cl_cmd a_o_cl_tim a_o_cl_hel v_o_cl_rt v_o_cl_wd v_o_cl_pd a_o_cl_dir v_o_cl_ss v_o_cl_rs a_o_cl_seg), (a_o_cl_sh, oX2 v_o_cl_sh_nd v_o_cl_sh_sn), (a_o_cl_cmd, rI cI 8 v_o_cl_cmd), (a_o_cl_tim, rI cI 8 v_o_cl_tim), (a_o_cl_hel, rI cI 8 v_o_cl_hel), (a_o_cl_dir, rI cI 8 v_o_cl_dir), (a_o_cl_seg, rI cI 8 v_o_cl_seg)]
def fX3_copyFrom (v_t_tm : Int32) (v_t_ct_ex : Int32) (v_t_ct_fe : Nat → Int32) (v_t_ct_se : Nat → Int32) (v_t_ct_pa : Nat → Int32) (v_t_ct_sl : Nat → Int32) (v_t_cl_fw : Int32) (v_t_cl_fp : Int32) (v_t_cl_fn : Int32) (v_t_cl_rt : Int32) (v_t_cl_wd : Int32) (v_t_cl_pd : Int32) (v_t_cl_ss : Int32) (v_t_cl_rs : Int32) (v_t_cl_sh_nd : Int32) (v_t_cl_sh_sn : Int32) (v_t_cl_cmd : Nat → Int32) (v_t_cl_tim : Nat → Int32) (v_t_cl_hel : Nat → Int32) (v_t_cl_dir : Nat → Int32) (v_t_cl_seg : Nat → Int32) (v_o_tm : Int32) (v_o_ct_ex : Int32) (v_o_ct_fe : Nat → Int32) (v_o_ct_se : Nat → Int32) (v_o_ct_pa : Nat → Int32) (v_o_ct_sl : Nat → Int32) (v_o_cl_fw : Int32) (v_o_cl_fp : Int32) (v_o_cl_fn : Int32) (v_o_cl_rt : Int32) (v_o_cl_wd : Int32) (v_o_cl_pd : Int32) (v_o_cl_ss : Int32) (v_o_cl_rs : Int32) (v_o_cl_sh_nd : Int32) (v_o_cl_sh_sn : Int32) (v_o_cl_cmd : Nat → Int32) (v_o_cl_tim : Nat → Int32) (v_o_cl_hel : Nat → Int32) (v_o_cl_dir : Nat → Int32) (v_o_cl_seg : Nat → Int32) : Option (Int32 × Int32 × (Nat → Int32) × (Nat → Int32) × (Nat → Int32) × (Nat → Int32) × Int32 × Int32 × Int32 × Int32 × Int32 × Int32 × Int32 × Int32 × Int32 × Int32 × (Nat → Int32) × (Nat → Int32) × (Nat → Int32) × (Nat → Int32) × (Nat → Int32)) := ((fX0_copyFrom v_t_ct_ex v_t_ct_fe v_t_ct_se v_t_ct_pa v_t_ct_sl v_o_ct_ex v_o_ct_fe v_o_ct_se v_o_ct_pa v_o_ct_sl).bind (fun q8 => ((fX1_copyFrom v_t_cl_fw v_t_cl_fp v_t_cl_fn v_t_cl_rt v_t_cl_wd v_t_cl_pd v_t_cl_ss v_t_cl_rs v_t_cl_sh_nd v_t_cl_sh_sn v_t_cl_cmd v_t_cl_tim v_t_cl_hel v_t_cl_dir v_t_cl_seg v_o_cl_fw v_o_cl_fp v_o_cl_fn v_o_cl_rt v_o_cl_wd v_o_cl_pd v_o_cl_ss v_o_cl_rs v_o_cl_sh_nd v_o_cl_sh_sn v_o_cl_cmd v_o_cl_tim v_o_cl_hel v_o_cl_dir v_o_cl_seg).bind (fun q19 => (some (v_o_tm, q8.1, q8.2.1, q8.2.2.1, q8.2.2.2.1, q8.2.2.2.2, q19.1, q19.2.1, q19.2.2.1, q19.2.2.2.1, q19.2.2.2.2.1, q19.2.2.2.2.2.1, q19.2.2.2.2.2.2.1, q19.2.2.2.2.2.2.2.1, q19.2.2.2.2.2.2.2.2.1, q19.2.2.2.2.2.2.2.2.2.1, q19.2.2.2.2.2.2.2.2.2.2.1, q19.2.2.2.2.2.2.2.2.2.2.2.1, q19.2.2.2.2.2.2.2.2.2.2.2.2.1, q19.2.2.2.2.2.2.2.2.2.2.2.2.2.1, q19.2.2.2.2.2.2.2.2.2.2.2.2.2.2))))))
theorem kd_X3_copyFrom : yX3_copyFrom.cls = RX3 ∧ yX3_copyFrom.cls ≠ "java/lang/invoke/MethodHandle" ∧ yX3_copyFrom.cls ≠ "java/lang/invoke/VarHandle" ∧ (parseMethodDescriptor yX3_copyFrom.desc).map (fun d => d.parameters.length) = some 1 := by decide +kernel
def rm_X3_copyFrom : Room := { frames := 2, cells := 0, slots := 0, locals := 43 }
set_option maxHeartbeats 4000000 in
set_option maxRecDepth 100000 in
theorem k_X3_copyFrom (l : Launch) (D : va_G) (cI cZ : ClassId) (a_t a_t_ct a_t_cl a_t_cl_sh a_t_ct_fe a_t_ct_se a_t_ct_pa a_t_ct_sl a_t_cl_cmd a_t_cl_tim a_t_cl_hel a_t_cl_dir a_t_cl_seg a_o a_o_ct a_o_cl a_o_cl_sh a_o_ct_fe a_o_ct_se a_o_ct_pa a_o_ct_sl a_o_cl_cmd a_o_cl_tim a_o_cl_hel a_o_cl_dir a_o_cl_seg : Nat) (v_t_tm : Int32) (v_t_ct_ex : Int32) (v_t_ct_fe : Nat → Int32) (v_t_ct_se : Nat → Int32) (v_t_ct_pa : Nat → Int32) (v_t_ct_sl : Nat → Int32) (v_t_cl_fw : Int32) (v_t_cl_fp : Int32) (v_t_cl_fn : Int32) (v_t_cl_rt : Int32) (v_t_cl_wd : Int32) (v_t_cl_pd : Int32) (v_t_cl_ss : Int32) (v_t_cl_rs : Int32) (v_t_cl_sh_nd : Int32) (v_t_cl_sh_sn : Int32) (v_t_cl_cmd : Nat → Int32) (v_t_cl_tim : Nat → Int32) (v_t_cl_hel : Nat → Int32) (v_t_cl_dir : Nat → Int32) (v_t_cl_seg : Nat → Int32) (v_o_tm : Int32) (v_o_ct_ex : Int32) (v_o_ct_fe : Nat → Int32) (v_o_ct_se : Nat → Int32) (v_o_ct_pa : Nat → Int32) (v_o_ct_sl : Nat → Int32) (v_o_cl_fw : Int32) (v_o_cl_fp : Int32) (v_o_cl_fn : Int32) (v_o_cl_rt : Int32) (v_o_cl_wd : Int32) (v_o_cl_pd : Int32) (v_o_cl_ss : Int32) (v_o_cl_rs : Int32) (v_o_cl_sh_nd : Int32) (v_o_cl_sh_sn : Int32) (v_o_cl_cmd : Nat → Int32) (v_o_cl_tim : Nat → Int32) (v_o_cl_hel : Nat → Int32) (v_o_cl_dir : Nat → Int32) (v_o_cl_seg : Nat → Int32) (q : Int32 × Int32 × (Nat → Int32) × (Nat → Int32) × (Nat → Int32) × (Nat → Int32) × Int32 × Int32 × Int32 × Int32 × Int32 × Int32 × Int32 × Int32 × Int32 × Int32 × (Nat → Int32) × (Nat → Int32) × (Nat → Int32) × (Nat → Int32) × (Nat → Int32)) (hf : fX3_copyFrom v_t_tm v_t_ct_ex v_t_ct_fe v_t_ct_se v_t_ct_pa v_t_ct_sl v_t_cl_fw v_t_cl_fp v_t_cl_fn v_t_cl_rt v_t_cl_wd v_t_cl_pd v_t_cl_ss v_t_cl_rs v_t_cl_sh_nd v_t_cl_sh_sn v_t_cl_cmd v_t_cl_tim v_t_cl_hel v_t_cl_dir v_t_cl_seg v_o_tm v_o_ct_ex v_o_ct_fe v_o_ct_se v_o_ct_pa v_o_ct_sl v_o_cl_fw v_o_cl_fp v_o_cl_fn v_o_cl_rt v_o_cl_wd v_o_cl_pd v_o_cl_ss v_o_cl_rs v_o_cl_sh_nd v_o_cl_sh_sn v_o_cl_cmd v_o_cl_tim v_o_cl_hel v_o_cl_dir v_o_cl_seg = some q) : CV l D cI cZ yX3_copyFrom wsX3_copyFrom rm_X3_copyFrom [.ref a_t, .ref a_o] (wo_X3_copyFrom cI cZ a_t a_t_ct a_t_cl a_t_cl_sh a_t_ct_fe a_t_ct_se a_t_ct_pa a_t_ct_sl a_t_cl_cmd a_t_cl_tim a_t_cl_hel a_t_cl_dir a_t_cl_seg a_o a_o_ct a_o_cl a_o_cl_sh a_o_ct_fe a_o_ct_se a_o_ct_pa a_o_ct_sl a_o_cl_cmd a_o_cl_tim a_o_cl_hel a_o_cl_dir a_o_cl_seg v_t_tm v_t_ct_ex v_t_ct_fe v_t_ct_se v_t_ct_pa v_t_ct_sl v_t_cl_fw v_t_cl_fp v_t_cl_fn v_t_cl_rt v_t_cl_wd v_t_cl_pd v_t_cl_ss v_t_cl_rs v_t_cl_sh_nd v_t_cl_sh_sn v_t_cl_cmd v_t_cl_tim v_t_cl_hel v_t_cl_dir v_t_cl_seg v_o_tm v_o_ct_ex v_o_ct_fe v_o_ct_se v_o_ct_pa v_o_ct_sl v_o_cl_fw v_o_cl_fp v_o_cl_fn v_o_cl_rt v_o_cl_wd v_o_cl_pd v_o_cl_ss v_o_cl_rs v_o_cl_sh_nd v_o_cl_sh_sn v_o_cl_cmd v_o_cl_tim v_o_cl_hel v_o_cl_dir v_o_cl_seg) (wo_X3_copyFrom cI cZ a_t a_t_ct a_t_cl a_t_cl_sh a_t_ct_fe a_t_ct_se a_t_ct_pa a_t_ct_sl a_t_cl_cmd a_t_cl_tim a_t_cl_hel a_t_cl_dir a_t_cl_seg a_o a_o_ct a_o_cl a_o_cl_sh a_o_ct_fe a_o_ct_se a_o_ct_pa a_o_ct_sl a_o_cl_cmd a_o_cl_tim a_o_cl_hel a_o_cl_dir a_o_cl_seg q.1 q.2.1 q.2.2.1 q.2.2.2.1 q.2.2.2.2.1 q.2.2.2.2.2.1 q.2.2.2.2.2.2.1 q.2.2.2.2.2.2.2.1 q.2.2.2.2.2.2.2.2.1 q.2.2.2.2.2.2.2.2.2.1 q.2.2.2.2.2.2.2.2.2.2.1 q.2.2.2.2.2.2.2.2.2.2.2.1 q.2.2.2.2.2.2.2.2.2.2.2.2.1 q.2.2.2.2.2.2.2.2.2.2.2.2.2.1 q.2.2.2.2.2.2.2.2.2.2.2.2.2.2.1 q.2.2.2.2.2.2.2.2.2.2.2.2.2.2.2.1 q.2.2.2.2.2.2.2.2.2.2.2.2.2.2.2.2.1 q.2.2.2.2.2.2.2.2.2.2.2.2.2.2.2.2.2.1 q.2.2.2.2.2.2.2.2.2.2.2.2.2.2.2.2.2.2.1 q.2.2.2.2.2.2.2.2.2.2.2.2.2.2.2.2.2.2.2.1 q.2.2.2.2.2.2.2.2.2.2.2.2.2.2.2.2.2.2.2.2 v_o_tm v_o_ct_ex v_o_ct_fe v_o_ct_se v_o_ct_pa v_o_ct_sl v_o_cl_fw v_o_cl_fp v_o_cl_fn v_o_cl_rt v_o_cl_wd v_o_cl_pd v_o_cl_ss v_o_cl_rs v_o_cl_sh_nd v_o_cl_sh_sn v_o_cl_cmd v_o_cl_tim v_o_cl_hel v_o_cl_dir v_o_cl_seg) := by
  refine CV.mk (cc := cX3_copyFrom) (maxL := 2) (by decide) rfl (Nat.le_of_ble_eq_true rfl) ?_
  intro p e s m below meth c ls A X hP hD hl hS
  have hx := X.1.1
  have hb := X.1.2.1
  have hl : lv_has ls 2 [(0, .ref a_t), (1, .ref a_o)] := hl
  have inX3 : ∀ w ∈ u_ws RX3 TX3 4, w ∈ wsX3_copyFrom := fun _ h => List.mem_cons_of_mem _ (List.mem_append_left _ (List.mem_append_left _ (List.mem_append_left _ (List.mem_append_right _ h))))
  unfold fX3_copyFrom at hf
  refine lv_aload_n hx hb dX3_copyFrom_0 rfl (lv_at hl 0 rfl) ?_
  refine getO X hP inX3 0 rfl rfl 0 (by decide) (List.mem_of_getElem? (i := 1) rfl) rfl dX3_copyFrom_1 ?_
  refine lv_aload_n hx hb dX3_copyFrom_4 rfl (lv_at hl 1 rfl) ?_
  refine getO X hP inX3 13 rfl rfl 0 (by decide) (List.mem_of_getElem? (i := 1) rfl) rfl dX3_copyFrom_5 ?_
  obtain ⟨q8, e8, hf⟩ := bnd hf
  refine callVV X (k_X0_copyFrom l D cI cZ a_t_ct a_t_ct_fe a_t_ct_se a_t_ct_pa a_t_ct_sl a_o_ct a_o_ct_fe a_o_ct_se a_o_ct_pa a_o_ct_sl  v_t_ct_ex v_t_ct_fe v_t_ct_se v_t_ct_pa v_t_ct_sl v_o_ct_ex v_o_ct_fe v_o_ct_se v_o_ct_pa v_o_ct_sl  q8 e8) (cwV 1 X.1.2.2.2.2 gX3_copyFrom_X0_copyFrom rfl rfl rfl kd_X0_copyFrom ⟨Nat.le_of_ble_eq_true rfl, Nat.le_of_ble_eq_true rfl⟩) hP hD hS hl.1 1 0 rfl rfl [1, 2, 3, 4, 5, 14, 15, 16, 17, 18] (by decide) (wo_X3_copyFrom cI cZ a_t a_t_ct a_t_cl a_t_cl_sh a_t_ct_fe a_t_ct_se a_t_ct_pa a_t_ct_sl a_t_cl_cmd a_t_cl_tim a_t_cl_hel a_t_cl_dir a_t_cl_seg a_o a_o_ct a_o_cl a_o_cl_sh a_o_ct_fe a_o_ct_se a_o_ct_pa a_o_ct_sl a_o_cl_cmd a_o_cl_tim a_o_cl_hel a_o_cl_dir a_o_cl_seg v_t_tm q8.1 q8.2.1 q8.2.2.1 q8.2.2.2.1 q8.2.2.2.2 v_t_cl_fw v_t_cl_fp v_t_cl_fn v_t_cl_rt v_t_cl_wd v_t_cl_pd v_t_cl_ss v_t_cl_rs v_t_cl_sh_nd v_t_cl_sh_sn v_t_cl_cmd v_t_cl_tim v_t_cl_hel v_t_cl_dir v_t_cl_seg v_o_tm v_o_ct_ex v_o_ct_fe v_o_ct_se v_o_ct_pa v_o_ct_sl v_o_cl_fw v_o_cl_fp v_o_cl_fn v_o_cl_rt v_o_cl_wd v_o_cl_pd v_o_cl_ss v_o_cl_rs v_o_cl_sh_nd v_o_cl_sh_sn v_o_cl_cmd v_o_cl_tim v_o_cl_hel v_o_cl_dir v_o_cl_seg) rfl rfl rfl rfl rfl (rest := []) rfl (Nat.le_of_ble_eq_true rfl) dX3_copyFrom_8 ⟨Nat.zero_le _, Nat.zero_le _⟩ (fun H locs hP hD hS => ?_)
  refine lv_aload_n hx hb dX3_copyFrom_11 rfl (lv_at hl 0 rfl) ?_
  refine getO X hP inX3 0 rfl rfl 1 (by decide) (List.mem_of_getElem? (i := 2) rfl) rfl dX3_copyFrom_12 ?_
  refine lv_aload_n hx hb dX3_copyFrom_15 rfl (lv_at hl 1 rfl) ?_
  refine getO X hP inX3 13 rfl rfl 1 (by decide) (List.mem_of_getElem? (i := 2) rfl) rfl dX3_copyFrom_16 ?_
  obtain ⟨q19, e19, hf⟩ := bnd hf
  refine callVV X (k_X1_copyFrom l D cI cZ a_t_cl a_t_cl_sh a_t_cl_cmd a_t_cl_tim a_t_cl_hel a_t_cl_dir a_t_cl_seg a_o_cl a_o_cl_sh a_o_cl_cmd a_o_cl_tim a_o_cl_hel a_o_cl_dir a_o_cl_seg  v_t_cl_fw v_t_cl_fp v_t_cl_fn v_t_cl_rt v_t_cl_wd v_t_cl_pd v_t_cl_ss v_t_cl_rs v_t_cl_sh_nd v_t_cl_sh_sn v_t_cl_cmd v_t_cl_tim v_t_cl_hel v_t_cl_dir v_t_cl_seg v_o_cl_fw v_o_cl_fp v_o_cl_fn v_o_cl_rt v_o_cl_wd v_o_cl_pd v_o_cl_ss v_o_cl_rs v_o_cl_sh_nd v_o_cl_sh_sn v_o_cl_cmd v_o_cl_tim v_o_cl_hel v_o_cl_dir v_o_cl_seg  q19 e19) (cwV 1 X.1.2.2.2.2 gX3_copyFrom_X1_copyFrom rfl rfl rfl kd_X1_copyFrom ⟨Nat.le_of_ble_eq_true rfl, Nat.le_of_ble_eq_true rfl⟩) hP hD hS hl.1 6 1 rfl rfl [6, 7, 8, 9, 10, 11, 12, 19, 20, 21, 22, 23, 24, 25] (by decide) (wo_X3_copyFrom cI cZ a_t a_t_ct a_t_cl a_t_cl_sh a_t_ct_fe a_t_ct_se a_t_ct_pa a_t_ct_sl a_t_cl_cmd a_t_cl_tim a_t_cl_hel a_t_cl_dir a_t_cl_seg a_o a_o_ct a_o_cl a_o_cl_sh a_o_ct_fe a_o_ct_se a_o_ct_pa a_o_ct_sl a_o_cl_cmd a_o_cl_tim a_o_cl_hel a_o_cl_dir a_o_cl_seg v_t_tm q8.1 q8.2.1 q8.2.2.1 q8.2.2.2.1 q8.2.2.2.2 q19.1 q19.2.1 q19.2.2.1 q19.2.2.2.1 q19.2.2.2.2.1 q19.2.2.2.2.2.1 q19.2.2.2.2.2.2.1 q19.2.2.2.2.2.2.2.1 q19.2.2.2.2.2.2.2.2.1 q19.2.2.2.2.2.2.2.2.2.1 q19.2.2.2.2.2.2.2.2.2.2.1 q19.2.2.2.2.2.2.2.2.2.2.2.1 q19.2.2.2.2.2.2.2.2.2.2.2.2.1 q19.2.2.2.2.2.2.2.2.2.2.2.2.2.1 q19.2.2.2.2.2.2.2.2.2.2.2.2.2.2 v_o_tm v_o_ct_ex v_o_ct_fe v_o_ct_se v_o_ct_pa v_o_ct_sl v_o_cl_fw v_o_cl_fp v_o_cl_fn v_o_cl_rt v_o_cl_wd v_o_cl_pd v_o_cl_ss v_o_cl_rs v_o_cl_sh_nd v_o_cl_sh_sn v_o_cl_cmd v_o_cl_tim v_o_cl_hel v_o_cl_dir v_o_cl_seg) rfl rfl rfl rfl rfl (rest := []) rfl (Nat.le_of_ble_eq_true rfl) dX3_copyFrom_19 ⟨Nat.zero_le _, Nat.zero_le _⟩ (fun H locs hP hD hS => ?_)
  refine lv_aload_n hx hb dX3_copyFrom_22 rfl (lv_at hl 0 rfl) ?_
  refine lv_aload_n hx hb dX3_copyFrom_23 rfl (lv_at hl 1 rfl) ?_
  refine getO X hP inX3 13 rfl rfl 3 (by decide) (List.mem_of_getElem? (i := 3) rfl) rfl dX3_copyFrom_24 ?_
  refine putO X hP hD hS inX3 tyX3 tyX3_ok nmX3 0 rfl rfl 3 (by decide) (List.mem_of_getElem? (i := 3) rfl) rfl rfl rfl (Nat.le_of_ble_eq_true rfl) dX3_copyFrom_27 (wo_X3_copyFrom cI cZ a_t a_t_ct a_t_cl a_t_cl_sh a_t_ct_fe a_t_ct_se a_t_ct_pa a_t_ct_sl a_t_cl_cmd a_t_cl_tim a_t_cl_hel a_t_cl_dir a_t_cl_seg a_o a_o_ct a_o_cl a_o_cl_sh a_o_ct_fe a_o_ct_se a_o_ct_pa a_o_ct_sl a_o_cl_cmd a_o_cl_tim a_o_cl_hel a_o_cl_dir a_o_cl_seg v_o_tm q8.1 q8.2.1 q8.2.2.1 q8.2.2.2.1 q8.2.2.2.2 q19.1 q19.2.1 q19.2.2.1 q19.2.2.2.1 q19.2.2.2.2.1 q19.2.2.2.2.2.1 q19.2.2.2.2.2.2.1 q19.2.2.2.2.2.2.2.1 q19.2.2.2.2.2.2.2.2.1 q19.2.2.2.2.2.2.2.2.2.1 q19.2.2.2.2.2.2.2.2.2.2.1 q19.2.2.2.2.2.2.2.2.2.2.2.1 q19.2.2.2.2.2.2.2.2.2.2.2.2.1 q19.2.2.2.2.2.2.2.2.2.2.2.2.2.1 q19.2.2.2.2.2.2.2.2.2.2.2.2.2.2 v_o_tm v_o_ct_ex v_o_ct_fe v_o_ct_se v_o_ct_pa v_o_ct_sl v_o_cl_fw v_o_cl_fp v_o_cl_fn v_o_cl_rt v_o_cl_wd v_o_cl_pd v_o_cl_ss v_o_cl_rs v_o_cl_sh_nd v_o_cl_sh_sn v_o_cl_cmd v_o_cl_tim v_o_cl_hel v_o_cl_dir v_o_cl_seg) rfl (fun H locs hP hD hS => ?_)
  obtain rfl := Option.some.inj hf
  exact retV X hS hP dX3_copyFrom_30

abbrev wo_X3_passSecond (cI cZ : ClassId) (a_t a_t_ct a_t_cl a_t_cl_sh a_t_cl_cmd a_t_cl_tim a_t_cl_hel a_t_cl_dir a_t_cl_seg : Nat) (v_t_tm : Int32) (v_t_cl_fw : Int32) (v_t_cl_fp : Int32) (v_t_cl_fn : Int32) (v_t_cl_rt : Int32) (v_t_cl_wd : Int32) (v_t_cl_pd : Int32) (v_t_cl_ss : Int32) (v_t_cl_rs : Int32) (v_t_cl_sh_nd : Int32) (v_t_cl_sh_sn : Int32) (v_t_cl_cmd : Nat → Int32) (v_t_cl_tim : Nat → Int32) (v_t_cl_hel : Nat → Int32) (v_t_cl_dir : Nat → Int32) (v_t_cl_seg : Nat → Int32) : va_W := [(a_t, oX3 a_t_ct a_t_cl a_t_cl_sh v_t_tm), (a_t_cl, oX1 a_t_cl_sh v_t_cl_fw v_t_cl_fp v_t_cl_fn a_t_cl_cmd a_t_cl_tim a_t_cl_hel v_t_cl_rt v_t_cl_wd v_t_cl_pd a_t_cl_dir v_t_cl_ss v_t_cl_rs a_t_cl_seg), (a_t_cl_sh, oX2 v_t_cl_sh_nd v_t_cl_sh_sn), (a_t_cl_cmd, rI cI 8 v_t_cl_cmd), (a_t_cl_tim, rI cI 8 v_t_cl_tim), (a_t_cl_hel, rI cI 8 v_t_cl_hel), (a_t_cl_dir, rI cI 8 v_t_cl_dir), (a_t_cl_seg, rI cI 8 v_t_cl_seg)]
def fX3_passSecond (v_t_tm : Int32) (v_t_cl_fw : Int32) (v_t_cl_fp : Int32) (v_t_cl_fn : Int32) (v_t_cl_rt : Int32) (v_t_cl_wd : Int32) (v_t_cl_pd : Int32) (v_t_cl_ss : Int32) (v_t_cl_rs : Int32) (v_t_cl_sh_nd : Int32) (v_t_cl_cmd : Nat → Int32) (v_t_cl_tim : Nat → Int32) (v_t_cl_hel : Nat → Int32) (v_t_cl_dir : Nat → Int32) (v_t_cl_seg : Nat → Int32) : Option (Int32 × Int32 × Int32 × Int32 × Int32 × (Nat → Int32) × (Nat → Int32) × (Nat → Int32) × (Nat → Int32)) := ((fX1_countTimersDown v_t_cl_sh_nd v_t_cl_tim).bind (fun q14 => ((fX1_run v_t_cl_fw v_t_cl_fp v_t_cl_fn v_t_cl_rt v_t_cl_wd v_t_cl_pd v_t_cl_ss v_t_cl_rs v_t_cl_sh_nd v_t_cl_cmd q14 v_t_cl_hel v_t_cl_dir v_t_cl_seg).bind (fun q21 => (some ((v_t_tm + (nI 1)), q21.1, q21.2.1, q21.2.2.1, q21.2.2.2.1, q21.2.2.2.2.1, q21.2.2.2.2.2.1, q21.2.2.2.2.2.2.1, q21.2.2.2.2.2.2.2))))))
theorem kd_X3_passSecond : yX3_passSecond.cls = RX3 ∧ yX3_passSecond.cls ≠ "java/lang/invoke/MethodHandle" ∧ yX3_passSecond.cls ≠ "java/lang/invoke/VarHandle" ∧ (parseMethodDescriptor yX3_passSecond.desc).map (fun d => d.parameters.length) = some 0 := by decide +kernel
def rm_X3_passSecond : Room := { frames := 5, cells := 0, slots := 0, locals := 108 }
set_option maxHeartbeats 4000000 in
set_option maxRecDepth 100000 in
theorem k_X3_passSecond (l : Launch) (D : va_G) (cI cZ : ClassId) (a_t a_t_ct a_t_cl a_t_cl_sh a_t_cl_cmd a_t_cl_tim a_t_cl_hel a_t_cl_dir a_t_cl_seg : Nat) (v_t_tm : Int32) (v_t_cl_fw : Int32) (v_t_cl_fp : Int32) (v_t_cl_fn : Int32) (v_t_cl_rt : Int32) (v_t_cl_wd : Int32) (v_t_cl_pd : Int32) (v_t_cl_ss : Int32) (v_t_cl_rs : Int32) (v_t_cl_sh_nd : Int32) (v_t_cl_sh_sn : Int32) (v_t_cl_cmd : Nat → Int32) (v_t_cl_tim : Nat → Int32) (v_t_cl_hel : Nat → Int32) (v_t_cl_dir : Nat → Int32) (v_t_cl_seg : Nat → Int32) (q : Int32 × Int32 × Int32 × Int32 × Int32 × (Nat → Int32) × (Nat → Int32) × (Nat → Int32) × (Nat → Int32)) (hf : fX3_passSecond v_t_tm v_t_cl_fw v_t_cl_fp v_t_cl_fn v_t_cl_rt v_t_cl_wd v_t_cl_pd v_t_cl_ss v_t_cl_rs v_t_cl_sh_nd v_t_cl_cmd v_t_cl_tim v_t_cl_hel v_t_cl_dir v_t_cl_seg = some q) : CV l D cI cZ yX3_passSecond wsX3_passSecond rm_X3_passSecond [.ref a_t] (wo_X3_passSecond cI cZ a_t a_t_ct a_t_cl a_t_cl_sh a_t_cl_cmd a_t_cl_tim a_t_cl_hel a_t_cl_dir a_t_cl_seg v_t_tm v_t_cl_fw v_t_cl_fp v_t_cl_fn v_t_cl_rt v_t_cl_wd v_t_cl_pd v_t_cl_ss v_t_cl_rs v_t_cl_sh_nd v_t_cl_sh_sn v_t_cl_cmd v_t_cl_tim v_t_cl_hel v_t_cl_dir v_t_cl_seg) (wo_X3_passSecond cI cZ a_t a_t_ct a_t_cl a_t_cl_sh a_t_cl_cmd a_t_cl_tim a_t_cl_hel a_t_cl_dir a_t_cl_seg q.1 v_t_cl_fw v_t_cl_fp v_t_cl_fn v_t_cl_rt q.2.1 q.2.2.1 q.2.2.2.1 q.2.2.2.2.1 v_t_cl_sh_nd v_t_cl_sh_sn v_t_cl_cmd q.2.2.2.2.2.1 q.2.2.2.2.2.2.1 q.2.2.2.2.2.2.2.1 q.2.2.2.2.2.2.2.2) := by
  refine CV.mk (cc := cX3_passSecond) (maxL := 1) (by decide) rfl (Nat.le_of_ble_eq_true rfl) ?_
  intro p e s m below meth c ls A X hP hD hl hS
  have hx := X.1.1
  have hb := X.1.2.1
  have hl : lv_has ls 1 [(0, .ref a_t)] := hl
  have inX3 : ∀ w ∈ u_ws RX3 TX3 4, w ∈ wsX3_passSecond := fun _ h => List.mem_cons_of_mem _ (List.mem_append_left _ (List.mem_append_left _ (List.mem_append_right _ h)))
  unfold fX3_passSecond at hf
  refine lv_aload_n hx hb dX3_passSecond_0 rfl (lv_at hl 0 rfl) ?_
  refine lv_dup hx hb dX3_passSecond_1 rfl ?_
  refine getO X hP inX3 0 rfl rfl 3 (by decide) (List.mem_of_getElem? (i := 1) rfl) rfl dX3_passSecond_2 ?_
  refine lv_iconst hx hb dX3_passSecond_5 ic_1 ?_
  refine lv_iadd hx hb dX3_passSecond_6 ?_
  refine putO X hP hD hS inX3 tyX3 tyX3_ok nmX3 0 rfl rfl 3 (by decide) (List.mem_of_getElem? (i := 1) rfl) rfl rfl rfl (Nat.le_of_ble_eq_true rfl) dX3_passSecond_7 (wo_X3_passSecond cI cZ a_t a_t_ct a_t_cl a_t_cl_sh a_t_cl_cmd a_t_cl_tim a_t_cl_hel a_t_cl_dir a_t_cl_seg (v_t_tm + (nI 1)) v_t_cl_fw v_t_cl_fp v_t_cl_fn v_t_cl_rt v_t_cl_wd v_t_cl_pd v_t_cl_ss v_t_cl_rs v_t_cl_sh_nd v_t_cl_sh_sn v_t_cl_cmd v_t_cl_tim v_t_cl_hel v_t_cl_dir v_t_cl_seg) rfl (fun H locs hP hD hS => ?_)
  refine lv_aload_n hx hb dX3_passSecond_10 rfl (lv_at hl 0 rfl) ?_
  refine getO X hP inX3 0 rfl rfl 1 (by decide) (List.mem_of_getElem? (i := 2) rfl) rfl dX3_passSecond_11 ?_
  obtain ⟨q14, e14, hf⟩ := bnd hf
  refine callVV X (k_X1_countTimersDown l D cI cZ a_t_cl a_t_cl_sh a_t_cl_cmd a_t_cl_tim a_t_cl_hel a_t_cl_dir a_t_cl_seg  v_t_cl_fw v_t_cl_fp v_t_cl_fn v_t_cl_rt v_t_cl_wd v_t_cl_pd v_t_cl_ss v_t_cl_rs v_t_cl_sh_nd v_t_cl_sh_sn v_t_cl_tim  q14 e14) (cwV 0 X.1.2.2.2.2 gX3_passSecond_X1_countTimersDown rfl rfl rfl kd_X1_countTimersDown ⟨Nat.le_of_ble_eq_true rfl, Nat.le_of_ble_eq_true rfl⟩) hP hD hS hl.1 1 1 rfl rfl [1, 2, 4] (by decide) (wo_X3_passSecond cI cZ a_t a_t_ct a_t_cl a_t_cl_sh a_t_cl_cmd a_t_cl_tim a_t_cl_hel a_t_cl_dir a_t_cl_seg (v_t_tm + (nI 1)) v_t_cl_fw v_t_cl_fp v_t_cl_fn v_t_cl_rt v_t_cl_wd v_t_cl_pd v_t_cl_ss v_t_cl_rs v_t_cl_sh_nd v_t_cl_sh_sn v_t_cl_cmd q14 v_t_cl_hel v_t_cl_dir v_t_cl_seg) rfl rfl rfl rfl rfl (rest := []) rfl (Nat.le_of_ble_eq_true rfl) dX3_passSecond_14 ⟨Nat.zero_le _, Nat.zero_le _⟩ (fun H locs hP hD hS => ?_)
  refine lv_aload_n hx hb dX3_passSecond_17 rfl (lv_at hl 0 rfl) ?_
  refine getO X hP inX3 0 rfl rfl 1 (by decide) (List.mem_of_getElem? (i := 2) rfl) rfl dX3_passSecond_18 ?_
  obtain ⟨q21, e21, hf⟩ := bnd hf
  refine callVV X (k_X1_run l D cI cZ a_t_cl a_t_cl_sh a_t_cl_cmd a_t_cl_tim a_t_cl_hel a_t_cl_dir a_t_cl_seg  v_t_cl_fw v_t_cl_fp v_t_cl_fn v_t_cl_rt v_t_cl_wd v_t_cl_pd v_t_cl_ss v_t_cl_rs v_t_cl_sh_nd v_t_cl_sh_sn v_t_cl_cmd q14 v_t_cl_hel v_t_cl_dir v_t_cl_seg  q21 e21) (cwV 0 X.1.2.2.2.2 gX3_passSecond_X1_run rfl rfl rfl kd_X1_run ⟨Nat.le_of_ble_eq_true rfl, Nat.le_of_ble_eq_true rfl⟩) hP hD hS hl.1 1 1 rfl rfl [1, 2, 3, 4, 5, 6, 7] (by decide) (wo_X3_passSecond cI cZ a_t a_t_ct a_t_cl a_t_cl_sh a_t_cl_cmd a_t_cl_tim a_t_cl_hel a_t_cl_dir a_t_cl_seg (v_t_tm + (nI 1)) v_t_cl_fw v_t_cl_fp v_t_cl_fn v_t_cl_rt q21.1 q21.2.1 q21.2.2.1 q21.2.2.2.1 v_t_cl_sh_nd v_t_cl_sh_sn v_t_cl_cmd q21.2.2.2.2.1 q21.2.2.2.2.2.1 q21.2.2.2.2.2.2.1 q21.2.2.2.2.2.2.2) rfl rfl rfl rfl rfl (rest := []) rfl (Nat.le_of_ble_eq_true rfl) dX3_passSecond_21 ⟨Nat.zero_le _, Nat.zero_le _⟩ (fun H locs hP hD hS => ?_)
  obtain rfl := Option.some.inj hf
  exact retV X hS hP dX3_passSecond_24

abbrev wo_X3_stateOfExtra (cI cZ : ClassId) (a_t a_t_ct a_t_cl a_t_cl_sh a_t_ct_fe a_t_ct_se a_t_ct_pa a_t_ct_sl a_t_cl_cmd a_t_cl_tim a_t_cl_hel a_t_cl_dir a_t_cl_seg : Nat) (v_t_tm : Int32) (v_t_ct_ex : Int32) (v_t_ct_pa : Nat → Int32) (v_t_cl_fw : Int32) (v_t_cl_fp : Int32) (v_t_cl_fn : Int32) (v_t_cl_rt : Int32) (v_t_cl_wd : Int32) (v_t_cl_pd : Int32) (v_t_cl_ss : Int32) (v_t_cl_rs : Int32) : va_W := [(a_t, oX3 a_t_ct a_t_cl a_t_cl_sh v_t_tm), (a_t_ct, oX0 a_t_ct_fe a_t_ct_se a_t_ct_pa a_t_ct_sl v_t_ct_ex), (a_t_ct_pa, rI cI 16 v_t_ct_pa), (a_t_cl, oX1 a_t_cl_sh v_t_cl_fw v_t_cl_fp v_t_cl_fn a_t_cl_cmd a_t_cl_tim a_t_cl_hel v_t_cl_rt v_t_cl_wd v_t_cl_pd a_t_cl_dir v_t_cl_ss v_t_cl_rs a_t_cl_seg)]
def fX3_stateOfExtra (v_t_ct_pa : Nat → Int32) (v_t_cl_pd : Int32) (v_t_cl_ss : Int32) (v_t_cl_rs : Int32) (p1 : Int32) : Option (Int32) := ((fX0_pathOf v_t_ct_pa p1).bind (fun q5 => (if v_t_cl_rs = 0 then (if (q5 &&& v_t_cl_ss) = 0 then (if (q5 &&& v_t_cl_pd) = 0 then (some 0) else (some (nI 4))) else (some (nI 5))) else (some (nI 5)))))
theorem kd_X3_stateOfExtra : yX3_stateOfExtra.cls = RX3 ∧ yX3_stateOfExtra.cls ≠ "java/lang/invoke/MethodHandle" ∧ yX3_stateOfExtra.cls ≠ "java/lang/invoke/VarHandle" ∧ (parseMethodDescriptor yX3_stateOfExtra.desc).map (fun d => d.parameters.length) = some 1 := by decide +kernel
def rm_X3_stateOfExtra : Room := { frames := 2, cells := 0, slots := 0, locals := 42 }
set_option maxHeartbeats 4000000 in
set_option maxRecDepth 100000 in
theorem k_X3_stateOfExtra (l : Launch) (D : va_G) (cI cZ : ClassId) (a_t a_t_ct a_t_cl a_t_cl_sh a_t_ct_fe a_t_ct_se a_t_ct_pa a_t_ct_sl a_t_cl_cmd a_t_cl_tim a_t_cl_hel a_t_cl_dir a_t_cl_seg : Nat) (v_t_tm : Int32) (v_t_ct_ex : Int32) (v_t_ct_pa : Nat → Int32) (v_t_cl_fw : Int32) (v_t_cl_fp : Int32) (v_t_cl_fn : Int32) (v_t_cl_rt : Int32) (v_t_cl_wd : Int32) (v_t_cl_pd : Int32) (v_t_cl_ss : Int32) (v_t_cl_rs : Int32) (p1 : Int32) (q : Int32) (hf : fX3_stateOfExtra v_t_ct_pa v_t_cl_pd v_t_cl_ss v_t_cl_rs p1 = some q) : CI l D cI cZ yX3_stateOfExtra wsX3_stateOfExtra rm_X3_stateOfExtra [.ref a_t, .int p1] (wo_X3_stateOfExtra cI cZ a_t a_t_ct a_t_cl a_t_cl_sh a_t_ct_fe a_t_ct_se a_t_ct_pa a_t_ct_sl a_t_cl_cmd a_t_cl_tim a_t_cl_hel a_t_cl_dir a_t_cl_seg v_t_tm v_t_ct_ex v_t_ct_pa v_t_cl_fw v_t_cl_fp v_t_cl_fn v_t_cl_rt v_t_cl_wd v_t_cl_pd v_t_cl_ss v_t_cl_rs) (wo_X3_stateOfExtra cI cZ a_t a_t_ct a_t_cl a_t_cl_sh a_t_ct_fe a_t_ct_se a_t_ct_pa a_t_ct_sl a_t_cl_cmd a_t_cl_tim a_t_cl_hel a_t_cl_dir a_t_cl_seg v_t_tm v_t_ct_ex v_t_ct_pa v_t_cl_fw v_t_cl_fp v_t_cl_fn v_t_cl_rt v_t_cl_wd v_t_cl_pd v_t_cl_ss v_t_cl_rs) q := by
  refine CI.mk (cc := cX3_stateOfExtra) (maxL := 3) (by decide) rfl (Nat.le_of_ble_eq_true rfl) ?_
  intro p e s m below meth c ls A X hP hD hl hS
  have hx := X.1.1
  have hb := X.1.2.1
  have hl : lv_has ls 3 [(0, .ref a_t), (1, .int p1)] := hl
  have inX1 : ∀ w ∈ u_ws RX1 TX1 14, w ∈ wsX3_stateOfExtra := fun _ h => List.mem_cons_of_mem _ (List.mem_append_left _ (List.mem_append_right _ h))
  have inX3 : ∀ w ∈ u_ws RX3 TX3 4, w ∈ wsX3_stateOfExtra := fun _ h => List.mem_cons_of_mem _ (List.mem_append_left _ (List.mem_append_left _ (List.mem_append_right _ h)))
  unfold fX3_stateOfExtra at hf
  refine lv_aload_n hx hb dX3_stateOfExtra_0 rfl (lv_at hl 0 rfl) ?_
  refine getO X hP inX3 0 rfl rfl 0 (by decide) (List.mem_of_getElem? (i := 1) rfl) rfl dX3_stateOfExtra_1 ?_
  refine lv_iload_n hx hb dX3_stateOfExtra_4 rfl (lv_at hl 1 rfl) ?_
  obtain ⟨q5, e5, hf⟩ := bnd hf
  refine callVI X (k_X0_pathOf l D cI cZ a_t_ct a_t_ct_fe a_t_ct_se a_t_ct_pa a_t_ct_sl  v_t_ct_ex v_t_ct_pa p1 q5 e5) (cwV 1 X.1.2.2.2.2 gX3_stateOfExtra_X0_pathOf rfl rfl rfl kd_X0_pathOf ⟨Nat.le_of_ble_eq_true rfl, Nat.le_of_ble_eq_true rfl⟩) hP hD hS hl.1 1 0 rfl rfl [1, 2] (by decide) (wo_X3_stateOfExtra cI cZ a_t a_t_ct a_t_cl a_t_cl_sh a_t_ct_fe a_t_ct_se a_t_ct_pa a_t_ct_sl a_t_cl_cmd a_t_cl_tim a_t_cl_hel a_t_cl_dir a_t_cl_seg v_t_tm v_t_ct_ex v_t_ct_pa v_t_cl_fw v_t_cl_fp v_t_cl_fn v_t_cl_rt v_t_cl_wd v_t_cl_pd v_t_cl_ss v_t_cl_rs) rfl rfl rfl rfl rfl (rest := []) rfl (Nat.le_of_ble_eq_true rfl) dX3_stateOfExtra_5 ⟨Nat.zero_le _, Nat.zero_le _⟩ (fun H locs hP hD hS => ?_)
  refine lv_istore_n (lv' := [(2, .int q5), (0, .ref a_t), (1, .int p1)]) hx hb dX3_stateOfExtra_8 rfl hl (by decide) rfl (fun ls hl => ?_)
  refine lv_aload_n hx hb dX3_stateOfExtra_9 rfl (lv_at hl 1 rfl) ?_
  refine getO X hP inX3 0 rfl rfl 1 (by decide) (List.mem_of_getElem? (i := 2) rfl) rfl dX3_stateOfExtra_10 ?_
  refine getN X hP inX1 3 rfl rfl 12 (by decide) 12 rfl rfl dX3_stateOfExtra_13 ?_
  refine lv_if_ne (tgt := 31) hx hb dX3_stateOfExtra_16 (by decide) (fun hc => ?_) (fun hc => ?_)
  · replace hf := ifn hc hf
    refine lv_iconst hx hb dX3_stateOfExtra_31 ic_5 ?_
    obtain rfl := Option.some.inj hf
    exact retI X hS hP rfl dX3_stateOfExtra_32
  · replace hf := ifp hc hf
    refine lv_iload_n hx hb dX3_stateOfExtra_19 rfl (lv_at hl 0 rfl) ?_
    refine lv_aload_n hx hb dX3_stateOfExtra_20 rfl (lv_at hl 1 rfl) ?_
    refine getO X hP inX3 0 rfl rfl 1 (by decide) (List.mem_of_getElem? (i := 2) rfl) rfl dX3_stateOfExtra_21 ?_
    refine getN X hP inX1 3 rfl rfl 11 (by decide) 11 rfl rfl dX3_stateOfExtra_24 ?_
    refine lv_iand hx hb dX3_stateOfExtra_27 ?_
    refine lv_if_eq (tgt := 33) hx hb dX3_stateOfExtra_28 (by decide) (fun hc => ?_) (fun hc => ?_)
    · replace hf := ifp hc hf
      refine lv_iload_n hx hb dX3_stateOfExtra_33 rfl (lv_at hl 0 rfl) ?_
      refine lv_aload_n hx hb dX3_stateOfExtra_34 rfl (lv_at hl 1 rfl) ?_
      refine getO X hP inX3 0 rfl rfl 1 (by decide) (List.mem_of_getElem? (i := 2) rfl) rfl dX3_stateOfExtra_35 ?_
      refine getN X hP inX1 3 rfl rfl 9 (by decide) 10 rfl rfl dX3_stateOfExtra_38 ?_
      refine lv_iand hx hb dX3_stateOfExtra_41 ?_
      refine lv_if_eq (tgt := 49) hx hb dX3_stateOfExtra_42 (by decide) (fun hc => ?_) (fun hc => ?_)
      · replace hf := ifp hc hf
        refine lv_iconst hx hb dX3_stateOfExtra_49 ic_0 ?_
        obtain rfl := Option.some.inj hf
        exact retI X hS hP rfl dX3_stateOfExtra_50
      · replace hf := ifn hc hf
        refine lv_iconst hx hb dX3_stateOfExtra_45 ic_4 ?_
        refine lv_goto (tgt := 50) hx hb dX3_stateOfExtra_46 (by decide) ?_
        obtain rfl := Option.some.inj hf
        exact retI X hS hP rfl dX3_stateOfExtra_50
    · replace hf := ifn hc hf
      refine lv_iconst hx hb dX3_stateOfExtra_31 ic_5 ?_
      obtain rfl := Option.some.inj hf
      exact retI X hS hP rfl dX3_stateOfExtra_32

abbrev wo_X3_stateOfNormal (cI cZ : ClassId) (a_t a_t_ct a_t_cl a_t_cl_sh a_t_ct_fe a_t_ct_se a_t_ct_pa a_t_ct_sl a_t_cl_cmd a_t_cl_tim a_t_cl_hel a_t_cl_dir a_t_cl_seg : Nat) (v_t_tm : Int32) (v_t_ct_ex : Int32) (v_t_ct_fe : Nat → Int32) (v_t_ct_se : Nat → Int32) (v_t_ct_pa : Nat → Int32) (v_t_cl_fw : Int32) (v_t_cl_fp : Int32) (v_t_cl_fn : Int32) (v_t_cl_rt : Int32) (v_t_cl_wd : Int32) (v_t_cl_pd : Int32) (v_t_cl_ss : Int32) (v_t_cl_rs : Int32) (v_t_cl_sh_nd : Int32) (v_t_cl_sh_sn : Int32) (v_t_cl_seg : Nat → Int32) : va_W := [(a_t, oX3 a_t_ct a_t_cl a_t_cl_sh v_t_tm), (a_t_ct, oX0 a_t_ct_fe a_t_ct_se a_t_ct_pa a_t_ct_sl v_t_ct_ex), (a_t_ct_fe, rI cI 16 v_t_ct_fe), (a_t_ct_se, rI cI 16 v_t_ct_se), (a_t_ct_pa, rI cI 16 v_t_ct_pa), (a_t_cl, oX1 a_t_cl_sh v_t_cl_fw v_t_cl_fp v_t_cl_fn a_t_cl_cmd a_t_cl_tim a_t_cl_hel v_t_cl_rt v_t_cl_wd v_t_cl_pd a_t_cl_dir v_t_cl_ss v_t_cl_rs a_t_cl_seg), (a_t_cl_sh, oX2 v_t_cl_sh_nd v_t_cl_sh_sn), (a_t_cl_seg, rI cI 8 v_t_cl_seg)]
def fX3_stateOfNormal (v_t_ct_fe : Nat → Int32) (v_t_ct_se : Nat → Int32) (v_t_ct_pa : Nat → Int32) (v_t_cl_wd : Int32) (v_t_cl_ss : Int32) (v_t_cl_rs : Int32) (v_t_cl_sh_nd : Int32) (v_t_cl_seg : Nat → Int32) (p1 : Int32) : Option (Int32) := ((fX0_pathOf v_t_ct_pa p1).bind (fun q5 => ((fX0_firstEndOf v_t_ct_fe v_t_ct_pa p1).bind (fun q18 => ((fX1_segmentOf v_t_cl_sh_nd v_t_cl_seg q18).bind (fun q21 => ((fX0_secondEndOf v_t_ct_se v_t_ct_pa p1).bind (fun q34 => ((fX1_segmentOf v_t_cl_sh_nd v_t_cl_seg q34).bind (fun q37 => ((if (q5 &&& v_t_cl_rs) = 0 then (some 0) else (some (nI 1))).bind (fun ph59 => (if ph59 = 0 then ((if ph59 = 0 then (some (((q5 &&& v_t_cl_wd) &&& (v_t_cl_ss ^^^ (-1))) &&& (v_t_cl_rs ^^^ (-1)))) else ((fX1_spansInside v_t_cl_sh_nd v_t_cl_seg q21).bind (fun q117 => (some ((((q5 &&& v_t_cl_wd) &&& (v_t_cl_ss ^^^ (-1))) &&& (v_t_cl_rs ^^^ (-1))) &&& q117))))).bind (fun ph123 => (if ph123 = 0 then (if ph59 = 0 then (if (q5 &&& v_t_cl_ss) = 0 then (some 0) else (some (nI 1))) else (some (nI 2))) else (some (nI 4))))) else (if q21 = q37 then ((if ph59 = 0 then (some (((q5 &&& v_t_cl_wd) &&& (v_t_cl_ss ^^^ (-1))) &&& (v_t_cl_rs ^^^ (-1)))) else ((fX1_spansInside v_t_cl_sh_nd v_t_cl_seg q21).bind (fun q117 => (some ((((q5 &&& v_t_cl_wd) &&& (v_t_cl_ss ^^^ (-1))) &&& (v_t_cl_rs ^^^ (-1))) &&& q117))))).bind (fun ph123 => (if ph123 = 0 then (if ph59 = 0 then (if (q5 &&& v_t_cl_ss) = 0 then (some 0) else (some (nI 1))) else (some (nI 2))) else (some (nI 4))))) else (some (nI 3))))))))))))))))
theorem kd_X3_stateOfNormal : yX3_stateOfNormal.cls = RX3 ∧ yX3_stateOfNormal.cls ≠ "java/lang/invoke/MethodHandle" ∧ yX3_stateOfNormal.cls ≠ "java/lang/invoke/VarHandle" ∧ (parseMethodDescriptor yX3_stateOfNormal.desc).map (fun d => d.parameters.length) = some 1 := by decide +kernel
def rm_X3_stateOfNormal : Room := { frames := 2, cells := 0, slots := 0, locals := 45 }
set_option maxHeartbeats 4000000 in
set_option maxRecDepth 100000 in
theorem k_X3_stateOfNormal (l : Launch) (D : va_G) (cI cZ : ClassId) (a_t a_t_ct a_t_cl a_t_cl_sh a_t_ct_fe a_t_ct_se a_t_ct_pa a_t_ct_sl a_t_cl_cmd a_t_cl_tim a_t_cl_hel a_t_cl_dir a_t_cl_seg : Nat) (v_t_tm : Int32) (v_t_ct_ex : Int32) (v_t_ct_fe : Nat → Int32) (v_t_ct_se : Nat → Int32) (v_t_ct_pa : Nat → Int32) (v_t_cl_fw : Int32) (v_t_cl_fp : Int32) (v_t_cl_fn : Int32) (v_t_cl_rt : Int32) (v_t_cl_wd : Int32) (v_t_cl_pd : Int32) (v_t_cl_ss : Int32) (v_t_cl_rs : Int32) (v_t_cl_sh_nd : Int32) (v_t_cl_sh_sn : Int32) (v_t_cl_seg : Nat → Int32) (p1 : Int32) (q : Int32) (hf : fX3_stateOfNormal v_t_ct_fe v_t_ct_se v_t_ct_pa v_t_cl_wd v_t_cl_ss v_t_cl_rs v_t_cl_sh_nd v_t_cl_seg p1 = some q) : CI l D cI cZ yX3_stateOfNormal wsX3_stateOfNormal rm_X3_stateOfNormal [.ref a_t, .int p1] (wo_X3_stateOfNormal cI cZ a_t a_t_ct a_t_cl a_t_cl_sh a_t_ct_fe a_t_ct_se a_t_ct_pa a_t_ct_sl a_t_cl_cmd a_t_cl_tim a_t_cl_hel a_t_cl_dir a_t_cl_seg v_t_tm v_t_ct_ex v_t_ct_fe v_t_ct_se v_t_ct_pa v_t_cl_fw v_t_cl_fp v_t_cl_fn v_t_cl_rt v_t_cl_wd v_t_cl_pd v_t_cl_ss v_t_cl_rs v_t_cl_sh_nd v_t_cl_sh_sn v_t_cl_seg) (wo_X3_stateOfNormal cI cZ a_t a_t_ct a_t_cl a_t_cl_sh a_t_ct_fe a_t_ct_se a_t_ct_pa a_t_ct_sl a_t_cl_cmd a_t_cl_tim a_t_cl_hel a_t_cl_dir a_t_cl_seg v_t_tm v_t_ct_ex v_t_ct_fe v_t_ct_se v_t_ct_pa v_t_cl_fw v_t_cl_fp v_t_cl_fn v_t_cl_rt v_t_cl_wd v_t_cl_pd v_t_cl_ss v_t_cl_rs v_t_cl_sh_nd v_t_cl_sh_sn v_t_cl_seg) q := by
  refine CI.mk (cc := cX3_stateOfNormal) (maxL := 7) (by decide) rfl (Nat.le_of_ble_eq_true rfl) ?_
  intro p e s m below meth c ls A X hP hD hl hS
  have hx := X.1.1
  have hb := X.1.2.1
  have hl : lv_has ls 7 [(0, .ref a_t), (1, .int p1)] := hl
  have inX1 : ∀ w ∈ u_ws RX1 TX1 14, w ∈ wsX3_stateOfNormal := fun _ h => List.mem_cons_of_mem _ (List.mem_append_left _ (List.mem_append_left _ (List.mem_append_right _ h)))
  have inX3 : ∀ w ∈ u_ws RX3 TX3 4, w ∈ wsX3_stateOfNormal := fun _ h => List.mem_cons_of_mem _ (List.mem_append_left _ (List.mem_append_left _ (List.mem_append_left _ (List.mem_append_right _ h))))
  unfold fX3_stateOfNormal at hf
  refine lv_aload_n hx hb dX3_stateOfNormal_0 rfl (lv_at hl 0 rfl) ?_
  refine getO X hP inX3 0 rfl rfl 0 (by decide) (List.mem_of_getElem? (i := 1) rfl) rfl dX3_stateOfNormal_1 ?_
  refine lv_iload_n hx hb dX3_stateOfNormal_4 rfl (lv_at hl 1 rfl) ?_
  obtain ⟨q5, e5, hf⟩ := bnd hf
  refine callVI X (k_X0_pathOf l D cI cZ a_t_ct a_t_ct_fe a_t_ct_se a_t_ct_pa a_t_ct_sl  v_t_ct_ex v_t_ct_pa p1 q5 e5) (cwV 1 X.1.2.2.2.2 gX3_stateOfNormal_X0_pathOf rfl rfl rfl kd_X0_pathOf ⟨Nat.le_of_ble_eq_true rfl, Nat.le_of_ble_eq_true rfl⟩) hP hD hS hl.1 1 0 rfl rfl [1, 4] (by decide) (wo_X3_stateOfNormal cI cZ a_t a_t_ct a_t_cl a_t_cl_sh a_t_ct_fe a_t_ct_se a_t_ct_pa a_t_ct_sl a_t_cl_cmd a_t_cl_tim a_t_cl_hel a_t_cl_dir a_t_cl_seg v_t_tm v_t_ct_ex v_t_ct_fe v_t_ct_se v_t_ct_pa v_t_cl_fw v_t_cl_fp v_t_cl_fn v_t_cl_rt v_t_cl_wd v_t_cl_pd v_t_cl_ss v_t_cl_rs v_t_cl_sh_nd v_t_cl_sh_sn v_t_cl_seg) rfl rfl rfl rfl rfl (rest := []) rfl (Nat.le_of_ble_eq_true rfl) dX3_stateOfNormal_5 ⟨Nat.zero_le _, Nat.zero_le _⟩ (fun H locs hP hD hS => ?_)
  refine lv_istore_n (lv' := [(2, .int q5), (0, .ref a_t), (1, .int p1)]) hx hb dX3_stateOfNormal_8 rfl hl (by decide) rfl (fun ls hl => ?_)
  refine lv_aload_n hx hb dX3_stateOfNormal_9 rfl (lv_at hl 1 rfl) ?_
  refine getO X hP inX3 0 rfl rfl 1 (by decide) (List.mem_of_getElem? (i := 2) rfl) rfl dX3_stateOfNormal_10 ?_
  refine lv_aload_n hx hb dX3_stateOfNormal_13 rfl (lv_at hl 1 rfl) ?_
  refine getO X hP inX3 0 rfl rfl 0 (by decide) (List.mem_of_getElem? (i := 1) rfl) rfl dX3_stateOfNormal_14 ?_
  refine lv_iload_n hx hb dX3_stateOfNormal_17 rfl (lv_at hl 2 rfl) ?_
  obtain ⟨q18, e18, hf⟩ := bnd hf
  refine callVI X (k_X0_firstEndOf l D cI cZ a_t_ct a_t_ct_fe a_t_ct_se a_t_ct_pa a_t_ct_sl  v_t_ct_ex v_t_ct_fe v_t_ct_pa p1 q18 e18) (cwV 1 X.1.2.2.2.2 gX3_stateOfNormal_X0_firstEndOf rfl rfl rfl kd_X0_firstEndOf ⟨Nat.le_of_ble_eq_true rfl, Nat.le_of_ble_eq_true rfl⟩) hP hD hS hl.1 1 0 rfl rfl [1, 2, 4] (by decide) (wo_X3_stateOfNormal cI cZ a_t a_t_ct a_t_cl a_t_cl_sh a_t_ct_fe a_t_ct_se a_t_ct_pa a_t_ct_sl a_t_cl_cmd a_t_cl_tim a_t_cl_hel a_t_cl_dir a_t_cl_seg v_t_tm v_t_ct_ex v_t_ct_fe v_t_ct_se v_t_ct_pa v_t_cl_fw v_t_cl_fp v_t_cl_fn v_t_cl_rt v_t_cl_wd v_t_cl_pd v_t_cl_ss v_t_cl_rs v_t_cl_sh_nd v_t_cl_sh_sn v_t_cl_seg) rfl rfl rfl rfl rfl (rest := [.ref a_t_cl]) rfl (Nat.le_of_ble_eq_true rfl) dX3_stateOfNormal_18 ⟨Nat.zero_le _, Nat.zero_le _⟩ (fun H locs hP hD hS => ?_)
  obtain ⟨q21, e21, hf⟩ := bnd hf
  refine callVI X (k_X1_segmentOf l D cI cZ a_t_cl a_t_cl_sh a_t_cl_cmd a_t_cl_tim a_t_cl_hel a_t_cl_dir a_t_cl_seg  v_t_cl_fw v_t_cl_fp v_t_cl_fn v_t_cl_rt v_t_cl_wd v_t_cl_pd v_t_cl_ss v_t_cl_rs v_t_cl_sh_nd v_t_cl_sh_sn v_t_cl_seg q18 q21 e21) (cwV 1 X.1.2.2.2.2 gX3_stateOfNormal_X1_segmentOf rfl rfl rfl kd_X1_segmentOf ⟨Nat.le_of_ble_eq_true rfl, Nat.le_of_ble_eq_true rfl⟩) hP hD hS hl.1 5 1 rfl rfl [5, 6, 7] (by decide) (wo_X3_stateOfNormal cI cZ a_t a_t_ct a_t_cl a_t_cl_sh a_t_ct_fe a_t_ct_se a_t_ct_pa a_t_ct_sl a_t_cl_cmd a_t_cl_tim a_t_cl_hel a_t_cl_dir a_t_cl_seg v_t_tm v_t_ct_ex v_t_ct_fe v_t_ct_se v_t_ct_pa v_t_cl_fw v_t_cl_fp v_t_cl_fn v_t_cl_rt v_t_cl_wd v_t_cl_pd v_t_cl_ss v_t_cl_rs v_t_cl_sh_nd v_t_cl_sh_sn v_t_cl_seg) rfl rfl rfl rfl rfl (rest := []) rfl (Nat.le_of_ble_eq_true rfl) dX3_stateOfNormal_21 ⟨Nat.zero_le _, Nat.zero_le _⟩ (fun H locs hP hD hS => ?_)
  refine lv_istore_n (lv' := [(3, .int q21), (2, .int q5), (0, .ref a_t), (1, .int p1)]) hx hb dX3_stateOfNormal_24 rfl hl (by decide) rfl (fun ls hl => ?_)
  refine lv_aload_n hx hb dX3_stateOfNormal_25 rfl (lv_at hl 2 rfl) ?_
  refine getO X hP inX3 0 rfl rfl 1 (by decide) (List.mem_of_getElem? (i := 2) rfl) rfl dX3_stateOfNormal_26 ?_
  refine lv_aload_n hx hb dX3_stateOfNormal_29 rfl (lv_at hl 2 rfl) ?_
  refine getO X hP inX3 0 rfl rfl 0 (by decide) (List.mem_of_getElem? (i := 1) rfl) rfl dX3_stateOfNormal_30 ?_
  refine lv_iload_n hx hb dX3_stateOfNormal_33 rfl (lv_at hl 3 rfl) ?_
  obtain ⟨q34, e34, hf⟩ := bnd hf
  refine callVI X (k_X0_secondEndOf l D cI cZ a_t_ct a_t_ct_fe a_t_ct_se a_t_ct_pa a_t_ct_sl  v_t_ct_ex v_t_ct_se v_t_ct_pa p1 q34 e34) (cwV 1 X.1.2.2.2.2 gX3_stateOfNormal_X0_secondEndOf rfl rfl rfl kd_X0_secondEndOf ⟨Nat.le_of_ble_eq_true rfl, Nat.le_of_ble_eq_true rfl⟩) hP hD hS hl.1 1 0 rfl rfl [1, 3, 4] (by decide) (wo_X3_stateOfNormal cI cZ a_t a_t_ct a_t_cl a_t_cl_sh a_t_ct_fe a_t_ct_se a_t_ct_pa a_t_ct_sl a_t_cl_cmd a_t_cl_tim a_t_cl_hel a_t_cl_dir a_t_cl_seg v_t_tm v_t_ct_ex v_t_ct_fe v_t_ct_se v_t_ct_pa v_t_cl_fw v_t_cl_fp v_t_cl_fn v_t_cl_rt v_t_cl_wd v_t_cl_pd v_t_cl_ss v_t_cl_rs v_t_cl_sh_nd v_t_cl_sh_sn v_t_cl_seg) rfl rfl rfl rfl rfl (rest := [.ref a_t_cl]) rfl (Nat.le_of_ble_eq_true rfl) dX3_stateOfNormal_34 ⟨Nat.zero_le _, Nat.zero_le _⟩ (fun H locs hP hD hS => ?_)
  obtain ⟨q37, e37, hf⟩ := bnd hf
  refine callVI X (k_X1_segmentOf l D cI cZ a_t_cl a_t_cl_sh a_t_cl_cmd a_t_cl_tim a_t_cl_hel a_t_cl_dir a_t_cl_seg  v_t_cl_fw v_t_cl_fp v_t_cl_fn v_t_cl_rt v_t_cl_wd v_t_cl_pd v_t_cl_ss v_t_cl_rs v_t_cl_sh_nd v_t_cl_sh_sn v_t_cl_seg q34 q37 e37) (cwV 1 X.1.2.2.2.2 gX3_stateOfNormal_X1_segmentOf rfl rfl rfl kd_X1_segmentOf ⟨Nat.le_of_ble_eq_true rfl, Nat.le_of_ble_eq_true rfl⟩) hP hD hS hl.1 5 1 rfl rfl [5, 6, 7] (by decide) (wo_X3_stateOfNormal cI cZ a_t a_t_ct a_t_cl a_t_cl_sh a_t_ct_fe a_t_ct_se a_t_ct_pa a_t_ct_sl a_t_cl_cmd a_t_cl_tim a_t_cl_hel a_t_cl_dir a_t_cl_seg v_t_tm v_t_ct_ex v_t_ct_fe v_t_ct_se v_t_ct_pa v_t_cl_fw v_t_cl_fp v_t_cl_fn v_t_cl_rt v_t_cl_wd v_t_cl_pd v_t_cl_ss v_t_cl_rs v_t_cl_sh_nd v_t_cl_sh_sn v_t_cl_seg) rfl rfl rfl rfl rfl (rest := []) rfl (Nat.le_of_ble_eq_true rfl) dX3_stateOfNormal_37 ⟨Nat.zero_le _, Nat.zero_le _⟩ (fun H locs hP hD hS => ?_)
  refine lv_istore (lv' := [(4, .int q37), (3, .int q21), (2, .int q5), (0, .ref a_t), (1, .int p1)]) hx hb dX3_stateOfNormal_40 hl (by decide) rfl (fun ls hl => ?_)
  refine lv_iload_n hx hb dX3_stateOfNormal_42 rfl (lv_at hl 2 rfl) ?_
  refine lv_aload_n hx hb dX3_stateOfNormal_43 rfl (lv_at hl 3 rfl) ?_
  refine getO X hP inX3 0 rfl rfl 1 (by decide) (List.mem_of_getElem? (i := 2) rfl) rfl dX3_stateOfNormal_44 ?_
  refine getN X hP inX1 5 rfl rfl 12 (by decide) 12 rfl rfl dX3_stateOfNormal_47 ?_
  refine lv_iand hx hb dX3_stateOfNormal_50 ?_
  obtain ⟨ph59, hg, hf⟩ := bnd hf
  have J59 : ∀ (H : Heap) (locs : List Loc) (ls : Array Slot), va_P D vwCl (wo_X3_stateOfNormal cI cZ a_t a_t_ct a_t_cl a_t_cl_sh a_t_ct_fe a_t_ct_se a_t_ct_pa a_t_ct_sl a_t_cl_cmd a_t_cl_tim a_t_cl_hel a_t_cl_dir a_t_cl_seg v_t_tm v_t_ct_ex v_t_ct_fe v_t_ct_se v_t_ct_pa v_t_cl_fw v_t_cl_fp v_t_cl_fn v_t_cl_rt v_t_cl_wd v_t_cl_pd v_t_cl_ss v_t_cl_rs v_t_cl_sh_nd v_t_cl_sh_sn v_t_cl_seg) H → va_D A (wo_X3_stateOfNormal cI cZ a_t a_t_ct a_t_cl a_t_cl_sh a_t_ct_fe a_t_ct_se a_t_ct_pa a_t_ct_sl a_t_cl_cmd a_t_cl_tim a_t_cl_hel a_t_cl_dir a_t_cl_seg v_t_tm v_t_ct_ex v_t_ct_fe v_t_ct_se v_t_ct_pa v_t_cl_fw v_t_cl_fp v_t_cl_fn v_t_cl_rt v_t_cl_wd v_t_cl_pd v_t_cl_ss v_t_cl_rs v_t_cl_sh_nd v_t_cl_sh_sn v_t_cl_seg) → va_S A s.heap H locs → lv_has ls 7 [(0, .ref a_t), (2, .int q5), (3, .int q21), (4, .int q37)] → W p l e rm_X3_stateOfNormal s m ([.ref a_t, .int p1] : List Value).toArray below meth c H locs 0 0 (MQ below (QI D (wo_X3_stateOfNormal cI cZ a_t a_t_ct a_t_cl a_t_cl_sh a_t_ct_fe a_t_ct_se a_t_ct_pa a_t_ct_sl a_t_cl_cmd a_t_cl_tim a_t_cl_hel a_t_cl_dir a_t_cl_seg v_t_tm v_t_ct_ex v_t_ct_fe v_t_ct_se v_t_ct_pa v_t_cl_fw v_t_cl_fp v_t_cl_fn v_t_cl_rt v_t_cl_wd v_t_cl_pd v_t_cl_ss v_t_cl_rs v_t_cl_sh_nd v_t_cl_sh_sn v_t_cl_seg) q A) ([.ref a_t, .int p1] : List Value).toArray s 0 0 A) (F0 m 59 ls [.int ph59]) := by
    clear hg hP hD hS hl
    intro H locs ls hP hD hS hl
    refine lv_istore (lv' := [(5, .int ph59), (0, .ref a_t), (2, .int q5), (3, .int q21), (4, .int q37)]) hx hb dX3_stateOfNormal_59 hl (by decide) rfl (fun ls hl => ?_)
    refine lv_iload hx hb dX3_stateOfNormal_61 (lv_at hl 0 rfl) ?_
    refine lv_if_eq (tgt := 74) hx hb dX3_stateOfNormal_63 (by decide) (fun hc => ?_) (fun hc => ?_)
    · replace hf := ifp hc hf
      refine lv_iload_n hx hb dX3_stateOfNormal_74 rfl (lv_at hl 2 rfl) ?_
      refine lv_aload_n hx hb dX3_stateOfNormal_75 rfl (lv_at hl 1 rfl) ?_
      refine getO X hP inX3 0 rfl rfl 1 (by decide) (List.mem_of_getElem? (i := 2) rfl) rfl dX3_stateOfNormal_76 ?_
      refine getN X hP inX1 5 rfl rfl 8 (by decide) 9 rfl rfl dX3_stateOfNormal_79 ?_
      refine lv_iand hx hb dX3_stateOfNormal_82 ?_
      refine lv_aload_n hx hb dX3_stateOfNormal_83 rfl (lv_at hl 1 rfl) ?_
      refine getO X hP inX3 0 rfl rfl 1 (by decide) (List.mem_of_getElem? (i := 2) rfl) rfl dX3_stateOfNormal_84 ?_
      refine getN X hP inX1 5 rfl rfl 11 (by decide) 11 rfl rfl dX3_stateOfNormal_87 ?_
      refine lv_iconst hx hb dX3_stateOfNormal_90 ic_m1 ?_
      refine lv_ixor hx hb dX3_stateOfNormal_91 ?_
      refine lv_iand hx hb dX3_stateOfNormal_92 ?_
      refine lv_aload_n hx hb dX3_stateOfNormal_93 rfl (lv_at hl 1 rfl) ?_
      refine getO X hP inX3 0 rfl rfl 1 (by decide) (List.mem_of_getElem? (i := 2) rfl) rfl dX3_stateOfNormal_94 ?_
      refine getN X hP inX1 5 rfl rfl 12 (by decide) 12 rfl rfl dX3_stateOfNormal_97 ?_
      refine lv_iconst hx hb dX3_stateOfNormal_100 ic_m1 ?_
      refine lv_ixor hx hb dX3_stateOfNormal_101 ?_
      refine lv_iand hx hb dX3_stateOfNormal_102 ?_
      refine lv_istore (lv' := [(6, .int (((q5 &&& v_t_cl_wd) &&& (v_t_cl_ss ^^^ (-1))) &&& (v_t_cl_rs ^^^ (-1)))), (5, .int ph59), (0, .ref a_t), (2, .int q5), (3, .int q21), (4, .int q37)]) hx hb dX3_stateOfNormal_103 hl (by decide) rfl (fun ls hl => ?_)
      refine lv_iload hx hb dX3_stateOfNormal_105 (lv_at hl 1 rfl) ?_
      obtain ⟨ph123, hg, hf⟩ := bnd hf
      have J123 : ∀ (H : Heap) (locs : List Loc) (ls : Array Slot), va_P D vwCl (wo_X3_stateOfNormal cI cZ a_t a_t_ct a_t_cl a_t_cl_sh a_t_ct_fe a_t_ct_se a_t_ct_pa a_t_ct_sl a_t_cl_cmd a_t_cl_tim a_t_cl_hel a_t_cl_dir a_t_cl_seg v_t_tm v_t_ct_ex v_t_ct_fe v_t_ct_se v_t_ct_pa v_t_cl_fw v_t_cl_fp v_t_cl_fn v_t_cl_rt v_t_cl_wd v_t_cl_pd v_t_cl_ss v_t_cl_rs v_t_cl_sh_nd v_t_cl_sh_sn v_t_cl_seg) H → va_D A (wo_X3_stateOfNormal cI cZ a_t a_t_ct a_t_cl a_t_cl_sh a_t_ct_fe a_t_ct_se a_t_ct_pa a_t_ct_sl a_t_cl_cmd a_t_cl_tim a_t_cl_hel a_t_cl_dir a_t_cl_seg v_t_tm v_t_ct_ex v_t_ct_fe v_t_ct_se v_t_ct_pa v_t_cl_fw v_t_cl_fp v_t_cl_fn v_t_cl_rt v_t_cl_wd v_t_cl_pd v_t_cl_ss v_t_cl_rs v_t_cl_sh_nd v_t_cl_sh_sn v_t_cl_seg) → va_S A s.heap H locs → lv_has ls 7 [(0, .ref a_t), (2, .int q5), (5, .int ph59), (6, .int ph123)] → W p l e rm_X3_stateOfNormal s m ([.ref a_t, .int p1] : List Value).toArray below meth c H locs 0 0 (MQ below (QI D (wo_X3_stateOfNormal cI cZ a_t a_t_ct a_t_cl a_t_cl_sh a_t_ct_fe a_t_ct_se a_t_ct_pa a_t_ct_sl a_t_cl_cmd a_t_cl_tim a_t_cl_hel a_t_cl_dir a_t_cl_seg v_t_tm v_t_ct_ex v_t_ct_fe v_t_ct_se v_t_ct_pa v_t_cl_fw v_t_cl_fp v_t_cl_fn v_t_cl_rt v_t_cl_wd v_t_cl_pd v_t_cl_ss v_t_cl_rs v_t_cl_sh_nd v_t_cl_sh_sn v_t_cl_seg) q A) ([.ref a_t, .int p1] : List Value).toArray s 0 0 A) (F0 m 123 ls []) := by
        clear hg hP hD hS hl
        intro H locs ls hP hD hS hl
        refine lv_iload hx hb dX3_stateOfNormal_123 (lv_at hl 3 rfl) ?_
        refine lv_if_eq (tgt := 130) hx hb dX3_stateOfNormal_125 (by decide) (fun hc => ?_) (fun hc => ?_)
        · replace hf := ifp hc hf
          refine lv_iload hx hb dX3_stateOfNormal_130 (lv_at hl 2 rfl) ?_
          refine lv_if_eq (tgt := 137) hx hb dX3_stateOfNormal_132 (by decide) (fun hc => ?_) (fun hc => ?_)
          · replace hf := ifp hc hf
            refine lv_iload_n hx hb dX3_stateOfNormal_137 rfl (lv_at hl 1 rfl) ?_
            refine lv_aload_n hx hb dX3_stateOfNormal_138 rfl (lv_at hl 0 rfl) ?_
            refine getO X hP inX3 0 rfl rfl 1 (by decide) (List.mem_of_getElem? (i := 2) rfl) rfl dX3_stateOfNormal_139 ?_
            refine getN X hP inX1 5 rfl rfl 11 (by decide) 11 rfl rfl dX3_stateOfNormal_142 ?_
            refine lv_iand hx hb dX3_stateOfNormal_145 ?_
            refine lv_if_eq (tgt := 153) hx hb dX3_stateOfNormal_146 (by decide) (fun hc => ?_) (fun hc => ?_)
            · replace hf := ifp hc hf
              refine lv_iconst hx hb dX3_stateOfNormal_153 ic_0 ?_
              obtain rfl := Option.some.inj hf
              exact retI X hS hP rfl dX3_stateOfNormal_154
            · replace hf := ifn hc hf
              refine lv_iconst hx hb dX3_stateOfNormal_149 ic_1 ?_
              refine lv_goto (tgt := 154) hx hb dX3_stateOfNormal_150 (by decide) ?_
              obtain rfl := Option.some.inj hf
              exact retI X hS hP rfl dX3_stateOfNormal_154
          · replace hf := ifn hc hf
            refine lv_iconst hx hb dX3_stateOfNormal_135 ic_2 ?_
            obtain rfl := Option.some.inj hf
            exact retI X hS hP rfl dX3_stateOfNormal_136
        · replace hf := ifn hc hf
          refine lv_iconst hx hb dX3_stateOfNormal_128 ic_4 ?_
          obtain rfl := Option.some.inj hf
          exact retI X hS hP rfl dX3_stateOfNormal_129
      replace hf := hg
      clear hg
      refine lv_if_eq (tgt := 123) hx hb dX3_stateOfNormal_107 (by decide) (fun hc => ?_) (fun hc => ?_)
      · replace hf := ifp hc hf
        obtain rfl := Option.some.inj hf
        exact J123 _ _ ls hP hD hS (lv_sub hl [2, 3, 1, 0] rfl)
      · replace hf := ifn hc hf
        refine lv_iload hx hb dX3_stateOfNormal_110 (lv_at hl 0 rfl) ?_
        refine lv_aload_n hx hb dX3_stateOfNormal_112 rfl (lv_at hl 2 rfl) ?_
        refine getO X hP inX3 0 rfl rfl 1 (by decide) (List.mem_of_getElem? (i := 2) rfl) rfl dX3_stateOfNormal_113 ?_
        refine lv_iload_n hx hb dX3_stateOfNormal_116 rfl (lv_at hl 4 rfl) ?_
        obtain ⟨q117, e117, hf⟩ := bnd hf
        refine callVI X (k_X1_spansInside l D cI cZ a_t_cl a_t_cl_sh a_t_cl_cmd a_t_cl_tim a_t_cl_hel a_t_cl_dir a_t_cl_seg  v_t_cl_fw v_t_cl_fp v_t_cl_fn v_t_cl_rt v_t_cl_wd v_t_cl_pd v_t_cl_ss v_t_cl_rs v_t_cl_sh_nd v_t_cl_sh_sn v_t_cl_seg q21 q117 e117) (cwV 1 X.1.2.2.2.2 gX3_stateOfNormal_X1_spansInside rfl rfl rfl kd_X1_spansInside ⟨Nat.le_of_ble_eq_true rfl, Nat.le_of_ble_eq_true rfl⟩) hP hD hS hl.1 5 1 rfl rfl [5, 6, 7] (by decide) (wo_X3_stateOfNormal cI cZ a_t a_t_ct a_t_cl a_t_cl_sh a_t_ct_fe a_t_ct_se a_t_ct_pa a_t_ct_sl a_t_cl_cmd a_t_cl_tim a_t_cl_hel a_t_cl_dir a_t_cl_seg v_t_tm v_t_ct_ex v_t_ct_fe v_t_ct_se v_t_ct_pa v_t_cl_fw v_t_cl_fp v_t_cl_fn v_t_cl_rt v_t_cl_wd v_t_cl_pd v_t_cl_ss v_t_cl_rs v_t_cl_sh_nd v_t_cl_sh_sn v_t_cl_seg) rfl rfl rfl rfl rfl (rest := [.int (((q5 &&& v_t_cl_wd) &&& (v_t_cl_ss ^^^ (-1))) &&& (v_t_cl_rs ^^^ (-1)))]) rfl (Nat.le_of_ble_eq_true rfl) dX3_stateOfNormal_117 ⟨Nat.zero_le _, Nat.zero_le _⟩ (fun H locs hP hD hS => ?_)
        refine lv_iand hx hb dX3_stateOfNormal_120 ?_
        refine lv_istore (lv' := [(6, .int ((((q5 &&& v_t_cl_wd) &&& (v_t_cl_ss ^^^ (-1))) &&& (v_t_cl_rs ^^^ (-1))) &&& q117)), (5, .int ph59), (0, .ref a_t), (2, .int q5), (3, .int q21), (4, .int q37)]) hx hb dX3_stateOfNormal_121 hl (by decide) rfl (fun ls hl => ?_)
        obtain rfl := Option.some.inj hf
        exact J123 _ _ ls hP hD hS (lv_sub hl [2, 3, 1, 0] rfl)
    · replace hf := ifn hc hf
      refine lv_iload_n hx hb dX3_stateOfNormal_66 rfl (lv_at hl 3 rfl) ?_
      refine lv_iload hx hb dX3_stateOfNormal_67 (lv_at hl 4 rfl) ?_
      refine lv_icmp_eq (tgt := 74) hx hb dX3_stateOfNormal_69 (by decide) (fun hc => ?_) (fun hc => ?_)
      · replace hf := ifp hc hf
        refine lv_iload_n hx hb dX3_stateOfNormal_74 rfl (lv_at hl 2 rfl) ?_
        refine lv_aload_n hx hb dX3_stateOfNormal_75 rfl (lv_at hl 1 rfl) ?_
        refine getO X hP inX3 0 rfl rfl 1 (by decide) (List.mem_of_getElem? (i := 2) rfl) rfl dX3_stateOfNormal_76 ?_
        refine getN X hP inX1 5 rfl rfl 8 (by decide) 9 rfl rfl dX3_stateOfNormal_79 ?_
        refine lv_iand hx hb dX3_stateOfNormal_82 ?_
        refine lv_aload_n hx hb dX3_stateOfNormal_83 rfl (lv_at hl 1 rfl) ?_
        refine getO X hP inX3 0 rfl rfl 1 (by decide) (List.mem_of_getElem? (i := 2) rfl) rfl dX3_stateOfNormal_84 ?_
        refine getN X hP inX1 5 rfl rfl 11 (by decide) 11 rfl rfl dX3_stateOfNormal_87 ?_
        refine lv_iconst hx hb dX3_stateOfNormal_90 ic_m1 ?_
        refine lv_ixor hx hb dX3_stateOfNormal_91 ?_
        refine lv_iand hx hb dX3_stateOfNormal_92 ?_
        refine lv_aload_n hx hb dX3_stateOfNormal_93 rfl (lv_at hl 1 rfl) ?_
        refine getO X hP inX3 0 rfl rfl 1 (by decide) (List.mem_of_getElem? (i := 2) rfl) rfl dX3_stateOfNormal_94 ?_
        refine getN X hP inX1 5 rfl rfl 12 (by decide) 12 rfl rfl dX3_stateOfNormal_97 ?_
        refine lv_iconst hx hb dX3_stateOfNormal_100 ic_m1 ?_
        refine lv_ixor hx hb dX3_stateOfNormal_101 ?_
        refine lv_iand hx hb dX3_stateOfNormal_102 ?_
        refine lv_istore (lv' := [(6, .int (((q5 &&& v_t_cl_wd) &&& (v_t_cl_ss ^^^ (-1))) &&& (v_t_cl_rs ^^^ (-1)))), (5, .int ph59), (0, .ref a_t), (2, .int q5), (3, .int q21), (4, .int q37)]) hx hb dX3_stateOfNormal_103 hl (by decide) rfl (fun ls hl => ?_)
        refine lv_iload hx hb dX3_stateOfNormal_105 (lv_at hl 1 rfl) ?_
        obtain ⟨ph123, hg, hf⟩ := bnd hf
        have J123 : ∀ (H : Heap) (locs : List Loc) (ls : Array Slot), va_P D vwCl (wo_X3_stateOfNormal cI cZ a_t a_t_ct a_t_cl a_t_cl_sh a_t_ct_fe a_t_ct_se a_t_ct_pa a_t_ct_sl a_t_cl_cmd a_t_cl_tim a_t_cl_hel a_t_cl_dir a_t_cl_seg v_t_tm v_t_ct_ex v_t_ct_fe v_t_ct_se v_t_ct_pa v_t_cl_fw v_t_cl_fp v_t_cl_fn v_t_cl_rt v_t_cl_wd v_t_cl_pd v_t_cl_ss v_t_cl_rs v_t_cl_sh_nd v_t_cl_sh_sn v_t_cl_seg) H → va_D A (wo_X3_stateOfNormal cI cZ a_t a_t_ct a_t_cl a_t_cl_sh a_t_ct_fe a_t_ct_se a_t_ct_pa a_t_ct_sl a_t_cl_cmd a_t_cl_tim a_t_cl_hel a_t_cl_dir a_t_cl_seg v_t_tm v_t_ct_ex v_t_ct_fe v_t_ct_se v_t_ct_pa v_t_cl_fw v_t_cl_fp v_t_cl_fn v_t_cl_rt v_t_cl_wd v_t_cl_pd v_t_cl_ss v_t_cl_rs v_t_cl_sh_nd v_t_cl_sh_sn v_t_cl_seg) → va_S A s.heap H locs → lv_has ls 7 [(0, .ref a_t), (2, .int q5), (5, .int ph59), (6, .int ph123)] → W p l e rm_X3_stateOfNormal s m ([.ref a_t, .int p1] : List Value).toArray below meth c H locs 0 0 (MQ below (QI D (wo_X3_stateOfNormal cI cZ a_t a_t_ct a_t_cl a_t_cl_sh a_t_ct_fe a_t_ct_se a_t_ct_pa a_t_ct_sl a_t_cl_cmd a_t_cl_tim a_t_cl_hel a_t_cl_dir a_t_cl_seg v_t_tm v_t_ct_ex v_t_ct_fe v_t_ct_se v_t_ct_pa v_t_cl_fw v_t_cl_fp v_t_cl_fn v_t_cl_rt v_t_cl_wd v_t_cl_pd v_t_cl_ss v_t_cl_rs v_t_cl_sh_nd v_t_cl_sh_sn v_t_cl_seg) q A) ([.ref a_t, .int p1] : List Value).toArray s 0 0 A) (F0 m 123 ls []) := by
          clear hg hP hD hS hl
          intro H locs ls hP hD hS hl
          refine lv_iload hx hb dX3_stateOfNormal_123 (lv_at hl 3 rfl) ?_
          refine lv_if_eq (tgt := 130) hx hb dX3_stateOfNormal_125 (by decide) (fun hc => ?_) (fun hc => ?_)
          · replace hf := ifp hc hf
            refine lv_iload hx hb dX3_stateOfNormal_130 (lv_at hl 2 rfl) ?_
            refine lv_if_eq (tgt := 137) hx hb dX3_stateOfNormal_132 (by decide) (fun hc => ?_) (fun hc => ?_)
            · replace hf := ifp hc hf
              refine lv_iload_n hx hb dX3_stateOfNormal_137 rfl (lv_at hl 1 rfl) ?_
              refine lv_aload_n hx hb dX3_stateOfNormal_138 rfl (lv_at hl 0 rfl) ?_
              refine getO X hP inX3 0 rfl rfl 1 (by decide) (List.mem_of_getElem? (i := 2) rfl) rfl dX3_stateOfNormal_139 ?_
              refine getN X hP inX1 5 rfl rfl 11 (by decide) 11 rfl rfl dX3_stateOfNormal_142 ?_
              refine lv_iand hx hb dX3_stateOfNormal_145 ?_
              refine lv_if_eq (tgt := 153) hx hb dX3_stateOfNormal_146 (by decide) (fun hc => ?_) (fun hc => ?_)
              · replace hf := ifp hc hf
                refine lv_iconst hx hb dX3_stateOfNormal_153 ic_0 ?_
                obtain rfl := Option.some.inj hf
                exact retI X hS hP rfl dX3_stateOfNormal_154
              · replace hf := ifn hc hf
                refine lv_iconst hx hb dX3_stateOfNormal_149 ic_1 ?_
                refine lv_goto (tgt := 154) hx hb dX3_stateOfNormal_150 (by decide) ?_
                obtain rfl := Option.some.inj hf
                exact retI X hS hP rfl dX3_stateOfNormal_154
            · replace hf := ifn hc hf
              refine lv_iconst hx hb dX3_stateOfNormal_135 ic_2 ?_
              obtain rfl := Option.some.inj hf
              exact retI X hS hP rfl dX3_stateOfNormal_136
          · replace hf := ifn hc hf
            refine lv_iconst hx hb dX3_stateOfNormal_128 ic_4 ?_
            obtain rfl := Option.some.inj hf
            exact retI X hS hP rfl dX3_stateOfNormal_129
        replace hf := hg
        clear hg
        refine lv_if_eq (tgt := 123) hx hb dX3_stateOfNormal_107 (by decide) (fun hc => ?_) (fun hc => ?_)
        · replace hf := ifp hc hf
          obtain rfl := Option.some.inj hf
          exact J123 _ _ ls hP hD hS (lv_sub hl [2, 3, 1, 0] rfl)
        · replace hf := ifn hc hf
          refine lv_iload hx hb dX3_stateOfNormal_110 (lv_at hl 0 rfl) ?_
          refine lv_aload_n hx hb dX3_stateOfNormal_112 rfl (lv_at hl 2 rfl) ?_
          refine getO X hP inX3 0 rfl rfl 1 (by decide) (List.mem_of_getElem? (i := 2) rfl) rfl dX3_stateOfNormal_113 ?_
          refine lv_iload_n hx hb dX3_stateOfNormal_116 rfl (lv_at hl 4 rfl) ?_
          obtain ⟨q117, e117, hf⟩ := bnd hf
          refine callVI X (k_X1_spansInside l D cI cZ a_t_cl a_t_cl_sh a_t_cl_cmd a_t_cl_tim a_t_cl_hel a_t_cl_dir a_t_cl_seg  v_t_cl_fw v_t_cl_fp v_t_cl_fn v_t_cl_rt v_t_cl_wd v_t_cl_pd v_t_cl_ss v_t_cl_rs v_t_cl_sh_nd v_t_cl_sh_sn v_t_cl_seg q21 q117 e117) (cwV 1 X.1.2.2.2.2 gX3_stateOfNormal_X1_spansInside rfl rfl rfl kd_X1_spansInside ⟨Nat.le_of_ble_eq_true rfl, Nat.le_of_ble_eq_true rfl⟩) hP hD hS hl.1 5 1 rfl rfl [5, 6, 7] (by decide) (wo_X3_stateOfNormal cI cZ a_t a_t_ct a_t_cl a_t_cl_sh a_t_ct_fe a_t_ct_se a_t_ct_pa a_t_ct_sl a_t_cl_cmd a_t_cl_tim a_t_cl_hel a_t_cl_dir a_t_cl_seg v_t_tm v_t_ct_ex v_t_ct_fe v_t_ct_se v_t_ct_pa v_t_cl_fw v_t_cl_fp v_t_cl_fn v_t_cl_rt v_t_cl_wd v_t_cl_pd v_t_cl_ss v_t_cl_rs v_t_cl_sh_nd v_t_cl_sh_sn v_t_cl_seg) rfl rfl rfl rfl rfl (rest := [.int (((q5 &&& v_t_cl_wd) &&& (v_t_cl_ss ^^^ (-1))) &&& (v_t_cl_rs ^^^ (-1)))]) rfl (Nat.le_of_ble_eq_true rfl) dX3_stateOfNormal_117 ⟨Nat.zero_le _, Nat.zero_le _⟩ (fun H locs hP hD hS => ?_)
          refine lv_iand hx hb dX3_stateOfNormal_120 ?_
          refine lv_istore (lv' := [(6, .int ((((q5 &&& v_t_cl_wd) &&& (v_t_cl_ss ^^^ (-1))) &&& (v_t_cl_rs ^^^ (-1))) &&& q117)), (5, .int ph59), (0, .ref a_t), (2, .int q5), (3, .int q21), (4, .int q37)]) hx hb dX3_stateOfNormal_121 hl (by decide) rfl (fun ls hl => ?_)
          obtain rfl := Option.some.inj hf
          exact J123 _ _ ls hP hD hS (lv_sub hl [2, 3, 1, 0] rfl)
      · replace hf := ifn hc hf
        refine lv_iconst hx hb dX3_stateOfNormal_72 ic_3 ?_
        obtain rfl := Option.some.inj hf
        exact retI X hS hP rfl dX3_stateOfNormal_73
  replace hf := hg
  clear hg
  refine lv_if_eq (tgt := 58) hx hb dX3_stateOfNormal_51 (by decide) (fun hc => ?_) (fun hc => ?_)
  · replace hf := ifp hc hf
    refine lv_iconst hx hb dX3_stateOfNormal_58 ic_0 ?_
    obtain rfl := Option.some.inj hf
    exact J59 _ _ ls hP hD hS (lv_sub hl [3, 2, 1, 0] rfl)
  · replace hf := ifn hc hf
    refine lv_iconst hx hb dX3_stateOfNormal_54 ic_1 ?_
    refine lv_goto (tgt := 59) hx hb dX3_stateOfNormal_55 (by decide) ?_
    obtain rfl := Option.some.inj hf
    exact J59 _ _ ls hP hD hS (lv_sub hl [3, 2, 1, 0] rfl)

abbrev wo_X3_stateOf (cI cZ : ClassId) (a_t a_t_ct a_t_cl a_t_cl_sh a_t_ct_fe a_t_ct_se a_t_ct_pa a_t_ct_sl a_t_cl_cmd a_t_cl_tim a_t_cl_hel a_t_cl_dir a_t_cl_seg : Nat) (v_t_tm : Int32) (v_t_ct_ex : Int32) (v_t_ct_fe : Nat → Int32) (v_t_ct_se : Nat → Int32) (v_t_ct_pa : Nat → Int32) (v_t_cl_fw : Int32) (v_t_cl_fp : Int32) (v_t_cl_fn : Int32) (v_t_cl_rt : Int32) (v_t_cl_wd : Int32) (v_t_cl_pd : Int32) (v_t_cl_ss : Int32) (v_t_cl_rs : Int32) (v_t_cl_sh_nd : Int32) (v_t_cl_sh_sn : Int32) (v_t_cl_seg : Nat → Int32) : va_W := [(a_t, oX3 a_t_ct a_t_cl a_t_cl_sh v_t_tm), (a_t_ct, oX0 a_t_ct_fe a_t_ct_se a_t_ct_pa a_t_ct_sl v_t_ct_ex), (a_t_ct_fe, rI cI 16 v_t_ct_fe), (a_t_ct_se, rI cI 16 v_t_ct_se), (a_t_ct_pa, rI cI 16 v_t_ct_pa), (a_t_cl, oX1 a_t_cl_sh v_t_cl_fw v_t_cl_fp v_t_cl_fn a_t_cl_cmd a_t_cl_tim a_t_cl_hel v_t_cl_rt v_t_cl_wd v_t_cl_pd a_t_cl_dir v_t_cl_ss v_t_cl_rs a_t_cl_seg), (a_t_cl_sh, oX2 v_t_cl_sh_nd v_t_cl_sh_sn), (a_t_cl_seg, rI cI 8 v_t_cl_seg)]
def fX3_stateOf (v_t_ct_ex : Int32) (v_t_ct_fe : Nat → Int32) (v_t_ct_se : Nat → Int32) (v_t_ct_pa : Nat → Int32) (v_t_cl_wd : Int32) (v_t_cl_pd : Int32) (v_t_cl_ss : Int32) (v_t_cl_rs : Int32) (v_t_cl_sh_nd : Int32) (v_t_cl_seg : Nat → Int32) (p1 : Int32) : Option (Int32) := ((fX0_isExtra v_t_ct_ex p1).bind (fun q5 => (if q5 = true then ((fX3_stateOfExtra v_t_ct_pa v_t_cl_pd v_t_cl_ss v_t_cl_rs p1).bind (fun q13 => (some q13))) else ((fX3_stateOfNormal v_t_ct_fe v_t_ct_se v_t_ct_pa v_t_cl_wd v_t_cl_ss v_t_cl_rs v_t_cl_sh_nd v_t_cl_seg p1).bind (fun q21 => (some q21))))))
theorem kd_X3_stateOf : yX3_stateOf.cls = RX3 ∧ yX3_stateOf.cls ≠ "java/lang/invoke/MethodHandle" ∧ yX3_stateOf.cls ≠ "java/lang/invoke/VarHandle" ∧ (parseMethodDescriptor yX3_stateOf.desc).map (fun d => d.parameters.length) = some 1 := by decide +kernel
def rm_X3_stateOf : Room := { frames := 3, cells := 0, slots := 0, locals := 71 }
set_option maxHeartbeats 4000000 in
set_option maxRecDepth 100000 in
theorem k_X3_stateOf (l : Launch) (D : va_G) (cI cZ : ClassId) (a_t a_t_ct a_t_cl a_t_cl_sh a_t_ct_fe a_t_ct_se a_t_ct_pa a_t_ct_sl a_t_cl_cmd a_t_cl_tim a_t_cl_hel a_t_cl_dir a_t_cl_seg : Nat) (v_t_tm : Int32) (v_t_ct_ex : Int32) (v_t_ct_fe : Nat → Int32) (v_t_ct_se : Nat → Int32) (v_t_ct_pa : Nat → Int32) (v_t_cl_fw : Int32) (v_t_cl_fp : Int32) (v_t_cl_fn : Int32) (v_t_cl_rt : Int32) (v_t_cl_wd : Int32) (v_t_cl_pd : Int32) (v_t_cl_ss : Int32) (v_t_cl_rs : Int32) (v_t_cl_sh_nd : Int32) (v_t_cl_sh_sn : Int32) (v_t_cl_seg : Nat → Int32) (p1 : Int32) (q : Int32) (hf : fX3_stateOf v_t_ct_ex v_t_ct_fe v_t_ct_se v_t_ct_pa v_t_cl_wd v_t_cl_pd v_t_cl_ss v_t_cl_rs v_t_cl_sh_nd v_t_cl_seg p1 = some q) : CI l D cI cZ yX3_stateOf wsX3_stateOf rm_X3_stateOf [.ref a_t, .int p1] (wo_X3_stateOf cI cZ a_t a_t_ct a_t_cl a_t_cl_sh a_t_ct_fe a_t_ct_se a_t_ct_pa a_t_ct_sl a_t_cl_cmd a_t_cl_tim a_t_cl_hel a_t_cl_dir a_t_cl_seg v_t_tm v_t_ct_ex v_t_ct_fe v_t_ct_se v_t_ct_pa v_t_cl_fw v_t_cl_fp v_t_cl_fn v_t_cl_rt v_t_cl_wd v_t_cl_pd v_t_cl_ss v_t_cl_rs v_t_cl_sh_nd v_t_cl_sh_sn v_t_cl_seg) (wo_X3_stateOf cI cZ a_t a_t_ct a_t_cl a_t_cl_sh a_t_ct_fe a_t_ct_se a_t_ct_pa a_t_ct_sl a_t_cl_cmd a_t_cl_tim a_t_cl_hel a_t_cl_dir a_t_cl_seg v_t_tm v_t_ct_ex v_t_ct_fe v_t_ct_se v_t_ct_pa v_t_cl_fw v_t_cl_fp v_t_cl_fn v_t_cl_rt v_t_cl_wd v_t_cl_pd v_t_cl_ss v_t_cl_rs v_t_cl_sh_nd v_t_cl_sh_sn v_t_cl_seg) q := by
  refine CI.mk (cc := cX3_stateOf) (maxL := 2) (by decide) rfl (Nat.le_of_ble_eq_true rfl) ?_
  intro p e s m below meth c ls A X hP hD hl hS
  have hx := X.1.1
  have hb := X.1.2.1
  have hl : lv_has ls 2 [(0, .ref a_t), (1, .int p1)] := hl
  have inX3 : ∀ w ∈ u_ws RX3 TX3 4, w ∈ wsX3_stateOf := fun _ h => List.mem_cons_of_mem _ (List.mem_append_left _ (List.mem_append_left _ (List.mem_append_left _ (List.mem_append_right _ h))))
  unfold fX3_stateOf at hf
  refine lv_aload_n hx hb dX3_stateOf_0 rfl (lv_at hl 0 rfl) ?_
  refine getO X hP inX3 0 rfl rfl 0 (by decide) (List.mem_of_getElem? (i := 1) rfl) rfl dX3_stateOf_1 ?_
  refine lv_iload_n hx hb dX3_stateOf_4 rfl (lv_at hl 1 rfl) ?_
  obtain ⟨q5, e5, hf⟩ := bnd hf
  refine callVI X (k_X0_isExtra l D cI cZ a_t_ct a_t_ct_fe a_t_ct_se a_t_ct_pa a_t_ct_sl  v_t_ct_ex p1 q5 e5) (cwV 1 X.1.2.2.2.2 gX3_stateOf_X0_isExtra rfl rfl rfl kd_X0_isExtra ⟨Nat.le_of_ble_eq_true rfl, Nat.le_of_ble_eq_true rfl⟩) hP hD hS hl.1 1 0 rfl rfl [1] (by decide) (wo_X3_stateOf cI cZ a_t a_t_ct a_t_cl a_t_cl_sh a_t_ct_fe a_t_ct_se a_t_ct_pa a_t_ct_sl a_t_cl_cmd a_t_cl_tim a_t_cl_hel a_t_cl_dir a_t_cl_seg v_t_tm v_t_ct_ex v_t_ct_fe v_t_ct_se v_t_ct_pa v_t_cl_fw v_t_cl_fp v_t_cl_fn v_t_cl_rt v_t_cl_wd v_t_cl_pd v_t_cl_ss v_t_cl_rs v_t_cl_sh_nd v_t_cl_sh_sn v_t_cl_seg) rfl rfl rfl rfl rfl (rest := []) rfl (Nat.le_of_ble_eq_true rfl) dX3_stateOf_5 ⟨Nat.zero_le _, Nat.zero_le _⟩ (fun H locs hP hD hS => ?_)
  refine lv_if_eq (tgt := 19) hx hb dX3_stateOf_8 (by decide) (fun hc => ?_) (fun hc => ?_)
  · replace hf := ifn (b2i_z hc) hf
    refine lv_aload_n hx hb dX3_stateOf_19 rfl (lv_at hl 0 rfl) ?_
    refine lv_iload_n hx hb dX3_stateOf_20 rfl (lv_at hl 1 rfl) ?_
    obtain ⟨q21, e21, hf⟩ := bnd hf
    refine callVI X (k_X3_stateOfNormal l D cI cZ a_t a_t_ct a_t_cl a_t_cl_sh a_t_ct_fe a_t_ct_se a_t_ct_pa a_t_ct_sl a_t_cl_cmd a_t_cl_tim a_t_cl_hel a_t_cl_dir a_t_cl_seg  v_t_tm v_t_ct_ex v_t_ct_fe v_t_ct_se v_t_ct_pa v_t_cl_fw v_t_cl_fp v_t_cl_fn v_t_cl_rt v_t_cl_wd v_t_cl_pd v_t_cl_ss v_t_cl_rs v_t_cl_sh_nd v_t_cl_sh_sn v_t_cl_seg p1 q21 e21) (cwV 1 X.1.2.2.2.2 gX3_stateOf_X3_stateOfNormal rfl rfl rfl kd_X3_stateOfNormal ⟨Nat.le_of_ble_eq_true rfl, Nat.le_of_ble_eq_true rfl⟩) hP hD hS hl.1 0 3 rfl rfl [0, 1, 2, 3, 4, 5, 6, 7] (by decide) (wo_X3_stateOf cI cZ a_t a_t_ct a_t_cl a_t_cl_sh a_t_ct_fe a_t_ct_se a_t_ct_pa a_t_ct_sl a_t_cl_cmd a_t_cl_tim a_t_cl_hel a_t_cl_dir a_t_cl_seg v_t_tm v_t_ct_ex v_t_ct_fe v_t_ct_se v_t_ct_pa v_t_cl_fw v_t_cl_fp v_t_cl_fn v_t_cl_rt v_t_cl_wd v_t_cl_pd v_t_cl_ss v_t_cl_rs v_t_cl_sh_nd v_t_cl_sh_sn v_t_cl_seg) rfl rfl rfl rfl rfl (rest := []) rfl (Nat.le_of_ble_eq_true rfl) dX3_stateOf_21 ⟨Nat.zero_le _, Nat.zero_le _⟩ (fun H locs hP hD hS => ?_)
    obtain rfl := Option.some.inj hf
    exact retI X hS hP rfl dX3_stateOf_24
  · replace hf := ifp (b2i_nz hc) hf
    refine lv_aload_n hx hb dX3_stateOf_11 rfl (lv_at hl 0 rfl) ?_
    refine lv_iload_n hx hb dX3_stateOf_12 rfl (lv_at hl 1 rfl) ?_
    obtain ⟨q13, e13, hf⟩ := bnd hf
    refine callVI X (k_X3_stateOfExtra l D cI cZ a_t a_t_ct a_t_cl a_t_cl_sh a_t_ct_fe a_t_ct_se a_t_ct_pa a_t_ct_sl a_t_cl_cmd a_t_cl_tim a_t_cl_hel a_t_cl_dir a_t_cl_seg  v_t_tm v_t_ct_ex v_t_ct_pa v_t_cl_fw v_t_cl_fp v_t_cl_fn v_t_cl_rt v_t_cl_wd v_t_cl_pd v_t_cl_ss v_t_cl_rs p1 q13 e13) (cwV 1 X.1.2.2.2.2 gX3_stateOf_X3_stateOfExtra rfl rfl rfl kd_X3_stateOfExtra ⟨Nat.le_of_ble_eq_true rfl, Nat.le_of_ble_eq_true rfl⟩) hP hD hS hl.1 0 3 rfl rfl [0, 1, 4, 5] (by decide) (wo_X3_stateOf cI cZ a_t a_t_ct a_t_cl a_t_cl_sh a_t_ct_fe a_t_ct_se a_t_ct_pa a_t_ct_sl a_t_cl_cmd a_t_cl_tim a_t_cl_hel a_t_cl_dir a_t_cl_seg v_t_tm v_t_ct_ex v_t_ct_fe v_t_ct_se v_t_ct_pa v_t_cl_fw v_t_cl_fp v_t_cl_fn v_t_cl_rt v_t_cl_wd v_t_cl_pd v_t_cl_ss v_t_cl_rs v_t_cl_sh_nd v_t_cl_sh_sn v_t_cl_seg) rfl rfl rfl rfl rfl (rest := []) rfl (Nat.le_of_ble_eq_true rfl) dX3_stateOf_13 ⟨Nat.zero_le _, Nat.zero_le _⟩ (fun H locs hP hD hS => ?_)
    refine lv_goto (tgt := 24) hx hb dX3_stateOf_16 (by decide) ?_
    obtain rfl := Option.some.inj hf
    exact retI X hS hP rfl dX3_stateOf_24

abbrev wo_X3_allInState (cI cZ : ClassId) (a_t a_t_ct a_t_cl a_t_cl_sh a_t_ct_fe a_t_ct_se a_t_ct_pa a_t_ct_sl a_t_cl_cmd a_t_cl_tim a_t_cl_hel a_t_cl_dir a_t_cl_seg : Nat) (v_t_tm : Int32) (v_t_ct_ex : Int32) (v_t_ct_fe : Nat → Int32) (v_t_ct_se : Nat → Int32) (v_t_ct_pa : Nat → Int32) (v_t_cl_fw : Int32) (v_t_cl_fp : Int32) (v_t_cl_fn : Int32) (v_t_cl_rt : Int32) (v_t_cl_wd : Int32) (v_t_cl_pd : Int32) (v_t_cl_ss : Int32) (v_t_cl_rs : Int32) (v_t_cl_sh_nd : Int32) (v_t_cl_sh_sn : Int32) (v_t_cl_seg : Nat → Int32) : va_W := [(a_t, oX3 a_t_ct a_t_cl a_t_cl_sh v_t_tm), (a_t_ct, oX0 a_t_ct_fe a_t_ct_se a_t_ct_pa a_t_ct_sl v_t_ct_ex), (a_t_ct_fe, rI cI 16 v_t_ct_fe), (a_t_ct_se, rI cI 16 v_t_ct_se), (a_t_ct_pa, rI cI 16 v_t_ct_pa), (a_t_cl, oX1 a_t_cl_sh v_t_cl_fw v_t_cl_fp v_t_cl_fn a_t_cl_cmd a_t_cl_tim a_t_cl_hel v_t_cl_rt v_t_cl_wd v_t_cl_pd a_t_cl_dir v_t_cl_ss v_t_cl_rs a_t_cl_seg), (a_t_cl_sh, oX2 v_t_cl_sh_nd v_t_cl_sh_sn), (a_t_cl_seg, rI cI 8 v_t_cl_seg)]
def fX3_allInState_L4 (v_t_ct_ex : Int32) (v_t_ct_fe : Nat → Int32) (v_t_ct_se : Nat → Int32) (v_t_ct_pa : Nat → Int32) (v_t_cl_wd : Int32) (v_t_cl_pd : Int32) (v_t_cl_ss : Int32) (v_t_cl_rs : Int32) (v_t_cl_sh_nd : Int32) (v_t_cl_seg : Nat → Int32) (p1 : Int32) (K : Int32 → Int32 → Option (Int32)) : Nat → Int32 → Int32 → Option (Int32)
  | 0, _, _ => none
  | k + 1, x2_4, x3_4 => (if (nI 16) ≤ x3_4 then (K x2_4 x3_4) else ((fX0_has v_t_ct_pa x3_4).bind (fun q15 => (if q15 = true then ((fX3_stateOf v_t_ct_ex v_t_ct_fe v_t_ct_se v_t_ct_pa v_t_cl_wd v_t_cl_pd v_t_cl_ss v_t_cl_rs v_t_cl_sh_nd v_t_cl_seg x3_4).bind (fun q23 => (if q23 = p1 then (fX3_allInState_L4 v_t_ct_ex v_t_ct_fe v_t_ct_se v_t_ct_pa v_t_cl_wd v_t_cl_pd v_t_cl_ss v_t_cl_rs v_t_cl_sh_nd v_t_cl_seg p1 K k (x2_4 ||| ((nI 1) <<< (x3_4 &&& 31))) (x3_4 + nI 1)) else (fX3_allInState_L4 v_t_ct_ex v_t_ct_fe v_t_ct_se v_t_ct_pa v_t_cl_wd v_t_cl_pd v_t_cl_ss v_t_cl_rs v_t_cl_sh_nd v_t_cl_seg p1 K k x2_4 (x3_4 + nI 1))))) else (fX3_allInState_L4 v_t_ct_ex v_t_ct_fe v_t_ct_se v_t_ct_pa v_t_cl_wd v_t_cl_pd v_t_cl_ss v_t_cl_rs v_t_cl_sh_nd v_t_cl_seg p1 K k x2_4 (x3_4 + nI 1))))))
def fX3_allInState (v_t_ct_ex : Int32) (v_t_ct_fe : Nat → Int32) (v_t_ct_se : Nat → Int32) (v_t_ct_pa : Nat → Int32) (v_t_cl_wd : Int32) (v_t_cl_pd : Int32) (v_t_cl_ss : Int32) (v_t_cl_rs : Int32) (v_t_cl_sh_nd : Int32) (v_t_cl_seg : Nat → Int32) (p1 : Int32) : Option (Int32) := (fX3_allInState_L4 v_t_ct_ex v_t_ct_fe v_t_ct_se v_t_ct_pa v_t_cl_wd v_t_cl_pd v_t_cl_ss v_t_cl_rs v_t_cl_sh_nd v_t_cl_seg p1 (fun x2_4 x3_4 => (some x2_4)) FU 0 0)
theorem kd_X3_allInState : yX3_allInState.cls = RX3 ∧ yX3_allInState.cls ≠ "java/lang/invoke/MethodHandle" ∧ yX3_allInState.cls ≠ "java/lang/invoke/VarHandle" ∧ (parseMethodDescriptor yX3_allInState.desc).map (fun d => d.parameters.length) = some 1 := by decide +kernel
def rm_X3_allInState : Room := { frames := 4, cells := 0, slots := 0, locals := 92 }
set_option maxHeartbeats 4000000 in
set_option maxRecDepth 100000 in
theorem k_X3_allInState (l : Launch) (D : va_G) (cI cZ : ClassId) (a_t a_t_ct a_t_cl a_t_cl_sh a_t_ct_fe a_t_ct_se a_t_ct_pa a_t_ct_sl a_t_cl_cmd a_t_cl_tim a_t_cl_hel a_t_cl_dir a_t_cl_seg : Nat) (v_t_tm : Int32) (v_t_ct_ex : Int32) (v_t_ct_fe : Nat → Int32) (v_t_ct_se : Nat → Int32) (v_t_ct_pa : Nat → Int32) (v_t_cl_fw : Int32) (v_t_cl_fp : Int32) (v_t_cl_fn : Int32) (v_t_cl_rt : Int32) (v_t_cl_wd : Int32) (v_t_cl_pd : Int32) (v_t_cl_ss : Int32) (v_t_cl_rs : Int32) (v_t_cl_sh_nd : Int32) (v_t_cl_sh_sn : Int32) (v_t_cl_seg : Nat → Int32) (p1 : Int32) (q : Int32) (hf : fX3_allInState v_t_ct_ex v_t_ct_fe v_t_ct_se v_t_ct_pa v_t_cl_wd v_t_cl_pd v_t_cl_ss v_t_cl_rs v_t_cl_sh_nd v_t_cl_seg p1 = some q) : CI l D cI cZ yX3_allInState wsX3_allInState rm_X3_allInState [.ref a_t, .int p1] (wo_X3_allInState cI cZ a_t a_t_ct a_t_cl a_t_cl_sh a_t_ct_fe a_t_ct_se a_t_ct_pa a_t_ct_sl a_t_cl_cmd a_t_cl_tim a_t_cl_hel a_t_cl_dir a_t_cl_seg v_t_tm v_t_ct_ex v_t_ct_fe v_t_ct_se v_t_ct_pa v_t_cl_fw v_t_cl_fp v_t_cl_fn v_t_cl_rt v_t_cl_wd v_t_cl_pd v_t_cl_ss v_t_cl_rs v_t_cl_sh_nd v_t_cl_sh_sn v_t_cl_seg) (wo_X3_allInState cI cZ a_t a_t_ct a_t_cl a_t_cl_sh a_t_ct_fe a_t_ct_se a_t_ct_pa a_t_ct_sl a_t_cl_cmd a_t_cl_tim a_t_cl_hel a_t_cl_dir a_t_cl_seg v_t_tm v_t_ct_ex v_t_ct_fe v_t_ct_se v_t_ct_pa v_t_cl_fw v_t_cl_fp v_t_cl_fn v_t_cl_rt v_t_cl_wd v_t_cl_pd v_t_cl_ss v_t_cl_rs v_t_cl_sh_nd v_t_cl_sh_sn v_t_cl_seg) q := by
  refine CI.mk (cc := cX3_allInState) (maxL := 4) (by decide) rfl (Nat.le_of_ble_eq_true rfl) ?_
  intro p e s m below meth c ls A X hP hD hl hS
  have hx := X.1.1
  have hb := X.1.2.1
  have hl : lv_has ls 4 [(0, .ref a_t), (1, .int p1)] := hl
  have inX3 : ∀ w ∈ u_ws RX3 TX3 4, w ∈ wsX3_allInState := fun _ h => List.mem_cons_of_mem _ (List.mem_append_left _ (List.mem_append_left _ (List.mem_append_left _ (List.mem_append_right _ h))))
  have L4 : ∀ (K : Int32 → Int32 → Option (Int32)) (hKK : ∀ (x2_4 : Int32) (x3_4 : Int32) (H : Heap) (locs : List Loc) (ls : Array Slot), K x2_4 x3_4 = some q → va_P D vwCl (wo_X3_allInState cI cZ a_t a_t_ct a_t_cl a_t_cl_sh a_t_ct_fe a_t_ct_se a_t_ct_pa a_t_ct_sl a_t_cl_cmd a_t_cl_tim a_t_cl_hel a_t_cl_dir a_t_cl_seg v_t_tm v_t_ct_ex v_t_ct_fe v_t_ct_se v_t_ct_pa v_t_cl_fw v_t_cl_fp v_t_cl_fn v_t_cl_rt v_t_cl_wd v_t_cl_pd v_t_cl_ss v_t_cl_rs v_t_cl_sh_nd v_t_cl_sh_sn v_t_cl_seg) H → va_D A (wo_X3_allInState cI cZ a_t a_t_ct a_t_cl a_t_cl_sh a_t_ct_fe a_t_ct_se a_t_ct_pa a_t_ct_sl a_t_cl_cmd a_t_cl_tim a_t_cl_hel a_t_cl_dir a_t_cl_seg v_t_tm v_t_ct_ex v_t_ct_fe v_t_ct_se v_t_ct_pa v_t_cl_fw v_t_cl_fp v_t_cl_fn v_t_cl_rt v_t_cl_wd v_t_cl_pd v_t_cl_ss v_t_cl_rs v_t_cl_sh_nd v_t_cl_sh_sn v_t_cl_seg) → va_S A s.heap H locs → lv_has ls 4 [(2, .int x2_4)] → W p l e rm_X3_allInState s m ([.ref a_t, .int p1] : List Value).toArray below meth c H locs 0 0 (MQ below (QI D (wo_X3_allInState cI cZ a_t a_t_ct a_t_cl a_t_cl_sh a_t_ct_fe a_t_ct_se a_t_ct_pa a_t_ct_sl a_t_cl_cmd a_t_cl_tim a_t_cl_hel a_t_cl_dir a_t_cl_seg v_t_tm v_t_ct_ex v_t_ct_fe v_t_ct_se v_t_ct_pa v_t_cl_fw v_t_cl_fp v_t_cl_fn v_t_cl_rt v_t_cl_wd v_t_cl_pd v_t_cl_ss v_t_cl_rs v_t_cl_sh_nd v_t_cl_sh_sn v_t_cl_seg) q A) ([.ref a_t, .int p1] : List Value).toArray s 0 0 A) (F0 m 42 ls [])) (k : Nat) (x2_4 : Int32) (x3_4 : Int32) (H : Heap) (locs : List Loc) (ls : Array Slot), fX3_allInState_L4 v_t_ct_ex v_t_ct_fe v_t_ct_se v_t_ct_pa v_t_cl_wd v_t_cl_pd v_t_cl_ss v_t_cl_rs v_t_cl_sh_nd v_t_cl_seg p1 K k x2_4 x3_4 = some q → va_P D vwCl (wo_X3_allInState cI cZ a_t a_t_ct a_t_cl a_t_cl_sh a_t_ct_fe a_t_ct_se a_t_ct_pa a_t_ct_sl a_t_cl_cmd a_t_cl_tim a_t_cl_hel a_t_cl_dir a_t_cl_seg v_t_tm v_t_ct_ex v_t_ct_fe v_t_ct_se v_t_ct_pa v_t_cl_fw v_t_cl_fp v_t_cl_fn v_t_cl_rt v_t_cl_wd v_t_cl_pd v_t_cl_ss v_t_cl_rs v_t_cl_sh_nd v_t_cl_sh_sn v_t_cl_seg) H → va_D A (wo_X3_allInState cI cZ a_t a_t_ct a_t_cl a_t_cl_sh a_t_ct_fe a_t_ct_se a_t_ct_pa a_t_ct_sl a_t_cl_cmd a_t_cl_tim a_t_cl_hel a_t_cl_dir a_t_cl_seg v_t_tm v_t_ct_ex v_t_ct_fe v_t_ct_se v_t_ct_pa v_t_cl_fw v_t_cl_fp v_t_cl_fn v_t_cl_rt v_t_cl_wd v_t_cl_pd v_t_cl_ss v_t_cl_rs v_t_cl_sh_nd v_t_cl_sh_sn v_t_cl_seg) → va_S A s.heap H locs → lv_has ls 4 [(0, .ref a_t), (1, .int p1), (2, .int x2_4), (3, .int x3_4)] → W p l e rm_X3_allInState s m ([.ref a_t, .int p1] : List Value).toArray below meth c H locs 0 0 (MQ below (QI D (wo_X3_allInState cI cZ a_t a_t_ct a_t_cl a_t_cl_sh a_t_ct_fe a_t_ct_se a_t_ct_pa a_t_ct_sl a_t_cl_cmd a_t_cl_tim a_t_cl_hel a_t_cl_dir a_t_cl_seg v_t_tm v_t_ct_ex v_t_ct_fe v_t_ct_se v_t_ct_pa v_t_cl_fw v_t_cl_fp v_t_cl_fn v_t_cl_rt v_t_cl_wd v_t_cl_pd v_t_cl_ss v_t_cl_rs v_t_cl_sh_nd v_t_cl_sh_sn v_t_cl_seg) q A) ([.ref a_t, .int p1] : List Value).toArray s 0 0 A) (F0 m 4 ls []) := by
    intro K hKK k
    induction k with
    | zero => intro x2_4 x3_4 H locs ls hf; rw [fX3_allInState_L4] at hf; cases hf
    | succ k ih =>
      intro x2_4 x3_4 H locs ls hf hP hD hS hl
      rw [fX3_allInState_L4] at hf
      refine lv_iload_n hx hb dX3_allInState_4 rfl (lv_at hl 3 rfl) ?_
      refine lv_bipush hx hb dX3_allInState_5 bp_16 ?_
      refine lv_icmp_ge (tgt := 42) hx hb dX3_allInState_7 (by decide) (fun hc => ?_) (fun hc => ?_)
      · replace hf := ifp hc hf
        exact hKK _ _ _ _ ls hf hP hD hS (lv_sub hl [2] rfl)
      · replace hf := ifn hc hf
        refine lv_aload_n hx hb dX3_allInState_10 rfl (lv_at hl 0 rfl) ?_
        refine getO X hP inX3 0 rfl rfl 0 (by decide) (List.mem_of_getElem? (i := 1) rfl) rfl dX3_allInState_11 ?_
        refine lv_iload_n hx hb dX3_allInState_14 rfl (lv_at hl 3 rfl) ?_
        obtain ⟨q15, e15, hf⟩ := bnd hf
        refine callVI X (k_X0_has l D cI cZ a_t_ct a_t_ct_fe a_t_ct_se a_t_ct_pa a_t_ct_sl  v_t_ct_ex v_t_ct_pa x3_4 q15 e15) (cwV 1 X.1.2.2.2.2 gX3_allInState_X0_has rfl rfl rfl kd_X0_has ⟨Nat.le_of_ble_eq_true rfl, Nat.le_of_ble_eq_true rfl⟩) hP hD hS hl.1 1 0 rfl rfl [1, 4] (by decide) (wo_X3_allInState cI cZ a_t a_t_ct a_t_cl a_t_cl_sh a_t_ct_fe a_t_ct_se a_t_ct_pa a_t_ct_sl a_t_cl_cmd a_t_cl_tim a_t_cl_hel a_t_cl_dir a_t_cl_seg v_t_tm v_t_ct_ex v_t_ct_fe v_t_ct_se v_t_ct_pa v_t_cl_fw v_t_cl_fp v_t_cl_fn v_t_cl_rt v_t_cl_wd v_t_cl_pd v_t_cl_ss v_t_cl_rs v_t_cl_sh_nd v_t_cl_sh_sn v_t_cl_seg) rfl rfl rfl rfl rfl (rest := []) rfl (Nat.le_of_ble_eq_true rfl) dX3_allInState_15 ⟨Nat.zero_le _, Nat.zero_le _⟩ (fun H locs hP hD hS => ?_)
        refine lv_if_eq (tgt := 36) hx hb dX3_allInState_18 (by decide) (fun hc => ?_) (fun hc => ?_)
        · replace hf := ifn (b2i_z hc) hf
          refine lv_iinc (v := (x3_4 + nI 1)) (lv' := [(3, .int (x3_4 + nI 1)), (0, .ref a_t), (1, .int p1), (2, .int x2_4)]) hx hb dX3_allInState_36 hl (k := 3) rfl (inc_1 _) (by decide) rfl (fun ls hl => ?_)
          refine lv_goto (tgt := 4) hx hb dX3_allInState_39 (by decide) ?_
          exact ih _ _ _ _ ls hf hP hD hS (lv_sub hl [1, 2, 3, 0] rfl)
        · replace hf := ifp (b2i_nz hc) hf
          refine lv_aload_n hx hb dX3_allInState_21 rfl (lv_at hl 0 rfl) ?_
          refine lv_iload_n hx hb dX3_allInState_22 rfl (lv_at hl 3 rfl) ?_
          obtain ⟨q23, e23, hf⟩ := bnd hf
          refine callVI X (k_X3_stateOf l D cI cZ a_t a_t_ct a_t_cl a_t_cl_sh a_t_ct_fe a_t_ct_se a_t_ct_pa a_t_ct_sl a_t_cl_cmd a_t_cl_tim a_t_cl_hel a_t_cl_dir a_t_cl_seg  v_t_tm v_t_ct_ex v_t_ct_fe v_t_ct_se v_t_ct_pa v_t_cl_fw v_t_cl_fp v_t_cl_fn v_t_cl_rt v_t_cl_wd v_t_cl_pd v_t_cl_ss v_t_cl_rs v_t_cl_sh_nd v_t_cl_sh_sn v_t_cl_seg x3_4 q23 e23) (cwV 1 X.1.2.2.2.2 gX3_allInState_X3_stateOf rfl rfl rfl kd_X3_stateOf ⟨Nat.le_of_ble_eq_true rfl, Nat.le_of_ble_eq_true rfl⟩) hP hD hS hl.1 0 3 rfl rfl [0, 1, 2, 3, 4, 5, 6, 7] (by decide) (wo_X3_allInState cI cZ a_t a_t_ct a_t_cl a_t_cl_sh a_t_ct_fe a_t_ct_se a_t_ct_pa a_t_ct_sl a_t_cl_cmd a_t_cl_tim a_t_cl_hel a_t_cl_dir a_t_cl_seg v_t_tm v_t_ct_ex v_t_ct_fe v_t_ct_se v_t_ct_pa v_t_cl_fw v_t_cl_fp v_t_cl_fn v_t_cl_rt v_t_cl_wd v_t_cl_pd v_t_cl_ss v_t_cl_rs v_t_cl_sh_nd v_t_cl_sh_sn v_t_cl_seg) rfl rfl rfl rfl rfl (rest := []) rfl (Nat.le_of_ble_eq_true rfl) dX3_allInState_23 ⟨Nat.zero_le _, Nat.zero_le _⟩ (fun H locs hP hD hS => ?_)
          refine lv_iload_n hx hb dX3_allInState_26 rfl (lv_at hl 1 rfl) ?_
          refine lv_icmp_ne (tgt := 36) hx hb dX3_allInState_27 (by decide) (fun hc => ?_) (fun hc => ?_)
          · replace hf := ifn hc hf
            refine lv_iinc (v := (x3_4 + nI 1)) (lv' := [(3, .int (x3_4 + nI 1)), (0, .ref a_t), (1, .int p1), (2, .int x2_4)]) hx hb dX3_allInState_36 hl (k := 3) rfl (inc_1 _) (by decide) rfl (fun ls hl => ?_)
            refine lv_goto (tgt := 4) hx hb dX3_allInState_39 (by decide) ?_
            exact ih _ _ _ _ ls hf hP hD hS (lv_sub hl [1, 2, 3, 0] rfl)
          · replace hf := ifp hc hf
            refine lv_iload_n hx hb dX3_allInState_30 rfl (lv_at hl 2 rfl) ?_
            refine lv_iconst hx hb dX3_allInState_31 ic_1 ?_
            refine lv_iload_n hx hb dX3_allInState_32 rfl (lv_at hl 3 rfl) ?_
            refine lv_ishl hx hb dX3_allInState_33 ?_
            refine lv_ior hx hb dX3_allInState_34 ?_
            refine lv_istore_n (lv' := [(2, .int (x2_4 ||| ((nI 1) <<< (x3_4 &&& 31)))), (0, .ref a_t), (1, .int p1), (3, .int x3_4)]) hx hb dX3_allInState_35 rfl hl (by decide) rfl (fun ls hl => ?_)
            refine lv_iinc (v := (x3_4 + nI 1)) (lv' := [(3, .int (x3_4 + nI 1)), (2, .int (x2_4 ||| ((nI 1) <<< (x3_4 &&& 31)))), (0, .ref a_t), (1, .int p1)]) hx hb dX3_allInState_36 hl (k := 3) rfl (inc_1 _) (by decide) rfl (fun ls hl => ?_)
            refine lv_goto (tgt := 4) hx hb dX3_allInState_39 (by decide) ?_
            exact ih _ _ _ _ ls hf hP hD hS (lv_sub hl [2, 3, 1, 0] rfl)
  unfold fX3_allInState at hf
  refine lv_iconst hx hb dX3_allInState_0 ic_0 ?_
  refine lv_istore_n (lv' := [(2, .int 0), (0, .ref a_t), (1, .int p1)]) hx hb dX3_allInState_1 rfl hl (by decide) rfl (fun ls hl => ?_)
  refine lv_iconst hx hb dX3_allInState_2 ic_0 ?_
  refine lv_istore_n (lv' := [(3, .int 0), (2, .int 0), (0, .ref a_t), (1, .int p1)]) hx hb dX3_allInState_3 rfl hl (by decide) rfl (fun ls hl => ?_)
  refine L4 _ (fun x2_4 x3_4 H locs ls hf hP hD hS hl => ?_) FU _ _ _ _ ls hf hP hD hS (lv_sub hl [2, 3, 1, 0] rfl)
  refine lv_iload_n hx hb dX3_allInState_42 rfl (lv_at hl 0 rfl) ?_
  obtain rfl := Option.some.inj hf
  exact retI X hS hP rfl dX3_allInState_43

abbrev wo_X3_countDelivered (cI cZ : ClassId) (a_t a_t_ct a_t_cl a_t_cl_sh a_t_ct_fe a_t_ct_se a_t_ct_pa a_t_ct_sl a_t_cl_cmd a_t_cl_tim a_t_cl_hel a_t_cl_dir a_t_cl_seg : Nat) (v_t_tm : Int32) (v_t_ct_ex : Int32) (v_t_ct_fe : Nat → Int32) (v_t_ct_se : Nat → Int32) (v_t_ct_pa : Nat → Int32) (v_t_cl_fw : Int32) (v_t_cl_fp : Int32) (v_t_cl_fn : Int32) (v_t_cl_rt : Int32) (v_t_cl_wd : Int32) (v_t_cl_pd : Int32) (v_t_cl_ss : Int32) (v_t_cl_rs : Int32) (v_t_cl_sh_nd : Int32) (v_t_cl_sh_sn : Int32) (v_t_cl_seg : Nat → Int32) : va_W := [(a_t, oX3 a_t_ct a_t_cl a_t_cl_sh v_t_tm), (a_t_ct, oX0 a_t_ct_fe a_t_ct_se a_t_ct_pa a_t_ct_sl v_t_ct_ex), (a_t_ct_fe, rI cI 16 v_t_ct_fe), (a_t_ct_se, rI cI 16 v_t_ct_se), (a_t_ct_pa, rI cI 16 v_t_ct_pa), (a_t_cl, oX1 a_t_cl_sh v_t_cl_fw v_t_cl_fp v_t_cl_fn a_t_cl_cmd a_t_cl_tim a_t_cl_hel v_t_cl_rt v_t_cl_wd v_t_cl_pd a_t_cl_dir v_t_cl_ss v_t_cl_rs a_t_cl_seg), (a_t_cl_sh, oX2 v_t_cl_sh_nd v_t_cl_sh_sn), (a_t_cl_seg, rI cI 8 v_t_cl_seg)]
def fX3_countDelivered_L4 (v_t_ct_ex : Int32) (v_t_ct_fe : Nat → Int32) (v_t_ct_se : Nat → Int32) (v_t_ct_pa : Nat → Int32) (v_t_cl_wd : Int32) (v_t_cl_pd : Int32) (v_t_cl_ss : Int32) (v_t_cl_rs : Int32) (v_t_cl_sh_nd : Int32) (v_t_cl_seg : Nat → Int32) (K : Int32 → Int32 → Option (Int32)) : Nat → Int32 → Int32 → Option (Int32)
  | 0, _, _ => none
  | k + 1, x1_4, x2_4 => (if (nI 16) ≤ x2_4 then (K x1_4 x2_4) else ((fX0_has v_t_ct_pa x2_4).bind (fun q15 => (if q15 = true then ((fX3_stateOf v_t_ct_ex v_t_ct_fe v_t_ct_se v_t_ct_pa v_t_cl_wd v_t_cl_pd v_t_cl_ss v_t_cl_rs v_t_cl_sh_nd v_t_cl_seg x2_4).bind (fun q23 => ((fX5_isDelivery q23).bind (fun q26 => (if q26 = true then (fX3_countDelivered_L4 v_t_ct_ex v_t_ct_fe v_t_ct_se v_t_ct_pa v_t_cl_wd v_t_cl_pd v_t_cl_ss v_t_cl_rs v_t_cl_sh_nd v_t_cl_seg K k (x1_4 + nI 1) (x2_4 + nI 1)) else (fX3_countDelivered_L4 v_t_ct_ex v_t_ct_fe v_t_ct_se v_t_ct_pa v_t_cl_wd v_t_cl_pd v_t_cl_ss v_t_cl_rs v_t_cl_sh_nd v_t_cl_seg K k x1_4 (x2_4 + nI 1))))))) else (fX3_countDelivered_L4 v_t_ct_ex v_t_ct_fe v_t_ct_se v_t_ct_pa v_t_cl_wd v_t_cl_pd v_t_cl_ss v_t_cl_rs v_t_cl_sh_nd v_t_cl_seg K k x1_4 (x2_4 + nI 1))))))
def fX3_countDelivered (v_t_ct_ex : Int32) (v_t_ct_fe : Nat → Int32) (v_t_ct_se : Nat → Int32) (v_t_ct_pa : Nat → Int32) (v_t_cl_wd : Int32) (v_t_cl_pd : Int32) (v_t_cl_ss : Int32) (v_t_cl_rs : Int32) (v_t_cl_sh_nd : Int32) (v_t_cl_seg : Nat → Int32) : Option (Int32) := (fX3_countDelivered_L4 v_t_ct_ex v_t_ct_fe v_t_ct_se v_t_ct_pa v_t_cl_wd v_t_cl_pd v_t_cl_ss v_t_cl_rs v_t_cl_sh_nd v_t_cl_seg (fun x1_4 x2_4 => (some x1_4)) FU 0 0)
theorem kd_X3_countDelivered : yX3_countDelivered.cls = RX3 ∧ yX3_countDelivered.cls ≠ "java/lang/invoke/MethodHandle" ∧ yX3_countDelivered.cls ≠ "java/lang/invoke/VarHandle" ∧ (parseMethodDescriptor yX3_countDelivered.desc).map (fun d => d.parameters.length) = some 0 := by decide +kernel
def rm_X3_countDelivered : Room := { frames := 4, cells := 0, slots := 0, locals := 92 }
set_option maxHeartbeats 4000000 in
set_option maxRecDepth 100000 in
theorem k_X3_countDelivered (l : Launch) (D : va_G) (cI cZ : ClassId) (a_t a_t_ct a_t_cl a_t_cl_sh a_t_ct_fe a_t_ct_se a_t_ct_pa a_t_ct_sl a_t_cl_cmd a_t_cl_tim a_t_cl_hel a_t_cl_dir a_t_cl_seg : Nat) (v_t_tm : Int32) (v_t_ct_ex : Int32) (v_t_ct_fe : Nat → Int32) (v_t_ct_se : Nat → Int32) (v_t_ct_pa : Nat → Int32) (v_t_cl_fw : Int32) (v_t_cl_fp : Int32) (v_t_cl_fn : Int32) (v_t_cl_rt : Int32) (v_t_cl_wd : Int32) (v_t_cl_pd : Int32) (v_t_cl_ss : Int32) (v_t_cl_rs : Int32) (v_t_cl_sh_nd : Int32) (v_t_cl_sh_sn : Int32) (v_t_cl_seg : Nat → Int32) (q : Int32) (hf : fX3_countDelivered v_t_ct_ex v_t_ct_fe v_t_ct_se v_t_ct_pa v_t_cl_wd v_t_cl_pd v_t_cl_ss v_t_cl_rs v_t_cl_sh_nd v_t_cl_seg = some q) : CI l D cI cZ yX3_countDelivered wsX3_countDelivered rm_X3_countDelivered [.ref a_t] (wo_X3_countDelivered cI cZ a_t a_t_ct a_t_cl a_t_cl_sh a_t_ct_fe a_t_ct_se a_t_ct_pa a_t_ct_sl a_t_cl_cmd a_t_cl_tim a_t_cl_hel a_t_cl_dir a_t_cl_seg v_t_tm v_t_ct_ex v_t_ct_fe v_t_ct_se v_t_ct_pa v_t_cl_fw v_t_cl_fp v_t_cl_fn v_t_cl_rt v_t_cl_wd v_t_cl_pd v_t_cl_ss v_t_cl_rs v_t_cl_sh_nd v_t_cl_sh_sn v_t_cl_seg) (wo_X3_countDelivered cI cZ a_t a_t_ct a_t_cl a_t_cl_sh a_t_ct_fe a_t_ct_se a_t_ct_pa a_t_ct_sl a_t_cl_cmd a_t_cl_tim a_t_cl_hel a_t_cl_dir a_t_cl_seg v_t_tm v_t_ct_ex v_t_ct_fe v_t_ct_se v_t_ct_pa v_t_cl_fw v_t_cl_fp v_t_cl_fn v_t_cl_rt v_t_cl_wd v_t_cl_pd v_t_cl_ss v_t_cl_rs v_t_cl_sh_nd v_t_cl_sh_sn v_t_cl_seg) q := by
  refine CI.mk (cc := cX3_countDelivered) (maxL := 3) (by decide) rfl (Nat.le_of_ble_eq_true rfl) ?_
  intro p e s m below meth c ls A X hP hD hl hS
  have hx := X.1.1
  have hb := X.1.2.1
  have hl : lv_has ls 3 [(0, .ref a_t)] := hl
  have inX3 : ∀ w ∈ u_ws RX3 TX3 4, w ∈ wsX3_countDelivered := fun _ h => List.mem_cons_of_mem _ (List.mem_append_left _ (List.mem_append_left _ (List.mem_append_left _ (List.mem_append_right _ h))))
  have L4 : ∀ (K : Int32 → Int32 → Option (Int32)) (hKK : ∀ (x1_4 : Int32) (x2_4 : Int32) (H : Heap) (locs : List Loc) (ls : Array Slot), K x1_4 x2_4 = some q → va_P D vwCl (wo_X3_countDelivered cI cZ a_t a_t_ct a_t_cl a_t_cl_sh a_t_ct_fe a_t_ct_se a_t_ct_pa a_t_ct_sl a_t_cl_cmd a_t_cl_tim a_t_cl_hel a_t_cl_dir a_t_cl_seg v_t_tm v_t_ct_ex v_t_ct_fe v_t_ct_se v_t_ct_pa v_t_cl_fw v_t_cl_fp v_t_cl_fn v_t_cl_rt v_t_cl_wd v_t_cl_pd v_t_cl_ss v_t_cl_rs v_t_cl_sh_nd v_t_cl_sh_sn v_t_cl_seg) H → va_D A (wo_X3_countDelivered cI cZ a_t a_t_ct a_t_cl a_t_cl_sh a_t_ct_fe a_t_ct_se a_t_ct_pa a_t_ct_sl a_t_cl_cmd a_t_cl_tim a_t_cl_hel a_t_cl_dir a_t_cl_seg v_t_tm v_t_ct_ex v_t_ct_fe v_t_ct_se v_t_ct_pa v_t_cl_fw v_t_cl_fp v_t_cl_fn v_t_cl_rt v_t_cl_wd v_t_cl_pd v_t_cl_ss v_t_cl_rs v_t_cl_sh_nd v_t_cl_sh_sn v_t_cl_seg) → va_S A s.heap H locs → lv_has ls 3 [(1, .int x1_4)] → W p l e rm_X3_countDelivered s m ([.ref a_t] : List Value).toArray below meth c H locs 0 0 (MQ below (QI D (wo_X3_countDelivered cI cZ a_t a_t_ct a_t_cl a_t_cl_sh a_t_ct_fe a_t_ct_se a_t_ct_pa a_t_ct_sl a_t_cl_cmd a_t_cl_tim a_t_cl_hel a_t_cl_dir a_t_cl_seg v_t_tm v_t_ct_ex v_t_ct_fe v_t_ct_se v_t_ct_pa v_t_cl_fw v_t_cl_fp v_t_cl_fn v_t_cl_rt v_t_cl_wd v_t_cl_pd v_t_cl_ss v_t_cl_rs v_t_cl_sh_nd v_t_cl_sh_sn v_t_cl_seg) q A) ([.ref a_t] : List Value).toArray s 0 0 A) (F0 m 41 ls [])) (k : Nat) (x1_4 : Int32) (x2_4 : Int32) (H : Heap) (locs : List Loc) (ls : Array Slot), fX3_countDelivered_L4 v_t_ct_ex v_t_ct_fe v_t_ct_se v_t_ct_pa v_t_cl_wd v_t_cl_pd v_t_cl_ss v_t_cl_rs v_t_cl_sh_nd v_t_cl_seg K k x1_4 x2_4 = some q → va_P D vwCl (wo_X3_countDelivered cI cZ a_t a_t_ct a_t_cl a_t_cl_sh a_t_ct_fe a_t_ct_se a_t_ct_pa a_t_ct_sl a_t_cl_cmd a_t_cl_tim a_t_cl_hel a_t_cl_dir a_t_cl_seg v_t_tm v_t_ct_ex v_t_ct_fe v_t_ct_se v_t_ct_pa v_t_cl_fw v_t_cl_fp v_t_cl_fn v_t_cl_rt v_t_cl_wd v_t_cl_pd v_t_cl_ss v_t_cl_rs v_t_cl_sh_nd v_t_cl_sh_sn v_t_cl_seg) H → va_D A (wo_X3_countDelivered cI cZ a_t a_t_ct a_t_cl a_t_cl_sh a_t_ct_fe a_t_ct_se a_t_ct_pa a_t_ct_sl a_t_cl_cmd a_t_cl_tim a_t_cl_hel a_t_cl_dir a_t_cl_seg v_t_tm v_t_ct_ex v_t_ct_fe v_t_ct_se v_t_ct_pa v_t_cl_fw v_t_cl_fp v_t_cl_fn v_t_cl_rt v_t_cl_wd v_t_cl_pd v_t_cl_ss v_t_cl_rs v_t_cl_sh_nd v_t_cl_sh_sn v_t_cl_seg) → va_S A s.heap H locs → lv_has ls 3 [(0, .ref a_t), (1, .int x1_4), (2, .int x2_4)] → W p l e rm_X3_countDelivered s m ([.ref a_t] : List Value).toArray below meth c H locs 0 0 (MQ below (QI D (wo_X3_countDelivered cI cZ a_t a_t_ct a_t_cl a_t_cl_sh a_t_ct_fe a_t_ct_se a_t_ct_pa a_t_ct_sl a_t_cl_cmd a_t_cl_tim a_t_cl_hel a_t_cl_dir a_t_cl_seg v_t_tm v_t_ct_ex v_t_ct_fe v_t_ct_se v_t_ct_pa v_t_cl_fw v_t_cl_fp v_t_cl_fn v_t_cl_rt v_t_cl_wd v_t_cl_pd v_t_cl_ss v_t_cl_rs v_t_cl_sh_nd v_t_cl_sh_sn v_t_cl_seg) q A) ([.ref a_t] : List Value).toArray s 0 0 A) (F0 m 4 ls []) := by
    intro K hKK k
    induction k with
    | zero => intro x1_4 x2_4 H locs ls hf; rw [fX3_countDelivered_L4] at hf; cases hf
    | succ k ih =>
      intro x1_4 x2_4 H locs ls hf hP hD hS hl
      rw [fX3_countDelivered_L4] at hf
      refine lv_iload_n hx hb dX3_countDelivered_4 rfl (lv_at hl 2 rfl) ?_
      refine lv_bipush hx hb dX3_countDelivered_5 bp_16 ?_
      refine lv_icmp_ge (tgt := 41) hx hb dX3_countDelivered_7 (by decide) (fun hc => ?_) (fun hc => ?_)
      · replace hf := ifp hc hf
        exact hKK _ _ _ _ ls hf hP hD hS (lv_sub hl [1] rfl)
      · replace hf := ifn hc hf
        refine lv_aload_n hx hb dX3_countDelivered_10 rfl (lv_at hl 0 rfl) ?_
        refine getO X hP inX3 0 rfl rfl 0 (by decide) (List.mem_of_getElem? (i := 1) rfl) rfl dX3_countDelivered_11 ?_
        refine lv_iload_n hx hb dX3_countDelivered_14 rfl (lv_at hl 2 rfl) ?_
        obtain ⟨q15, e15, hf⟩ := bnd hf
        refine callVI X (k_X0_has l D cI cZ a_t_ct a_t_ct_fe a_t_ct_se a_t_ct_pa a_t_ct_sl  v_t_ct_ex v_t_ct_pa x2_4 q15 e15) (cwV 1 X.1.2.2.2.2 gX3_countDelivered_X0_has rfl rfl rfl kd_X0_has ⟨Nat.le_of_ble_eq_true rfl, Nat.le_of_ble_eq_true rfl⟩) hP hD hS hl.1 1 0 rfl rfl [1, 4] (by decide) (wo_X3_countDelivered cI cZ a_t a_t_ct a_t_cl a_t_cl_sh a_t_ct_fe a_t_ct_se a_t_ct_pa a_t_ct_sl a_t_cl_cmd a_t_cl_tim a_t_cl_hel a_t_cl_dir a_t_cl_seg v_t_tm v_t_ct_ex v_t_ct_fe v_t_ct_se v_t_ct_pa v_t_cl_fw v_t_cl_fp v_t_cl_fn v_t_cl_rt v_t_cl_wd v_t_cl_pd v_t_cl_ss v_t_cl_rs v_t_cl_sh_nd v_t_cl_sh_sn v_t_cl_seg) rfl rfl rfl rfl rfl (rest := []) rfl (Nat.le_of_ble_eq_true rfl) dX3_countDelivered_15 ⟨Nat.zero_le _, Nat.zero_le _⟩ (fun H locs hP hD hS => ?_)
        refine lv_if_eq (tgt := 35) hx hb dX3_countDelivered_18 (by decide) (fun hc => ?_) (fun hc => ?_)
        · replace hf := ifn (b2i_z hc) hf
          refine lv_iinc (v := (x2_4 + nI 1)) (lv' := [(2, .int (x2_4 + nI 1)), (0, .ref a_t), (1, .int x1_4)]) hx hb dX3_countDelivered_35 hl (k := 2) rfl (inc_1 _) (by decide) rfl (fun ls hl => ?_)
          refine lv_goto (tgt := 4) hx hb dX3_countDelivered_38 (by decide) ?_
          exact ih _ _ _ _ ls hf hP hD hS (lv_sub hl [1, 2, 0] rfl)
        · replace hf := ifp (b2i_nz hc) hf
          refine lv_aload_n hx hb dX3_countDelivered_21 rfl (lv_at hl 0 rfl) ?_
          refine lv_iload_n hx hb dX3_countDelivered_22 rfl (lv_at hl 2 rfl) ?_
          obtain ⟨q23, e23, hf⟩ := bnd hf
          refine callVI X (k_X3_stateOf l D cI cZ a_t a_t_ct a_t_cl a_t_cl_sh a_t_ct_fe a_t_ct_se a_t_ct_pa a_t_ct_sl a_t_cl_cmd a_t_cl_tim a_t_cl_hel a_t_cl_dir a_t_cl_seg  v_t_tm v_t_ct_ex v_t_ct_fe v_t_ct_se v_t_ct_pa v_t_cl_fw v_t_cl_fp v_t_cl_fn v_t_cl_rt v_t_cl_wd v_t_cl_pd v_t_cl_ss v_t_cl_rs v_t_cl_sh_nd v_t_cl_sh_sn v_t_cl_seg x2_4 q23 e23) (cwV 1 X.1.2.2.2.2 gX3_countDelivered_X3_stateOf rfl rfl rfl kd_X3_stateOf ⟨Nat.le_of_ble_eq_true rfl, Nat.le_of_ble_eq_true rfl⟩) hP hD hS hl.1 0 3 rfl rfl [0, 1, 2, 3, 4, 5, 6, 7] (by decide) (wo_X3_countDelivered cI cZ a_t a_t_ct a_t_cl a_t_cl_sh a_t_ct_fe a_t_ct_se a_t_ct_pa a_t_ct_sl a_t_cl_cmd a_t_cl_tim a_t_cl_hel a_t_cl_dir a_t_cl_seg v_t_tm v_t_ct_ex v_t_ct_fe v_t_ct_se v_t_ct_pa v_t_cl_fw v_t_cl_fp v_t_cl_fn v_t_cl_rt v_t_cl_wd v_t_cl_pd v_t_cl_ss v_t_cl_rs v_t_cl_sh_nd v_t_cl_sh_sn v_t_cl_seg) rfl rfl rfl rfl rfl (rest := []) rfl (Nat.le_of_ble_eq_true rfl) dX3_countDelivered_23 ⟨Nat.zero_le _, Nat.zero_le _⟩ (fun H locs hP hD hS => ?_)
          obtain ⟨q26, e26, hf⟩ := bnd hf
          refine callNI X (k_X5_isDelivery l D cI cZ    q23 q26 e26) ⟨va_cnB 1 X.1.2.2.2.2 gX3_countDelivered_X5_isDelivery_n98 rfl rfl rfl (X.2.2.2.2.1.ml 11 rfl) (X.1.2.2.2.2 _ (List.mem_of_getElem? (i := 19) rfl)) kd_X5_isDelivery ⟨Nat.le_of_ble_eq_true rfl, Nat.le_of_ble_eq_true rfl⟩, X.1.2.2.2.2 _ (List.mem_of_getElem? (i := 66) rfl), trivial⟩ hP hD hS hl.1 [] (by decide) (wo_X3_countDelivered cI cZ a_t a_t_ct a_t_cl a_t_cl_sh a_t_ct_fe a_t_ct_se a_t_ct_pa a_t_ct_sl a_t_cl_cmd a_t_cl_tim a_t_cl_hel a_t_cl_dir a_t_cl_seg v_t_tm v_t_ct_ex v_t_ct_fe v_t_ct_se v_t_ct_pa v_t_cl_fw v_t_cl_fp v_t_cl_fn v_t_cl_rt v_t_cl_wd v_t_cl_pd v_t_cl_ss v_t_cl_rs v_t_cl_sh_nd v_t_cl_sh_sn v_t_cl_seg) rfl rfl rfl rfl rfl (rest := []) rfl (Nat.le_of_ble_eq_true rfl) dX3_countDelivered_26 ⟨Nat.zero_le _, Nat.zero_le _⟩ (fun H locs hP hD hS => ?_)
          refine lv_if_eq (tgt := 35) hx hb dX3_countDelivered_29 (by decide) (fun hc => ?_) (fun hc => ?_)
          · replace hf := ifn (b2i_z hc) hf
            refine lv_iinc (v := (x2_4 + nI 1)) (lv' := [(2, .int (x2_4 + nI 1)), (0, .ref a_t), (1, .int x1_4)]) hx hb dX3_countDelivered_35 hl (k := 2) rfl (inc_1 _) (by decide) rfl (fun ls hl => ?_)
            refine lv_goto (tgt := 4) hx hb dX3_countDelivered_38 (by decide) ?_
            exact ih _ _ _ _ ls hf hP hD hS (lv_sub hl [1, 2, 0] rfl)
          · replace hf := ifp (b2i_nz hc) hf
            refine lv_iinc (v := (x1_4 + nI 1)) (lv' := [(1, .int (x1_4 + nI 1)), (0, .ref a_t), (2, .int x2_4)]) hx hb dX3_countDelivered_32 hl (k := 1) rfl (inc_1 _) (by decide) rfl (fun ls hl => ?_)
            refine lv_iinc (v := (x2_4 + nI 1)) (lv' := [(2, .int (x2_4 + nI 1)), (1, .int (x1_4 + nI 1)), (0, .ref a_t)]) hx hb dX3_countDelivered_35 hl (k := 2) rfl (inc_1 _) (by decide) rfl (fun ls hl => ?_)
            refine lv_goto (tgt := 4) hx hb dX3_countDelivered_38 (by decide) ?_
            exact ih _ _ _ _ ls hf hP hD hS (lv_sub hl [2, 1, 0] rfl)
  unfold fX3_countDelivered at hf
  refine lv_iconst hx hb dX3_countDelivered_0 ic_0 ?_
  refine lv_istore_n (lv' := [(1, .int 0), (0, .ref a_t)]) hx hb dX3_countDelivered_1 rfl hl (by decide) rfl (fun ls hl => ?_)
  refine lv_iconst hx hb dX3_countDelivered_2 ic_0 ?_
  refine lv_istore_n (lv' := [(2, .int 0), (1, .int 0), (0, .ref a_t)]) hx hb dX3_countDelivered_3 rfl hl (by decide) rfl (fun ls hl => ?_)
  refine L4 _ (fun x1_4 x2_4 H locs ls hf hP hD hS hl => ?_) FU _ _ _ _ ls hf hP hD hS (lv_sub hl [2, 1, 0] rfl)
  refine lv_iload_n hx hb dX3_countDelivered_41 rfl (lv_at hl 0 rfl) ?_
  obtain rfl := Option.some.inj hf
  exact retI X hS hP rfl dX3_countDelivered_42

abbrev wo_X3_hopsOf (cI cZ : ClassId) (a_t a_t_ct a_t_cl a_t_cl_sh a_t_ct_fe a_t_ct_se a_t_ct_pa a_t_ct_sl a_t_cl_cmd a_t_cl_tim a_t_cl_hel a_t_cl_dir a_t_cl_seg : Nat) (v_t_tm : Int32) (v_t_ct_ex : Int32) (v_t_ct_fe : Nat → Int32) (v_t_ct_se : Nat → Int32) (v_t_ct_pa : Nat → Int32) (v_t_cl_fw : Int32) (v_t_cl_fp : Int32) (v_t_cl_fn : Int32) (v_t_cl_rt : Int32) (v_t_cl_wd : Int32) (v_t_cl_pd : Int32) (v_t_cl_ss : Int32) (v_t_cl_rs : Int32) (v_t_cl_sh_nd : Int32) (v_t_cl_sh_sn : Int32) (v_t_cl_seg : Nat → Int32) : va_W := [(a_t, oX3 a_t_ct a_t_cl a_t_cl_sh v_t_tm), (a_t_ct, oX0 a_t_ct_fe a_t_ct_se a_t_ct_pa a_t_ct_sl v_t_ct_ex), (a_t_ct_fe, rI cI 16 v_t_ct_fe), (a_t_ct_se, rI cI 16 v_t_ct_se), (a_t_ct_pa, rI cI 16 v_t_ct_pa), (a_t_cl, oX1 a_t_cl_sh v_t_cl_fw v_t_cl_fp v_t_cl_fn a_t_cl_cmd a_t_cl_tim a_t_cl_hel v_t_cl_rt v_t_cl_wd v_t_cl_pd a_t_cl_dir v_t_cl_ss v_t_cl_rs a_t_cl_seg), (a_t_cl_sh, oX2 v_t_cl_sh_nd v_t_cl_sh_sn), (a_t_cl_seg, rI cI 8 v_t_cl_seg)]
def fX3_hopsOf (v_t_ct_ex : Int32) (v_t_ct_fe : Nat → Int32) (v_t_ct_se : Nat → Int32) (v_t_ct_pa : Nat → Int32) (v_t_cl_wd : Int32) (v_t_cl_pd : Int32) (v_t_cl_ss : Int32) (v_t_cl_rs : Int32) (v_t_cl_sh_nd : Int32) (v_t_cl_seg : Nat → Int32) (p1 : Int32) : Option (Int32) := ((fX3_stateOf v_t_ct_ex v_t_ct_fe v_t_ct_se v_t_ct_pa v_t_cl_wd v_t_cl_pd v_t_cl_ss v_t_cl_rs v_t_cl_sh_nd v_t_cl_seg p1).bind (fun q2 => ((fX5_isDelivery q2).bind (fun q7 => (if q7 = true then ((fX0_pathOf v_t_ct_pa p1).bind (fun q21 => (if q2 = (nI 2) then ((fX0_firstEndOf v_t_ct_fe v_t_ct_pa p1).bind (fun q44 => ((fX1_segmentOf v_t_cl_sh_nd v_t_cl_seg q44).bind (fun q47 => ((fX1_spansInside v_t_cl_sh_nd v_t_cl_seg q47).bind (fun q58 => ((fJ6_bitCount_0f7a4 (q21 &&& (q58 &&& (v_t_cl_rs ^^^ (-1))))).bind (fun q77 => ((fJ6_bitCount_0f7a4 (q58 &&& (v_t_cl_rs ^^^ (-1)))).bind (fun q82 => (some (q77 + q82)))))))))))) else ((fJ6_bitCount_0f7a4 q21).bind (fun q31 => (some q31)))))) else (some (-9)))))))
theorem kd_X3_hopsOf : yX3_hopsOf.cls = RX3 ∧ yX3_hopsOf.cls ≠ "java/lang/invoke/MethodHandle" ∧ yX3_hopsOf.cls ≠ "java/lang/invoke/VarHandle" ∧ (parseMethodDescriptor yX3_hopsOf.desc).map (fun d => d.parameters.length) = some 1 := by decide +kernel
def rm_X3_hopsOf : Room := { frames := 4, cells := 0, slots := 0, locals := 92 }
set_option maxHeartbeats 4000000 in
set_option maxRecDepth 100000 in
theorem k_X3_hopsOf (l : Launch) (D : va_G) (cI cZ : ClassId) (a_t a_t_ct a_t_cl a_t_cl_sh a_t_ct_fe a_t_ct_se a_t_ct_pa a_t_ct_sl a_t_cl_cmd a_t_cl_tim a_t_cl_hel a_t_cl_dir a_t_cl_seg : Nat) (v_t_tm : Int32) (v_t_ct_ex : Int32) (v_t_ct_fe : Nat → Int32) (v_t_ct_se : Nat → Int32) (v_t_ct_pa : Nat → Int32) (v_t_cl_fw : Int32) (v_t_cl_fp : Int32) (v_t_cl_fn : Int32) (v_t_cl_rt : Int32) (v_t_cl_wd : Int32) (v_t_cl_pd : Int32) (v_t_cl_ss : Int32) (v_t_cl_rs : Int32) (v_t_cl_sh_nd : Int32) (v_t_cl_sh_sn : Int32) (v_t_cl_seg : Nat → Int32) (p1 : Int32) (q : Int32) (hf : fX3_hopsOf v_t_ct_ex v_t_ct_fe v_t_ct_se v_t_ct_pa v_t_cl_wd v_t_cl_pd v_t_cl_ss v_t_cl_rs v_t_cl_sh_nd v_t_cl_seg p1 = some q) : CI l D cI cZ yX3_hopsOf wsX3_hopsOf rm_X3_hopsOf [.ref a_t, .int p1] (wo_X3_hopsOf cI cZ a_t a_t_ct a_t_cl a_t_cl_sh a_t_ct_fe a_t_ct_se a_t_ct_pa a_t_ct_sl a_t_cl_cmd a_t_cl_tim a_t_cl_hel a_t_cl_dir a_t_cl_seg v_t_tm v_t_ct_ex v_t_ct_fe v_t_ct_se v_t_ct_pa v_t_cl_fw v_t_cl_fp v_t_cl_fn v_t_cl_rt v_t_cl_wd v_t_cl_pd v_t_cl_ss v_t_cl_rs v_t_cl_sh_nd v_t_cl_sh_sn v_t_cl_seg) (wo_X3_hopsOf cI cZ a_t a_t_ct a_t_cl a_t_cl_sh a_t_ct_fe a_t_ct_se a_t_ct_pa a_t_ct_sl a_t_cl_cmd a_t_cl_tim a_t_cl_hel a_t_cl_dir a_t_cl_seg v_t_tm v_t_ct_ex v_t_ct_fe v_t_ct_se v_t_ct_pa v_t_cl_fw v_t_cl_fp v_t_cl_fn v_t_cl_rt v_t_cl_wd v_t_cl_pd v_t_cl_ss v_t_cl_rs v_t_cl_sh_nd v_t_cl_sh_sn v_t_cl_seg) q := by
  refine CI.mk (cc := cX3_hopsOf) (maxL := 6) (by decide) rfl (Nat.le_of_ble_eq_true rfl) ?_
  intro p e s m below meth c ls A X hP hD hl hS
  have hx := X.1.1
  have hb := X.1.2.1
  have hl : lv_has ls 6 [(0, .ref a_t), (1, .int p1)] := hl
  have inX1 : ∀ w ∈ u_ws RX1 TX1 14, w ∈ wsX3_hopsOf := fun _ h => List.mem_cons_of_mem _ (List.mem_append_left _ (List.mem_append_left _ (List.mem_append_right _ h)))
  have inX3 : ∀ w ∈ u_ws RX3 TX3 4, w ∈ wsX3_hopsOf := fun _ h => List.mem_cons_of_mem _ (List.mem_append_left _ (List.mem_append_left _ (List.mem_append_left _ (List.mem_append_right _ h))))
  unfold fX3_hopsOf at hf
  refine lv_aload_n hx hb dX3_hopsOf_0 rfl (lv_at hl 0 rfl) ?_
  refine lv_iload_n hx hb dX3_hopsOf_1 rfl (lv_at hl 1 rfl) ?_
  obtain ⟨q2, e2, hf⟩ := bnd hf
  refine callVI X (k_X3_stateOf l D cI cZ a_t a_t_ct a_t_cl a_t_cl_sh a_t_ct_fe a_t_ct_se a_t_ct_pa a_t_ct_sl a_t_cl_cmd a_t_cl_tim a_t_cl_hel a_t_cl_dir a_t_cl_seg  v_t_tm v_t_ct_ex v_t_ct_fe v_t_ct_se v_t_ct_pa v_t_cl_fw v_t_cl_fp v_t_cl_fn v_t_cl_rt v_t_cl_wd v_t_cl_pd v_t_cl_ss v_t_cl_rs v_t_cl_sh_nd v_t_cl_sh_sn v_t_cl_seg p1 q2 e2) (cwV 1 X.1.2.2.2.2 gX3_hopsOf_X3_stateOf rfl rfl rfl kd_X3_stateOf ⟨Nat.le_of_ble_eq_true rfl, Nat.le_of_ble_eq_true rfl⟩) hP hD hS hl.1 0 3 rfl rfl [0, 1, 2, 3, 4, 5, 6, 7] (by decide) (wo_X3_hopsOf cI cZ a_t a_t_ct a_t_cl a_t_cl_sh a_t_ct_fe a_t_ct_se a_t_ct_pa a_t_ct_sl a_t_cl_cmd a_t_cl_tim a_t_cl_hel a_t_cl_dir a_t_cl_seg v_t_tm v_t_ct_ex v_t_ct_fe v_t_ct_se v_t_ct_pa v_t_cl_fw v_t_cl_fp v_t_cl_fn v_t_cl_rt v_t_cl_wd v_t_cl_pd v_t_cl_ss v_t_cl_rs v_t_cl_sh_nd v_t_cl_sh_sn v_t_cl_seg) rfl rfl rfl rfl rfl (rest := []) rfl (Nat.le_of_ble_eq_true rfl) dX3_hopsOf_2 ⟨Nat.zero_le _, Nat.zero_le _⟩ (fun H locs hP hD hS => ?_)
  refine lv_istore_n (lv' := [(2, .int q2), (0, .ref a_t), (1, .int p1)]) hx hb dX3_hopsOf_5 rfl hl (by decide) rfl (fun ls hl => ?_)
  refine lv_iload_n hx hb dX3_hopsOf_6 rfl (lv_at hl 0 rfl) ?_
  obtain ⟨q7, e7, hf⟩ := bnd hf
  refine callNI X (k_X5_isDelivery l D cI cZ    q2 q7 e7) ⟨va_cnB 1 X.1.2.2.2.2 gX3_hopsOf_X5_isDelivery_n98 rfl rfl rfl (X.2.2.2.2.1.ml 11 rfl) (X.1.2.2.2.2 _ (List.mem_of_getElem? (i := 15) rfl)) kd_X5_isDelivery ⟨Nat.le_of_ble_eq_true rfl, Nat.le_of_ble_eq_true rfl⟩, X.1.2.2.2.2 _ (List.mem_of_getElem? (i := 65) rfl), trivial⟩ hP hD hS hl.1 [] (by decide) (wo_X3_hopsOf cI cZ a_t a_t_ct a_t_cl a_t_cl_sh a_t_ct_fe a_t_ct_se a_t_ct_pa a_t_ct_sl a_t_cl_cmd a_t_cl_tim a_t_cl_hel a_t_cl_dir a_t_cl_seg v_t_tm v_t_ct_ex v_t_ct_fe v_t_ct_se v_t_ct_pa v_t_cl_fw v_t_cl_fp v_t_cl_fn v_t_cl_rt v_t_cl_wd v_t_cl_pd v_t_cl_ss v_t_cl_rs v_t_cl_sh_nd v_t_cl_sh_sn v_t_cl_seg) rfl rfl rfl rfl rfl (rest := []) rfl (Nat.le_of_ble_eq_true rfl) dX3_hopsOf_7 ⟨Nat.zero_le _, Nat.zero_le _⟩ (fun H locs hP hD hS => ?_)
  refine lv_if_ne (tgt := 16) hx hb dX3_hopsOf_10 (by decide) (fun hc => ?_) (fun hc => ?_)
  · replace hf := ifp (b2i_nz hc) hf
    refine lv_aload_n hx hb dX3_hopsOf_16 rfl (lv_at hl 1 rfl) ?_
    refine getO X hP inX3 0 rfl rfl 0 (by decide) (List.mem_of_getElem? (i := 1) rfl) rfl dX3_hopsOf_17 ?_
    refine lv_iload_n hx hb dX3_hopsOf_20 rfl (lv_at hl 2 rfl) ?_
    obtain ⟨q21, e21, hf⟩ := bnd hf
    refine callVI X (k_X0_pathOf l D cI cZ a_t_ct a_t_ct_fe a_t_ct_se a_t_ct_pa a_t_ct_sl  v_t_ct_ex v_t_ct_pa p1 q21 e21) (cwV 1 X.1.2.2.2.2 gX3_hopsOf_X0_pathOf rfl rfl rfl kd_X0_pathOf ⟨Nat.le_of_ble_eq_true rfl, Nat.le_of_ble_eq_true rfl⟩) hP hD hS hl.1 1 0 rfl rfl [1, 4] (by decide) (wo_X3_hopsOf cI cZ a_t a_t_ct a_t_cl a_t_cl_sh a_t_ct_fe a_t_ct_se a_t_ct_pa a_t_ct_sl a_t_cl_cmd a_t_cl_tim a_t_cl_hel a_t_cl_dir a_t_cl_seg v_t_tm v_t_ct_ex v_t_ct_fe v_t_ct_se v_t_ct_pa v_t_cl_fw v_t_cl_fp v_t_cl_fn v_t_cl_rt v_t_cl_wd v_t_cl_pd v_t_cl_ss v_t_cl_rs v_t_cl_sh_nd v_t_cl_sh_sn v_t_cl_seg) rfl rfl rfl rfl rfl (rest := []) rfl (Nat.le_of_ble_eq_true rfl) dX3_hopsOf_21 ⟨Nat.zero_le _, Nat.zero_le _⟩ (fun H locs hP hD hS => ?_)
    refine lv_istore_n (lv' := [(3, .int q21), (2, .int q2), (0, .ref a_t), (1, .int p1)]) hx hb dX3_hopsOf_24 rfl hl (by decide) rfl (fun ls hl => ?_)
    refine lv_iload_n hx hb dX3_hopsOf_25 rfl (lv_at hl 1 rfl) ?_
    refine lv_iconst hx hb dX3_hopsOf_26 ic_2 ?_
    refine lv_icmp_eq (tgt := 35) hx hb dX3_hopsOf_27 (by decide) (fun hc => ?_) (fun hc => ?_)
    · replace hf := ifp hc hf
      refine lv_aload_n hx hb dX3_hopsOf_35 rfl (lv_at hl 2 rfl) ?_
      refine getO X hP inX3 0 rfl rfl 1 (by decide) (List.mem_of_getElem? (i := 2) rfl) rfl dX3_hopsOf_36 ?_
      refine lv_aload_n hx hb dX3_hopsOf_39 rfl (lv_at hl 2 rfl) ?_
      refine getO X hP inX3 0 rfl rfl 0 (by decide) (List.mem_of_getElem? (i := 1) rfl) rfl dX3_hopsOf_40 ?_
      refine lv_iload_n hx hb dX3_hopsOf_43 rfl (lv_at hl 3 rfl) ?_
      obtain ⟨q44, e44, hf⟩ := bnd hf
      refine callVI X (k_X0_firstEndOf l D cI cZ a_t_ct a_t_ct_fe a_t_ct_se a_t_ct_pa a_t_ct_sl  v_t_ct_ex v_t_ct_fe v_t_ct_pa p1 q44 e44) (cwV 1 X.1.2.2.2.2 gX3_hopsOf_X0_firstEndOf rfl rfl rfl kd_X0_firstEndOf ⟨Nat.le_of_ble_eq_true rfl, Nat.le_of_ble_eq_true rfl⟩) hP hD hS hl.1 1 0 rfl rfl [1, 2, 4] (by decide) (wo_X3_hopsOf cI cZ a_t a_t_ct a_t_cl a_t_cl_sh a_t_ct_fe a_t_ct_se a_t_ct_pa a_t_ct_sl a_t_cl_cmd a_t_cl_tim a_t_cl_hel a_t_cl_dir a_t_cl_seg v_t_tm v_t_ct_ex v_t_ct_fe v_t_ct_se v_t_ct_pa v_t_cl_fw v_t_cl_fp v_t_cl_fn v_t_cl_rt v_t_cl_wd v_t_cl_pd v_t_cl_ss v_t_cl_rs v_t_cl_sh_nd v_t_cl_sh_sn v_t_cl_seg) rfl rfl rfl rfl rfl (rest := [.ref a_t_cl]) rfl (Nat.le_of_ble_eq_true rfl) dX3_hopsOf_44 ⟨Nat.zero_le _, Nat.zero_le _⟩ (fun H locs hP hD hS => ?_)
      obtain ⟨q47, e47, hf⟩ := bnd hf
      refine callVI X (k_X1_segmentOf l D cI cZ a_t_cl a_t_cl_sh a_t_cl_cmd a_t_cl_tim a_t_cl_hel a_t_cl_dir a_t_cl_seg  v_t_cl_fw v_t_cl_fp v_t_cl_fn v_t_cl_rt v_t_cl_wd v_t_cl_pd v_t_cl_ss v_t_cl_rs v_t_cl_sh_nd v_t_cl_sh_sn v_t_cl_seg q44 q47 e47) (cwV 1 X.1.2.2.2.2 gX3_hopsOf_X1_segmentOf rfl rfl rfl kd_X1_segmentOf ⟨Nat.le_of_ble_eq_true rfl, Nat.le_of_ble_eq_true rfl⟩) hP hD hS hl.1 5 1 rfl rfl [5, 6, 7] (by decide) (wo_X3_hopsOf cI cZ a_t a_t_ct a_t_cl a_t_cl_sh a_t_ct_fe a_t_ct_se a_t_ct_pa a_t_ct_sl a_t_cl_cmd a_t_cl_tim a_t_cl_hel a_t_cl_dir a_t_cl_seg v_t_tm v_t_ct_ex v_t_ct_fe v_t_ct_se v_t_ct_pa v_t_cl_fw v_t_cl_fp v_t_cl_fn v_t_cl_rt v_t_cl_wd v_t_cl_pd v_t_cl_ss v_t_cl_rs v_t_cl_sh_nd v_t_cl_sh_sn v_t_cl_seg) rfl rfl rfl rfl rfl (rest := []) rfl (Nat.le_of_ble_eq_true rfl) dX3_hopsOf_47 ⟨Nat.zero_le _, Nat.zero_le _⟩ (fun H locs hP hD hS => ?_)
      refine lv_istore (lv' := [(4, .int q47), (3, .int q21), (2, .int q2), (0, .ref a_t), (1, .int p1)]) hx hb dX3_hopsOf_50 hl (by decide) rfl (fun ls hl => ?_)
      refine lv_aload_n hx hb dX3_hopsOf_52 rfl (lv_at hl 3 rfl) ?_
      refine getO X hP inX3 0 rfl rfl 1 (by decide) (List.mem_of_getElem? (i := 2) rfl) rfl dX3_hopsOf_53 ?_
      refine lv_iload hx hb dX3_hopsOf_56 (lv_at hl 0 rfl) ?_
      obtain ⟨q58, e58, hf⟩ := bnd hf
      refine callVI X (k_X1_spansInside l D cI cZ a_t_cl a_t_cl_sh a_t_cl_cmd a_t_cl_tim a_t_cl_hel a_t_cl_dir a_t_cl_seg  v_t_cl_fw v_t_cl_fp v_t_cl_fn v_t_cl_rt v_t_cl_wd v_t_cl_pd v_t_cl_ss v_t_cl_rs v_t_cl_sh_nd v_t_cl_sh_sn v_t_cl_seg q47 q58 e58) (cwV 1 X.1.2.2.2.2 gX3_hopsOf_X1_spansInside rfl rfl rfl kd_X1_spansInside ⟨Nat.le_of_ble_eq_true rfl, Nat.le_of_ble_eq_true rfl⟩) hP hD hS hl.1 5 1 rfl rfl [5, 6, 7] (by decide) (wo_X3_hopsOf cI cZ a_t a_t_ct a_t_cl a_t_cl_sh a_t_ct_fe a_t_ct_se a_t_ct_pa a_t_ct_sl a_t_cl_cmd a_t_cl_tim a_t_cl_hel a_t_cl_dir a_t_cl_seg v_t_tm v_t_ct_ex v_t_ct_fe v_t_ct_se v_t_ct_pa v_t_cl_fw v_t_cl_fp v_t_cl_fn v_t_cl_rt v_t_cl_wd v_t_cl_pd v_t_cl_ss v_t_cl_rs v_t_cl_sh_nd v_t_cl_sh_sn v_t_cl_seg) rfl rfl rfl rfl rfl (rest := []) rfl (Nat.le_of_ble_eq_true rfl) dX3_hopsOf_58 ⟨Nat.zero_le _, Nat.zero_le _⟩ (fun H locs hP hD hS => ?_)
      refine lv_aload_n hx hb dX3_hopsOf_61 rfl (lv_at hl 3 rfl) ?_
      refine getO X hP inX3 0 rfl rfl 1 (by decide) (List.mem_of_getElem? (i := 2) rfl) rfl dX3_hopsOf_62 ?_
      refine getN X hP inX1 5 rfl rfl 12 (by decide) 12 rfl rfl dX3_hopsOf_65 ?_
      refine lv_iconst hx hb dX3_hopsOf_68 ic_m1 ?_
      refine lv_ixor hx hb dX3_hopsOf_69 ?_
      refine lv_iand hx hb dX3_hopsOf_70 ?_
      refine lv_istore (lv' := [(5, .int (q58 &&& (v_t_cl_rs ^^^ (-1)))), (4, .int q47), (3, .int q21), (2, .int q2), (0, .ref a_t), (1, .int p1)]) hx hb dX3_hopsOf_71 hl (by decide) rfl (fun ls hl => ?_)
      refine lv_iload_n hx hb dX3_hopsOf_73 rfl (lv_at hl 2 rfl) ?_
      refine lv_iload hx hb dX3_hopsOf_74 (lv_at hl 0 rfl) ?_
      refine lv_iand hx hb dX3_hopsOf_76 ?_
      obtain ⟨q77, e77, hf⟩ := bnd hf
      refine callSI X (k_J6_bitCount_0f7a4 l D cI cZ    (q21 &&& (q58 &&& (v_t_cl_rs ^^^ (-1)))) q77 e77) (va_cwS 1 X.1.2.2.2.2 gX3_hopsOf_J6_bitCount_0f7a4 rfl rfl rfl kd_J6_bitCount_0f7a4 ⟨Nat.le_of_ble_eq_true rfl, Nat.le_of_ble_eq_true rfl⟩) hP hD hS hl.1 [] (by decide) (wo_X3_hopsOf cI cZ a_t a_t_ct a_t_cl a_t_cl_sh a_t_ct_fe a_t_ct_se a_t_ct_pa a_t_ct_sl a_t_cl_cmd a_t_cl_tim a_t_cl_hel a_t_cl_dir a_t_cl_seg v_t_tm v_t_ct_ex v_t_ct_fe v_t_ct_se v_t_ct_pa v_t_cl_fw v_t_cl_fp v_t_cl_fn v_t_cl_rt v_t_cl_wd v_t_cl_pd v_t_cl_ss v_t_cl_rs v_t_cl_sh_nd v_t_cl_sh_sn v_t_cl_seg) rfl rfl rfl rfl rfl (rest := []) rfl (Nat.le_of_ble_eq_true rfl) dX3_hopsOf_77 ⟨Nat.zero_le _, Nat.zero_le _⟩ (fun H locs hP hD hS => ?_)
      refine lv_iload hx hb dX3_hopsOf_80 (lv_at hl 0 rfl) ?_
      obtain ⟨q82, e82, hf⟩ := bnd hf
      refine callSI X (k_J6_bitCount_0f7a4 l D cI cZ    (q58 &&& (v_t_cl_rs ^^^ (-1))) q82 e82) (va_cwS 1 X.1.2.2.2.2 gX3_hopsOf_J6_bitCount_0f7a4 rfl rfl rfl kd_J6_bitCount_0f7a4 ⟨Nat.le_of_ble_eq_true rfl, Nat.le_of_ble_eq_true rfl⟩) hP hD hS hl.1 [] (by decide) (wo_X3_hopsOf cI cZ a_t a_t_ct a_t_cl a_t_cl_sh a_t_ct_fe a_t_ct_se a_t_ct_pa a_t_ct_sl a_t_cl_cmd a_t_cl_tim a_t_cl_hel a_t_cl_dir a_t_cl_seg v_t_tm v_t_ct_ex v_t_ct_fe v_t_ct_se v_t_ct_pa v_t_cl_fw v_t_cl_fp v_t_cl_fn v_t_cl_rt v_t_cl_wd v_t_cl_pd v_t_cl_ss v_t_cl_rs v_t_cl_sh_nd v_t_cl_sh_sn v_t_cl_seg) rfl rfl rfl rfl rfl (rest := [.int q77]) rfl (Nat.le_of_ble_eq_true rfl) dX3_hopsOf_82 ⟨Nat.zero_le _, Nat.zero_le _⟩ (fun H locs hP hD hS => ?_)
      refine lv_iadd hx hb dX3_hopsOf_85 ?_
      obtain rfl := Option.some.inj hf
      exact retI X hS hP rfl dX3_hopsOf_86
    · replace hf := ifn hc hf
      refine lv_iload_n hx hb dX3_hopsOf_30 rfl (lv_at hl 0 rfl) ?_
      obtain ⟨q31, e31, hf⟩ := bnd hf
      refine callSI X (k_J6_bitCount_0f7a4 l D cI cZ    q21 q31 e31) (va_cwS 1 X.1.2.2.2.2 gX3_hopsOf_J6_bitCount_0f7a4 rfl rfl rfl kd_J6_bitCount_0f7a4 ⟨Nat.le_of_ble_eq_true rfl, Nat.le_of_ble_eq_true rfl⟩) hP hD hS hl.1 [] (by decide) (wo_X3_hopsOf cI cZ a_t a_t_ct a_t_cl a_t_cl_sh a_t_ct_fe a_t_ct_se a_t_ct_pa a_t_ct_sl a_t_cl_cmd a_t_cl_tim a_t_cl_hel a_t_cl_dir a_t_cl_seg v_t_tm v_t_ct_ex v_t_ct_fe v_t_ct_se v_t_ct_pa v_t_cl_fw v_t_cl_fp v_t_cl_fn v_t_cl_rt v_t_cl_wd v_t_cl_pd v_t_cl_ss v_t_cl_rs v_t_cl_sh_nd v_t_cl_sh_sn v_t_cl_seg) rfl rfl rfl rfl rfl (rest := []) rfl (Nat.le_of_ble_eq_true rfl) dX3_hopsOf_31 ⟨Nat.zero_le _, Nat.zero_le _⟩ (fun H locs hP hD hS => ?_)
      obtain rfl := Option.some.inj hf
      exact retI X hS hP rfl dX3_hopsOf_34
  · replace hf := ifn (b2i_z hc) hf
    refine lv_bipush hx hb dX3_hopsOf_13 bp_m9 ?_
    obtain rfl := Option.some.inj hf
    exact retI X hS hP rfl dX3_hopsOf_15

abbrev wo_X3_sumOfHops (cI cZ : ClassId) (a_t a_t_ct a_t_cl a_t_cl_sh a_t_ct_fe a_t_ct_se a_t_ct_pa a_t_ct_sl a_t_cl_cmd a_t_cl_tim a_t_cl_hel a_t_cl_dir a_t_cl_seg : Nat) (v_t_tm : Int32) (v_t_ct_ex : Int32) (v_t_ct_fe : Nat → Int32) (v_t_ct_se : Nat → Int32) (v_t_ct_pa : Nat → Int32) (v_t_cl_fw : Int32) (v_t_cl_fp : Int32) (v_t_cl_fn : Int32) (v_t_cl_rt : Int32) (v_t_cl_wd : Int32) (v_t_cl_pd : Int32) (v_t_cl_ss : Int32) (v_t_cl_rs : Int32) (v_t_cl_sh_nd : Int32) (v_t_cl_sh_sn : Int32) (v_t_cl_seg : Nat → Int32) : va_W := [(a_t, oX3 a_t_ct a_t_cl a_t_cl_sh v_t_tm), (a_t_ct, oX0 a_t_ct_fe a_t_ct_se a_t_ct_pa a_t_ct_sl v_t_ct_ex), (a_t_ct_fe, rI cI 16 v_t_ct_fe), (a_t_ct_se, rI cI 16 v_t_ct_se), (a_t_ct_pa, rI cI 16 v_t_ct_pa), (a_t_cl, oX1 a_t_cl_sh v_t_cl_fw v_t_cl_fp v_t_cl_fn a_t_cl_cmd a_t_cl_tim a_t_cl_hel v_t_cl_rt v_t_cl_wd v_t_cl_pd a_t_cl_dir v_t_cl_ss v_t_cl_rs a_t_cl_seg), (a_t_cl_sh, oX2 v_t_cl_sh_nd v_t_cl_sh_sn), (a_t_cl_seg, rI cI 8 v_t_cl_seg)]
def fX3_sumOfHops_L4 (v_t_ct_ex : Int32) (v_t_ct_fe : Nat → Int32) (v_t_ct_se : Nat → Int32) (v_t_ct_pa : Nat → Int32) (v_t_cl_wd : Int32) (v_t_cl_pd : Int32) (v_t_cl_ss : Int32) (v_t_cl_rs : Int32) (v_t_cl_sh_nd : Int32) (v_t_cl_seg : Nat → Int32) (K : Int32 → Int32 → Option (Int32)) : Nat → Int32 → Int32 → Option (Int32)
  | 0, _, _ => none
  | k + 1, x1_4, x2_4 => (if (nI 16) ≤ x2_4 then (K x1_4 x2_4) else ((fX0_has v_t_ct_pa x2_4).bind (fun q15 => ((if q15 = true then ((fX3_hopsOf v_t_ct_ex v_t_ct_fe v_t_ct_se v_t_ct_pa v_t_cl_wd v_t_cl_pd v_t_cl_ss v_t_cl_rs v_t_cl_sh_nd v_t_cl_seg x2_4).bind (fun q23 => (some q23))) else (some (-9))).bind (fun ph31 => (if ph31 = (-9) then (fX3_sumOfHops_L4 v_t_ct_ex v_t_ct_fe v_t_ct_se v_t_ct_pa v_t_cl_wd v_t_cl_pd v_t_cl_ss v_t_cl_rs v_t_cl_sh_nd v_t_cl_seg K k x1_4 (x2_4 + nI 1)) else (fX3_sumOfHops_L4 v_t_ct_ex v_t_ct_fe v_t_ct_se v_t_ct_pa v_t_cl_wd v_t_cl_pd v_t_cl_ss v_t_cl_rs v_t_cl_sh_nd v_t_cl_seg K k (x1_4 + ph31) (x2_4 + nI 1))))))))
def fX3_sumOfHops (v_t_ct_ex : Int32) (v_t_ct_fe : Nat → Int32) (v_t_ct_se : Nat → Int32) (v_t_ct_pa : Nat → Int32) (v_t_cl_wd : Int32) (v_t_cl_pd : Int32) (v_t_cl_ss : Int32) (v_t_cl_rs : Int32) (v_t_cl_sh_nd : Int32) (v_t_cl_seg : Nat → Int32) : Option (Int32) := (fX3_sumOfHops_L4 v_t_ct_ex v_t_ct_fe v_t_ct_se v_t_ct_pa v_t_cl_wd v_t_cl_pd v_t_cl_ss v_t_cl_rs v_t_cl_sh_nd v_t_cl_seg (fun x1_4 x2_4 => (some x1_4)) FU 0 0)
theorem kd_X3_sumOfHops : yX3_sumOfHops.cls = RX3 ∧ yX3_sumOfHops.cls ≠ "java/lang/invoke/MethodHandle" ∧ yX3_sumOfHops.cls ≠ "java/lang/invoke/VarHandle" ∧ (parseMethodDescriptor yX3_sumOfHops.desc).map (fun d => d.parameters.length) = some 0 := by decide +kernel
def rm_X3_sumOfHops : Room := { frames := 5, cells := 0, slots := 0, locals := 117 }
set_option maxHeartbeats 4000000 in
set_option maxRecDepth 100000 in
theorem k_X3_sumOfHops (l : Launch) (D : va_G) (cI cZ : ClassId) (a_t a_t_ct a_t_cl a_t_cl_sh a_t_ct_fe a_t_ct_se a_t_ct_pa a_t_ct_sl a_t_cl_cmd a_t_cl_tim a_t_cl_hel a_t_cl_dir a_t_cl_seg : Nat) (v_t_tm : Int32) (v_t_ct_ex : Int32) (v_t_ct_fe : Nat → Int32) (v_t_ct_se : Nat → Int32) (v_t_ct_pa : Nat → Int32) (v_t_cl_fw : Int32) (v_t_cl_fp : Int32) (v_t_cl_fn : Int32) (v_t_cl_rt : Int32) (v_t_cl_wd : Int32) (v_t_cl_pd : Int32) (v_t_cl_ss : Int32) (v_t_cl_rs : Int32) (v_t_cl_sh_nd : Int32) (v_t_cl_sh_sn : Int32) (v_t_cl_seg : Nat → Int32) (q : Int32) (hf : fX3_sumOfHops v_t_ct_ex v_t_ct_fe v_t_ct_se v_t_ct_pa v_t_cl_wd v_t_cl_pd v_t_cl_ss v_t_cl_rs v_t_cl_sh_nd v_t_cl_seg = some q) : CI l D cI cZ yX3_sumOfHops wsX3_sumOfHops rm_X3_sumOfHops [.ref a_t] (wo_X3_sumOfHops cI cZ a_t a_t_ct a_t_cl a_t_cl_sh a_t_ct_fe a_t_ct_se a_t_ct_pa a_t_ct_sl a_t_cl_cmd a_t_cl_tim a_t_cl_hel a_t_cl_dir a_t_cl_seg v_t_tm v_t_ct_ex v_t_ct_fe v_t_ct_se v_t_ct_pa v_t_cl_fw v_t_cl_fp v_t_cl_fn v_t_cl_rt v_t_cl_wd v_t_cl_pd v_t_cl_ss v_t_cl_rs v_t_cl_sh_nd v_t_cl_sh_sn v_t_cl_seg) (wo_X3_sumOfHops cI cZ a_t a_t_ct a_t_cl a_t_cl_sh a_t_ct_fe a_t_ct_se a_t_ct_pa a_t_ct_sl a_t_cl_cmd a_t_cl_tim a_t_cl_hel a_t_cl_dir a_t_cl_seg v_t_tm v_t_ct_ex v_t_ct_fe v_t_ct_se v_t_ct_pa v_t_cl_fw v_t_cl_fp v_t_cl_fn v_t_cl_rt v_t_cl_wd v_t_cl_pd v_t_cl_ss v_t_cl_rs v_t_cl_sh_nd v_t_cl_sh_sn v_t_cl_seg) q := by
  refine CI.mk (cc := cX3_sumOfHops) (maxL := 4) (by decide) rfl (Nat.le_of_ble_eq_true rfl) ?_
  intro p e s m below meth c ls A X hP hD hl hS
  have hx := X.1.1
  have hb := X.1.2.1
  have hl : lv_has ls 4 [(0, .ref a_t)] := hl
  have inX3 : ∀ w ∈ u_ws RX3 TX3 4, w ∈ wsX3_sumOfHops := fun _ h => List.mem_cons_of_mem _ (List.mem_append_left _ (List.mem_append_left _ (List.mem_append_left _ (List.mem_append_right _ h))))
  have L4 : ∀ (K : Int32 → Int32 → Option (Int32)) (hKK : ∀ (x1_4 : Int32) (x2_4 : Int32) (H : Heap) (locs : List Loc) (ls : Array Slot), K x1_4 x2_4 = some q → va_P D vwCl (wo_X3_sumOfHops cI cZ a_t a_t_ct a_t_cl a_t_cl_sh a_t_ct_fe a_t_ct_se a_t_ct_pa a_t_ct_sl a_t_cl_cmd a_t_cl_tim a_t_cl_hel a_t_cl_dir a_t_cl_seg v_t_tm v_t_ct_ex v_t_ct_fe v_t_ct_se v_t_ct_pa v_t_cl_fw v_t_cl_fp v_t_cl_fn v_t_cl_rt v_t_cl_wd v_t_cl_pd v_t_cl_ss v_t_cl_rs v_t_cl_sh_nd v_t_cl_sh_sn v_t_cl_seg) H → va_D A (wo_X3_sumOfHops cI cZ a_t a_t_ct a_t_cl a_t_cl_sh a_t_ct_fe a_t_ct_se a_t_ct_pa a_t_ct_sl a_t_cl_cmd a_t_cl_tim a_t_cl_hel a_t_cl_dir a_t_cl_seg v_t_tm v_t_ct_ex v_t_ct_fe v_t_ct_se v_t_ct_pa v_t_cl_fw v_t_cl_fp v_t_cl_fn v_t_cl_rt v_t_cl_wd v_t_cl_pd v_t_cl_ss v_t_cl_rs v_t_cl_sh_nd v_t_cl_sh_sn v_t_cl_seg) → va_S A s.heap H locs → lv_has ls 4 [(1, .int x1_4)] → W p l e rm_X3_sumOfHops s m ([.ref a_t] : List Value).toArray below meth c H locs 0 0 (MQ below (QI D (wo_X3_sumOfHops cI cZ a_t a_t_ct a_t_cl a_t_cl_sh a_t_ct_fe a_t_ct_se a_t_ct_pa a_t_ct_sl a_t_cl_cmd a_t_cl_tim a_t_cl_hel a_t_cl_dir a_t_cl_seg v_t_tm v_t_ct_ex v_t_ct_fe v_t_ct_se v_t_ct_pa v_t_cl_fw v_t_cl_fp v_t_cl_fn v_t_cl_rt v_t_cl_wd v_t_cl_pd v_t_cl_ss v_t_cl_rs v_t_cl_sh_nd v_t_cl_sh_sn v_t_cl_seg) q A) ([.ref a_t] : List Value).toArray s 0 0 A) (F0 m 48 ls [])) (k : Nat) (x1_4 : Int32) (x2_4 : Int32) (H : Heap) (locs : List Loc) (ls : Array Slot), fX3_sumOfHops_L4 v_t_ct_ex v_t_ct_fe v_t_ct_se v_t_ct_pa v_t_cl_wd v_t_cl_pd v_t_cl_ss v_t_cl_rs v_t_cl_sh_nd v_t_cl_seg K k x1_4 x2_4 = some q → va_P D vwCl (wo_X3_sumOfHops cI cZ a_t a_t_ct a_t_cl a_t_cl_sh a_t_ct_fe a_t_ct_se a_t_ct_pa a_t_ct_sl a_t_cl_cmd a_t_cl_tim a_t_cl_hel a_t_cl_dir a_t_cl_seg v_t_tm v_t_ct_ex v_t_ct_fe v_t_ct_se v_t_ct_pa v_t_cl_fw v_t_cl_fp v_t_cl_fn v_t_cl_rt v_t_cl_wd v_t_cl_pd v_t_cl_ss v_t_cl_rs v_t_cl_sh_nd v_t_cl_sh_sn v_t_cl_seg) H → va_D A (wo_X3_sumOfHops cI cZ a_t a_t_ct a_t_cl a_t_cl_sh a_t_ct_fe a_t_ct_se a_t_ct_pa a_t_ct_sl a_t_cl_cmd a_t_cl_tim a_t_cl_hel a_t_cl_dir a_t_cl_seg v_t_tm v_t_ct_ex v_t_ct_fe v_t_ct_se v_t_ct_pa v_t_cl_fw v_t_cl_fp v_t_cl_fn v_t_cl_rt v_t_cl_wd v_t_cl_pd v_t_cl_ss v_t_cl_rs v_t_cl_sh_nd v_t_cl_sh_sn v_t_cl_seg) → va_S A s.heap H locs → lv_has ls 4 [(0, .ref a_t), (1, .int x1_4), (2, .int x2_4)] → W p l e rm_X3_sumOfHops s m ([.ref a_t] : List Value).toArray below meth c H locs 0 0 (MQ below (QI D (wo_X3_sumOfHops cI cZ a_t a_t_ct a_t_cl a_t_cl_sh a_t_ct_fe a_t_ct_se a_t_ct_pa a_t_ct_sl a_t_cl_cmd a_t_cl_tim a_t_cl_hel a_t_cl_dir a_t_cl_seg v_t_tm v_t_ct_ex v_t_ct_fe v_t_ct_se v_t_ct_pa v_t_cl_fw v_t_cl_fp v_t_cl_fn v_t_cl_rt v_t_cl_wd v_t_cl_pd v_t_cl_ss v_t_cl_rs v_t_cl_sh_nd v_t_cl_sh_sn v_t_cl_seg) q A) ([.ref a_t] : List Value).toArray s 0 0 A) (F0 m 4 ls []) := by
    intro K hKK k
    induction k with
    | zero => intro x1_4 x2_4 H locs ls hf; rw [fX3_sumOfHops_L4] at hf; cases hf
    | succ k ih =>
      intro x1_4 x2_4 H locs ls hf hP hD hS hl
      rw [fX3_sumOfHops_L4] at hf
      refine lv_iload_n hx hb dX3_sumOfHops_4 rfl (lv_at hl 2 rfl) ?_
      refine lv_bipush hx hb dX3_sumOfHops_5 bp_16 ?_
      refine lv_icmp_ge (tgt := 48) hx hb dX3_sumOfHops_7 (by decide) (fun hc => ?_) (fun hc => ?_)
      · replace hf := ifp hc hf
        exact hKK _ _ _ _ ls hf hP hD hS (lv_sub hl [1] rfl)
      · replace hf := ifn hc hf
        refine lv_aload_n hx hb dX3_sumOfHops_10 rfl (lv_at hl 0 rfl) ?_
        refine getO X hP inX3 0 rfl rfl 0 (by decide) (List.mem_of_getElem? (i := 1) rfl) rfl dX3_sumOfHops_11 ?_
        refine lv_iload_n hx hb dX3_sumOfHops_14 rfl (lv_at hl 2 rfl) ?_
        obtain ⟨q15, e15, hf⟩ := bnd hf
        refine callVI X (k_X0_has l D cI cZ a_t_ct a_t_ct_fe a_t_ct_se a_t_ct_pa a_t_ct_sl  v_t_ct_ex v_t_ct_pa x2_4 q15 e15) (cwV 1 X.1.2.2.2.2 gX3_sumOfHops_X0_has rfl rfl rfl kd_X0_has ⟨Nat.le_of_ble_eq_true rfl, Nat.le_of_ble_eq_true rfl⟩) hP hD hS hl.1 1 0 rfl rfl [1, 4] (by decide) (wo_X3_sumOfHops cI cZ a_t a_t_ct a_t_cl a_t_cl_sh a_t_ct_fe a_t_ct_se a_t_ct_pa a_t_ct_sl a_t_cl_cmd a_t_cl_tim a_t_cl_hel a_t_cl_dir a_t_cl_seg v_t_tm v_t_ct_ex v_t_ct_fe v_t_ct_se v_t_ct_pa v_t_cl_fw v_t_cl_fp v_t_cl_fn v_t_cl_rt v_t_cl_wd v_t_cl_pd v_t_cl_ss v_t_cl_rs v_t_cl_sh_nd v_t_cl_sh_sn v_t_cl_seg) rfl rfl rfl rfl rfl (rest := []) rfl (Nat.le_of_ble_eq_true rfl) dX3_sumOfHops_15 ⟨Nat.zero_le _, Nat.zero_le _⟩ (fun H locs hP hD hS => ?_)
        obtain ⟨ph31, hg, hf⟩ := bnd hf
        have J31 : ∀ (H : Heap) (locs : List Loc) (ls : Array Slot), va_P D vwCl (wo_X3_sumOfHops cI cZ a_t a_t_ct a_t_cl a_t_cl_sh a_t_ct_fe a_t_ct_se a_t_ct_pa a_t_ct_sl a_t_cl_cmd a_t_cl_tim a_t_cl_hel a_t_cl_dir a_t_cl_seg v_t_tm v_t_ct_ex v_t_ct_fe v_t_ct_se v_t_ct_pa v_t_cl_fw v_t_cl_fp v_t_cl_fn v_t_cl_rt v_t_cl_wd v_t_cl_pd v_t_cl_ss v_t_cl_rs v_t_cl_sh_nd v_t_cl_sh_sn v_t_cl_seg) H → va_D A (wo_X3_sumOfHops cI cZ a_t a_t_ct a_t_cl a_t_cl_sh a_t_ct_fe a_t_ct_se a_t_ct_pa a_t_ct_sl a_t_cl_cmd a_t_cl_tim a_t_cl_hel a_t_cl_dir a_t_cl_seg v_t_tm v_t_ct_ex v_t_ct_fe v_t_ct_se v_t_ct_pa v_t_cl_fw v_t_cl_fp v_t_cl_fn v_t_cl_rt v_t_cl_wd v_t_cl_pd v_t_cl_ss v_t_cl_rs v_t_cl_sh_nd v_t_cl_sh_sn v_t_cl_seg) → va_S A s.heap H locs → lv_has ls 4 [(0, .ref a_t), (1, .int x1_4), (2, .int x2_4)] → W p l e rm_X3_sumOfHops s m ([.ref a_t] : List Value).toArray below meth c H locs 0 0 (MQ below (QI D (wo_X3_sumOfHops cI cZ a_t a_t_ct a_t_cl a_t_cl_sh a_t_ct_fe a_t_ct_se a_t_ct_pa a_t_ct_sl a_t_cl_cmd a_t_cl_tim a_t_cl_hel a_t_cl_dir a_t_cl_seg v_t_tm v_t_ct_ex v_t_ct_fe v_t_ct_se v_t_ct_pa v_t_cl_fw v_t_cl_fp v_t_cl_fn v_t_cl_rt v_t_cl_wd v_t_cl_pd v_t_cl_ss v_t_cl_rs v_t_cl_sh_nd v_t_cl_sh_sn v_t_cl_seg) q A) ([.ref a_t] : List Value).toArray s 0 0 A) (F0 m 31 ls [.int ph31]) := by
          clear hg hP hD hS hl
          intro H locs ls hP hD hS hl
          refine lv_istore_n (lv' := [(3, .int ph31), (0, .ref a_t), (1, .int x1_4), (2, .int x2_4)]) hx hb dX3_sumOfHops_31 rfl hl (by decide) rfl (fun ls hl => ?_)
          refine lv_iload_n hx hb dX3_sumOfHops_32 rfl (lv_at hl 0 rfl) ?_
          refine lv_bipush hx hb dX3_sumOfHops_33 bp_m9 ?_
          refine lv_icmp_eq (tgt := 42) hx hb dX3_sumOfHops_35 (by decide) (fun hc => ?_) (fun hc => ?_)
          · replace hf := ifp hc hf
            refine lv_iinc (v := (x2_4 + nI 1)) (lv' := [(2, .int (x2_4 + nI 1)), (3, .int ph31), (0, .ref a_t), (1, .int x1_4)]) hx hb dX3_sumOfHops_42 hl (k := 3) rfl (inc_1 _) (by decide) rfl (fun ls hl => ?_)
            refine lv_goto (tgt := 4) hx hb dX3_sumOfHops_45 (by decide) ?_
            exact ih _ _ _ _ ls hf hP hD hS (lv_sub hl [2, 3, 0] rfl)
          · replace hf := ifn hc hf
            refine lv_iload_n hx hb dX3_sumOfHops_38 rfl (lv_at hl 2 rfl) ?_
            refine lv_iload_n hx hb dX3_sumOfHops_39 rfl (lv_at hl 0 rfl) ?_
            refine lv_iadd hx hb dX3_sumOfHops_40 ?_
            refine lv_istore_n (lv' := [(1, .int (x1_4 + ph31)), (3, .int ph31), (0, .ref a_t), (2, .int x2_4)]) hx hb dX3_sumOfHops_41 rfl hl (by decide) rfl (fun ls hl => ?_)
            refine lv_iinc (v := (x2_4 + nI 1)) (lv' := [(2, .int (x2_4 + nI 1)), (1, .int (x1_4 + ph31)), (3, .int ph31), (0, .ref a_t)]) hx hb dX3_sumOfHops_42 hl (k := 3) rfl (inc_1 _) (by decide) rfl (fun ls hl => ?_)
            refine lv_goto (tgt := 4) hx hb dX3_sumOfHops_45 (by decide) ?_
            exact ih _ _ _ _ ls hf hP hD hS (lv_sub hl [3, 1, 0] rfl)
        replace hf := hg
        clear hg
        refine lv_if_eq (tgt := 29) hx hb dX3_sumOfHops_18 (by decide) (fun hc => ?_) (fun hc => ?_)
        · replace hf := ifn (b2i_z hc) hf
          refine lv_bipush hx hb dX3_sumOfHops_29 bp_m9 ?_
          obtain rfl := Option.some.inj hf
          exact J31 _ _ ls hP hD hS (lv_sub hl [0, 1, 2] rfl)
        · replace hf := ifp (b2i_nz hc) hf
          refine lv_aload_n hx hb dX3_sumOfHops_21 rfl (lv_at hl 0 rfl) ?_
          refine lv_iload_n hx hb dX3_sumOfHops_22 rfl (lv_at hl 2 rfl) ?_
          obtain ⟨q23, e23, hf⟩ := bnd hf
          refine callVI X (k_X3_hopsOf l D cI cZ a_t a_t_ct a_t_cl a_t_cl_sh a_t_ct_fe a_t_ct_se a_t_ct_pa a_t_ct_sl a_t_cl_cmd a_t_cl_tim a_t_cl_hel a_t_cl_dir a_t_cl_seg  v_t_tm v_t_ct_ex v_t_ct_fe v_t_ct_se v_t_ct_pa v_t_cl_fw v_t_cl_fp v_t_cl_fn v_t_cl_rt v_t_cl_wd v_t_cl_pd v_t_cl_ss v_t_cl_rs v_t_cl_sh_nd v_t_cl_sh_sn v_t_cl_seg x2_4 q23 e23) (cwV 1 X.1.2.2.2.2 gX3_sumOfHops_X3_hopsOf rfl rfl rfl kd_X3_hopsOf ⟨Nat.le_of_ble_eq_true rfl, Nat.le_of_ble_eq_true rfl⟩) hP hD hS hl.1 0 3 rfl rfl [0, 1, 2, 3, 4, 5, 6, 7] (by decide) (wo_X3_sumOfHops cI cZ a_t a_t_ct a_t_cl a_t_cl_sh a_t_ct_fe a_t_ct_se a_t_ct_pa a_t_ct_sl a_t_cl_cmd a_t_cl_tim a_t_cl_hel a_t_cl_dir a_t_cl_seg v_t_tm v_t_ct_ex v_t_ct_fe v_t_ct_se v_t_ct_pa v_t_cl_fw v_t_cl_fp v_t_cl_fn v_t_cl_rt v_t_cl_wd v_t_cl_pd v_t_cl_ss v_t_cl_rs v_t_cl_sh_nd v_t_cl_sh_sn v_t_cl_seg) rfl rfl rfl rfl rfl (rest := []) rfl (Nat.le_of_ble_eq_true rfl) dX3_sumOfHops_23 ⟨Nat.zero_le _, Nat.zero_le _⟩ (fun H locs hP hD hS => ?_)
          refine lv_goto (tgt := 31) hx hb dX3_sumOfHops_26 (by decide) ?_
          obtain rfl := Option.some.inj hf
          exact J31 _ _ ls hP hD hS (lv_sub hl [0, 1, 2] rfl)
  unfold fX3_sumOfHops at hf
  refine lv_iconst hx hb dX3_sumOfHops_0 ic_0 ?_
  refine lv_istore_n (lv' := [(1, .int 0), (0, .ref a_t)]) hx hb dX3_sumOfHops_1 rfl hl (by decide) rfl (fun ls hl => ?_)
  refine lv_iconst hx hb dX3_sumOfHops_2 ic_0 ?_
  refine lv_istore_n (lv' := [(2, .int 0), (1, .int 0), (0, .ref a_t)]) hx hb dX3_sumOfHops_3 rfl hl (by decide) rfl (fun ls hl => ?_)
  refine L4 _ (fun x1_4 x2_4 H locs ls hf hP hD hS hl => ?_) FU _ _ _ _ ls hf hP hD hS (lv_sub hl [2, 1, 0] rfl)
  refine lv_iload_n hx hb dX3_sumOfHops_48 rfl (lv_at hl 0 rfl) ?_
  obtain rfl := Option.some.inj hf
  exact retI X hS hP rfl dX3_sumOfHops_49
