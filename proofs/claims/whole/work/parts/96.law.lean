/-! THE CLAIM OUT OF ONE WALK OF THE LAW'S BODY. Your part is whole_start (and what it stands on); all else here is the same for every law, but numbers. -/
def R_law : String := "RingProtectionLaw"
def lw_P (b : Addr) (xs : List Int32) (args : Array Value) (s : State) : Prop := args = #[.ref b] ∧ s.IntsAt b xs ∧ xs.length ≤ 3072 ∧ (Jvm.Cond.and given_1 narrow_1).before args s = true
def lw_Q (_ : Array Value) (s : State) (o : Outcome) (t : State) : Prop := o = .returned (some (.int 1)) ∧ Framed s o t [] 60 1186
def lw_Z (below : List Frame) (a : Array Value) (s : State) : State → Prop := fun t => ∃ o, t.status = .running ∧ Ended t below o ∧ lw_Q a s o t
/-- the law's own end, with 1 on the stack, nothing written that was there before, its room as the claim has it -/
theorem lw_ret {p : Program} {l : Launch} {e : Env} {s : State} {m : MethodId} {below : List Frame} {meth : Method} {c : Code} {b : Nat} (hx : p.tables.exec = Jvm.exec) (hb : c.code = code) (hr : meth.sig.returnType = ret) (hlocks : meth.locks = false) {pc : Nat} {H : Heap} {ls : Array Slot} (hdg : decode code pc = .ok (.ireturn, 1)) : W p l e room_1 s m #[Value.ref b] below meth c H [] 60 1186 (lw_Z below #[Value.ref b] s) (F0 m pc ls [.int 1]) := by
  intro T hT X
  obtain ⟨fs, hret, hrun, hended, hW, hframe⟩ := X.leave (v := some (.int 1)) (hlocks := hlocks) (fun h => by rw [hr] at h; cases h)
  have hmeth' : T.vm.method? m = some meth := X.method'
  refine ⟨T.setFrames fs, ?_, .returned (some (.int 1)), hrun, hended, rfl, ⟨_, rfl⟩, hW, hframe⟩
  jvm_step X.here [X.here.top, hx, hb, hdg, hmeth', hr, ret, narrow_b1]
  (try refine ⟨rfl, ?_⟩); (try refine ⟨rfl, ?_⟩)
  first | (intro acts; rw [hret _ acts rfl rfl rfl]) | rw [hret _ _ rfl rfl rfl]
  exact Steps.refl _
/-- what holds at the law's entry: the machine, the code, the tables' words (any of lw_tbl by 'hts w (by decide +kernel)'), the script of L ints xs at the cell b, what the Statement gives of the start (any of its parts by flat_of_before) -/
def lw_At (p : Program) (s : State) (m : MethodId) (meth : Method) (c : Code) (b L : Nat) (xs : Nat → Int32) : Prop :=
  p.tables.exec = Jvm.exec ∧ c.code = code ∧ meth.sig.returnType = ret ∧ c.maxLocals = 4 ∧ s.vm.findClass R_law = some m.cls ∧ (∀ w ∈ lw_tbl, w.before #[Value.ref b] s = true) ∧ va_X b L xs s s.heap ∧ b < s.heap.size ∧ meth.locks = false ∧ (Jvm.Cond.and given_1 narrow_1).before #[Value.ref b] s = true
theorem and31 (v : Int32) : ∃ j, j < 32 ∧ v &&& nI 31 = nI j := by
  refine ⟨(v &&& nI 31).toBitVec.toNat, ?_, ?_⟩
  · rw [Int32.toBitVec_and, BitVec.toNat_and]
    have h : (nI 31).toBitVec.toNat = 31 := by decide +kernel
    rw [h]
    exact Nat.lt_succ_of_le Nat.and_le_right
  · refine tb_ext (fun i hi => ?_)
    rw [tb_nI, decide_eq_true hi, Bool.true_and]; rfl
theorem cond6 {i L : Nat} (hi : i ≤ L) (hL : L ≤ 3072) (h : ¬ (nI L - nI 6) < nI i) : i + 6 ≤ L := by
  by_cases h6 : 6 ≤ L
  · rw [pk_sub h6, nI_ltI (by omega) (by omega)] at h
    omega
  · exfalso
    apply h
    have hn : ∀ x, x < 6 → (nI x - nI 6) < 0 := by decide +kernel
    have := hn L (by omega)
    rw [i_lt] at this ⊢
    rw [nI_toInt (by omega)]
    rw [i0] at this
    omega
set_option maxHeartbeats 4000000 in
set_option maxRecDepth 100000 in
theorem law_arms {p : Program} {l : Launch} {e : Env} {s : State} {m : MethodId} {below : List Frame} {meth : Method} {c : Code} {D : va_G} {cI cZ : ClassId} {A : Nat → Prop} {H : Heap} {locs : List Loc} {ls : Array Slot} {ret0 : Option FieldType} {b L : Nat} {xs : Nat → Int32} {Q : State → Prop} {q0 q1 : Nat} {u w : Nat → Nat} {S Z T U : Nat → Nat → Int32} {k0 k1 : Int32} {st be so sv : Nat → Int32} {i : Nat} (X : Cx p s m #[Value.ref b] meth c D cI cZ cL_law 4 ret0 wsL_law RL A) (hX : va_X b L xs s s.heap) (hbl : b < s.heap.size) (hbA : ¬ A b) (hL : L ≤ 3072) (hi : i + 6 ≤ L) (hV : INV S k0 T k1 U st so sv) (hP : va_P D vwCl (LW cI cZ q0 u q1 w S Z k0 T k1 U st be so sv) H) (hD : va_D A (LW cI cZ q0 u q1 w S Z k0 T k1 U st be so sv)) (hS : va_S A s.heap H locs) (hl : lv_has ls 4 [(0, .ref b), (1, .ref q0), (2, .ref q1), (3, .int (nI i))])
    (kk : ∀ (S Z T U : Nat → Nat → Int32) (k0 k1 : Int32) (st be so sv : Nat → Int32) (H : Heap) (locs : List Loc), INV S k0 T k1 U st so sv → va_P D vwCl (LW cI cZ q0 u q1 w S Z k0 T k1 U st be so sv) H → va_D A (LW cI cZ q0 u q1 w S Z k0 T k1 U st be so sv) → va_S A s.heap H locs → W p l e room_1 s m #[Value.ref b] below meth c H locs 60 1186 Q (F0 m 1013 ls [])) (j : Nat) (hj : j < 32) : W p l e room_1 s m #[Value.ref b] below meth c H locs 60 1186 Q (F0 m 33 ls [.int (nI j)]) := by
  have hx := X.1.1
  have hb := X.1.2.1
  by_cases h29 : 29 ≤ j
  · exact lv_tableOut (tgt := 1013) hx hb dL_law_33 (Or.inr (by rw [nI_toInt (by omega)]; omega)) (by decide) (kk _ _ _ _ _ _ _ _ _ _ _ _ hV hP hD hS)
  · rcases (show j = 0 ∨ j = 1 ∨ j = 2 ∨ j = 3 ∨ j = 4 ∨ j = 5 ∨ j = 6 ∨ j = 7 ∨ j = 8 ∨ j = 9 ∨ j = 10 ∨ j = 11 ∨ j = 12 ∨ j = 13 ∨ j = 14 ∨ j = 15 ∨ j = 16 ∨ j = 17 ∨ j = 18 ∨ j = 19 ∨ j = 20 ∨ j = 21 ∨ j = 22 ∨ j = 23 ∨ j = 24 ∨ j = 25 ∨ j = 26 ∨ j = 27 ∨ j = 28 by omega) with rfl | rfl | rfl | rfl | rfl | rfl | rfl | rfl | rfl | rfl | rfl | rfl | rfl | rfl | rfl | rfl | rfl | rfl | rfl | rfl | rfl | rfl | rfl | rfl | rfl | rfl | rfl | rfl | rfl
    · exact lv_tableIn (off := 131) (tgt := 164) hx hb dL_law_33 (by decide +kernel) (by decide +kernel) (by decide +kernel) (by decide) (arm_reset X hX hbl hbA hL hi hV hP hD hS hl kk)
    · exact lv_tableIn (off := 164) (tgt := 197) hx hb dL_law_33 (by decide +kernel) (by decide +kernel) (by decide +kernel) (by decide) (arm_addCircuit X hX hbl hbA hL hi hV hP hD hS hl kk)
    · exact lv_tableIn (off := 259) (tgt := 292) hx hb dL_law_33 (by decide +kernel) (by decide +kernel) (by decide +kernel) (by decide) (arm_removeCircuit X hX hbl hbA hL hi hV hP hD hS hl kk)
    · exact lv_tableIn (off := 282) (tgt := 315) hx hb dL_law_33 (by decide +kernel) (by decide +kernel) (by decide +kernel) (by decide) (arm_circuitCount X hX hbl hbA hL hi hV hP hD hS hl kk)
    · exact lv_tableIn (off := 295) (tgt := 328) hx hb dL_law_33 (by decide +kernel) (by decide +kernel) (by decide +kernel) (by decide) (arm_freeSlot X hX hbl hbA hL hi hV hP hD hS hl kk)
    · exact lv_tableIn (off := 380) (tgt := 413) hx hb dL_law_33 (by decide +kernel) (by decide +kernel) (by decide +kernel) (by decide) (arm_circuitsOn X hX hbl hbA hL hi hV hP hD hS hl kk)
    · exact lv_tableIn (off := 403) (tgt := 436) hx hb dL_law_33 (by decide +kernel) (by decide +kernel) (by decide +kernel) (by decide) (arm_pathLength X hX hbl hbA hL hi hV hP hD hS hl kk)
    · exact lv_tableIn (off := 426) (tgt := 459) hx hb dL_law_33 (by decide +kernel) (by decide +kernel) (by decide +kernel) (by decide) (arm_failWorking X hX hbl hbA hL hi hV hP hD hS hl kk)
    · exact lv_tableIn (off := 475) (tgt := 508) hx hb dL_law_33 (by decide +kernel) (by decide +kernel) (by decide +kernel) (by decide) (arm_failProtection X hX hbl hbA hL hi hV hP hD hS hl kk)
    · exact lv_tableIn (off := 524) (tgt := 557) hx hb dL_law_33 (by decide +kernel) (by decide +kernel) (by decide +kernel) (by decide) (arm_failNode X hX hbl hbA hL hi hV hP hD hS hl kk)
    · exact lv_tableIn (off := 573) (tgt := 606) hx hb dL_law_33 (by decide +kernel) (by decide +kernel) (by decide +kernel) (by decide) (arm_command X hX hbl hbA hL hi hV hP hD hS hl kk)
    · exact lv_tableIn (off := 606) (tgt := 639) hx hb dL_law_33 (by decide +kernel) (by decide +kernel) (by decide +kernel) (by decide) (arm_setRestoreTime X hX hbl hbA hL hi hV hP hD hS hl kk)
    · exact lv_tableIn (off := 629) (tgt := 662) hx hb dL_law_33 (by decide +kernel) (by decide +kernel) (by decide +kernel) (by decide) (arm_advance X hX hbl hbA hL hi hV hP hD hS hl kk)
    · exact lv_tableIn (off := 652) (tgt := 685) hx hb dL_law_33 (by decide +kernel) (by decide +kernel) (by decide +kernel) (by decide) (arm_clock X hX hbl hbA hL hi hV hP hD hS hl kk)
    · exact lv_tableIn (off := 665) (tgt := 698) hx hb dL_law_33 (by decide +kernel) (by decide +kernel) (by decide +kernel) (by decide) (arm_request X hX hbl hbA hL hi hV hP hD hS hl kk)
    · exact lv_tableIn (off := 688) (tgt := 721) hx hb dL_law_33 (by decide +kernel) (by decide +kernel) (by decide +kernel) (by decide) (arm_switchOf X hX hbl hbA hL hi hV hP hD hS hl kk)
    · exact lv_tableIn (off := 711) (tgt := 744) hx hb dL_law_33 (by decide +kernel) (by decide +kernel) (by decide +kernel) (by decide) (arm_restoreTimer X hX hbl hbA hL hi hV hP hD hS hl kk)
    · exact lv_tableIn (off := 734) (tgt := 767) hx hb dL_law_33 (by decide +kernel) (by decide +kernel) (by decide +kernel) (by decide) (arm_segment X hX hbl hbA hL hi hV hP hD hS hl kk)
    · exact lv_tableIn (off := 757) (tgt := 790) hx hb dL_law_33 (by decide +kernel) (by decide +kernel) (by decide +kernel) (by decide) (arm_state X hX hbl hbA hL hi hV hP hD hS hl kk)
    · exact lv_tableIn (off := 780) (tgt := 813) hx hb dL_law_33 (by decide +kernel) (by decide +kernel) (by decide +kernel) (by decide) (arm_circuitsIn X hX hbl hbA hL hi hV hP hD hS hl kk)
    · exact lv_tableIn (off := 803) (tgt := 836) hx hb dL_law_33 (by decide +kernel) (by decide +kernel) (by decide +kernel) (by decide) (arm_deliveredCount X hX hbl hbA hL hi hV hP hD hS hl kk)
    · exact lv_tableIn (off := 816) (tgt := 849) hx hb dL_law_33 (by decide +kernel) (by decide +kernel) (by decide +kernel) (by decide) (arm_hops X hX hbl hbA hL hi hV hP hD hS hl kk)
    · exact lv_tableIn (off := 839) (tgt := 872) hx hb dL_law_33 (by decide +kernel) (by decide +kernel) (by decide +kernel) (by decide) (arm_averageHops X hX hbl hbA hL hi hV hP hD hS hl kk)
    · exact lv_tableIn (off := 852) (tgt := 885) hx hb dL_law_33 (by decide +kernel) (by decide +kernel) (by decide +kernel) (by decide) (arm_squelchedAt X hX hbl hbA hL hi hV hP hD hS hl kk)
    · exact lv_tableIn (off := 875) (tgt := 908) hx hb dL_law_33 (by decide +kernel) (by decide +kernel) (by decide +kernel) (by decide) (arm_deliveredIfCut X hX hbl hbA hL hi hV hP hD hS hl kk)
    · exact lv_tableIn (off := 898) (tgt := 931) hx hb dL_law_33 (by decide +kernel) (by decide +kernel) (by decide +kernel) (by decide) (arm_deliveredIfNodeFails X hX hbl hbA hL hi hV hP hD hS hl kk)
    · exact lv_tableIn (off := 921) (tgt := 954) hx hb dL_law_33 (by decide +kernel) (by decide +kernel) (by decide +kernel) (by decide) (arm_worstCut X hX hbl hbA hL hi hV hP hD hS hl kk)
    · exact lv_tableIn (off := 934) (tgt := 967) hx hb dL_law_33 (by decide +kernel) (by decide +kernel) (by decide +kernel) (by decide) (arm_save X hX hbl hbA hL hi hV hP hD hS hl kk)
    · exact lv_tableIn (off := 957) (tgt := 990) hx hb dL_law_33 (by decide +kernel) (by decide +kernel) (by decide +kernel) (by decide) (arm_restore X hX hbl hbA hL hi hV hP hD hS hl kk)
set_option maxHeartbeats 4000000 in
set_option maxRecDepth 100000 in
theorem law_loop {p : Program} {l : Launch} {e : Env} {s : State} {m : MethodId} {below : List Frame} {meth : Method} {c : Code} {D : va_G} {cI cZ : ClassId} {A : Nat → Prop} {b L : Nat} {xs : Nat → Int32} {q0 q1 : Nat} {u w : Nat → Nat} (X : Cx p s m #[Value.ref b] meth c D cI cZ cL_law 4 ret wsL_law RL A) (hX : va_X b L xs s s.heap) (hbl : b < s.heap.size) (hbA : ¬ A b) (hL : L ≤ 3072) (hAs : ∀ q, A q → s.heap.size ≤ q) :
    ∀ (n i : Nat), i ≤ L → L + 1 ≤ i + n → ∀ (S Z T U : Nat → Nat → Int32) (k0 k1 : Int32) (st be so sv : Nat → Int32) (H : Heap) (locs : List Loc), INV S k0 T k1 U st so sv → va_P D vwCl (LW cI cZ q0 u q1 w S Z k0 T k1 U st be so sv) H → va_D A (LW cI cZ q0 u q1 w S Z k0 T k1 U st be so sv) → va_S A s.heap H locs → ∀ (ls : Array Slot), lv_has ls 4 [(0, .ref b), (1, .ref q0), (2, .ref q1), (3, .int (nI i))] → W p l e room_1 s m #[Value.ref b] below meth c H locs 60 1186 (lw_Z below #[Value.ref b] s) (F0 m 18 ls []) := by
  have hx := X.1.1
  have hb := X.1.2.1
  intro n
  induction n with
  | zero =>
    intro i h1 h2
    exact absurd h2 (by omega)
  | succ n ih =>
    intro i hi hin S Z T U k0 k1 st be so sv H locs hV hP hD hS ls hl
    refine lv_iload_n hx hb dL_law_18 rfl (lv_at hl 3 rfl) ?_
    refine lv_aload_n hx hb dL_law_19 rfl (lv_at hl 0 rfl) ?_
    refine va_slen hx hb hX hbl hbA hS dL_law_20 ?_
    refine lv_bipush hx hb dL_law_21 bp_6 ?_
    refine lv_isub hx hb dL_law_23 ?_
    refine lv_icmp_gt (tgt := 1019) hx hb dL_law_24 (by decide) (fun _ => ?_) (fun hc => ?_)
    · refine lv_iconst (v := 1) hx hb dL_law_1019 (by decide) ?_
      refine va_forget (fun q hq => hAs _ (hS.2.2 q hq)) ?_
      exact lw_ret hx hb X.2.1 X.2.2.1 dL_law_1020
    · have hi6 : i + 6 ≤ L := cond6 hi hL hc
      refine lv_aload_n hx hb dL_law_27 rfl (lv_at hl 0 rfl) ?_
      refine lv_iload_n hx hb dL_law_28 rfl (lv_at hl 3 rfl) ?_
      refine va_sld hx hb hX hbl hbA hS (vp_in_nI (by omega) (by omega)) dL_law_29 ?_
      refine lv_bipush hx hb dL_law_30 bp_31 ?_
      refine lv_iand hx hb dL_law_32 ?_
      obtain ⟨j, hj, ej⟩ := and31 (xs (nI i).toNatClampNeg)
      rw [ej]
      refine law_arms X hX hbl hbA hL hi6 hV hP hD hS hl (fun S Z T U k0 k1 st be so sv H locs hV hP hD hS => ?_) j hj
      refine lv_iinc (v := nI (i + 6)) (lv' := [(3, .int (nI (i + 6))), (0, .ref b), (1, .ref q0), (2, .ref q1)]) hx hb dL_law_1013 hl (k := 3) rfl (by rw [inc_6, nI_add]) (by decide) rfl (fun ls hl => ?_)
      refine lv_goto (tgt := 18) hx hb dL_law_1016 (by decide) ?_
      exact ih (i + 6) hi6 (by omega) _ _ _ _ _ _ _ _ _ _ _ _ hV hP hD hS ls (lv_sub hl [1, 2, 3, 0] rfl)
