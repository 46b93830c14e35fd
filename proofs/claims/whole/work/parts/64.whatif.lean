/-! PURE PART 15: what if; save and restore -/
theorem C_row (x y : Nat → Int32) {N : Nat} (hN : N < 100) : ∃ v', fX5_copyRow x y N N = some v' ∧ ∀ i, i < N → v' i = x i := by
  have h := loopF (F := fun f a y => fX5_copyRow_L2 x N N (fun x2_2 v_y_2 => (some v_y_2)) f y a) (K := fun a => some a) (N := N) (g := fun i a => upd a i (x i)) (fun _ _ => True)
    (fun f a _ => by
      show fX5_copyRow_L2 _ _ _ _ (f + 1) _ _ = _
      rw [fX5_copyRow_L2, if_pos (nI_le (Nat.le_refl _) (by omega))])
    (fun f a i hi _ => ⟨by
      show fX5_copyRow_L2 _ _ _ _ (f + 1) _ _ = fX5_copyRow_L2 _ _ _ _ f _ _
      rw [fX5_copyRow_L2, if_neg (nI_ge hi (by omega)), if_neg (nI_ge hi (by omega)), gI hi (by omega), gI hi (by omega), nI_clamp (by omega), nI_add], trivial⟩) N 0 y FU (by omega) trivial (FU_gt (by omega))
  rw [nI_0] at h
  refine ⟨_, h, ?_⟩
  exact fo_inv (g := fun i a => upd a i (x i)) (N := N) (fun i a => ∀ j, j < i → a j = x j) (fun i a _ ha j hj => by
    show upd a i (x i) j = x j
    by_cases e : j = i
    · rw [e, upd_at]
    · rw [upd_ne e]; exact ha j (by omega)) N 0 y (by omega) (fun j hj => by omega)
theorem C_copy (Z S : Nat → Nat → Int32) : ∃ fe se pa sl cmd tim hel dir seg, fX3_copyFrom (Z 0 0) (Z 1 0) (Z 2) (Z 3) (Z 4) (Z 5) (Z 6 0) (Z 7 0) (Z 8 0) (Z 9 0) (Z 10 0) (Z 11 0) (Z 12 0) (Z 13 0) (Z 14 0) (Z 15 0) (Z 16) (Z 17) (Z 18) (Z 19) (Z 20) (S 0 0) (S 1 0) (S 2) (S 3) (S 4) (S 5) (S 6 0) (S 7 0) (S 8 0) (S 9 0) (S 10 0) (S 11 0) (S 12 0) (S 13 0) (S 14 0) (S 15 0) (S 16) (S 17) (S 18) (S 19) (S 20) = some (S 0 0, S 1 0, fe, se, pa, sl, S 6 0, S 7 0, S 8 0, S 9 0, S 10 0, S 11 0, S 12 0, S 13 0, S 14 0, S 15 0, cmd, tim, hel, dir, seg) ∧ SE S (mkS (S 0 0) (S 1 0) fe se pa sl (S 6 0) (S 7 0) (S 8 0) (S 9 0) (S 10 0) (S 11 0) (S 12 0) (S 13 0) (S 14 0) (S 15 0) cmd tim hel dir seg) := by
  obtain ⟨fe, a2, b2⟩ := C_row (S 2) (Z 2) (N := 16) (by omega)
  obtain ⟨se, a3, b3⟩ := C_row (S 3) (Z 3) (N := 16) (by omega)
  obtain ⟨pa, a4, b4⟩ := C_row (S 4) (Z 4) (N := 16) (by omega)
  obtain ⟨sl, a5, b5⟩ := C_row (S 5) (Z 5) (N := 16) (by omega)
  obtain ⟨cmd, a16, b16⟩ := C_row (S 16) (Z 16) (N := 8) (by omega)
  obtain ⟨tim, a17, b17⟩ := C_row (S 17) (Z 17) (N := 8) (by omega)
  obtain ⟨hel, a18, b18⟩ := C_row (S 18) (Z 18) (N := 8) (by omega)
  obtain ⟨dir, a19, b19⟩ := C_row (S 19) (Z 19) (N := 8) (by omega)
  obtain ⟨seg, a20, b20⟩ := C_row (S 20) (Z 20) (N := 8) (by omega)
  refine ⟨fe, se, pa, sl, cmd, tim, hel, dir, seg, ?_, rfl, rfl, b2, b3, b4, b5, rfl, rfl, rfl, rfl, rfl, rfl, rfl, rfl, rfl, rfl, b16, b17, b18, b19, b20⟩
  unfold fX3_copyFrom fX0_copyFrom fX1_copyFrom
  rw [a2, obS, a3, obS, a4, obS, a5, obS, obS, a16, obS, a17, obS, a18, obS, a19, obS, a20, obS, obS]
section PB6
variable {n : Nat} {S : Nat → Nat → Int32} {st : Nat → Int32}
theorem M_keep (st be : Nat → Int32) : ∃ be', fX6_keep st be = some be' ∧ ∀ j, j < 164 → be' j = st j := by
  have h := loopF (F := fun f a y => fX6_keep_L2 st (fun x1_2 v_t_be_2 => (some v_t_be_2)) f y a) (K := fun a => some a) (N := 164) (g := fun i a => upd a i (st i)) (fun _ _ => True)
    (fun f a _ => by
      show fX6_keep_L2 _ _ (f + 1) _ _ = _
      rw [fX6_keep_L2, if_pos (nI_le (Nat.le_refl _) (by omega))])
    (fun f a i hi _ => ⟨by
      show fX6_keep_L2 _ _ (f + 1) _ _ = fX6_keep_L2 _ _ f _ _
      rw [fX6_keep_L2, if_neg (nI_ge hi (by omega)), gI hi (by omega), gI hi (by omega), nI_clamp (by omega), nI_add], trivial⟩) 164 0 be FU (by omega) trivial (FU_gt (by omega))
  rw [nI_0] at h
  refine ⟨_, h, ?_⟩
  exact fo_inv (g := fun i a => upd a i (st i)) (N := 164) (fun i a => ∀ j, j < i → a j = st j) (fun i a _ ha j hj => by
    show upd a i (st i) j = st j
    by_cases e : j = i
    · rw [e, upd_at]
    · rw [upd_ne e]; exact ha j (by omega)) 164 0 be (by omega) (fun j hj => by omega)
theorem M_back {st1 st2 be : Nat → Int32} {d : Int32} (hc : fX6_control st1 = some st2) (hd : fX6_deliveredCount st2 = some d) : ∃ st3, fX6_deliveredAndBack st1 be = some (d, st3) ∧ ∀ j, j < 164 → st3 j = be j := by
  have h := loopF (F := fun f a y => fX6_deliveredAndBack_L11 be (fun x1_11 x2_11 v_t_st_11 => (some (x1_11, v_t_st_11))) f d y a) (K := fun a => some (d, a)) (N := 164) (g := fun i a => upd a i (be i)) (fun _ _ => True)
    (fun f a _ => by
      show fX6_deliveredAndBack_L11 _ _ (f + 1) _ _ _ = _
      rw [fX6_deliveredAndBack_L11, if_pos (nI_le (Nat.le_refl _) (by omega))])
    (fun f a i hi _ => ⟨by
      show fX6_deliveredAndBack_L11 _ _ (f + 1) _ _ _ = fX6_deliveredAndBack_L11 _ _ f _ _ _
      rw [fX6_deliveredAndBack_L11, if_neg (nI_ge hi (by omega)), gI hi (by omega), gI hi (by omega), nI_clamp (by omega), nI_add], trivial⟩) 164 0 st2 FU (by omega) trivial (FU_gt (by omega))
  rw [nI_0] at h
  refine ⟨fo (fun i a => upd a i (be i)) 164 0 st2, ?_, ?_⟩
  · unfold fX6_deliveredAndBack
    rw [hc, obS, hd, obS]
    exact h
  · exact fo_inv (g := fun i a => upd a i (be i)) (N := 164) (fun i a => ∀ j, j < i → a j = be j) (fun i a _ ha j hj => by
      show upd a i (be i) j = be j
      by_cases e : j = i
      · rw [e, upd_at]
      · rw [upd_ne e]; exact ha j (by omega)) 164 0 st2 (by omega) (fun j hj => by omega)
theorem P_try (h : RS n S st) {fe se pa sl cmd tim hel dir seg : Nat → Int32} (hE : SE S (mkS (S 0 0) (S 1 0) fe se pa sl (S 6 0) (S 7 0) (S 8 0) (S 9 0) (S 10 0) (S 11 0) (S 12 0) (S 13 0) (S 14 0) (S 15 0) cmd tim hel dir seg)) {st1 : Nat → Int32} {fw fp fn : Int32} (h1 : ∀ j, (j < 4 ∨ 68 ≤ j) → st1 j = st j) (hM : RMk n st1 fw fp fn (S 16)) (hC : RCo n st1 (S 17) (S 18) (S 19)) (hS : RSw n st1 (S 12 0) (S 13 0)) (be : Nat → Int32) :
    ∃ q d st3, fX1_run fw fp fn (S 9 0) (S 10 0) (S 11 0) (S 12 0) (S 13 0) (S 14 0) cmd tim hel dir seg = some q ∧ fX3_countDelivered (S 1 0) fe se pa q.1 q.2.1 q.2.2.1 q.2.2.2.1 (S 14 0) q.2.2.2.2.2.2.2 = some d ∧ fX6_deliveredAndBack st1 be = some (d, st3) ∧ ∀ j, j < 164 → st3 j = be j := by
  have h' := RS.eqs hE (fun _ _ => rfl) h
  obtain ⟨hB, -, -, -, -, hI⟩ := h'
  obtain ⟨hn, h8, h0, hnd, -⟩ := id hB
  obtain ⟨z0, z1, z2, z3, z4, z5, z6, z7, z8, z9, z10, z11, z12, z13, z14, z15, z16, z17, z18, z19, z20⟩ := hE
  obtain ⟨q, st2, a1, a2, a3, a4, a5, a6, a7, a8, a9⟩ := aft hB hI h1 (RMk.eqs (fun _ _ _ => rfl) h8 z16 hM) (RCo.eqs (fun _ _ _ => rfl) h8 z17 z18 z19 hC) hS (S 10 0) (S 11 0) seg
  have h02 : st2 0 = nI n := (a3 0 (by omega)).trans h0
  have hd := M_delC h02 hn h8 (fun s hs => (a6.1 s hs).2.2.symm) (fun i hi => (a6.2 i hi).2) a8
  have hc := C_delC hn h8 a6 a7 a8
  rw [show nI n = S 14 0 from hnd.symm] at hc
  obtain ⟨st3, b1, b2⟩ := M_back (be := be) a2 hd
  exact ⟨q, _, st3, a1, hc, b1, b2⟩
theorem P_ifCut (h : RS n S st) (Z : Nat → Nat → Int32) (be : Nat → Int32) {v : Nat} (hv : v < n) : ∃ q st' be', fX5_deliveredAfterCut (S 0 0) (S 1 0) (S 2) (S 3) (S 4) (S 5) (S 6 0) (S 7 0) (S 8 0) (S 9 0) (S 10 0) (S 11 0) (S 12 0) (S 13 0) (S 14 0) (S 15 0) (S 16) (S 17) (S 18) (S 19) (S 20) (Z 0 0) (Z 1 0) (Z 2) (Z 3) (Z 4) (Z 5) (Z 6 0) (Z 7 0) (Z 8 0) (Z 9 0) (Z 10 0) (Z 11 0) (Z 12 0) (Z 13 0) (Z 14 0) (Z 15 0) (Z 16) (Z 17) (Z 18) (Z 19) (Z 20) (nI v) = some q ∧ fX6_ifCut st be (nI v) = some (q.1, st', be') ∧ ∀ j, j < 164 → st' j = st j := by
  obtain ⟨hB, hM, hC, hS, hA, hI⟩ := id h
  obtain ⟨hn, h8, h0, hnd, -⟩ := id hB
  obtain ⟨fe, se, pa, sl, cmd, tim, hel, dir, seg, c1, c2⟩ := C_copy Z S
  obtain ⟨be', k1, k2⟩ := M_keep st be
  have hf : frm (fun k => k = 0 ∨ k = 1) st (upd (upd st (12 + 7 * v + 0) (nI 1)) (12 + 7 * v + 1) (nI 1)) := (frm.rf.up (by omega) (by decide) (Or.inl rfl)).up (by omega) (by decide) (Or.inr rfl)
  have hM1 : RMk n (upd (upd st (12 + 7 * v + 0) (nI 1)) (12 + 7 * v + 1) (nI 1)) (S 6 0 ||| ((nI 1) <<< (nI v &&& 31))) (S 7 0 ||| ((nI 1) <<< (nI v &&& 31))) (S 8 0) (S 16) := fun s hs => by
    obtain ⟨m1, m2, m3, m4, m5, m6, m7, m8⟩ := hM s hs
    rw [hf.2 s 2 (by decide) (by decide), hf.1 (4 + s) (by omega), sp_upd (by decide) (by decide), sp_upd (by decide) (by decide), sp_upd (by decide) (by decide), sp_upd (by decide) (by decide), tb_or, tb_or, tb_bt (by omega)]
    by_cases e : s = v
    · rw [if_neg (show ¬ (s = v ∧ 0 = 1) by omega), if_pos (show s = v ∧ 0 = 0 from ⟨e, rfl⟩), if_pos (show s = v ∧ 1 = 1 from ⟨e, rfl⟩), decide_eq_true e, Bool.or_true, Bool.or_true]
      exact ⟨by decide, by decide, m3, m4, m5, ⟨true, rfl⟩, ⟨true, rfl⟩, m8⟩
    · rw [if_neg (show ¬ (s = v ∧ 0 = 1) by omega), if_neg (show ¬ (s = v ∧ 0 = 0) by omega), if_neg (show ¬ (s = v ∧ 1 = 1) by omega), if_neg (show ¬ (s = v ∧ 1 = 0) by omega), decide_eq_false e, Bool.or_false, Bool.or_false]
      exact ⟨m1, m2, m3, m4, m5, m6, m7, m8⟩
  obtain ⟨q, d, st3, b1, b2, b3, b4⟩ := P_try h c2 (fun j hj => hf.1 j (by omega)) hM1 (RCo.fr hf (by simp) (by simp) (by simp) hC) (RSw.fr hf (by simp) hS) be'
  have e0 : fX6_at (nI v) 0 = some (nI (12 + 7 * v + 0)) := by rw [← nI_0]; exact M_at v 0
  refine ⟨(d, S 0 0, S 1 0, fe, se, pa, sl, S 6 0 ||| ((nI 1) <<< (nI v &&& 31)), S 7 0 ||| ((nI 1) <<< (nI v &&& 31)), S 8 0, S 9 0, q.1, q.2.1, q.2.2.1, q.2.2.2.1, S 14 0, S 15 0, cmd, q.2.2.2.2.1, q.2.2.2.2.2.1, q.2.2.2.2.2.2.1, q.2.2.2.2.2.2.2), st3, be', ?_, ?_, fun j hj => (b4 j hj).trans (k2 j hj)⟩
  · unfold fX5_deliveredAfterCut
    rw [c1, obS, b1, obS, b2, obS]
  · unfold fX6_ifCut
    rw [k1, obS, e0, obS, gI (by omega) (by decide), M_at, obS, gI (by omega) (by decide), nI_clamp (by omega), nI_clamp (by omega), b3, obS]
theorem P_delCut (h : RS n S st) (Z : Nat → Nat → Int32) (be : Nat → Int32) (v : Int32) : ∃ q st' be', fX5_deliveredIfCut (S 0 0) (S 1 0) (S 2) (S 3) (S 4) (S 5) (S 6 0) (S 7 0) (S 8 0) (S 9 0) (S 10 0) (S 11 0) (S 12 0) (S 13 0) (S 14 0) (S 15 0) (S 16) (S 17) (S 18) (S 19) (S 20) (Z 0 0) (Z 1 0) (Z 2) (Z 3) (Z 4) (Z 5) (Z 6 0) (Z 7 0) (Z 8 0) (Z 9 0) (Z 10 0) (Z 11 0) (Z 12 0) (Z 13 0) (Z 14 0) (Z 15 0) (Z 16) (Z 17) (Z 18) (Z 19) (Z 20) v = some q ∧ fX6_deliveredIfCut st be v = some (q.1, st', be') ∧ RS n S st' := by
  obtain ⟨hB, hM, hC, hS, hA, hI⟩ := id h
  obtain ⟨hn, h8, h0, hnd, -⟩ := id hB
  unfold fX5_deliveredIfCut fX6_deliveredIfCut
  rcases inR n (by omega) v with ho | ⟨j, hj, rfl⟩
  · rw [show fX2_hasSpan (S 14 0) v = some false by rw [hnd]; exact C_hasSF ho, obS, M_isSpanF h0 hn h8 ho, obS]
    exact ⟨_, _, _, rfl, rfl, h⟩
  · obtain ⟨q, st', be', a1, a2, a3⟩ := P_ifCut h Z be hj
    rw [show fX2_hasSpan (S 14 0) (nI j) = some true by rw [hnd]; exact C_hasST h8 hj, obS, if_pos rfl, a1, obS, M_isSpanT h0 hn h8 hj, obS, if_pos rfl, a2, obS]
    exact ⟨_, _, _, rfl, rfl, RS.eqs (SE.rf S) a3 h⟩
theorem P_delNode (h : RS n S st) (Z : Nat → Nat → Int32) (be : Nat → Int32) (v : Int32) : ∃ q st' be', fX5_deliveredIfNodeFails (S 0 0) (S 1 0) (S 2) (S 3) (S 4) (S 5) (S 6 0) (S 7 0) (S 8 0) (S 9 0) (S 10 0) (S 11 0) (S 12 0) (S 13 0) (S 14 0) (S 15 0) (S 16) (S 17) (S 18) (S 19) (S 20) (Z 0 0) (Z 1 0) (Z 2) (Z 3) (Z 4) (Z 5) (Z 6 0) (Z 7 0) (Z 8 0) (Z 9 0) (Z 10 0) (Z 11 0) (Z 12 0) (Z 13 0) (Z 14 0) (Z 15 0) (Z 16) (Z 17) (Z 18) (Z 19) (Z 20) v = some q ∧ fX6_deliveredIfNodeFails st be v = some (q.1, st', be') ∧ RS n S st' := by
  obtain ⟨hB, hM, hC, hS, hA, hI⟩ := id h
  obtain ⟨hn, h8, h0, hnd, -⟩ := id hB
  unfold fX5_deliveredIfNodeFails fX6_deliveredIfNodeFails
  rcases inR n (by omega) v with ho | ⟨j, hj, rfl⟩
  · rw [show fX2_hasNode (S 14 0) v = some false by rw [hnd]; exact C_hasF ho, obS, M_isNodeF h0 hn h8 ho, obS]
    exact ⟨_, _, _, rfl, rfl, h⟩
  · obtain ⟨fe, se, pa, sl, cmd, tim, hel, dir, seg, c1, c2⟩ := C_copy Z S
    obtain ⟨be', k1, k2⟩ := M_keep st be
    have hu : ∀ i, upd st (4 + j) (nI 1) i = if i = 4 + j then nI 1 else st i := fun i => rfl
    have hsp : ∀ s k, sp (upd st (4 + j) (nI 1)) s k = sp st s k := fun s k => by unfold sp; rw [hu, if_neg (by omega)]
    have hM1 : RMk n (upd st (4 + j) (nI 1)) (S 6 0) (S 7 0) (S 8 0 ||| ((nI 1) <<< (nI j &&& 31))) (S 16) := fun s hs => by
      obtain ⟨m1, m2, m3, m4, m5, m6, m7, m8⟩ := hM s hs
      rw [hsp, hsp, hsp, hu, tb_or, tb_bt (by omega)]
      by_cases e : s = j
      · rw [if_pos (show 4 + s = 4 + j by omega), decide_eq_true e, Bool.or_true]
        exact ⟨m1, m2, by decide, m4, m5, m6, m7, ⟨true, rfl⟩⟩
      · rw [if_neg (show ¬ 4 + s = 4 + j by omega), decide_eq_false e, Bool.or_false]
        exact ⟨m1, m2, m3, m4, m5, m6, m7, m8⟩
    have hC1 : RCo n (upd st (4 + j) (nI 1)) (S 17) (S 18) (S 19) := fun s hs => by rw [hsp, hsp, hsp]; exact hC s hs
    have hS1 : RSw n (upd st (4 + j) (nI 1)) (S 12 0) (S 13 0) := ⟨fun s hs => by rw [hsp]; exact hS.1 s hs, hS.2⟩
    obtain ⟨q, d, st3, b1, b2, b3, b4⟩ := P_try h c2 (fun i hi => by rw [hu, if_neg (by omega)]) hM1 hC1 hS1 be'
    rw [show fX2_hasNode (S 14 0) (nI j) = some true by rw [hnd]; exact C_hasT h8 hj, obS, if_pos rfl, c1, obS, b1, obS, b2, obS, M_isNodeT h0 hn h8 hj, obS, if_pos rfl, k1, obS, nI_add, gI (by omega) (by decide), nI_clamp (by omega), b3, obS]
    exact ⟨_, _, _, rfl, rfl, RS.eqs (SE.rf S) (fun i hi => (b4 i hi).trans (k2 i hi)) h⟩
theorem P_worst (h : RS n S st) (Z : Nat → Nat → Int32) (be : Nat → Int32) : ∃ q st' be', fX5_worstCut (S 0 0) (S 1 0) (S 2) (S 3) (S 4) (S 5) (S 6 0) (S 7 0) (S 8 0) (S 9 0) (S 10 0) (S 11 0) (S 12 0) (S 13 0) (S 14 0) (S 15 0) (S 16) (S 17) (S 18) (S 19) (S 20) (Z 0 0) (Z 1 0) (Z 2) (Z 3) (Z 4) (Z 5) (Z 6 0) (Z 7 0) (Z 8 0) (Z 9 0) (Z 10 0) (Z 11 0) (Z 12 0) (Z 13 0) (Z 14 0) (Z 15 0) (Z 16) (Z 17) (Z 18) (Z 19) (Z 20) = some q ∧ fX6_worstCut st be = some (q.1, st', be') ∧ RS n S st' := by
  obtain ⟨hB, hM, hC, hS, hA, hI⟩ := id h
  obtain ⟨hn, h8, h0, hnd, -⟩ := id hB
  unfold fX5_worstCut fX6_worstCut
  obtain ⟨q, st1, be1, a1, a2, a3⟩ := P_ifCut h Z be (v := 0) (by omega)
  rw [nI_0] at a1 a2
  rw [a1, obS, a2, obS]
  obtain ⟨a', b', e1, e2, hI'⟩ := lock
    (F := fun f (a : Int32 × Int32 × (Nat → Nat → Int32)) y => fX5_worstCut_L10 (S 0 0) (S 1 0) (S 2) (S 3) (S 4) (S 5) (S 6 0) (S 7 0) (S 8 0) (S 9 0) (S 10 0) (S 11 0) (S 12 0) (S 13 0) (S 14 0) (S 15 0) (S 16) (S 17) (S 18) (S 19) (S 20) (fun x1_10 x2_10 x3_10 v_t_tr_tm_10 v_t_tr_ct_ex_10 v_t_tr_ct_fe_10 v_t_tr_ct_se_10 v_t_tr_ct_pa_10 v_t_tr_ct_sl_10 v_t_tr_cl_fw_10 v_t_tr_cl_fp_10 v_t_tr_cl_fn_10 v_t_tr_cl_rt_10 v_t_tr_cl_wd_10 v_t_tr_cl_pd_10 v_t_tr_cl_ss_10 v_t_tr_cl_rs_10 v_t_tr_cl_sh_nd_10 v_t_tr_cl_sh_sn_10 v_t_tr_cl_cmd_10 v_t_tr_cl_tim_10 v_t_tr_cl_hel_10 v_t_tr_cl_dir_10 v_t_tr_cl_seg_10 => (some (x1_10, v_t_tr_tm_10, v_t_tr_ct_ex_10, v_t_tr_ct_fe_10, v_t_tr_ct_se_10, v_t_tr_ct_pa_10, v_t_tr_ct_sl_10, v_t_tr_cl_fw_10, v_t_tr_cl_fp_10, v_t_tr_cl_fn_10, v_t_tr_cl_rt_10, v_t_tr_cl_wd_10, v_t_tr_cl_pd_10, v_t_tr_cl_ss_10, v_t_tr_cl_rs_10, v_t_tr_cl_sh_nd_10, v_t_tr_cl_sh_sn_10, v_t_tr_cl_cmd_10, v_t_tr_cl_tim_10, v_t_tr_cl_hel_10, v_t_tr_cl_dir_10, v_t_tr_cl_seg_10))) f a.1 a.2.1 y (a.2.2 0 0) (a.2.2 1 0) (a.2.2 2) (a.2.2 3) (a.2.2 4) (a.2.2 5) (a.2.2 6 0) (a.2.2 7 0) (a.2.2 8 0) (a.2.2 9 0) (a.2.2 10 0) (a.2.2 11 0) (a.2.2 12 0) (a.2.2 13 0) (a.2.2 14 0) (a.2.2 15 0) (a.2.2 16) (a.2.2 17) (a.2.2 18) (a.2.2 19) (a.2.2 20))
    (G := fun f (b : Int32 × Int32 × (Nat → Int32) × (Nat → Int32)) y => fX6_worstCut_L10 (fun x1_10 x2_10 x3_10 v_t_st_10 v_t_be_10 => (some (x1_10, v_t_st_10, v_t_be_10))) f b.1 b.2.1 y b.2.2.1 b.2.2.2)
    (KF := fun a => some (a.1, (a.2.2 0 0), (a.2.2 1 0), (a.2.2 2), (a.2.2 3), (a.2.2 4), (a.2.2 5), (a.2.2 6 0), (a.2.2 7 0), (a.2.2 8 0), (a.2.2 9 0), (a.2.2 10 0), (a.2.2 11 0), (a.2.2 12 0), (a.2.2 13 0), (a.2.2 14 0), (a.2.2 15 0), (a.2.2 16), (a.2.2 17), (a.2.2 18), (a.2.2 19), (a.2.2 20))) (KG := fun b => some (b.1, b.2.2.1, b.2.2.2)) (N := n)
    (fun _ a b => a.1 = b.1 ∧ a.2.1 = b.2.1 ∧ ∀ j, j < 164 → b.2.2.1 j = st j)
    (fun k a b _ => by
      show fX5_worstCut_L10 _ _ _ _ _ _ _ _ _ _ _ _ _ _ _ _ _ _ _ _ _ _ (k + 1) _ _ _ _ _ _ _ _ _ _ _ _ _ _ _ _ _ _ _ _ _ _ _ _  = _
      rw [fX5_worstCut_L10, if_pos (by rw [hnd]; exact nI_le (Nat.le_refl _) (by omega))])
    (fun k a b hab => by
      show fX6_worstCut_L10 _ (k + 1) _ _ _ _ _ = _
      rw [fX6_worstCut_L10, if_pos (by rw [hab.2.2 0 (by omega), h0]; exact nI_le (Nat.le_refl _) (by omega))])
    (fun k k' a b i hi hab => by
      obtain ⟨q, st2, be2, d1, d2, d3⟩ := P_ifCut (RS.eqs (SE.rf S) hab.2.2 h) a.2.2 b.2.2.2 hi
      have hst : ∀ j, j < 164 → st2 j = st j := fun j hj => (d3 j hj).trans (hab.2.2 j hj)
      by_cases hw : a.2.1 ≤ q.1
      · refine ⟨(a.1, a.2.1, mkS q.2.1 q.2.2.1 q.2.2.2.1 q.2.2.2.2.1 q.2.2.2.2.2.1 q.2.2.2.2.2.2.1 q.2.2.2.2.2.2.2.1 q.2.2.2.2.2.2.2.2.1 q.2.2.2.2.2.2.2.2.2.1 q.2.2.2.2.2.2.2.2.2.2.1 q.2.2.2.2.2.2.2.2.2.2.2.1 q.2.2.2.2.2.2.2.2.2.2.2.2.1 q.2.2.2.2.2.2.2.2.2.2.2.2.2.1 q.2.2.2.2.2.2.2.2.2.2.2.2.2.2.1 q.2.2.2.2.2.2.2.2.2.2.2.2.2.2.2.1 q.2.2.2.2.2.2.2.2.2.2.2.2.2.2.2.2.1 q.2.2.2.2.2.2.2.2.2.2.2.2.2.2.2.2.2.1 q.2.2.2.2.2.2.2.2.2.2.2.2.2.2.2.2.2.2.1 q.2.2.2.2.2.2.2.2.2.2.2.2.2.2.2.2.2.2.2.1 q.2.2.2.2.2.2.2.2.2.2.2.2.2.2.2.2.2.2.2.2.1 q.2.2.2.2.2.2.2.2.2.2.2.2.2.2.2.2.2.2.2.2.2), (b.1, b.2.1, st2, be2), ?_, ?_, hab.1, hab.2.1, hst⟩
        · show fX5_worstCut_L10 _ _ _ _ _ _ _ _ _ _ _ _ _ _ _ _ _ _ _ _ _ _ (k + 1) _ _ _ _ _ _ _ _ _ _ _ _ _ _ _ _ _ _ _ _ _ _ _ _  = fX5_worstCut_L10 _ _ _ _ _ _ _ _ _ _ _ _ _ _ _ _ _ _ _ _ _ _ k _ _ _ _ _ _ _ _ _ _ _ _ _ _ _ _ _ _ _ _ _ _ _ _ 
          rw [fX5_worstCut_L10, if_neg (by rw [hnd]; exact nI_ge hi (by omega)), d1, obS, if_pos hw, nI_add]
          rfl
        · show fX6_worstCut_L10 _ (k' + 1) _ _ _ _ _ = fX6_worstCut_L10 _ k' _ _ _ _ _
          rw [hab.2.1] at hw
          rw [fX6_worstCut_L10, if_neg (by rw [hab.2.2 0 (by omega), h0]; exact nI_ge hi (by omega)), d2, obS]
          show (((if b.2.1 ≤ q.1 then some b.1 else some (nI i)) : Option Int32).bind _) = _
          rw [if_pos hw, obS]
          show (if b.2.1 ≤ q.1 then _ else _) = _
          rw [if_pos hw, nI_add]
      · refine ⟨(nI i, q.1, mkS q.2.1 q.2.2.1 q.2.2.2.1 q.2.2.2.2.1 q.2.2.2.2.2.1 q.2.2.2.2.2.2.1 q.2.2.2.2.2.2.2.1 q.2.2.2.2.2.2.2.2.1 q.2.2.2.2.2.2.2.2.2.1 q.2.2.2.2.2.2.2.2.2.2.1 q.2.2.2.2.2.2.2.2.2.2.2.1 q.2.2.2.2.2.2.2.2.2.2.2.2.1 q.2.2.2.2.2.2.2.2.2.2.2.2.2.1 q.2.2.2.2.2.2.2.2.2.2.2.2.2.2.1 q.2.2.2.2.2.2.2.2.2.2.2.2.2.2.2.1 q.2.2.2.2.2.2.2.2.2.2.2.2.2.2.2.2.1 q.2.2.2.2.2.2.2.2.2.2.2.2.2.2.2.2.2.1 q.2.2.2.2.2.2.2.2.2.2.2.2.2.2.2.2.2.2.1 q.2.2.2.2.2.2.2.2.2.2.2.2.2.2.2.2.2.2.2.1 q.2.2.2.2.2.2.2.2.2.2.2.2.2.2.2.2.2.2.2.2.1 q.2.2.2.2.2.2.2.2.2.2.2.2.2.2.2.2.2.2.2.2.2), (nI i, q.1, st2, be2), ?_, ?_, rfl, rfl, hst⟩
        · show fX5_worstCut_L10 _ _ _ _ _ _ _ _ _ _ _ _ _ _ _ _ _ _ _ _ _ _ (k + 1) _ _ _ _ _ _ _ _ _ _ _ _ _ _ _ _ _ _ _ _ _ _ _ _  = fX5_worstCut_L10 _ _ _ _ _ _ _ _ _ _ _ _ _ _ _ _ _ _ _ _ _ _ k _ _ _ _ _ _ _ _ _ _ _ _ _ _ _ _ _ _ _ _ _ _ _ _ 
          rw [fX5_worstCut_L10, if_neg (by rw [hnd]; exact nI_ge hi (by omega)), d1, obS, if_neg hw, nI_add]
          rfl
        · show fX6_worstCut_L10 _ (k' + 1) _ _ _ _ _ = fX6_worstCut_L10 _ k' _ _ _ _ _
          rw [hab.2.1] at hw
          rw [fX6_worstCut_L10, if_neg (by rw [hab.2.2 0 (by omega), h0]; exact nI_ge hi (by omega)), d2, obS]
          show (((if b.2.1 ≤ q.1 then some b.1 else some (nI i)) : Option Int32).bind _) = _
          rw [if_neg hw, obS]
          show (if b.2.1 ≤ q.1 then _ else _) = _
          rw [if_neg hw, nI_add])
    (n - 1) 1 (0, q.1, mkS q.2.1 q.2.2.1 q.2.2.2.1 q.2.2.2.2.1 q.2.2.2.2.2.1 q.2.2.2.2.2.2.1 q.2.2.2.2.2.2.2.1 q.2.2.2.2.2.2.2.2.1 q.2.2.2.2.2.2.2.2.2.1 q.2.2.2.2.2.2.2.2.2.2.1 q.2.2.2.2.2.2.2.2.2.2.2.1 q.2.2.2.2.2.2.2.2.2.2.2.2.1 q.2.2.2.2.2.2.2.2.2.2.2.2.2.1 q.2.2.2.2.2.2.2.2.2.2.2.2.2.2.1 q.2.2.2.2.2.2.2.2.2.2.2.2.2.2.2.1 q.2.2.2.2.2.2.2.2.2.2.2.2.2.2.2.2.1 q.2.2.2.2.2.2.2.2.2.2.2.2.2.2.2.2.2.1 q.2.2.2.2.2.2.2.2.2.2.2.2.2.2.2.2.2.2.1 q.2.2.2.2.2.2.2.2.2.2.2.2.2.2.2.2.2.2.2.1 q.2.2.2.2.2.2.2.2.2.2.2.2.2.2.2.2.2.2.2.2.1 q.2.2.2.2.2.2.2.2.2.2.2.2.2.2.2.2.2.2.2.2.2) (0, q.1, st1, be1) FU FU (by omega) ⟨rfl, rfl, a3⟩ (FU_gt (by omega)) (FU_gt (by omega))
  refine ⟨_, b'.2.2.1, b'.2.2.2, e1, ?_, RS.eqs (SE.rf S) hI'.2.2 h⟩
  refine (show _ = _ from e2).trans ?_
  show some (b'.1, _, _) = some (a'.1, _, _)
  rw [hI'.1]
/-- a saved snapshot -/
def SV (tk : Int32) (T : Nat → Nat → Int32) (so sv : Nat → Int32) (i : Nat) : Prop := (tk = 0 ∧ sv i = 0) ∨ (tk = nI 1 ∧ sv i = nI 1 ∧ ∃ n, RS n T (fun k => so (164 * i + k)))
theorem SV.fr {tk : Int32} {T : Nat → Nat → Int32} {so sv so' sv' : Nat → Int32} {i : Nat} (h : SV tk T so sv i) (h1 : sv' i = sv i) (h2 : ∀ k, k < 164 → so' (164 * i + k) = so (164 * i + k)) : SV tk T so' sv' i := by
  rcases h with ⟨a, b⟩ | ⟨a, b, m, c⟩
  · exact Or.inl ⟨a, h1.trans b⟩
  · exact Or.inr ⟨a, h1.trans b, m, RS.eqs (SE.rf T) h2 c⟩
theorem M_save (st so sv : Nat → Int32) {p : Nat} (hp : p < 2) : ∃ so', fX6_save st so sv (nI p) = some (st 3, so', upd sv p (nI 1)) ∧ (∀ k, k < 164 → so' (164 * p + k) = st k) ∧ ∀ j, (j < 164 * p ∨ 164 * p + 164 ≤ j) → so' j = so j := by
  have ef : fX6_in (nI p) 0 (nI 1) = some true := by
    rw [← nI_0]
    exact M_inT (by omega) (by omega) (by omega)
  have h := loopF (F := fun f a y => fX6_save_L14 st (nI p) (fun x2_14 v_t_so_14 v_t_sv_14 => (if ((nI p) < 0 ∨ 2 ≤ (nI p).toNatClampNeg) then none else (some ((st 3), v_t_so_14, (upd v_t_sv_14 (nI p).toNatClampNeg (nI 1)))))) f y a sv) (K := fun a => some (st 3, a, upd sv p (nI 1))) (N := 164) (g := fun i a => upd a (164 * p + i) (st i)) (fun _ _ => True)
    (fun f a _ => by
      show fX6_save_L14 _ _ _ (f + 1) _ _ _ = _
      rw [fX6_save_L14, if_pos (nI_le (Nat.le_refl _) (by omega)), gI hp (by decide), nI_clamp (by omega)])
    (fun f a i hi _ => ⟨by
      show fX6_save_L14 _ _ _ (f + 1) _ _ _ = fX6_save_L14 _ _ _ f _ _ _
      rw [fX6_save_L14, if_neg (nI_ge hi (by omega)), pk_mul, nI_add, nI_add, gI hi (by omega), gI (by omega) (by omega), nI_clamp (by omega), nI_clamp (by omega), nI_clamp (by omega)], trivial⟩) 164 0 so FU (by omega) trivial (FU_gt (by omega))
  rw [nI_0] at h
  have hz := fo_inv (g := fun i a => upd a (164 * p + i) (st i)) (N := 164) (fun i a => (∀ k, k < i → a (164 * p + k) = st k) ∧ ∀ j, (j < 164 * p ∨ 164 * p + 164 ≤ j) → a j = so j) (fun i a hi ha => ⟨fun k hk => by
    show upd a (164 * p + i) (st i) (164 * p + k) = st k
    by_cases e : k = i
    · rw [e, upd_at]
    · rw [upd_ne (by omega)]; exact ha.1 k (by omega), fun j hj => by
    show upd a (164 * p + i) (st i) j = so j
    rw [upd_ne (by omega)]; exact ha.2 j hj⟩) 164 0 so (by omega) ⟨fun k hk => by omega, fun _ _ => rfl⟩
  refine ⟨_, ?_, hz.1, hz.2⟩
  unfold fX6_save
  rw [ef, obS, if_pos rfl]
  exact h
theorem M_restore (st so sv : Nat → Int32) {p : Nat} (hp : p < 2) (hs : ¬ sv p = 0) : ∃ st', fX6_restore st so sv (nI p) = some (st' 3, st') ∧ ∀ k, k < 164 → st' k = so (164 * p + k) := by
  have ef : fX6_in (nI p) 0 (nI 1) = some true := by
    rw [← nI_0]
    exact M_inT (by omega) (by omega) (by omega)
  have h := loopF (F := fun f a y => fX6_restore_L26 so sv (nI p) (fun x2_26 v_t_st_26 => (some ((v_t_st_26 3), v_t_st_26))) f y a) (K := fun a => some (a 3, a)) (N := 164) (g := fun i a => upd a i (so (164 * p + i))) (fun _ _ => True)
    (fun f a _ => by
      show fX6_restore_L26 _ _ _ _ (f + 1) _ _ = _
      rw [fX6_restore_L26, if_pos (nI_le (Nat.le_refl _) (by omega))])
    (fun f a i hi _ => ⟨by
      show fX6_restore_L26 _ _ _ _ (f + 1) _ _ = fX6_restore_L26 _ _ _ _ f _ _
      rw [fX6_restore_L26, if_neg (nI_ge hi (by omega)), pk_mul, nI_add, nI_add, gI (by omega) (by omega), gI hi (by omega), nI_clamp (by omega), nI_clamp (by omega)], trivial⟩) 164 0 st FU (by omega) trivial (FU_gt (by omega))
  rw [nI_0] at h
  have hz := fo_inv (g := fun i a => upd a i (so (164 * p + i))) (N := 164) (fun i a => ∀ k, k < i → a k = so (164 * p + k)) (fun i a hi ha k hk => by
    show upd a i (so (164 * p + i)) k = so (164 * p + k)
    by_cases e : k = i
    · rw [e, upd_at]
    · rw [upd_ne e]; exact ha k (by omega)) 164 0 st (by omega) (fun k hk => by omega)
  refine ⟨_, ?_, hz⟩
  unfold fX6_restore
  rw [ef, obS, if_pos rfl, gI hp (by decide), nI_clamp (by omega), if_neg hs]
  exact h
theorem out2 {v : Int32} (ho : outR 2 v) : fX6_in v 0 (nI 1) = some false ∧ (v < 0 ∨ (¬ v < 0 ∧ ¬ v ≤ nI 1)) := by
  refine ⟨?_, ?_⟩
  · rw [← nI_0]
    exact M_inF (by omega) (by omega) (by rw [nI_0]; exact ho)
  · by_cases hz : v < 0
    · exact Or.inl hz
    · refine Or.inr ⟨hz, ?_⟩
      have := i_le.mp (ho.resolve_left hz)
      rw [i_le]
      rw [nI_toInt (by omega)] at this ⊢
      omega
theorem P_save (h : RS n S st) {k0 k1 : Int32} {T U : Nat → Nat → Int32} {so sv : Nat → Int32} (h0 : SV k0 T so sv 0) (h1 : SV k1 U so sv 1) (v : Int32) :
    ∃ q q', fX5_save (S 0 0) (S 1 0) (S 2) (S 3) (S 4) (S 5) (S 6 0) (S 7 0) (S 8 0) (S 9 0) (S 10 0) (S 11 0) (S 12 0) (S 13 0) (S 14 0) (S 15 0) (S 16) (S 17) (S 18) (S 19) (S 20) k0 (T 0 0) (T 1 0) (T 2) (T 3) (T 4) (T 5) (T 6 0) (T 7 0) (T 8 0) (T 9 0) (T 10 0) (T 11 0) (T 12 0) (T 13 0) (T 14 0) (T 15 0) (T 16) (T 17) (T 18) (T 19) (T 20) k1 (U 0 0) (U 1 0) (U 2) (U 3) (U 4) (U 5) (U 6 0) (U 7 0) (U 8 0) (U 9 0) (U 10 0) (U 11 0) (U 12 0) (U 13 0) (U 14 0) (U 15 0) (U 16) (U 17) (U 18) (U 19) (U 20) v = some q ∧ fX6_save st so sv v = some q' ∧ q.1 = q'.1 ∧ SV q.2.1 (mkS q.2.2.1 q.2.2.2.1 q.2.2.2.2.1 q.2.2.2.2.2.1 q.2.2.2.2.2.2.1 q.2.2.2.2.2.2.2.1 q.2.2.2.2.2.2.2.2.1 q.2.2.2.2.2.2.2.2.2.1 q.2.2.2.2.2.2.2.2.2.2.1 q.2.2.2.2.2.2.2.2.2.2.2.1 q.2.2.2.2.2.2.2.2.2.2.2.2.1 q.2.2.2.2.2.2.2.2.2.2.2.2.2.1 q.2.2.2.2.2.2.2.2.2.2.2.2.2.2.1 q.2.2.2.2.2.2.2.2.2.2.2.2.2.2.2.1 q.2.2.2.2.2.2.2.2.2.2.2.2.2.2.2.2.1 q.2.2.2.2.2.2.2.2.2.2.2.2.2.2.2.2.2.1 q.2.2.2.2.2.2.2.2.2.2.2.2.2.2.2.2.2.2.1 q.2.2.2.2.2.2.2.2.2.2.2.2.2.2.2.2.2.2.2.1 q.2.2.2.2.2.2.2.2.2.2.2.2.2.2.2.2.2.2.2.2.1 q.2.2.2.2.2.2.2.2.2.2.2.2.2.2.2.2.2.2.2.2.2.1 q.2.2.2.2.2.2.2.2.2.2.2.2.2.2.2.2.2.2.2.2.2.2.1) q'.2.1 q'.2.2 0 ∧ SV q.2.2.2.2.2.2.2.2.2.2.2.2.2.2.2.2.2.2.2.2.2.2.2.1 (mkS q.2.2.2.2.2.2.2.2.2.2.2.2.2.2.2.2.2.2.2.2.2.2.2.2.1 q.2.2.2.2.2.2.2.2.2.2.2.2.2.2.2.2.2.2.2.2.2.2.2.2.2.1 q.2.2.2.2.2.2.2.2.2.2.2.2.2.2.2.2.2.2.2.2.2.2.2.2.2.2.1 q.2.2.2.2.2.2.2.2.2.2.2.2.2.2.2.2.2.2.2.2.2.2.2.2.2.2.2.1 q.2.2.2.2.2.2.2.2.2.2.2.2.2.2.2.2.2.2.2.2.2.2.2.2.2.2.2.2.1 q.2.2.2.2.2.2.2.2.2.2.2.2.2.2.2.2.2.2.2.2.2.2.2.2.2.2.2.2.2.1 q.2.2.2.2.2.2.2.2.2.2.2.2.2.2.2.2.2.2.2.2.2.2.2.2.2.2.2.2.2.2.1 q.2.2.2.2.2.2.2.2.2.2.2.2.2.2.2.2.2.2.2.2.2.2.2.2.2.2.2.2.2.2.2.1 q.2.2.2.2.2.2.2.2.2.2.2.2.2.2.2.2.2.2.2.2.2.2.2.2.2.2.2.2.2.2.2.2.1 q.2.2.2.2.2.2.2.2.2.2.2.2.2.2.2.2.2.2.2.2.2.2.2.2.2.2.2.2.2.2.2.2.2.1 q.2.2.2.2.2.2.2.2.2.2.2.2.2.2.2.2.2.2.2.2.2.2.2.2.2.2.2.2.2.2.2.2.2.2.1 q.2.2.2.2.2.2.2.2.2.2.2.2.2.2.2.2.2.2.2.2.2.2.2.2.2.2.2.2.2.2.2.2.2.2.2.1 q.2.2.2.2.2.2.2.2.2.2.2.2.2.2.2.2.2.2.2.2.2.2.2.2.2.2.2.2.2.2.2.2.2.2.2.2.1 q.2.2.2.2.2.2.2.2.2.2.2.2.2.2.2.2.2.2.2.2.2.2.2.2.2.2.2.2.2.2.2.2.2.2.2.2.2.1 q.2.2.2.2.2.2.2.2.2.2.2.2.2.2.2.2.2.2.2.2.2.2.2.2.2.2.2.2.2.2.2.2.2.2.2.2.2.2.1 q.2.2.2.2.2.2.2.2.2.2.2.2.2.2.2.2.2.2.2.2.2.2.2.2.2.2.2.2.2.2.2.2.2.2.2.2.2.2.2.1 q.2.2.2.2.2.2.2.2.2.2.2.2.2.2.2.2.2.2.2.2.2.2.2.2.2.2.2.2.2.2.2.2.2.2.2.2.2.2.2.2.1 q.2.2.2.2.2.2.2.2.2.2.2.2.2.2.2.2.2.2.2.2.2.2.2.2.2.2.2.2.2.2.2.2.2.2.2.2.2.2.2.2.2.1 q.2.2.2.2.2.2.2.2.2.2.2.2.2.2.2.2.2.2.2.2.2.2.2.2.2.2.2.2.2.2.2.2.2.2.2.2.2.2.2.2.2.2.1 q.2.2.2.2.2.2.2.2.2.2.2.2.2.2.2.2.2.2.2.2.2.2.2.2.2.2.2.2.2.2.2.2.2.2.2.2.2.2.2.2.2.2.2.1 q.2.2.2.2.2.2.2.2.2.2.2.2.2.2.2.2.2.2.2.2.2.2.2.2.2.2.2.2.2.2.2.2.2.2.2.2.2.2.2.2.2.2.2.2) q'.2.1 q'.2.2 1 := by
  have keep : ∀ {k : Int32} {W : Nat → Nat → Int32} {i : Nat}, SV k W so sv i → SV k (mkS (W 0 0) (W 1 0) (W 2) (W 3) (W 4) (W 5) (W 6 0) (W 7 0) (W 8 0) (W 9 0) (W 10 0) (W 11 0) (W 12 0) (W 13 0) (W 14 0) (W 15 0) (W 16) (W 17) (W 18) (W 19) (W 20)) so sv i := fun hk => by
    rcases hk with a | ⟨a, b, m, c⟩
    · exact Or.inl a
    · exact Or.inr ⟨a, b, m, c⟩
  have htm : st 3 = S 0 0 := h.1.2.2.2.2.2.2
  unfold fX5_save
  rcases inR 2 (by omega) v with ho | ⟨p, hp, rfl⟩
  · obtain ⟨e1, e2 | ⟨e2, e3⟩⟩ := out2 ho
    · rw [if_pos e2]
      exact ⟨_, _, rfl, by unfold fX6_save; rw [e1, obS]; rfl, rfl, keep h0, keep h1⟩
    · rw [if_neg e2, if_neg e3]
      exact ⟨_, _, rfl, by unfold fX6_save; rw [e1, obS]; rfl, rfl, keep h0, keep h1⟩
  · obtain ⟨so', a1, a2, a3⟩ := M_save st so sv hp
    rw [if_neg (nI_pos (by omega)), if_pos (by rw [nI_leI (by omega) (by omega)]; omega), a1]
    by_cases e : p = 0
    · subst e
      obtain ⟨fe, se, pa, sl, cmd, tim, hel, dir, seg, c1, c2⟩ := C_copy T S
      rw [if_pos nI_0, c1, obS]
      refine ⟨_, _, rfl, rfl, htm.symm, Or.inr ⟨rfl, show upd sv 0 (nI 1) 0 = nI 1 from upd_at, n, RS.eqs c2 a2 h⟩, ?_⟩
      exact SV.fr (keep h1) (show upd sv 0 (nI 1) 1 = sv 1 from upd_ne (by omega)) (fun k hk => a3 _ (by omega))
    · have e : p = 1 := by omega
      subst e
      obtain ⟨fe, se, pa, sl, cmd, tim, hel, dir, seg, c1, c2⟩ := C_copy U S
      rw [if_neg (by decide), c1, obS]
      refine ⟨_, _, rfl, rfl, htm.symm, ?_, Or.inr ⟨rfl, show upd sv 1 (nI 1) 1 = nI 1 from upd_at, n, RS.eqs c2 a2 h⟩⟩
      exact SV.fr (keep h0) (show upd sv 1 (nI 1) 0 = sv 0 from upd_ne (by omega)) (fun k hk => a3 _ (by omega))
theorem P_restore (h : RS n S st) {k0 k1 : Int32} {T U : Nat → Nat → Int32} {so sv : Nat → Int32} (h0 : SV k0 T so sv 0) (h1 : SV k1 U so sv 1) (v : Int32) :
    ∃ q q', fX5_restore (S 0 0) (S 1 0) (S 2) (S 3) (S 4) (S 5) (S 6 0) (S 7 0) (S 8 0) (S 9 0) (S 10 0) (S 11 0) (S 12 0) (S 13 0) (S 14 0) (S 15 0) (S 16) (S 17) (S 18) (S 19) (S 20) k0 (T 0 0) (T 1 0) (T 2) (T 3) (T 4) (T 5) (T 6 0) (T 7 0) (T 8 0) (T 9 0) (T 10 0) (T 11 0) (T 12 0) (T 13 0) (T 14 0) (T 15 0) (T 16) (T 17) (T 18) (T 19) (T 20) k1 (U 0 0) (U 1 0) (U 2) (U 3) (U 4) (U 5) (U 6 0) (U 7 0) (U 8 0) (U 9 0) (U 10 0) (U 11 0) (U 12 0) (U 13 0) (U 14 0) (U 15 0) (U 16) (U 17) (U 18) (U 19) (U 20) v = some q ∧ fX6_restore st so sv v = some q' ∧ q.1 = q'.1 ∧ ∃ n', RS n' (mkS q.2.1 q.2.2.1 q.2.2.2.1 q.2.2.2.2.1 q.2.2.2.2.2.1 q.2.2.2.2.2.2.1 q.2.2.2.2.2.2.2.1 q.2.2.2.2.2.2.2.2.1 q.2.2.2.2.2.2.2.2.2.1 q.2.2.2.2.2.2.2.2.2.2.1 q.2.2.2.2.2.2.2.2.2.2.2.1 q.2.2.2.2.2.2.2.2.2.2.2.2.1 q.2.2.2.2.2.2.2.2.2.2.2.2.2.1 q.2.2.2.2.2.2.2.2.2.2.2.2.2.2.1 q.2.2.2.2.2.2.2.2.2.2.2.2.2.2.2.1 q.2.2.2.2.2.2.2.2.2.2.2.2.2.2.2.2.1 q.2.2.2.2.2.2.2.2.2.2.2.2.2.2.2.2.2.1 q.2.2.2.2.2.2.2.2.2.2.2.2.2.2.2.2.2.2.1 q.2.2.2.2.2.2.2.2.2.2.2.2.2.2.2.2.2.2.2.1 q.2.2.2.2.2.2.2.2.2.2.2.2.2.2.2.2.2.2.2.2.1 q.2.2.2.2.2.2.2.2.2.2.2.2.2.2.2.2.2.2.2.2.2) q'.2 := by
  unfold fX5_restore
  rcases inR 2 (by omega) v with ho | ⟨p, hp, rfl⟩
  · obtain ⟨e1, e2 | ⟨e2, e3⟩⟩ := out2 ho
    · rw [if_pos e2]
      exact ⟨_, (-4, st), rfl, by unfold fX6_restore; rw [e1, obS]; rfl, rfl, n, h⟩
    · rw [if_neg e2, if_neg e3]
      exact ⟨_, (-4, st), rfl, by unfold fX6_restore; rw [e1, obS]; rfl, rfl, n, h⟩
  · have ef : fX6_in (nI p) 0 (nI 1) = some true := by
      rw [← nI_0]
      exact M_inT (by omega) (by omega) (by omega)
    rw [if_neg (nI_pos (by omega)), if_pos (by rw [nI_leI (by omega) (by omega)]; omega)]
    have un : sv p = 0 → fX6_restore st so sv (nI p) = some (-8, st) := fun hs => by
      unfold fX6_restore
      rw [ef, obS, if_pos rfl, gI hp (by decide), nI_clamp (by omega), if_pos hs]
    by_cases e : p = 0
    · subst e
      rw [if_pos nI_0]
      rcases h0 with ⟨a, b⟩ | ⟨a, b, m, c⟩
      · rw [if_pos a, un b]
        exact ⟨_, _, rfl, rfl, rfl, n, h⟩
      · obtain ⟨st', d1, d2⟩ := M_restore st so sv hp (by rw [b]; decide)
        obtain ⟨fe, se, pa, sl, cmd, tim, hel, dir, seg, c1, c2⟩ := C_copy S T
        have hr := RS.eqs c2 d2 c
        rw [if_neg (by rw [a]; decide), c1, obS, d1]
        exact ⟨_, _, rfl, rfl, hr.1.2.2.2.2.2.2.symm, m, hr⟩
    · have e : p = 1 := by omega
      subst e
      rw [if_neg (by decide)]
      rcases h1 with ⟨a, b⟩ | ⟨a, b, m, c⟩
      · rw [if_pos a, un b]
        exact ⟨_, _, rfl, rfl, rfl, n, h⟩
      · obtain ⟨st', d1, d2⟩ := M_restore st so sv hp (by rw [b]; decide)
        obtain ⟨fe, se, pa, sl, cmd, tim, hel, dir, seg, c1, c2⟩ := C_copy S U
        have hr := RS.eqs c2 d2 c
        rw [if_neg (by rw [a]; decide), c1, obS, d1]
        exact ⟨_, _, rfl, rfl, hr.1.2.2.2.2.2.2.symm, m, hr⟩
end PB6
