/-! PURE PART 14: the queries -/
section PB5
variable {n : Nat} {S : Nat → Nat → Int32} {st : Nat → Int32}
theorem P_circuitCount (h : RS n S st) : ∃ r, fX5_circuitCount (S 4) = some r ∧ fX6_circuitCount st = some r := by
  obtain ⟨n1, n2⟩ := P_count h.2.2.2.2.2
  unfold fX5_circuitCount
  rw [n1, obS]
  exact ⟨_, rfl, n2⟩
theorem P_circuitsOn (h : RS n S st) (v : Int32) : ∃ r, fX5_circuitsOn (S 4) (S 14 0) v = some r ∧ fX6_circuitsOn st v = some r := by
  obtain ⟨⟨hn, h8, h0, hnd, -⟩, hM, hC, hS, hA, hI⟩ := h
  rw [hnd]
  rcases inR n (by omega) v with ho | ⟨j, hj, rfl⟩
  · unfold fX5_circuitsOn fX6_circuitsOn
    rw [C_hasSF ho, obS, M_isSpanF h0 hn h8 ho, obS]; exact ⟨_, rfl, rfl⟩
  · refine ⟨_, ?_, M_cirOn h0 hn h8 hI hj⟩
    unfold fX5_circuitsOn
    rw [C_hasST h8 hj, obS, if_pos rfl, C_cross, obS]
    congr 1
    refine msk_congr (fun c hc => ?_)
    rw [cr_us hI h8 (P := fun s => decide (s = j)) (fun s hs => tb_bt (by omega) s) hc, any_one hj]
theorem P_pathLength (h : RS n S st) (v : Int32) : ∃ r, fX5_pathLength (S 4) v = some r ∧ fX6_pathLength st v = some r := by
  obtain ⟨⟨hn, h8, h0, hnd, -⟩, hM, hC, hS, hA, hI⟩ := h
  unfold fX5_pathLength fX6_pathLength
  rcases inR 16 (by omega) v with ho | ⟨c, hc, rfl⟩
  · rw [C_hasNF ho, obS, M_isCircF ho, obS]; exact ⟨_, rfl, rfl⟩
  · rw [C_has hc, obS, has_us hI hc, M_isCirc hc, obS, show decide (cq st c 0 = nI 1) = us st c from rfl]
    cases hu : us st c
    · exact ⟨_, rfl, rfl⟩
    · obtain ⟨hv, hp, hb, hz, _⟩ := us_v hI hc hu
      rw [if_pos rfl, if_pos rfl, C_path hc hp, obS, F_bc h8 hz, obS, M_len h0 hn h8 hc hv, obS, cn_congr hb]
      exact ⟨_, rfl, rfl⟩
theorem P_clock (h : RS n S st) : ∃ r, fX5_clock (S 0 0) = some r ∧ fX6_clock st = some r := by
  obtain ⟨⟨hn, h8, h0, hnd, -, -, htm⟩, -⟩ := h
  exact ⟨_, rfl, by unfold fX6_clock; rw [htm]⟩
theorem rq_same {s : Nat} {d d' t h h' : Int32} (e1 : d = d') (e2 : ¬ t ≤ 0 → h = h') : rqv d t h = rqv d' t h' := by
  subst e1
  unfold rqv
  by_cases a : d = 0
  · rw [if_pos a, if_pos a]
    by_cases b : t ≤ 0
    · rw [if_pos b, if_pos b]
    · rw [if_neg b, if_neg b, e2 b]
  · rw [if_neg a, if_neg a]
theorem P_request (h : RS n S st) (v : Int32) : ∃ r, fX5_request (S 14 0) (S 17) (S 18) (S 19) v = some r ∧ fX6_request st v = some r := by
  obtain ⟨⟨hn, h8, h0, hnd, -⟩, hM, hC, hS, hA, hI⟩ := h
  rw [hnd]
  unfold fX5_request fX6_request
  rcases inR n (by omega) v with ho | ⟨j, hj, rfl⟩
  · rw [C_hasSF ho, obS, M_isSpanF h0 hn h8 ho, obS]; exact ⟨_, rfl, rfl⟩
  · rw [C_hasST h8 hj, obS, if_pos rfl, M_isSpanT h0 hn h8 hj, obS, if_pos rfl, C_rqAt h8 hj, obS, M_rq h0 hn h8 hj (hM j hj).2.2.2.2.1, obS]
    obtain ⟨k1, -, k4, k5⟩ := hC j hj
    refine ⟨_, rfl, ?_⟩
    unfold rq
    rw [k1, rq_same (s := 0) (k5.trans (hA j hj).2.2.2) (fun e => (k4 e).1)]
theorem P_switchOf (h : RS n S st) (v : Int32) : ∃ r, fX5_switchOf (S 12 0) (S 13 0) (S 14 0) v = some r ∧ fX6_switchOf st v = some r := by
  obtain ⟨⟨hn, h8, h0, hnd, -⟩, hM, hC, hS, hA, hI⟩ := h
  rw [hnd]
  unfold fX5_switchOf fX6_switchOf
  rcases inR n (by omega) v with ho | ⟨j, hj, rfl⟩
  · rw [C_hasSF ho, obS, M_isSpanF h0 hn h8 ho, obS]; exact ⟨_, rfl, rfl⟩
  · rw [C_hasST h8 hj, obS, if_pos rfl, M_isSpanT h0 hn h8 hj, obS, if_pos rfl, C_swAt (by omega), obS, M_of (by omega) (by decide), obS]
    obtain ⟨k1, k2, k3⟩ := hS.1 j hj
    refine ⟨_, rfl, ?_⟩
    rw [k2, k3]
    rcases k1 with e | e | e <;> rw [e] <;> rfl
theorem P_restoreTimer (h : RS n S st) (v : Int32) : ∃ r, fX5_restoreTimer (S 14 0) (S 17) v = some r ∧ fX6_restoreTimer st v = some r := by
  obtain ⟨⟨hn, h8, h0, hnd, -⟩, hM, hC, hS, hA, hI⟩ := h
  rw [hnd]
  unfold fX5_restoreTimer fX6_restoreTimer fX1_timerAt
  rcases inR n (by omega) v with ho | ⟨j, hj, rfl⟩
  · rw [C_hasSF ho, obS, M_isSpanF h0 hn h8 ho, obS]; exact ⟨_, rfl, rfl⟩
  · rw [C_hasST h8 hj, obS, if_pos rfl, obS, if_pos rfl, gI (by omega) (by decide), nI_clamp (by omega), obS, M_isSpanT h0 hn h8 hj, obS, if_pos rfl, M_of (by omega) (by decide), obS]
    exact ⟨_, rfl, by rw [(hC j hj).1]⟩
theorem P_segment (h : RS n S st) (v : Int32) : ∃ r, fX5_segment (S 14 0) (S 20) v = some r ∧ fX6_segment st v = some r := by
  obtain ⟨⟨hn, h8, h0, hnd, -⟩, hM, hC, hS, hA, hI⟩ := h
  rw [hnd]
  unfold fX5_segment fX6_segment
  rcases inR n (by omega) v with ho | ⟨j, hj, rfl⟩
  · rw [C_hasF ho, obS, M_isNodeF h0 hn h8 ho, obS]; exact ⟨_, rfl, rfl⟩
  · rw [C_hasT h8 hj, obS, if_pos rfl, C_segOf h8 hj, obS, M_isNodeT h0 hn h8 hj, obS, if_pos rfl, M_seg h0 hn h8 (fun s hs => (hS.1 s hs).2.2.symm) (fun i hi => (hS.2 i hi).2) hj, obS]
    exact ⟨_, rfl, by rw [(hA j hj).2.2.1]⟩
theorem P_state (h : RS n S st) (v : Int32) : ∃ r, fX5_state (S 1 0) (S 2) (S 3) (S 4) (S 10 0) (S 11 0) (S 12 0) (S 13 0) (S 14 0) (S 20) v = some r ∧ fX6_state st v = some r := by
  obtain ⟨⟨hn, h8, h0, hnd, -⟩, hM, hC, hS, hA, hI⟩ := h
  rw [hnd]
  unfold fX5_state fX6_state
  rcases inR 16 (by omega) v with ho | ⟨c, hc, rfl⟩
  · rw [C_hasNF ho, obS, M_isCircF ho, obS]; exact ⟨_, rfl, rfl⟩
  · rw [C_has hc, obS, has_us hI hc, M_isCirc hc, obS, show decide (cq st c 0 = nI 1) = us st c from rfl]
    cases hu : us st c
    · exact ⟨_, rfl, rfl⟩
    · rw [if_pos rfl, if_pos rfl, C_state hn h8 hS hA hI hc hu, obS, M_state h0 hn h8 (fun s hs => (hS.1 s hs).2.2.symm) (fun i hi => (hS.2 i hi).2) hc (us_v hI hc hu).1, obS]
      exact ⟨_, rfl, rfl⟩
theorem P_circuitsIn (h : RS n S st) (v : Int32) : ∃ r, fX5_circuitsIn (S 1 0) (S 2) (S 3) (S 4) (S 10 0) (S 11 0) (S 12 0) (S 13 0) (S 14 0) (S 20) v = some r ∧ fX6_circuitsIn st v = some r := by
  obtain ⟨⟨hn, h8, h0, hnd, -⟩, hM, hC, hS, hA, hI⟩ := h
  rw [hnd]
  unfold fX5_circuitsIn fX6_circuitsIn
  rcases inR 6 (by omega) v with ho | ⟨t, ht, rfl⟩
  · have ef : fX6_in v 0 (nI 5) = some false := by
      rw [← nI_0]
      exact M_inF (by omega) (by omega) (by rw [nI_0]; exact ho)
    rw [ef, obS]
    by_cases hz : v < 0
    · rw [if_pos hz]; exact ⟨_, rfl, rfl⟩
    · have hz2 : ¬ v ≤ nI 5 := by
        have := i_le.mp (ho.resolve_left hz)
        rw [i_le]
        rw [nI_toInt (by omega)] at this ⊢
        omega
      rw [if_neg hz, if_neg hz2]; exact ⟨_, rfl, rfl⟩
  · have ef : fX6_in (nI t) 0 (nI 5) = some true := by
      rw [← nI_0]
      exact M_inT (by omega) (by omega) (by omega)
    rw [ef, obS, if_neg (nI_pos (by omega)), if_pos (by rw [nI_leI (by omega) (by omega)]; omega), if_pos rfl, C_allIn hn h8 hS hA hI, obS, M_cirIn h0 hn h8 (fun s hs => (hS.1 s hs).2.2.symm) (fun i hi => (hS.2 i hi).2) hI]
    exact ⟨_, rfl, rfl⟩
theorem P_deliveredCount (h : RS n S st) : ∃ r, fX5_deliveredCount (S 1 0) (S 2) (S 3) (S 4) (S 10 0) (S 11 0) (S 12 0) (S 13 0) (S 14 0) (S 20) = some r ∧ fX6_deliveredCount st = some r := by
  obtain ⟨⟨hn, h8, h0, hnd, -⟩, hM, hC, hS, hA, hI⟩ := h
  rw [hnd]
  unfold fX5_deliveredCount
  rw [C_delC hn h8 hS hA hI, obS]
  exact ⟨_, rfl, M_delC h0 hn h8 (fun s hs => (hS.1 s hs).2.2.symm) (fun i hi => (hS.2 i hi).2) hI⟩
theorem P_hops (h : RS n S st) (v : Int32) : ∃ r, fX5_hops (S 1 0) (S 2) (S 3) (S 4) (S 10 0) (S 11 0) (S 12 0) (S 13 0) (S 14 0) (S 20) v = some r ∧ fX6_hops st v = some r := by
  obtain ⟨⟨hn, h8, h0, hnd, -⟩, hM, hC, hS, hA, hI⟩ := h
  have hR : ∀ s, s < n → decide (sp st s 6 = nI 2) = tb (S 13 0) s := fun s hs => (hS.1 s hs).2.2.symm
  have hz : ∀ i, n ≤ i → tb (S 13 0) i = false := fun i hi => (hS.2 i hi).2
  rw [hnd]
  unfold fX5_hops fX6_hops
  rcases inR 16 (by omega) v with ho | ⟨c, hc, rfl⟩
  · rw [C_hasNF ho, obS, M_isCircF ho, obS]; exact ⟨_, rfl, rfl⟩
  · rw [C_has hc, obS, has_us hI hc, M_isCirc hc, obS, show decide (cq st c 0 = nI 1) = us st c from rfl]
    cases hu : us st c
    · exact ⟨_, rfl, rfl⟩
    · rw [if_pos rfl, if_pos rfl, C_hops hn h8 hS hA hI hc hu, obS, M_isDel h0 hn h8 hR hz hI hc, obS, hu, Bool.true_and]
      cases dl (cst n st (S 13 0) c)
      · exact ⟨_, rfl, rfl⟩
      · rw [if_pos rfl, if_pos rfl, M_hops h0 hn h8 hR hz hc (us_v hI hc hu).1, obS]
        exact ⟨_, rfl, rfl⟩
theorem P_averageHops (h : RS n S st) : ∃ r, fX5_averageHops (S 1 0) (S 2) (S 3) (S 4) (S 10 0) (S 11 0) (S 12 0) (S 13 0) (S 14 0) (S 20) = some r ∧ fX6_averageHops st = some r := by
  obtain ⟨⟨hn, h8, h0, hnd, -⟩, hM, hC, hS, hA, hI⟩ := h
  have hR : ∀ s, s < n → decide (sp st s 6 = nI 2) = tb (S 13 0) s := fun s hs => (hS.1 s hs).2.2.symm
  have hz : ∀ i, n ≤ i → tb (S 13 0) i = false := fun i hi => (hS.2 i hi).2
  rw [hnd]
  unfold fX5_averageHops
  rw [C_delC hn h8 hS hA hI, obS, C_sumH hn h8 hS hA hI, obS, M_avg h0 hn h8 hR hz hI]
  have hle := cn_le (dv n st (S 13 0)) 16
  generalize cn (dv n st (S 13 0)) 16 = d at hle
  by_cases e : d = 0
  · subst e
    rw [if_neg (by decide), if_pos nI_0]
    exact ⟨_, rfl, rfl⟩
  · have k1 : (0 : Int32) < nI d := by
      rw [i_lt, i0, nI_toInt (by omega)]; omega
    have k2 : ¬ nI d = 0 := nI_ne0 (by omega) (by omega)
    rw [if_pos k1, if_neg k2, if_neg k2]
    exact ⟨_, rfl, rfl⟩
theorem any_two {P : Nat → Bool} {R : Nat → Bool} {v w : Nat} (hv : v < n) (hw : w < n) : any1 (fun s => P s && ((decide (s = v) || decide (s = w)) && R s)) n 0 = ((P v && R v) || (P w && R w)) := by
  cases h : ((P v && R v) || (P w && R w))
  · rw [any0_f]
    rw [Bool.or_eq_false_iff] at h
    intro j _
    by_cases e : j = v
    · rw [e]; rcases h.1 with h1; cases hp : P v
      · rfl
      · rw [hp] at h1; simp at h1; simp [h1]
    · by_cases e2 : j = w
      · rw [e2]; cases hp : P w
        · rfl
        · have h2 := h.2
          rw [hp] at h2; simp at h2; simp [h2]
      · simp [e, e2]
  · rw [any0_iff]
    rw [Bool.or_eq_true] at h
    rcases h with h | h
    · rw [Bool.and_eq_true] at h
      exact ⟨v, hv, by simp [h.1, h.2]⟩
    · rw [Bool.and_eq_true] at h
      exact ⟨w, hw, by simp [h.1, h.2]⟩
theorem P_squelchedAt (h : RS n S st) (v : Int32) : ∃ r, fX5_squelchedAt (S 1 0) (S 2) (S 3) (S 4) (S 10 0) (S 11 0) (S 12 0) (S 13 0) (S 14 0) (S 20) v = some r ∧ fX6_squelchedAt st v = some r := by
  obtain ⟨⟨hn, h8, h0, hnd, -⟩, hM, hC, hS, hA, hI⟩ := h
  have hR : ∀ s, s < n → decide (sp st s 6 = nI 2) = tb (S 13 0) s := fun s hs => (hS.1 s hs).2.2.symm
  have hz : ∀ i, n ≤ i → tb (S 13 0) i = false := fun i hi => (hS.2 i hi).2
  rw [hnd]
  unfold fX5_squelchedAt fX6_squelchedAt
  rcases inR n (by omega) v with ho | ⟨j, hj, rfl⟩
  · rw [C_hasF ho, obS, M_isNodeF h0 hn h8 ho, obS]; exact ⟨_, rfl, rfl⟩
  · have hw : (j + n - 1) % n < n := Nat.mod_lt _ (by omega)
    have es : fX2_spansAt (nI n) (nI j) = some (((nI 1) <<< (nI j &&& 31)) ||| ((nI 1) <<< (nI ((j + n - 1) % n) &&& 31))) := by
      unfold fX2_spansAt
      by_cases e : j = 0
      · subst e
        rw [if_pos (by decide), obS, pk_sub (by omega), Nat.zero_add, Nat.mod_eq_of_lt (by omega)]
      · have e2 : (j + n - 1) % n = j - 1 := by
          rw [show j + n - 1 = (j - 1) + n by omega, Nat.add_mod_right, Nat.mod_eq_of_lt (by omega)]
        have e3 : ¬ nI j ≤ 0 := by rw [i_le, i0, nI_toInt (by omega)]; omega
        rw [if_neg e3, obS, pk_sub (by omega), e2]
    have hm : (nI j + st 0 - nI 1) - (nI j + st 0 - nI 1) / (st 0) * (st 0) = nI ((j + n - 1) % n) := by
      rw [h0, nI_add, pk_sub (by omega), pk_rem (by omega) (by omega) (by omega)]
    rw [C_hasT h8 hj, obS, if_pos rfl, es, obS, C_allIn hn h8 hS hA hI, obS, C_cross, obS, M_isNodeT h0 hn h8 hj, obS, if_pos rfl, if_neg (by rw [h0]; exact nI_ne0 (by omega) (by omega)), hm]
    generalize (j + n - 1) % n = w at hw
    refine ⟨_, rfl, ?_⟩
    have hsw : ∀ c s, c < 16 → s < n → VC n st c → fX6_switchesAt st (nI c) (nI s) = some (pth n st c s && tb (S 13 0) s) := fun c s hc hs hv => by
      unfold fX6_switchesAt
      rw [M_isOn h0 hn h8 hc hs hv, obS, M_of (by omega) (by decide), obS, ← hR s hs]
      cases pth n st c s
      · rfl
      · rw [if_pos rfl]
        by_cases e : sp st s 6 = nI 2
        · rw [if_pos e]; simp [e]
        · rw [if_neg e]; simp [e]
    have hl := loopF (F := fun f a y => fX6_squelchedAt_L33 st (nI j) (fun x2_33 x3_33 x4_33 => (some x3_33)) f (nI w) a y) (K := fun a => some a) (N := 16) (g := mskG (fun c => us st c && (decide (cst n st (S 13 0) c = nI 3) && ((pth n st c j && tb (S 13 0) j) || (pth n st c w && tb (S 13 0) w))))) (fun _ _ => True)
      (fun f a _ => by
        show fX6_squelchedAt_L33 _ _ _ (f + 1) _ _ _ = _
        rw [fX6_squelchedAt_L33, if_pos (nI_le (Nat.le_refl _) (by omega))])
      (fun f a i hi _ => ⟨by
        show fX6_squelchedAt_L33 _ _ _ (f + 1) _ _ _ = fX6_squelchedAt_L33 _ _ _ f _ _ _
        rw [fX6_squelchedAt_L33, if_neg (nI_ge hi (by omega)), M_isCirc hi, obS, nI_add, show decide (cq st i 0 = nI 1) = us st i from rfl]
        rw [show mskG (fun c => us st c && (decide (cst n st (S 13 0) c = nI 3) && ((pth n st c j && tb (S 13 0) j) || (pth n st c w && tb (S 13 0) w)))) i a = (if (us st i && (decide (cst n st (S 13 0) i = nI 3) && ((pth n st i j && tb (S 13 0) j) || (pth n st i w && tb (S 13 0) w)))) = true then a ||| ((nI 1) <<< (nI i &&& 31)) else a) from rfl]
        cases hu : us st i
        · rw [if_neg (by decide), obS, if_pos rfl, or_0, Bool.false_and, if_neg (by decide)]
        · have hv := (us_v hI hi hu).1
          rw [if_pos rfl, M_state h0 hn h8 hR hz hi hv, obS, Bool.true_and]
          by_cases e3 : cst n st (S 13 0) i = nI 3
          · rw [if_pos e3, hsw i j hi hj hv, obS, hsw i w hi hw hv, obS, decide_eq_true e3, Bool.true_and]
            cases (pth n st i j && tb (S 13 0) j)
            · cases (pth n st i w && tb (S 13 0) w)
              · rw [if_neg (by decide), if_neg (by decide), obS, if_pos rfl, or_0]; rfl
              · rw [if_neg (by decide), if_pos rfl, obS, if_neg (by decide)]; rfl
            · rw [if_pos rfl, obS, if_neg (by decide)]; rfl
          · rw [if_neg e3, obS, if_pos rfl, or_0, decide_eq_false e3, Bool.false_and, if_neg (by decide)], trivial⟩) 16 0 0 FU (by omega) trivial (FU_gt (by omega))
    rw [nI_0] at hl
    refine (show _ = _ from hl).trans ?_
    congr 1
    refine tb_ext (fun i hi => ?_)
    rw [tb_and, msk_bits _ (by omega), msk_bits _ (by omega), msk_bits _ (by omega)]
    by_cases hi16 : i < 16
    · rw [decide_eq_true hi16, Bool.true_and, Bool.true_and, Bool.true_and, cr_us hI h8 (P := fun s => (decide (s = j) || decide (s = w)) && tb (S 13 0) s) (fun s hs => by rw [tb_and, tb_or, tb_bt (by omega), tb_bt (by omega)]) hi16, any_two hj hw]
      cases us st i <;> cases decide (cst n st (S 13 0) i = nI 3) <;> rfl
    · rw [decide_eq_false hi16]; rfl
end PB5
