/-! PURE PART 11: frames of the relation; marks, commands, time -/
theorem sp_lo {st st' : Nat → Int32} (h : ∀ j, j < 68 → st' j = st j) {s k : Nat} (hs : s < 8) (hk : k < 7) : sp st' s k = sp st s k := h _ (by omega)
theorem cq_hi {st st' : Nat → Int32} (h : ∀ j, 68 ≤ j → st' j = st j) (c k : Nat) : cq st' c k = cq st c k := h _ (by omega)
theorem RCi.hi {n : Nat} {st st' : Nat → Int32} {fe se pa sl : Nat → Int32} {ex : Int32} (h : ∀ j, 68 ≤ j → st' j = st j) (hI : RCi n st fe se pa sl ex) : RCi n st' fe se pa sl ex := by
  have e : ∀ c k, cq st' c k = cq st c k := cq_hi h
  have ep : ∀ c, pth n st' c = pth n st c := fun c => by funext s; unfold pth; rw [e, e, e]
  intro c hc
  unfold VC
  simp only [e, ep]
  exact hI c hc
theorem dn_lo {n : Nat} {st st' : Nat → Int32} (h : ∀ j, j < 68 → st' j = st j) (hn : 3 ≤ n) (h8 : n ≤ 8) {s k : Nat} (hs : s < n) (hk : k < 7) : dn n st' k s = dn n st k s := by
  have hm : (s + 1) % n < n := Nat.mod_lt _ (by omega)
  unfold dn
  rw [sp_lo h (by omega) hk, h _ (by omega), h _ (by omega)]
theorem RMk.lo {n : Nat} {st st' : Nat → Int32} {fw fp fn : Int32} {cmd : Nat → Int32} (h : ∀ j, j < 68 → st' j = st j) (h8 : n ≤ 8) (hM : RMk n st fw fp fn cmd) : RMk n st' fw fp fn cmd := by
  intro s hs
  rw [sp_lo h (by omega) (by decide), sp_lo h (by omega) (by decide), sp_lo h (by omega) (by decide), h (4 + s) (by omega)]
  exact hM s hs
theorem RCo.lo {n : Nat} {st st' : Nat → Int32} {tim hel dir : Nat → Int32} (h : ∀ j, j < 68 → st' j = st j) (h8 : n ≤ 8) (hC : RCo n st tim hel dir) : RCo n st' tim hel dir := by
  intro s hs
  rw [sp_lo h (by omega) (by decide), sp_lo h (by omega) (by decide), sp_lo h (by omega) (by decide)]
  exact hC s hs
theorem RSw.lo {n : Nat} {st st' : Nat → Int32} {ss rs : Int32} (h : ∀ j, j < 68 → st' j = st j) (h8 : n ≤ 8) (hS : RSw n st ss rs) : RSw n st' ss rs := by
  refine ⟨fun s hs => ?_, hS.2⟩
  rw [sp_lo h (by omega) (by decide)]
  exact hS.1 s hs
theorem RCa.lo {n : Nat} {st st' : Nat → Int32} {wd pd rs : Int32} {seg : Nat → Int32} (h : ∀ j, j < 68 → st' j = st j) (hn : 3 ≤ n) (h8 : n ≤ 8) (hA : RCa n st wd pd seg rs) : RCa n st' wd pd seg rs := by
  intro s hs
  rw [dn_lo h hn h8 hs (by decide), dn_lo h hn h8 hs (by decide), sp_lo h (by omega) (by decide), sp_lo h (by omega) (by decide)]
  exact hA s hs
/-- behind a change of marks: the controller runs on both sides, and the relation stands -/
theorem aft {n : Nat} {S : Nat → Nat → Int32} {st st1 : Nat → Int32} {fw fp fn : Int32} {cmd : Nat → Int32} (hB : RB n S st) (hI : RCi n st (S 2) (S 3) (S 4) (S 5) (S 1 0)) (h1 : ∀ j, (j < 4 ∨ 68 ≤ j) → st1 j = st j) (hM : RMk n st1 fw fp fn cmd) {tim hel dir : Nat → Int32} (hC : RCo n st1 tim hel dir) {ss0 rs0 : Int32} (hS : RSw n st1 ss0 rs0) (wd0 pd0 : Int32) (seg0 : Nat → Int32) :
    ∃ q st', fX1_run fw fp fn (S 9 0) wd0 pd0 ss0 rs0 (S 14 0) cmd tim hel dir seg0 = some q ∧ fX6_control st1 = some st' ∧ (∀ j, (j < 4 ∨ 68 ≤ j) → st' j = st j) ∧ RMk n st' fw fp fn cmd ∧ RCo n st' q.2.2.2.2.1 q.2.2.2.2.2.1 q.2.2.2.2.2.2.1 ∧ RSw n st' q.2.2.1 q.2.2.2.1 ∧ RCa n st' q.1 q.2.1 q.2.2.2.2.2.2.2 q.2.2.2.1 ∧ RCi n st' (S 2) (S 3) (S 4) (S 5) (S 1 0) ∧
      RS n (mkS (S 0 0) (S 1 0) (S 2) (S 3) (S 4) (S 5) fw fp fn (S 9 0) q.1 q.2.1 q.2.2.1 q.2.2.2.1 (S 14 0) (S 15 0) cmd q.2.2.2.2.1 q.2.2.2.2.2.1 q.2.2.2.2.2.2.1 q.2.2.2.2.2.2.2) st' := by
  obtain ⟨hn, h8, h0, hnd, hsn, ⟨r, hr, hr1, hr2⟩, htm⟩ := hB
  have e0 : st1 0 = nI n := (h1 0 (by omega)).trans h0
  have e2 : st1 2 = S 9 0 := ((h1 2 (by omega)).trans hr1).trans hr2.symm
  obtain ⟨wd, pd, ss, rs, tim', hel', dir', seg', st', c1, c2, c3, c4, c5, c6, c7⟩ := ctl (wd0 := wd0) (pd0 := pd0) (seg := seg0) e0 hn h8 e2 ⟨r, hr, hr2⟩ hM hC hS
  have hj : ∀ j, (j < 4 ∨ 68 ≤ j) → st' j = st j := fun j hj => (c3.1 j (by omega)).trans (h1 j hj)
  have hI' : RCi n st' (S 2) (S 3) (S 4) (S 5) (S 1 0) := hI.hi (fun j hj' => hj j (Or.inr hj'))
  refine ⟨(wd, pd, ss, rs, tim', hel', dir', seg'), st', by rw [hnd]; exact c1, c2, hj, c4, c5, c6, c7, hI', ⟨hn, h8, (hj 0 (by omega)).trans h0, hnd, ?_, ⟨r, hr, (hj 2 (by omega)).trans hr1, hr2⟩, (hj 3 (by omega)).trans htm⟩, c4, c5, c6, c7, hI'⟩
  obtain ⟨q, q1, q2, q3, q4⟩ := hsn
  exact ⟨q, q1, q2, (hj 1 (by omega)).trans q3, q4⟩
/-- a mark on the reference's side -/
theorem M_mark {st : Nat → Int32} {i : Nat} (hi : i < 164) (b : Bool) {st' : Nat → Int32} (hc : fX6_control (upd st i (wI b)) = some st') : fX6_mark st (nI i) (wI b) = some (st i, st') := by
  have e : ∀ x, fX6_set st (nI i) x = some (st i, upd st i x) := fun x => by
    unfold fX6_set; rw [gI hi (by decide), gI hi (by decide), nI_clamp (by omega)]
  unfold fX6_mark
  cases b
  · rw [wI_f, if_pos rfl, e, obS]
    rw [wI_f] at hc
    show ((fX6_control (upd st i 0)).bind _) = _
    rw [hc, obS]
  · rw [wI_t, if_neg (by decide), e, obS]
    rw [wI_t] at hc
    show ((fX6_control (upd st i (nI 1))).bind _) = _
    rw [hc, obS]
theorem RCo.fr {n : Nat} {st st' : Nat → Int32} {C : Nat → Prop} {tim hel dir : Nat → Int32} (f : frm C st st') (h3 : ¬ C 3) (h4 : ¬ C 4) (h5 : ¬ C 5) (hC : RCo n st tim hel dir) : RCo n st' tim hel dir := by
  intro s hs
  rw [f.2 s 3 (by decide) h3, f.2 s 4 (by decide) h4, f.2 s 5 (by decide) h5]
  exact hC s hs
theorem RSw.fr {n : Nat} {st st' : Nat → Int32} {C : Nat → Prop} {ss rs : Int32} (f : frm C st st') (h6 : ¬ C 6) (hS : RSw n st ss rs) : RSw n st' ss rs := by
  refine ⟨fun s hs => ?_, hS.2⟩
  rw [f.2 s 6 (by decide) h6]
  exact hS.1 s hs
theorem w1 {x : Int32} (h : ∃ b, x = wI b) : (if decide (x = nI 1) = true then nI 1 else (0 : Int32)) = x := by
  obtain ⟨b, rfl⟩ := h
  cases b <;> decide +kernel
theorem sp_up0 {st : Nat → Int32} {v : Nat} {x : Int32} {k s k' : Nat} (hk : k < 7) (hk' : k' < 7) : sp (upd st (12 + 7 * v + k) x) s k' = if s = v ∧ k' = k then x else sp st s k' := sp_upd hk hk'
section PUB
variable {n : Nat} {S : Nat → Nat → Int32} {st : Nat → Int32}
theorem P_failW (h : RS n S st) (v : Int32) (b : Bool) : ∃ q q', fX5_failWorking (S 6 0) (S 7 0) (S 8 0) (S 9 0) (S 10 0) (S 11 0) (S 12 0) (S 13 0) (S 14 0) (S 16) (S 17) (S 18) (S 19) (S 20) v (wI b) = some q ∧ fX6_failWorking st v (wI b) = some q' ∧ q.1 = q'.1 ∧
    RS n (mkS (S 0 0) (S 1 0) (S 2) (S 3) (S 4) (S 5) q.2.1 (S 7 0) (S 8 0) (S 9 0) q.2.2.1 q.2.2.2.1 q.2.2.2.2.1 q.2.2.2.2.2.1 (S 14 0) (S 15 0) (S 16) q.2.2.2.2.2.2.1 q.2.2.2.2.2.2.2.1 q.2.2.2.2.2.2.2.2.1 q.2.2.2.2.2.2.2.2.2) q'.2 := by
  obtain ⟨hB, hM, hC, hS, hA, hI⟩ := id h
  obtain ⟨hn, h8, h0, hnd, -⟩ := id hB
  unfold fX5_failWorking fX6_failWorking
  rcases inR n (by omega) v with ho | ⟨j, hj, rfl⟩
  · rw [show fX2_hasSpan (S 14 0) v = some false by rw [hnd]; exact C_hasSF ho, obS, M_isSpanF h0 hn h8 ho, obS]
    exact ⟨_, _, rfl, rfl, rfl, h⟩
  · have hf : frm (fun k => k = 0) st (upd st (12 + 7 * j + 0) (wI b)) := frm.rf.up (by omega) (by decide) rfl
    have hM1 : RMk n (upd st (12 + 7 * j + 0) (wI b)) (mkd (S 6 0) j b) (S 7 0) (S 8 0) (S 16) := fun s hs => by
      obtain ⟨m1, m2, m3, m4, m5, m6, m7, m8⟩ := hM s hs
      rw [sp_upd (by decide) (by decide), sp_upd (by decide) (by decide), sp_upd (by decide) (by decide), if_neg (show ¬ (s = j ∧ 1 = 0) by omega), if_neg (show ¬ (s = j ∧ 2 = 0) by omega), hd_upd (by omega) (by decide) (by omega), tb_mkd (by omega) b (by omega)]
      by_cases e : s = j
      · rw [if_pos (show s = j ∧ 0 = 0 from ⟨e, rfl⟩), if_pos e]
        exact ⟨by cases b <;> decide +kernel, m2, m3, m4, m5, ⟨b, rfl⟩, m7, m8⟩
      · rw [if_neg (show ¬ (s = j ∧ 0 = 0) by omega), if_neg e]
        exact ⟨m1, m2, m3, m4, m5, m6, m7, m8⟩
    obtain ⟨q, st', a1, a2, -, -, -, -, -, -, a9⟩ := aft hB hI (fun i hi => hd_upd (by omega) (by decide) (by omega)) hM1 (RCo.fr hf (by simp) (by simp) (by simp) hC) (RSw.fr hf (by simp) hS) (S 10 0) (S 11 0) (S 20)
    rw [show fX2_hasSpan (S 14 0) (nI j) = some true by rw [hnd]; exact C_hasST h8 hj, obS, if_pos rfl, ← b2i_wI, F_marked, obS, a1, obS, F_contains (by omega), obS, M_isSpanT h0 hn h8 hj, obS, if_pos rfl, ← nI_0, M_at, obS, b2i_wI, M_mark (by omega) b a2, obS]
    have hw := w1 (hM j hj).2.2.2.2.2.1
    rw [← (hM j hj).1] at hw
    rw [nI_0]
    by_cases e : tb (S 6 0) j = true
    · rw [if_pos e] at hw ⊢
      exact ⟨_, _, rfl, rfl, hw, a9⟩
    · rw [if_neg e] at hw ⊢
      exact ⟨_, _, rfl, rfl, hw, a9⟩
theorem P_failP (h : RS n S st) (v : Int32) (b : Bool) : ∃ q q', fX5_failProtection (S 6 0) (S 7 0) (S 8 0) (S 9 0) (S 10 0) (S 11 0) (S 12 0) (S 13 0) (S 14 0) (S 16) (S 17) (S 18) (S 19) (S 20) v (wI b) = some q ∧ fX6_failProtection st v (wI b) = some q' ∧ q.1 = q'.1 ∧
    RS n (mkS (S 0 0) (S 1 0) (S 2) (S 3) (S 4) (S 5) (S 6 0) q.2.1 (S 8 0) (S 9 0) q.2.2.1 q.2.2.2.1 q.2.2.2.2.1 q.2.2.2.2.2.1 (S 14 0) (S 15 0) (S 16) q.2.2.2.2.2.2.1 q.2.2.2.2.2.2.2.1 q.2.2.2.2.2.2.2.2.1 q.2.2.2.2.2.2.2.2.2) q'.2 := by
  obtain ⟨hB, hM, hC, hS, hA, hI⟩ := id h
  obtain ⟨hn, h8, h0, hnd, -⟩ := id hB
  unfold fX5_failProtection fX6_failProtection
  rcases inR n (by omega) v with ho | ⟨j, hj, rfl⟩
  · rw [show fX2_hasSpan (S 14 0) v = some false by rw [hnd]; exact C_hasSF ho, obS, M_isSpanF h0 hn h8 ho, obS]
    exact ⟨_, _, rfl, rfl, rfl, h⟩
  · have hf : frm (fun k => k = 1) st (upd st (12 + 7 * j + 1) (wI b)) := frm.rf.up (by omega) (by decide) rfl
    have hM1 : RMk n (upd st (12 + 7 * j + 1) (wI b)) (S 6 0) (mkd (S 7 0) j b) (S 8 0) (S 16) := fun s hs => by
      obtain ⟨m1, m2, m3, m4, m5, m6, m7, m8⟩ := hM s hs
      rw [sp_upd (by decide) (by decide), sp_upd (by decide) (by decide), sp_upd (by decide) (by decide), if_neg (show ¬ (s = j ∧ 0 = 1) by omega), if_neg (show ¬ (s = j ∧ 2 = 1) by omega), hd_upd (by omega) (by decide) (by omega), tb_mkd (by omega) b (by omega)]
      by_cases e : s = j
      · rw [if_pos (show s = j ∧ 1 = 1 from ⟨e, rfl⟩), if_pos e]
        exact ⟨m1, by cases b <;> decide +kernel, m3, m4, m5, m6, ⟨b, rfl⟩, m8⟩
      · rw [if_neg (show ¬ (s = j ∧ 1 = 1) by omega), if_neg e]
        exact ⟨m1, m2, m3, m4, m5, m6, m7, m8⟩
    obtain ⟨q, st', a1, a2, -, -, -, -, -, -, a9⟩ := aft hB hI (fun i hi => hd_upd (by omega) (by decide) (by omega)) hM1 (RCo.fr hf (by simp) (by simp) (by simp) hC) (RSw.fr hf (by simp) hS) (S 10 0) (S 11 0) (S 20)
    rw [show fX2_hasSpan (S 14 0) (nI j) = some true by rw [hnd]; exact C_hasST h8 hj, obS, if_pos rfl, ← b2i_wI, F_marked, obS, a1, obS, F_contains (by omega), obS, M_isSpanT h0 hn h8 hj, obS, if_pos rfl, M_at, obS, b2i_wI, M_mark (by omega) b a2, obS]
    have hw := w1 (hM j hj).2.2.2.2.2.2.1
    rw [← (hM j hj).2.1] at hw
    by_cases e : tb (S 7 0) j = true
    · rw [if_pos e] at hw ⊢
      exact ⟨_, _, rfl, rfl, hw, a9⟩
    · rw [if_neg e] at hw ⊢
      exact ⟨_, _, rfl, rfl, hw, a9⟩
theorem P_failN (h : RS n S st) (v : Int32) (b : Bool) : ∃ q q', fX5_failNode (S 6 0) (S 7 0) (S 8 0) (S 9 0) (S 10 0) (S 11 0) (S 12 0) (S 13 0) (S 14 0) (S 16) (S 17) (S 18) (S 19) (S 20) v (wI b) = some q ∧ fX6_failNode st v (wI b) = some q' ∧ q.1 = q'.1 ∧
    RS n (mkS (S 0 0) (S 1 0) (S 2) (S 3) (S 4) (S 5) (S 6 0) (S 7 0) q.2.1 (S 9 0) q.2.2.1 q.2.2.2.1 q.2.2.2.2.1 q.2.2.2.2.2.1 (S 14 0) (S 15 0) (S 16) q.2.2.2.2.2.2.1 q.2.2.2.2.2.2.2.1 q.2.2.2.2.2.2.2.2.1 q.2.2.2.2.2.2.2.2.2) q'.2 := by
  obtain ⟨hB, hM, hC, hS, hA, hI⟩ := id h
  obtain ⟨hn, h8, h0, hnd, -⟩ := id hB
  unfold fX5_failNode fX6_failNode
  rcases inR n (by omega) v with ho | ⟨j, hj, rfl⟩
  · rw [show fX2_hasNode (S 14 0) v = some false by rw [hnd]; exact C_hasF ho, obS, M_isNodeF h0 hn h8 ho, obS]
    exact ⟨_, _, rfl, rfl, rfl, h⟩
  · have hu : ∀ i, upd st (4 + j) (wI b) i = if i = 4 + j then wI b else st i := fun i => rfl
    have hsp : ∀ s k, sp (upd st (4 + j) (wI b)) s k = sp st s k := fun s k => by unfold sp; rw [hu, if_neg (by omega)]
    have hM1 : RMk n (upd st (4 + j) (wI b)) (S 6 0) (S 7 0) (mkd (S 8 0) j b) (S 16) := fun s hs => by
      obtain ⟨m1, m2, m3, m4, m5, m6, m7, m8⟩ := hM s hs
      rw [hsp, hsp, hsp, hu, tb_mkd (by omega) b (by omega)]
      by_cases e : s = j
      · rw [if_pos (show 4 + s = 4 + j by omega), if_pos e]
        exact ⟨m1, m2, by cases b <;> decide +kernel, m4, m5, m6, m7, ⟨b, rfl⟩⟩
      · rw [if_neg (show ¬ 4 + s = 4 + j by omega), if_neg e]
        exact ⟨m1, m2, m3, m4, m5, m6, m7, m8⟩
    have hC1 : RCo n (upd st (4 + j) (wI b)) (S 17) (S 18) (S 19) := fun s hs => by rw [hsp, hsp, hsp]; exact hC s hs
    have hS1 : RSw n (upd st (4 + j) (wI b)) (S 12 0) (S 13 0) := ⟨fun s hs => by rw [hsp]; exact hS.1 s hs, hS.2⟩
    obtain ⟨q, st', a1, a2, -, -, -, -, -, -, a9⟩ := aft hB hI (fun i hi => by rw [hu, if_neg (by omega)]) hM1 hC1 hS1 (S 10 0) (S 11 0) (S 20)
    rw [show fX2_hasNode (S 14 0) (nI j) = some true by rw [hnd]; exact C_hasT h8 hj, obS, if_pos rfl, ← b2i_wI, F_marked, obS, a1, obS, F_contains (by omega), obS, M_isNodeT h0 hn h8 hj, obS, if_pos rfl, nI_add, b2i_wI, M_mark (by omega) b a2, obS]
    have hw := w1 (hM j hj).2.2.2.2.2.2.2
    rw [← (hM j hj).2.2.1] at hw
    by_cases e : tb (S 8 0) j = true
    · rw [if_pos e] at hw ⊢
      exact ⟨_, _, rfl, rfl, hw, a9⟩
    · rw [if_neg e] at hw ⊢
      exact ⟨_, _, rfl, rfl, hw, a9⟩
theorem isCmd_dec (v : Int32) : (isCmd v ∧ fX5_isCommand v = some true ∧ fX6_isCommand v = some true) ∨ (¬ isCmd v ∧ fX5_isCommand v = some false ∧ fX6_isCommand v = some false) := by
  unfold isCmd fX5_isCommand fX6_isCommand
  by_cases a : v = 0
  · simp [a]
  · by_cases b : v = nI 3
    · simp [a, b]
    · by_cases c : v = nI 4
      · simp [a, b, c]
      · by_cases d : v = nI 7
        · simp [a, b, c, d]
        · by_cases e : v = nI 8
          · simp [a, b, c, d, e]
          · by_cases f : v = nI 9
            · simp [a, b, c, d, e, f]
            · simp [a, b, c, d, e, f]
theorem P_cmd (h : RS n S st) (v x : Int32) : ∃ q q', fX5_command (S 6 0) (S 7 0) (S 8 0) (S 9 0) (S 10 0) (S 11 0) (S 12 0) (S 13 0) (S 14 0) (S 16) (S 17) (S 18) (S 19) (S 20) v x = some q ∧ fX6_command st v x = some q' ∧ q.1 = q'.1 ∧
    RS n (mkS (S 0 0) (S 1 0) (S 2) (S 3) (S 4) (S 5) (S 6 0) (S 7 0) (S 8 0) (S 9 0) q.2.1 q.2.2.1 q.2.2.2.1 q.2.2.2.2.1 (S 14 0) (S 15 0) q.2.2.2.2.2.1 q.2.2.2.2.2.2.1 q.2.2.2.2.2.2.2.1 q.2.2.2.2.2.2.2.2.1 q.2.2.2.2.2.2.2.2.2) q'.2 := by
  obtain ⟨hB, hM, hC, hS, hA, hI⟩ := id h
  obtain ⟨hn, h8, h0, hnd, -⟩ := id hB
  unfold fX5_command fX6_command
  rcases inR n (by omega) v with ho | ⟨j, hj, rfl⟩
  · rw [show fX2_hasSpan (S 14 0) v = some false by rw [hnd]; exact C_hasSF ho, obS, M_isSpanF h0 hn h8 ho, obS]
    exact ⟨_, _, rfl, rfl, rfl, h⟩
  · rw [show fX2_hasSpan (S 14 0) (nI j) = some true by rw [hnd]; exact C_hasST h8 hj, obS, M_isSpanT h0 hn h8 hj, obS, if_pos rfl, if_pos rfl]
    rcases isCmd_dec x with ⟨hx, e1, e2⟩ | ⟨hx, e1, e2⟩
    · have hf : frm (fun k => k = 2) st (upd st (12 + 7 * j + 2) x) := frm.rf.up (by omega) (by decide) rfl
      have hM1 : RMk n (upd st (12 + 7 * j + 2) x) (S 6 0) (S 7 0) (S 8 0) (upd (S 16) j x) := fun s hs => by
        obtain ⟨m1, m2, m3, m4, m5, m6, m7, m8⟩ := hM s hs
        rw [sp_upd (by decide) (by decide), sp_upd (by decide) (by decide), sp_upd (by decide) (by decide), if_neg (show ¬ (s = j ∧ 0 = 2) by omega), if_neg (show ¬ (s = j ∧ 1 = 2) by omega), hd_upd (by omega) (by decide) (by omega)]
        by_cases e : s = j
        · rw [if_pos (show s = j ∧ 2 = 2 from ⟨e, rfl⟩)]
          exact ⟨m1, m2, m3, by simp [upd, e], hx, m6, m7, m8⟩
        · rw [if_neg (show ¬ (s = j ∧ 2 = 2) by omega)]
          exact ⟨m1, m2, m3, by simp only [upd, if_neg e]; exact m4, m5, m6, m7, m8⟩
      obtain ⟨q, st', a1, a2, -, -, -, -, -, -, a9⟩ := aft hB hI (fun i hi => hd_upd (by omega) (by decide) (by omega)) hM1 (RCo.fr hf (by simp) (by simp) (by simp) hC) (RSw.fr hf (by simp) hS) (S 10 0) (S 11 0) (S 20)
      have r1 : fX1_replaceCommand (S 14 0) (S 16) (nI j) x = some (S 16 j, upd (S 16) j x) := by
        unfold fX1_replaceCommand
        rw [hnd, C_hasST h8 hj, obS, if_pos rfl, gI (by omega) (by decide), gI (by omega) (by decide), nI_clamp (by omega)]
      have r2 : fX6_set st (nI (12 + 7 * j + 2)) x = some (st (12 + 7 * j + 2), upd st (12 + 7 * j + 2) x) := by
        unfold fX6_set; rw [gI (by omega) (by decide), gI (by omega) (by decide), nI_clamp (by omega)]
      rw [e1, obS, e2, obS, if_pos rfl, if_pos rfl, r1, obS, M_at, obS, r2, obS]
      show ∃ q q', ((fX1_run (S 6 0) (S 7 0) (S 8 0) (S 9 0) (S 10 0) (S 11 0) (S 12 0) (S 13 0) (S 14 0) (upd (S 16) j x) (S 17) (S 18) (S 19) (S 20)).bind _) = some q ∧ ((fX6_control (upd st (12 + 7 * j + 2) x)).bind _) = some q' ∧ _
      rw [a1, obS, a2, obS]
      exact ⟨_, _, rfl, rfl, (hM j hj).2.2.2.1, a9⟩
    · rw [e1, obS, e2, obS]
      exact ⟨_, _, rfl, rfl, rfl, h⟩
end PUB
