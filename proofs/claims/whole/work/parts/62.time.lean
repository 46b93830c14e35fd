/-! PURE PART 13: the relation seen through equal cells; time; reset -/
/-- the bundles agree where they have cells -/
def SE (S S' : Nat → Nat → Int32) : Prop := S' 0 0 = S 0 0 ∧ S' 1 0 = S 1 0 ∧ (∀ i, i < 16 → S' 2 i = S 2 i) ∧ (∀ i, i < 16 → S' 3 i = S 3 i) ∧ (∀ i, i < 16 → S' 4 i = S 4 i) ∧ (∀ i, i < 16 → S' 5 i = S 5 i) ∧ S' 6 0 = S 6 0 ∧ S' 7 0 = S 7 0 ∧ S' 8 0 = S 8 0 ∧ S' 9 0 = S 9 0 ∧ S' 10 0 = S 10 0 ∧ S' 11 0 = S 11 0 ∧ S' 12 0 = S 12 0 ∧ S' 13 0 = S 13 0 ∧ S' 14 0 = S 14 0 ∧ S' 15 0 = S 15 0 ∧ (∀ i, i < 8 → S' 16 i = S 16 i) ∧ (∀ i, i < 8 → S' 17 i = S 17 i) ∧ (∀ i, i < 8 → S' 18 i = S 18 i) ∧ (∀ i, i < 8 → S' 19 i = S 19 i) ∧ (∀ i, i < 8 → S' 20 i = S 20 i)
theorem RMk.eqs {n : Nat} {st st' : Nat → Int32} {fw fp fn : Int32} {cmd cmd' : Nat → Int32} (h : ∀ j, 4 ≤ j → j < 164 → st' j = st j) (h8 : n ≤ 8) (hc : ∀ i, i < 8 → cmd' i = cmd i) (hM : RMk n st fw fp fn cmd) : RMk n st' fw fp fn cmd' := by
  intro s hs
  have e : ∀ k, k < 7 → sp st' s k = sp st s k := fun k hk => h _ (by omega) (by omega)
  rw [e 0 (by decide), e 1 (by decide), e 2 (by decide), h (4 + s) (by omega) (by omega), hc s (by omega)]
  exact hM s hs
theorem RCo.eqs {n : Nat} {st st' : Nat → Int32} {tim hel dir tim' hel' dir' : Nat → Int32} (h : ∀ j, 4 ≤ j → j < 164 → st' j = st j) (h8 : n ≤ 8) (h1 : ∀ i, i < 8 → tim' i = tim i) (h2 : ∀ i, i < 8 → hel' i = hel i) (h3 : ∀ i, i < 8 → dir' i = dir i) (hC : RCo n st tim hel dir) : RCo n st' tim' hel' dir' := by
  intro s hs
  have e : ∀ k, k < 7 → sp st' s k = sp st s k := fun k hk => h _ (by omega) (by omega)
  rw [e 3 (by decide), e 4 (by decide), e 5 (by decide), h1 s (by omega), h2 s (by omega), h3 s (by omega)]
  exact hC s hs
theorem RSw.eqs {n : Nat} {st st' : Nat → Int32} {ss rs : Int32} (h : ∀ j, 4 ≤ j → j < 164 → st' j = st j) (h8 : n ≤ 8) (hS : RSw n st ss rs) : RSw n st' ss rs := by
  refine ⟨fun s hs => ?_, hS.2⟩
  have e : ∀ k, k < 7 → sp st' s k = sp st s k := fun k hk => h _ (by omega) (by omega)
  rw [e 6 (by decide)]
  exact hS.1 s hs
theorem RCa.eqs {n : Nat} {st st' : Nat → Int32} {wd pd rs : Int32} {seg seg' : Nat → Int32} (h : ∀ j, 4 ≤ j → j < 164 → st' j = st j) (hn : 3 ≤ n) (h8 : n ≤ 8) (h1 : ∀ i, i < 8 → seg' i = seg i) (hA : RCa n st wd pd seg rs) : RCa n st' wd pd seg' rs := by
  intro s hs
  have e : ∀ k, k < 7 → sp st' s k = sp st s k := fun k hk => h _ (by omega) (by omega)
  have hm : (s + 1) % n < n := Nat.mod_lt _ (by omega)
  have ed : ∀ k, k < 7 → dn n st' k s = dn n st k s := fun k hk => by unfold dn; rw [e k hk, h (4 + s) (by omega) (by omega), h (4 + (s + 1) % n) (by omega) (by omega)]
  rw [ed 0 (by decide), ed 1 (by decide), e 2 (by decide), e 5 (by decide), h1 s (by omega)]
  exact hA s hs
theorem RCi.eqs {n : Nat} {st st' : Nat → Int32} {fe se pa sl fe' se' pa' sl' : Nat → Int32} {ex : Int32} (h : ∀ j, 4 ≤ j → j < 164 → st' j = st j) (h1 : ∀ i, i < 16 → fe' i = fe i) (h2 : ∀ i, i < 16 → se' i = se i) (h3 : ∀ i, i < 16 → pa' i = pa i) (h4 : ∀ i, i < 16 → sl' i = sl i) (hI : RCi n st fe se pa sl ex) : RCi n st' fe' se' pa' sl' ex := by
  intro c hc
  have eq : ∀ k, k < 6 → cq st' c k = cq st c k := fun k hk => h _ (by omega) (by omega)
  have ep : pth n st' c = pth n st c := by funext s; unfold pth; rw [eq 1 (by decide), eq 2 (by decide), eq 3 (by decide)]
  have ev : VC n st' c = VC n st c := by unfold VC; rw [eq 1 (by decide), eq 2 (by decide), eq 3 (by decide), eq 4 (by decide), eq 5 (by decide)]
  rw [ep, ev, eq 0 (by decide), eq 1 (by decide), eq 2 (by decide), eq 4 (by decide), eq 5 (by decide), h1 c hc, h2 c hc, h3 c hc, h4 c hc]
  exact hI c hc
theorem RS.eqs {n : Nat} {S S' : Nat → Nat → Int32} {st st' : Nat → Int32} (hE : SE S S') (he : ∀ j, j < 164 → st' j = st j) (h : RS n S st) : RS n S' st' := by
  obtain ⟨⟨hn, h8, h0, hnd, ⟨q, q1, q2, q3, q4⟩, ⟨r, r1, r2, r3⟩, htm⟩, hM, hC, hS, hA, hI⟩ := h
  obtain ⟨z0, z1, z2, z3, z4, z5, z6, z7, z8, z9, z10, z11, z12, z13, z14, z15, z16, z17, z18, z19, z20⟩ := hE
  have he4 : ∀ j, 4 ≤ j → j < 164 → st' j = st j := fun j _ hj => he j hj
  refine ⟨⟨hn, h8, (he 0 (by omega)).trans h0, z14.trans hnd, ⟨q, q1, q2, (he 1 (by omega)).trans q3, z15.trans q4⟩, ⟨r, r1, (he 2 (by omega)).trans r2, z9.trans r3⟩, ?_⟩, ?_, ?_, ?_, ?_, ?_⟩
  · rw [z0]; exact (he 3 (by omega)).trans htm
  · rw [z6, z7, z8]; exact RMk.eqs he4 h8 z16 hM
  · exact RCo.eqs he4 h8 z17 z18 z19 hC
  · rw [z12, z13]; exact RSw.eqs he4 h8 hS
  · rw [z10, z11, z13]; exact RCa.eqs he4 hn h8 z20 hA
  · rw [z1]; exact RCi.eqs he4 z2 z3 z4 z5 hI
theorem SE.rf (S : Nat → Nat → Int32) : SE S S := ⟨rfl, rfl, fun _ _ => rfl, fun _ _ => rfl, fun _ _ => rfl, fun _ _ => rfl, rfl, rfl, rfl, rfl, rfl, rfl, rfl, rfl, rfl, rfl, fun _ _ => rfl, fun _ _ => rfl, fun _ _ => rfl, fun _ _ => rfl, fun _ _ => rfl⟩
/-- a ring of no circuit, no mark, no wait -/
theorem stt_f (v : Nat) : ∀ R : Nat → Bool, (∀ i, R i = false) → stt R v = 0 := by
  intro R hR
  induction v with
  | zero => simp [stt]
  | succ v ih => simp [stt, hR, ih]
theorem RS_zero {n q r : Nat} {S : Nat → Nat → Int32} {st : Nat → Int32} (hn : 3 ≤ n) (h8 : n ≤ 8) (h0 : st 0 = nI n) (q1 : 1 ≤ q) (q2 : q ≤ 4) (q3 : st 1 = nI q) (r1 : r ≤ 60) (r2 : st 2 = nI r) (hz : ∀ j, 3 ≤ j → j < 164 → st j = 0)
    (z0 : S 0 0 = 0) (z1 : S 1 0 = 0) (z4 : ∀ i, i < 16 → S 4 i = 0) (z6 : S 6 0 = 0) (z7 : S 7 0 = 0) (z8 : S 8 0 = 0) (z9 : S 9 0 = nI r) (z10 : S 10 0 = 0) (z11 : S 11 0 = 0) (z12 : S 12 0 = 0) (z13 : S 13 0 = 0) (z14 : S 14 0 = nI n) (z15 : S 15 0 = nI q)
    (z16 : ∀ i, i < 8 → S 16 i = 0) (z17 : ∀ i, i < 8 → S 17 i = 0) (z19 : ∀ i, i < 8 → S 19 i = 0) (z20 : ∀ i, i < 8 → S 20 i = 0) : RS n S st := by
  have hs0 : ∀ s k, s < n → k < 7 → sp st s k = 0 := fun s k hs hk => hz _ (by omega) (by omega)
  have hd0 : ∀ s k, s < n → k < 7 → dn n st k s = false := fun s k hs hk => by
    have hm : (s + 1) % n < n := Nat.mod_lt _ (by omega)
    unfold dn
    rw [hs0 s k hs hk, hz (4 + s) (by omega) (by omega), hz (4 + (s + 1) % n) (by omega) (by omega)]
    decide
  refine ⟨⟨hn, h8, h0, z14, ⟨q, q1, q2, q3, z15⟩, ⟨r, r1, r2, z9⟩, by rw [z0]; exact hz 3 (by omega) (by omega)⟩, ?_, ?_, ?_, ?_, ?_⟩
  · intro s hs
    rw [hs0 s 0 hs (by decide), hs0 s 1 hs (by decide), hs0 s 2 hs (by decide), hz (4 + s) (by omega) (by omega), z6, z7, z8, z16 s (by omega), tb_0]
    exact ⟨by decide, by decide, by decide, rfl, Or.inl rfl, ⟨false, rfl⟩, ⟨false, rfl⟩, ⟨false, rfl⟩⟩
  · intro s hs
    rw [hs0 s 3 hs (by decide), hs0 s 5 hs (by decide), z17 s (by omega), z19 s (by omega)]
    exact ⟨rfl, ⟨0, by omega, nI_0.symm⟩, fun h => absurd (by decide) h, rfl⟩
  · rw [z12, z13]
    refine ⟨fun s hs => ?_, fun i _ => ⟨tb_0 i, tb_0 i⟩⟩
    rw [hs0 s 6 hs (by decide), tb_0]
    exact ⟨Or.inl rfl, by decide, by decide⟩
  · intro s hs
    rw [hd0 s 0 hs (by decide), hd0 s 1 hs (by decide), hs0 s 2 hs (by decide), hs0 s 5 hs (by decide), z10, z11, z13, z20 s (by omega), tb_0]
    refine ⟨rfl, rfl, ?_, by decide⟩
    unfold segC
    rw [stt_f s _ tb_0, stt_f (n - 1) _ tb_0, tb_0, if_neg (by decide), if_pos (by omega), nI_0]
  · intro c hc
    exact Or.inl ⟨hz _ (by omega) (by omega), z4 c hc⟩
section PB4
variable {n : Nat} {S : Nat → Nat → Int32} {st : Nat → Int32}
theorem P_setR (h : RS n S st) (v : Int32) : ∃ q q', fX5_setRestoreTime (S 9 0) v = some q ∧ fX6_setRestoreTime st v = some q' ∧ q.1 = q'.1 ∧
    RS n (mkS (S 0 0) (S 1 0) (S 2) (S 3) (S 4) (S 5) (S 6 0) (S 7 0) (S 8 0) q.2 (S 10 0) (S 11 0) (S 12 0) (S 13 0) (S 14 0) (S 15 0) (S 16) (S 17) (S 18) (S 19) (S 20)) q'.2 := by
  obtain ⟨⟨hn, h8, h0, hnd, ⟨q, q1, q2, q3, q4⟩, ⟨r, r1, r2, r3⟩, htm⟩, hM, hC, hS, hA, hI⟩ := id h
  unfold fX5_setRestoreTime fX6_setRestoreTime
  rcases inR 61 (by omega) v with ho | ⟨t, ht, rfl⟩
  · have ef : fX6_in v 0 (nI 60) = some false := by
      rw [← nI_0]
      exact M_inF (by omega) (by omega) (by rw [nI_0]; exact ho)
    rw [ef, obS]
    by_cases hz : v < 0
    · rw [if_pos hz]; exact ⟨_, _, rfl, rfl, rfl, h⟩
    · have hz2 : ¬ v ≤ nI 60 := by
        have := i_le.mp (ho.resolve_left hz)
        rw [i_le]
        rw [nI_toInt (by omega)] at this ⊢
        omega
      rw [if_neg hz, if_neg hz2]; exact ⟨_, _, rfl, rfl, rfl, h⟩
  · have ef : fX6_in (nI t) 0 (nI 60) = some true := by
      rw [← nI_0]
      exact M_inT (by omega) (by omega) (by omega)
    have es : fX6_set st (nI 2) (nI t) = some (st 2, upd st 2 (nI t)) := by
      unfold fX6_set; rw [gI (by omega) (by decide), gI (by omega) (by decide), nI_clamp (by omega)]
    rw [ef, obS, if_neg (nI_pos (by omega)), if_pos (by rw [nI_leI (by omega) (by omega)]; omega), if_pos rfl, es, obS]
    have he4 : ∀ j, 4 ≤ j → j < 164 → upd st 2 (nI t) j = st j := fun j hj _ => upd_ne (by omega)
    refine ⟨_, _, rfl, rfl, r3.trans r2.symm, ⟨hn, h8, (show upd st 2 (nI t) 0 = st 0 from upd_ne (by omega)).trans h0, hnd, ⟨q, q1, q2, (show upd st 2 (nI t) 1 = st 1 from upd_ne (by omega)).trans q3, q4⟩, ⟨t, by omega, show upd st 2 (nI t) 2 = nI t from upd_at, rfl⟩, (show upd st 2 (nI t) 3 = st 3 from upd_ne (by omega)).trans htm⟩, RMk.eqs he4 h8 (fun _ _ => rfl) hM, RCo.eqs he4 h8 (fun _ _ => rfl) (fun _ _ => rfl) (fun _ _ => rfl) hC, RSw.eqs he4 h8 hS, RCa.eqs he4 hn h8 (fun _ _ => rfl) hA, RCi.eqs he4 (fun _ _ => rfl) (fun _ _ => rfl) (fun _ _ => rfl) (fun _ _ => rfl) hI⟩
/-- a timer counted down -/
def dec1 (x : Int32) : Int32 := if x ≤ 0 then x else x - nI 1
theorem C_cnt (h8 : n ≤ 8) (tim : Nat → Int32) : ∃ t', fX1_countTimersDown (nI n) tim = some t' ∧ ∀ s, t' s = if s < n then dec1 (tim s) else tim s := by
  have h := loopF (F := fun f a y => fX1_countTimersDown_L2 (nI n) (fun x1_2 v_t_tim_2 => (some v_t_tim_2)) f y a) (K := fun a => some a) (N := n) (g := fun i a => if a i ≤ 0 then a else upd a i (a i - nI 1)) (fun _ _ => True)
    (fun f a _ => by
      show fX1_countTimersDown_L2 _ _ (f + 1) _ _ = _
      rw [fX1_countTimersDown_L2, if_pos (nI_le (Nat.le_refl _) (by omega))])
    (fun f a i hi _ => ⟨by
      show fX1_countTimersDown_L2 _ _ (f + 1) _ _ = fX1_countTimersDown_L2 _ _ f _ _
      rw [fX1_countTimersDown_L2, if_neg (nI_ge hi (by omega)), gI (by omega) (by decide), gI (by omega) (by decide), gI (by omega) (by decide), nI_clamp (by omega), nI_add]
      by_cases e : a i ≤ 0
      · rw [if_pos e, if_pos e]
      · rw [if_neg e, if_neg e], trivial⟩) n 0 tim FU (by omega) trivial (FU_gt (by omega))
  rw [nI_0] at h
  refine ⟨_, h, ?_⟩
  exact fo_inv (g := fun i a => if a i ≤ 0 then a else upd a i (a i - nI 1)) (N := n) (fun i a => ∀ s, a s = if s < i then dec1 (tim s) else tim s)
    (fun i a hi ha s => by
      show (if a i ≤ 0 then a else upd a i (a i - nI 1)) s = _
      have hai : a i = tim i := by rw [ha i, if_neg (by omega)]
      rw [hai]
      by_cases e : s = i
      · rw [if_pos (show s < i + 1 by omega), e]
        unfold dec1
        by_cases e2 : tim i ≤ 0
        · rw [if_pos e2, if_pos e2, hai]
        · rw [if_neg e2, if_neg e2, upd_at]
      · have hs : a s = if s < i + 1 then dec1 (tim s) else tim s := by
          rw [ha s]
          by_cases e3 : s < i
          · rw [if_pos e3, if_pos (show s < i + 1 by omega)]
          · rw [if_neg e3, if_neg (show ¬ s < i + 1 by omega)]
        by_cases e2 : tim i ≤ 0
        · rw [if_pos e2]; exact hs
        · rw [if_neg e2, upd_ne e]; exact hs) n 0 tim (by omega) (fun s => by rw [if_neg (by omega)])
theorem M_cnt (h0 : st 0 = nI n) (h8 : n ≤ 8) (p1 : Int32) : ∃ st1, (∀ (K : Int32 → Int32 → (Nat → Int32) → Option (Int32 × (Nat → Int32))) (x2 : Int32), fX6_advance_L22 p1 K FU x2 0 st = K x2 (nI n) st1) ∧ frm (fun k => k = 3) st st1 ∧ ∀ s, sp st1 s 3 = if s < n then dec1 (sp st s 3) else sp st s 3 := by
  refine ⟨fo (fun i a => upd a (12 + 7 * i + 3) (dec1 (a (12 + 7 * i + 3)))) n 0 st, fun K x2 => ?_, ?_⟩
  · have h := loopF (F := fun f a y => fX6_advance_L22 p1 K f x2 y a) (K := fun a => K x2 (nI n) a) (N := n) (g := fun i a => upd a (12 + 7 * i + 3) (dec1 (a (12 + 7 * i + 3)))) (fun _ a => a 0 = nI n)
      (fun f a ha => by
        show fX6_advance_L22 _ _ (f + 1) _ _ _ = _
        rw [fX6_advance_L22, ha, if_pos (nI_le (Nat.le_refl _) (by omega))])
      (fun f a i hi ha => ⟨by
        show fX6_advance_L22 _ _ (f + 1) _ _ _ = fX6_advance_L22 _ _ f _ _ _
        rw [fX6_advance_L22, if_neg (by rw [ha]; exact nI_ge hi (by omega)), M_at, obS, gI (by omega) (by decide), M_of (by omega) (by decide), obS, gI (by omega) (by decide), gI (by omega) (by decide), nI_clamp (by omega), nI_add]
        unfold dec1
        by_cases e : sp a i 3 ≤ 0
        · rw [if_pos e, if_pos (show a (12 + 7 * i + 3) ≤ 0 from e), Int32.sub_zero]
        · rw [if_neg e, if_neg (show ¬ a (12 + 7 * i + 3) ≤ 0 from e)], by
        show upd a (12 + 7 * i + 3) _ 0 = nI n
        rw [upd_ne (by omega)]; exact ha⟩) n 0 st FU (by omega) h0 (FU_gt (by omega))
    rw [nI_0] at h
    exact h
  · exact fo_inv (g := fun i a => upd a (12 + 7 * i + 3) (dec1 (a (12 + 7 * i + 3)))) (N := n) (fun i a => frm (fun k => k = 3) st a ∧ ∀ s, sp a s 3 = if s < i then dec1 (sp st s 3) else sp st s 3)
      (fun i a hi ha => ⟨ha.1.up (by omega) (by decide) rfl, fun s => by
        show sp (upd a (12 + 7 * i + 3) _) s 3 = _
        rw [sp_upd (by decide) (by decide)]
        by_cases e : s = i
        · rw [if_pos ⟨e, rfl⟩, if_pos (show s < i + 1 by omega), e]
          have := ha.2 i
          rw [if_neg (by omega)] at this
          show dec1 (sp a i 3) = _
          rw [this]
        · rw [if_neg (by omega), ha.2 s]
          by_cases e3 : s < i
          · rw [if_pos e3, if_pos (show s < i + 1 by omega)]
          · rw [if_neg e3, if_neg (show ¬ s < i + 1 by omega)]⟩) n 0 st (by omega) ⟨frm.rf, fun s => by rw [if_neg (by omega)]⟩
theorem dec1_nI {t : Nat} (ht : t ≤ 60) : ∃ t', t' ≤ 60 ∧ dec1 (nI t) = nI t' := by
  have : ∀ t, t < 61 → dec1 (nI t) = nI (t - 1) := by decide +kernel
  exact ⟨t - 1, by omega, this t (by omega)⟩
theorem dec1_pos {x : Int32} (h : ¬ dec1 x ≤ 0) : ¬ x ≤ 0 := by
  unfold dec1 at h
  intro e
  rw [if_pos e] at h
  exact h e
/-- one second -/
theorem P_sec (h : RS n S st) (p1 : Int32) : ∃ q st1 st2, fX3_passSecond (S 0 0) (S 6 0) (S 7 0) (S 8 0) (S 9 0) (S 10 0) (S 11 0) (S 12 0) (S 13 0) (S 14 0) (S 16) (S 17) (S 18) (S 19) (S 20) = some q ∧ (∀ (K : Int32 → Int32 → (Nat → Int32) → Option (Int32 × (Nat → Int32))) (x2 : Int32), fX6_advance_L22 p1 K FU x2 0 st = K x2 (nI n) st1) ∧ fX6_control st1 = some st2 ∧
    RS n (mkS q.1 (S 1 0) (S 2) (S 3) (S 4) (S 5) (S 6 0) (S 7 0) (S 8 0) (S 9 0) q.2.1 q.2.2.1 q.2.2.2.1 q.2.2.2.2.1 (S 14 0) (S 15 0) (S 16) q.2.2.2.2.2.1 q.2.2.2.2.2.2.1 q.2.2.2.2.2.2.2.1 q.2.2.2.2.2.2.2.2) (upd st2 3 (st2 3 + nI 1)) := by
  obtain ⟨hB, hM, hC, hS, hA, hI⟩ := id h
  obtain ⟨hn, h8, h0, hnd, -, -, htm⟩ := id hB
  obtain ⟨t', c1, c2⟩ := C_cnt h8 (S 17)
  obtain ⟨st1, m1, m2, m3⟩ := M_cnt (st := st) h0 h8 p1
  have hM1 : RMk n st1 (S 6 0) (S 7 0) (S 8 0) (S 16) := fun s hs => by
    rw [m2.2 s 0 (by decide) (by decide), m2.2 s 1 (by decide) (by decide), m2.2 s 2 (by decide) (by decide), m2.1 (4 + s) (by omega)]
    exact hM s hs
  have hC1 : RCo n st1 t' (S 18) (S 19) := fun s hs => by
    obtain ⟨k1, ⟨t, k2, k3⟩, k4, k5⟩ := hC s hs
    rw [m3 s, if_pos hs, m2.2 s 4 (by decide) (by decide), m2.2 s 5 (by decide) (by decide), c2 s, if_pos hs, k1]
    refine ⟨rfl, ?_, fun e => k4 (dec1_pos e), k5⟩
    rw [k3]
    exact dec1_nI k2
  obtain ⟨q, st2, a1, a2, a3, a4, a5, a6, a7, a8, a9⟩ := aft hB hI (fun i hi => m2.1 i (by omega)) hM1 hC1 (RSw.fr m2 (by decide) hS) (S 10 0) (S 11 0) (S 20)
  refine ⟨(S 0 0 + nI 1, q), st1, st2, ?_, m1, a2, ?_⟩
  · unfold fX3_passSecond
    rw [show fX1_countTimersDown (S 14 0) (S 17) = some t' by rw [hnd]; exact c1, obS, a1, obS]
  · obtain ⟨⟨-, -, b0, bnd, ⟨r, r1, r2, r3, r4⟩, ⟨w, w1, w2, w3⟩, btm⟩, -⟩ := a9
    have he4 : ∀ j, 4 ≤ j → j < 164 → upd st2 3 (st2 3 + nI 1) j = st2 j := fun j hj _ => upd_ne (by omega)
    refine ⟨⟨hn, h8, (upd_ne (by omega)).trans b0, bnd, ⟨r, r1, r2, (upd_ne (by omega)).trans r3, r4⟩, ⟨w, w1, (upd_ne (by omega)).trans w2, w3⟩, ?_⟩, RMk.eqs he4 h8 (fun _ _ => rfl) a4, RCo.eqs he4 h8 (fun _ _ => rfl) (fun _ _ => rfl) (fun _ _ => rfl) a5, RSw.eqs he4 h8 a6, RCa.eqs he4 hn h8 (fun _ _ => rfl) a7, RCi.eqs he4 (fun _ _ => rfl) (fun _ _ => rfl) (fun _ _ => rfl) (fun _ _ => rfl) a8⟩
    rw [upd_at, a3 3 (by omega), htm]
    rfl
theorem P_adv (h : RS n S st) (p1 : Int32) : ∃ q q', fX5_advance (S 0 0) (S 6 0) (S 7 0) (S 8 0) (S 9 0) (S 10 0) (S 11 0) (S 12 0) (S 13 0) (S 14 0) (S 16) (S 17) (S 18) (S 19) (S 20) p1 = some q ∧ fX6_advance st p1 = some q' ∧ q.1 = q'.1 ∧
    RS n (mkS q.2.1 (S 1 0) (S 2) (S 3) (S 4) (S 5) (S 6 0) (S 7 0) (S 8 0) (S 9 0) q.2.2.1 q.2.2.2.1 q.2.2.2.2.1 q.2.2.2.2.2.1 (S 14 0) (S 15 0) (S 16) q.2.2.2.2.2.2.1 q.2.2.2.2.2.2.2.1 q.2.2.2.2.2.2.2.2.1 q.2.2.2.2.2.2.2.2.2) q'.2 := by
  unfold fX5_advance fX6_advance
  have hcase : (p1 < nI 1 ∨ nI 101 ≤ p1) ∨ ∃ j : Nat, 1 ≤ j ∧ j < 101 ∧ p1 = nI j := by
    rcases inR 101 (by omega) p1 with (ho | ho) | ⟨j, hj, rfl⟩
    · refine Or.inl (Or.inl ?_)
      rw [i_lt] at ho ⊢
      rw [nI_toInt (by omega)]
      rw [i0] at ho
      omega
    · exact Or.inl (Or.inr ho)
    · by_cases e : j = 0
      · subst e; exact Or.inl (Or.inl (by decide))
      · exact Or.inr ⟨j, by omega, hj, rfl⟩
  rcases hcase with ho | ⟨N, hN1, hN2, rfl⟩
  · rw [M_inF (by omega) (by omega) ho, obS]
    by_cases hz : p1 < nI 1
    · rw [if_pos hz]; exact ⟨_, _, rfl, rfl, rfl, h⟩
    · have hz2 : ¬ p1 ≤ nI 100 := by
        have := i_le.mp (ho.resolve_left hz)
        rw [i_le]
        rw [nI_toInt (by omega)] at this ⊢
        omega
      rw [if_neg hz, if_neg hz2]; exact ⟨_, _, rfl, rfl, rfl, h⟩
  · rw [M_inT (by omega) (by omega) (by omega), obS, if_neg (by rw [nI_ltI (by omega) (by omega)]; omega), if_pos (by rw [nI_leI (by omega) (by omega)]; omega), if_pos rfl]
    obtain ⟨a', b', e1, e2, hI⟩ := lock
      (F := fun f (a : Int32 × Int32 × Int32 × Int32 × Int32 × (Nat → Int32) × (Nat → Int32) × (Nat → Int32) × (Nat → Int32)) y => fX5_advance_L16 (S 6 0) (S 7 0) (S 8 0) (S 9 0) (S 14 0) (S 16) (nI N) (fun x2_16 v_t_cu_tm_16 v_t_cu_cl_wd_16 v_t_cu_cl_pd_16 v_t_cu_cl_ss_16 v_t_cu_cl_rs_16 v_t_cu_cl_tim_16 v_t_cu_cl_hel_16 v_t_cu_cl_dir_16 v_t_cu_cl_seg_16 => (some (v_t_cu_tm_16, v_t_cu_tm_16, v_t_cu_cl_wd_16, v_t_cu_cl_pd_16, v_t_cu_cl_ss_16, v_t_cu_cl_rs_16, v_t_cu_cl_tim_16, v_t_cu_cl_hel_16, v_t_cu_cl_dir_16, v_t_cu_cl_seg_16))) f y a.1 a.2.1 a.2.2.1 a.2.2.2.1 a.2.2.2.2.1 a.2.2.2.2.2.1 a.2.2.2.2.2.2.1 a.2.2.2.2.2.2.2.1 a.2.2.2.2.2.2.2.2)
      (G := fun f b y => fX6_advance_L15 (nI N) (fun x2_15 v_t_st_15 => (some ((v_t_st_15 3), v_t_st_15))) f y b)
      (KF := fun a => some (a.1, a)) (KG := fun b => some (b 3, b)) (N := N)
      (fun _ a b => RS n (mkS a.1 (S 1 0) (S 2) (S 3) (S 4) (S 5) (S 6 0) (S 7 0) (S 8 0) (S 9 0) a.2.1 a.2.2.1 a.2.2.2.1 a.2.2.2.2.1 (S 14 0) (S 15 0) (S 16) a.2.2.2.2.2.1 a.2.2.2.2.2.2.1 a.2.2.2.2.2.2.2.1 a.2.2.2.2.2.2.2.2) b)
      (fun k a b _ => by
        show fX5_advance_L16 _ _ _ _ _ _ _ _ (k + 1) _ _ _ _ _ _ _ _ _ _ = _
        rw [fX5_advance_L16, if_pos (nI_le (Nat.le_refl _) (by omega))])
      (fun k a b _ => by
        show fX6_advance_L15 _ _ (k + 1) _ _ = _
        rw [fX6_advance_L15, if_pos (nI_le (Nat.le_refl _) (by omega))])
      (fun k k' a b i hi hab => by
        obtain ⟨q, st1, st2, d1, d2, d3, d4⟩ := P_sec hab (nI N)
        refine ⟨q, upd st2 3 (st2 3 + nI 1), ?_, ?_, d4⟩
        · show fX5_advance_L16 _ _ _ _ _ _ _ _ (k + 1) _ _ _ _ _ _ _ _ _ _ = fX5_advance_L16 _ _ _ _ _ _ _ _ k _ _ _ _ _ _ _ _ _ _
          rw [fX5_advance_L16, if_neg (nI_ge hi (by omega))]
          refine (congrArg (fun z => Option.bind z _) (show _ = some q from d1)).trans ?_
          rw [obS, nI_add]
        · show fX6_advance_L15 _ _ (k' + 1) _ _ = fX6_advance_L15 _ _ k' _ _
          rw [fX6_advance_L15, if_neg (nI_ge hi (by omega)), d2, d3, obS, nI_add])
      N 0 (S 0 0, S 10 0, S 11 0, S 12 0, S 13 0, S 17, S 18, S 19, S 20) st FU FU (by omega) h (FU_gt (by omega)) (FU_gt (by omega))
    rw [nI_0] at e1 e2
    exact ⟨_, _, e1, e2, hI.1.2.2.2.2.2.2.symm, hI⟩
/-- a row cleared -/
theorem C_clear (v : Nat → Int32) {N : Nat} (hN : N < 100) : ∃ v', fX5_clearRow v N = some v' ∧ ∀ i, i < N → v' i = 0 := by
  have h := loopF (F := fun f a y => fX5_clearRow_L2 N (fun x1_2 v_x_2 => (some v_x_2)) f y a) (K := fun a => some a) (N := N) (g := fun i a => upd a i 0) (fun _ _ => True)
    (fun f a _ => by
      show fX5_clearRow_L2 _ _ (f + 1) _ _ = _
      rw [fX5_clearRow_L2, if_pos (nI_le (Nat.le_refl _) (by omega))])
    (fun f a i hi _ => ⟨by
      show fX5_clearRow_L2 _ _ (f + 1) _ _ = fX5_clearRow_L2 _ _ f _ _
      rw [fX5_clearRow_L2, if_neg (nI_ge hi (by omega)), gI hi (by omega), nI_clamp (by omega), nI_add], trivial⟩) N 0 v FU (by omega) trivial (FU_gt (by omega))
  rw [nI_0] at h
  refine ⟨_, h, ?_⟩
  exact fo_inv (g := fun i a => upd a i 0) (N := N) (fun i a => ∀ j, j < i → a j = 0) (fun i a _ ha j hj => by
    show upd a i 0 j = 0
    by_cases e : j = i
    · rw [e, upd_at]
    · rw [upd_ne e]; exact ha j (by omega)) N 0 v (by omega) (fun j hj => by omega)
theorem P_reset (h : RS n S st) (p1 p2 : Int32) : ∃ q q', fX5_reset (S 0 0) (S 1 0) (S 4) (S 6 0) (S 7 0) (S 8 0) (S 10 0) (S 11 0) (S 12 0) (S 13 0) (S 14 0) (S 15 0) (S 16) (S 17) (S 19) (S 20) p1 p2 = some q ∧ fX6_reset st p1 p2 = some q' ∧ q.1 = q'.1 ∧
    ∃ n', RS n' (mkS q.2.1 q.2.2.1 (S 2) (S 3) q.2.2.2.1 (S 5) q.2.2.2.2.1 q.2.2.2.2.2.1 q.2.2.2.2.2.2.1 (S 9 0) q.2.2.2.2.2.2.2.1 q.2.2.2.2.2.2.2.2.1 q.2.2.2.2.2.2.2.2.2.1 q.2.2.2.2.2.2.2.2.2.2.1 q.2.2.2.2.2.2.2.2.2.2.2.1 q.2.2.2.2.2.2.2.2.2.2.2.2.1 q.2.2.2.2.2.2.2.2.2.2.2.2.2.1 q.2.2.2.2.2.2.2.2.2.2.2.2.2.2.1 (S 18) q.2.2.2.2.2.2.2.2.2.2.2.2.2.2.2.1 q.2.2.2.2.2.2.2.2.2.2.2.2.2.2.2.2) q'.2 := by
  obtain ⟨⟨hn, h8, h0, hnd, -, ⟨r, r1, r2, r3⟩, htm⟩, -⟩ := id h
  have hcase : ∀ (lo hi : Nat) (v : Int32), lo ≤ hi → hi < 1000 → (v < nI lo ∨ nI (hi + 1) ≤ v) ∨ ∃ j : Nat, lo ≤ j ∧ j ≤ hi ∧ v = nI j := by
    intro lo hi v h1 h2
    rcases inR (hi + 1) (by omega) v with (ho | ho) | ⟨j, hj, rfl⟩
    · refine Or.inl (Or.inl ?_)
      rw [i_lt] at ho ⊢
      rw [nI_toInt (by omega)]
      rw [i0] at ho
      omega
    · exact Or.inl (Or.inr ho)
    · by_cases e : j < lo
      · exact Or.inl (Or.inl (by rw [nI_ltI (by omega) (by omega)]; exact e))
      · exact Or.inr ⟨j, by omega, by omega, rfl⟩
  have hgt : ∀ (hi : Nat) (v : Int32), hi < 1000 → nI (hi + 1) ≤ v → nI hi < v := by
    intro hi v h1 h2
    rw [i_le] at h2
    rw [i_lt]
    rw [nI_toInt (by omega)] at h2 ⊢
    omega
  unfold fX5_reset fX6_reset
  rcases hcase 3 8 p1 (by omega) (by omega) with ho | ⟨n', n1, n2, rfl⟩
  · rw [M_inF (by omega) (by omega) ho, obS]
    by_cases hz : p1 < nI 3
    · rw [if_pos hz]; exact ⟨_, _, rfl, rfl, rfl, n, h⟩
    · rw [if_neg hz, if_pos (hgt 8 p1 (by omega) (ho.resolve_left hz))]; exact ⟨_, _, rfl, rfl, rfl, n, h⟩
  · rw [M_inT (by omega) (by omega) (by omega), obS, if_neg (by rw [nI_ltI (by omega) (by omega)]; omega), if_neg (by rw [nI_ltI (by omega) (by omega)]; omega), if_pos rfl]
    rcases hcase 1 4 p2 (by omega) (by omega) with ho | ⟨q, q1, q2, rfl⟩
    · rw [M_inF (by omega) (by omega) ho, obS]
      by_cases hz : p2 < nI 1
      · rw [if_pos hz]; exact ⟨_, _, rfl, rfl, rfl, n, h⟩
      · have hz2 : ¬ p2 ≤ nI 4 := by
          have := hgt 4 p2 (by omega) (ho.resolve_left hz)
          rw [i_lt] at this
          rw [i_le]
          omega
        rw [if_neg hz, if_neg hz2]; exact ⟨_, _, rfl, rfl, rfl, n, h⟩
    · rw [M_inT (by omega) (by omega) (by omega), obS, if_neg (by rw [nI_ltI (by omega) (by omega)]; omega), if_pos (by rw [nI_leI (by omega) (by omega)]; omega), if_pos rfl]
      obtain ⟨pa', a1, a2⟩ := C_clear (S 4) (N := 16) (by omega)
      obtain ⟨cm', b1, b2⟩ := C_clear (S 16) (N := 8) (by omega)
      obtain ⟨ti', c1, c2⟩ := C_clear (S 17) (N := 8) (by omega)
      obtain ⟨di', d1, d2⟩ := C_clear (S 19) (N := 8) (by omega)
      obtain ⟨sg', e1, e2⟩ := C_clear (S 20) (N := 8) (by omega)
      unfold fX3_startAnew fX0_takeAllAway fX1_startAnew
      rw [a1, obS, obS, b1, obS, c1, obS, d1, obS, e1, obS, obS, obS]
      have hl := loopF (F := fun f a y => fX6_reset_L40 (nI n') (nI q) (fun x3_40 x4_40 x5_40 v_t_st_40 => (some (x3_40, (upd (upd (upd v_t_st_40 0 (nI n')) 1 (nI q)) 2 x4_40)))) f (st 0) (st 2) y a) (K := fun a => some (st 0, upd (upd (upd a 0 (nI n')) 1 (nI q)) 2 (st 2))) (N := 164) (g := fun i a => upd a i 0) (fun _ _ => True)
        (fun f a _ => by
          show fX6_reset_L40 _ _ _ (f + 1) _ _ _ _ = _
          rw [fX6_reset_L40, if_pos (nI_le (Nat.le_refl _) (by omega))])
        (fun f a i hi _ => ⟨by
          show fX6_reset_L40 _ _ _ (f + 1) _ _ _ _ = fX6_reset_L40 _ _ _ f _ _ _ _
          rw [fX6_reset_L40, if_neg (nI_ge hi (by omega)), gI hi (by omega), nI_clamp (by omega), nI_add], trivial⟩) 164 0 st FU (by omega) trivial (FU_gt (by omega))
      rw [nI_0] at hl
      have hz := fo_inv (g := fun i a => upd a i 0) (N := 164) (fun i a => ∀ j, j < i → a j = 0) (fun i a _ ha j hj => by
        show upd a i 0 j = 0
        by_cases e : j = i
        · rw [e, upd_at]
        · rw [upd_ne e]; exact ha j (by omega)) 164 0 st (by omega) (fun j hj => by omega)
      generalize fo (fun i a => upd a i 0) 164 0 st = st' at hl hz
      refine ⟨_, _, rfl, hl, hnd.trans h0.symm, n', RS_zero (q := q) (r := r) n1 n2 ?_ q1 q2 ?_ r1 ?_ (fun j h1 h2 => ?_) rfl rfl a2 rfl rfl rfl r3 rfl rfl rfl rfl rfl rfl b2 c2 d2 e2⟩
      · show upd (upd (upd st' 0 (nI n')) 1 (nI q)) 2 (st 2) 0 = _
        rw [upd_ne (by omega), upd_ne (by omega), upd_at]
      · show upd (upd (upd st' 0 (nI n')) 1 (nI q)) 2 (st 2) 1 = _
        rw [upd_ne (by omega), upd_at]
      · show upd (upd (upd st' 0 (nI n')) 1 (nI q)) 2 (st 2) 2 = _
        rw [upd_at]; exact r2
      · show upd (upd (upd st' 0 (nI n')) 1 (nI q)) 2 (st 2) j = _
        rw [upd_ne (by omega), upd_ne (by omega), upd_ne (by omega)]; exact hz j h2
end PB4
