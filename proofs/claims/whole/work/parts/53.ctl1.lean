/-! PURE PART 4: the controller, what is down and the direct requests -/
theorem sp_upd {st : Nat → Int32} {s k s' k' : Nat} {x : Int32} (hk : k < 7) (hk' : k' < 7) : sp (upd st (12 + 7 * s + k) x) s' k' = if s' = s ∧ k' = k then x else sp st s' k' := by
  unfold sp upd
  by_cases h : s' = s ∧ k' = k
  · rw [if_pos h, if_pos (by omega)]
  · rw [if_neg h, if_neg (by omega)]
theorem hd_upd {st : Nat → Int32} {s k j : Nat} {x : Int32} (hs : s < 8) (hk : k < 7) (hj : j < 12 ∨ 68 ≤ j) : upd st (12 + 7 * s + k) x j = st j := by
  unfold upd; rw [if_neg (by omega)]
/-- outside the spans nothing changes, and of the spans only the columns of C -/
def frm (C : Nat → Prop) (st st' : Nat → Int32) : Prop := (∀ j, (j < 12 ∨ 68 ≤ j) → st' j = st j) ∧ ∀ s k, k < 7 → ¬ C k → sp st' s k = sp st s k
theorem frm.rf {C : Nat → Prop} {st : Nat → Int32} : frm C st st := ⟨fun _ _ => rfl, fun _ _ _ _ => rfl⟩
theorem frm.up {C : Nat → Prop} {st st' : Nat → Int32} {s k : Nat} {x : Int32} (h : frm C st st') (hs : s < 8) (hk : k < 7) (hC : C k) : frm C st (upd st' (12 + 7 * s + k) x) := by
  refine ⟨fun j hj => by rw [hd_upd hs hk hj]; exact h.1 j hj, fun s1 k1 hk1 h1 => ?_⟩
  rw [sp_upd hk hk1, if_neg (show ¬ (s1 = s ∧ k1 = k) from fun e => h1 (by rw [e.2]; exact hC))]
  exact h.2 s1 k1 hk1 h1
theorem dn_fr {n : Nat} {st st' : Nat → Int32} {C : Nat → Prop} (h : frm C st st') (hn : 3 ≤ n) (h8 : n ≤ 8) {s k : Nat} (hs : s < n) (hk : k < 7) (hC : ¬ C k) : dn n st' k s = dn n st k s := by
  have hm : (s + 1) % n < n := Nat.mod_lt _ (by omega)
  unfold dn
  rw [h.2 s k hk hC, h.1 (4 + s) (by omega), h.1 (4 + (s + 1) % n) (by omega)]
/-- timers, held requests and direct requests -/
def RCo (n : Nat) (st : Nat → Int32) (tim hel dir : Nat → Int32) : Prop := ∀ s, s < n → tim s = sp st s 3 ∧ (∃ t, t ≤ 60 ∧ sp st s 3 = nI t) ∧ (¬ sp st s 3 ≤ 0 → hel s = sp st s 4 ∧ (sp st s 4 = nI 1 ∨ sp st s 4 = nI 2)) ∧ dir s = sp st s 5
/-- switches -/
def RSw (n : Nat) (st : Nat → Int32) (ss rs : Int32) : Prop := (∀ s, s < n → (sp st s 6 = 0 ∨ sp st s 6 = nI 1 ∨ sp st s 6 = nI 2) ∧ tb ss s = decide (sp st s 6 = nI 1) ∧ tb rs s = decide (sp st s 6 = nI 2)) ∧ ∀ i, n ≤ i → tb ss i = false ∧ tb rs i = false
/-- marks and commands -/
def RMk (n : Nat) (st : Nat → Int32) (fw fp fn : Int32) (cmd : Nat → Int32) : Prop := ∀ s, s < n → tb fw s = decide (sp st s 0 = nI 1) ∧ tb fp s = decide (sp st s 1 = nI 1) ∧ tb fn s = decide (st (4 + s) = nI 1) ∧ cmd s = sp st s 2 ∧ isCmd (sp st s 2) ∧ (∃ x, sp st s 0 = wI x) ∧ (∃ x, sp st s 1 = wI x) ∧ ∃ x, st (4 + s) = wI x
theorem any1_snoc (P : Nat → Bool) : ∀ m i, any1 P (m + 1) i = (any1 P m i || P (i + m))
  | 0, i => by simp [any1]
  | m + 1, i => by
    show (P i || any1 P (m + 1) (i + 1)) = ((P i || any1 P m (i + 1)) || P (i + (m + 1)))
    rw [any1_snoc P m (i + 1), Bool.or_assoc, show i + 1 + m = i + (m + 1) by omega]
def pv (n i : Nat) : Nat := if i = 0 then n - 1 else i - 1
theorem C_spansAt {n i : Nat} (hn : 3 ≤ n) (h8 : n ≤ 8) (hi : i < n) : fX2_spansAt (nI n) (nI i) = some (((nI 1) <<< (nI i &&& 31)) ||| ((nI 1) <<< (nI (pv n i) &&& 31))) := by
  unfold fX2_spansAt pv
  by_cases h : i = 0
  · subst h
    rw [if_pos (by rw [nI_0]; decide), obS, pk_sub (by omega), if_pos rfl]
  · rw [if_neg (nI_nle (by omega) (by omega)), obS, pk_sub (by omega), if_neg h]
theorem C_caps {n : Nat} (hn : 3 ≤ n) (h8 : n ≤ 8) (fw fp fn wd0 pd0 : Int32) : ∃ cut, fX1_findCapacitiesDown fw fp fn wd0 pd0 (nI n) = some (fw ||| cut, fp ||| cut) ∧ ∀ s, s < n → tb cut s = (tb fn s || tb fn ((s + 1) % n)) := by
  have h := loopF (F := fun f a x => fX1_findCapacitiesDown_L4 fw fp fn (nI n) (fun x1_4 x2_4 v_t_wd_4 v_t_pd_4 => (some ((fw ||| x1_4), (fp ||| x1_4)))) f a x wd0 pd0) (K := fun a => some (fw ||| a, fp ||| a)) (N := n)
    (g := fun i a => if tb fn i = true then a ||| (((nI 1) <<< (nI i &&& 31)) ||| ((nI 1) <<< (nI (pv n i) &&& 31))) else a) (fun _ _ => True)
    (fun f a _ => by
      show fX1_findCapacitiesDown_L4 _ _ _ _ _ (f + 1) _ _ _ _ = _
      rw [fX1_findCapacitiesDown_L4, if_pos (nI_le (Nat.le_refl _) (by omega))])
    (fun f a i hi _ => ⟨by
      show fX1_findCapacitiesDown_L4 _ _ _ _ _ (f + 1) _ _ _ _ = fX1_findCapacitiesDown_L4 _ _ _ _ _ f _ _ _ _
      rw [fX1_findCapacitiesDown_L4, if_neg (nI_ge hi (by omega)), F_contains (by omega), obS, C_spansAt hn h8 hi, obS, nI_add]
      by_cases e : tb fn i = true
      · rw [if_pos e, if_pos e]
      · rw [if_neg e, if_neg e], trivial⟩)
    n 0 0 FU (by omega) trivial (FU_gt (by omega))
  refine ⟨_, by unfold fX1_findCapacitiesDown; rw [nI_0] at h; exact h, ?_⟩
  have hI := fo_inv (g := fun i a => if tb fn i = true then a ||| (((nI 1) <<< (nI i &&& 31)) ||| ((nI 1) <<< (nI (pv n i) &&& 31))) else a) (N := n) (fun i a => ∀ s, s < n → tb a s = any1 (fun v => tb fn v && (decide (s = v) || decide (s = pv n v))) i 0)
    (fun i a hi ha s hs => by
      have hp : pv n i < 32 := by unfold pv; split <;> omega
      rw [any1_snoc, Nat.zero_add, ← ha s hs]
      show tb (if tb fn i = true then _ else _) s = _
      by_cases e : tb fn i = true
      · rw [if_pos e, tb_or, tb_or, tb_bt (by omega), tb_bt hp, e]; simp
      · rw [if_neg e]; simp at e; simp [e])
    n 0 0 (by omega) (fun s _ => by rw [tb_0]; rfl)
  intro s hs
  rw [hI s hs]
  have hm : (s + 1) % n < n := Nat.mod_lt _ (by omega)
  have e1 : ∀ v, v < n → (s = pv n v ↔ v = (s + 1) % n) := by
    intro v hv
    unfold pv
    by_cases e : s + 1 = n
    · rw [e, Nat.mod_self]; split <;> omega
    · rw [Nat.mod_eq_of_lt (by omega)]; split <;> omega
  cases hR : (tb fn s || tb fn ((s + 1) % n))
  · rw [any0_f]
    intro v hv
    rw [Bool.or_eq_false_iff] at hR
    by_cases a1 : s = v
    · subst a1; rw [hR.1]; rfl
    · by_cases a2 : s = pv n v
      · rw [(e1 v hv).mp a2, hR.2]; rfl
      · simp [a1, a2]
  · rw [any0_iff]
    rw [Bool.or_eq_true] at hR
    rcases hR with h1 | h1
    · exact ⟨s, hs, by simp [h1]⟩
    · exact ⟨(s + 1) % n, hm, by rw [h1, decide_eq_true ((e1 _ hm).mpr rfl)]; simp⟩
theorem C_dir {wd pd : Int32} {cmd : Nat → Int32} {s : Nat} (hs : s < 8) (hc : isCmd (cmd s)) : ∃ q2 q7, fX1_requestOfFailures wd pd (nI s) = some q2 ∧ fX1_requestOfCommand pd cmd (nI s) = some q7 ∧ (if q2 < q7 then q7 else q2) = dq (tb wd s) (tb pd s) (cmd s) := by
  unfold fX1_requestOfFailures fX1_requestOfCommand
  rw [F_contains (by omega), obS, F_contains (by omega), gI hs (by decide), nI_clamp (by omega)]
  generalize tb wd s = w
  generalize tb pd s = p
  rcases hc with h | h | h | h | h | h <;> rw [h] <;> cases w <;> cases p <;> exact ⟨_, _, rfl, rfl, by decide +kernel⟩
/-- what the comparison of direct requests does: 1 starts the timer, 2 clears it -/
def efK (old sw d rt : Int32) : Nat := if d = 0 then (if (old = nI 5 ∨ old = nI 6) ∧ ¬ sw = 0 ∧ ¬ rt ≤ 0 then 1 else 0) else 2
def swv (ss rs : Int32) (s : Nat) : Int32 := if tb rs s = true then nI 2 else if tb ss s = true then nI 1 else 0
theorem C_take {rt wd pd ss rs : Int32} {cmd tim hel dir : Nat → Int32} {s : Nat} (hs : s < 8) (hc : isCmd (cmd s)) :
    fX1_takeDirectRequest rt wd pd ss rs cmd tim hel dir (nI s) = some (
      (if efK (dir s) (swv ss rs s) (dq (tb wd s) (tb pd s) (cmd s)) rt = 1 then upd tim s rt else if efK (dir s) (swv ss rs s) (dq (tb wd s) (tb pd s) (cmd s)) rt = 2 then upd tim s 0 else tim),
      (if efK (dir s) (swv ss rs s) (dq (tb wd s) (tb pd s) (cmd s)) rt = 1 then upd hel s (if swv ss rs s = nI 1 then nI 1 else nI 2) else hel),
      upd dir s (dq (tb wd s) (tb pd s) (cmd s))) := by
  obtain ⟨q2, q7, h1, h2, h3⟩ := C_dir (wd := wd) (pd := pd) hs hc
  unfold fX1_takeDirectRequest fX1_startWaiting
  rw [h1, obS, h2, obS, h3, C_swAt (by omega), obS]
  simp only [gI hs (show 8 < 2 ^ 31 by decide)]
  simp only [nI_clamp (show s < 2 ^ 31 by omega)]
  show _ = some (_, _, _)
  generalize dq (tb wd s) (tb pd s) (cmd s) = d
  unfold efK
  rw [show (if tb rs s = true then nI 2 else if tb ss s = true then nI 1 else 0) = swv ss rs s from rfl]
  generalize swv ss rs s = sw
  have h56 : ¬ nI 5 = nI 6 := by decide
  by_cases a1 : d = 0
  · by_cases a2 : dir s = nI 5
    · by_cases a3 : rt ≤ 0
      · simp [a1, a2, a3]
      · by_cases a4 : sw = 0
        · simp [a1, a2, a3, a4, obS]
        · by_cases a5 : sw = nI 1
          · simp [a1, a2, a3, a5, obS, show ¬ nI 1 = 0 by decide]
          · simp [a1, a2, a3, a4, a5, obS]
    · by_cases a6 : dir s = nI 6
      · have a7 : ¬ nI 6 = nI 5 := by decide
        by_cases a3 : rt ≤ 0
        · simp [a1, a6, a7, a3]
        · by_cases a4 : sw = 0
          · simp [a1, a6, a7, a3, a4, obS]
          · by_cases a5 : sw = nI 1
            · simp [a1, a6, a7, a3, a5, obS, show ¬ nI 1 = 0 by decide]
            · simp [a1, a6, a7, a3, a4, a5, obS]
      · simp [a1, a2, a6]
  · simp [a1]
theorem M_compare {st : Nat → Int32} {n : Nat} (h0 : st 0 = nI n) (hn : 3 ≤ n) (h8 : n ≤ 8) {s : Nat} (hs : s < n) (hc : isCmd (sp st s 2)) :
    ∃ st', fX6_compare st (nI s) = some st' ∧ frm (fun k => k = 3 ∨ k = 4 ∨ k = 5) st st' ∧ (∀ s', ¬ s' = s → ∀ k, k < 7 → sp st' s' k = sp st s' k) ∧ sp st' s 5 = dq (dn n st 0 s) (dn n st 1 s) (sp st s 2) ∧
      sp st' s 3 = (if efK (sp st s 5) (sp st s 6) (dq (dn n st 0 s) (dn n st 1 s) (sp st s 2)) (st 2) = 1 then st 2 else if efK (sp st s 5) (sp st s 6) (dq (dn n st 0 s) (dn n st 1 s) (sp st s 2)) (st 2) = 2 then 0 else sp st s 3) ∧
      sp st' s 4 = (if efK (sp st s 5) (sp st s 6) (dq (dn n st 0 s) (dn n st 1 s) (sp st s 2)) (st 2) = 1 then (if sp st s 6 = nI 1 then nI 1 else nI 2) else sp st s 4) := by
  have b3 : fX6_at (nI s) (nI 3) = some (nI (12 + 7 * s + 3)) := M_at s 3
  have b4 : fX6_at (nI s) (nI 4) = some (nI (12 + 7 * s + 4)) := M_at s 4
  have b5 : fX6_at (nI s) (nI 5) = some (nI (12 + 7 * s + 5)) := M_at s 5
  have e6 : ∀ x, sp (upd st (12 + 7 * s + 3) x) s 6 = sp st s 6 := fun x => by rw [sp_upd (by decide) (by decide)]; simp
  unfold fX6_compare
  rw [M_of (by omega) (by decide), obS, M_dir h0 hn h8 hs hc, obS]
  simp only [b3, b4, b5, obS, gI (show 12 + 7 * s + 3 < 164 by omega) (show 164 < 2 ^ 31 by decide), gI (show 12 + 7 * s + 4 < 164 by omega) (show 164 < 2 ^ 31 by decide), gI (show 12 + 7 * s + 5 < 164 by omega) (show 164 < 2 ^ 31 by decide)]
  simp only [nI_clamp (show 12 + 7 * s + 3 < 2 ^ 31 by omega), nI_clamp (show 12 + 7 * s + 4 < 2 ^ 31 by omega), nI_clamp (show 12 + 7 * s + 5 < 2 ^ 31 by omega), M_of (show s < 8 by omega) (show 6 < 7 by decide), e6]
  generalize dq (dn n st 0 s) (dn n st 1 s) (sp st s 2) = d
  have fin : ∀ st1 : Nat → Int32, frm (fun k => k = 3 ∨ k = 4 ∨ k = 5) st st1 → (∀ s', ¬ s' = s → ∀ k, k < 7 → sp st1 s' k = sp st s' k) → ∀ x3 x4 : Int32, sp st1 s 3 = x3 → sp st1 s 4 = x4 →
      ∃ st', some (upd st1 (12 + 7 * s + 5) d) = some st' ∧ frm (fun k => k = 3 ∨ k = 4 ∨ k = 5) st st' ∧ (∀ s', ¬ s' = s → ∀ k, k < 7 → sp st' s' k = sp st s' k) ∧ sp st' s 5 = d ∧ sp st' s 3 = x3 ∧ sp st' s 4 = x4 := by
    intro st1 f1 f2 x3 x4 g3 g4
    refine ⟨_, rfl, f1.up (by omega) (by decide) (Or.inr (Or.inr rfl)), fun s' hs' k hk => ?_, ?_, ?_, ?_⟩
    · rw [sp_upd (by decide) hk, if_neg (show ¬ (s' = s ∧ k = _) from fun e => hs' e.1)]; exact f2 s' hs' k hk
    · rw [sp_upd (by decide) (by decide), if_pos ⟨rfl, rfl⟩]
    · rw [sp_upd (by decide) (by decide), if_neg (by omega)]; exact g3
    · rw [sp_upd (by decide) (by decide), if_neg (by omega)]; exact g4
  have u0 := fin st frm.rf (fun _ _ _ _ => rfl) _ _ rfl rfl
  have u2 := fin (upd st (12 + 7 * s + 3) 0) (frm.rf.up (by omega) (by decide) (Or.inl rfl)) (fun s' hs' k hk => by rw [sp_upd (by decide) hk, if_neg (show ¬ (s' = s ∧ k = _) from fun e => hs' e.1)]) 0 (sp st s 4) (by rw [sp_upd (by decide) (by decide), if_pos ⟨rfl, rfl⟩]) (by rw [sp_upd (by decide) (by decide), if_neg (by omega)])
  have u1 : ∀ y, _ := fun y => fin (upd (upd st (12 + 7 * s + 3) (st 2)) (12 + 7 * s + 4) y) ((frm.rf.up (by omega) (by decide) (Or.inl rfl)).up (by omega) (by decide) (Or.inr (Or.inl rfl))) (fun s' hs' k hk => by rw [sp_upd (by decide) hk, if_neg (show ¬ (s' = s ∧ k = _) from fun e => hs' e.1), sp_upd (by decide) hk, if_neg (show ¬ (s' = s ∧ k = _) from fun e => hs' e.1)]) (st 2) y (by rw [sp_upd (by decide) (by decide), if_neg (by omega), sp_upd (by decide) (by decide), if_pos ⟨rfl, rfl⟩]) (by rw [sp_upd (by decide) (by decide), if_pos ⟨rfl, rfl⟩])
  unfold efK
  by_cases a1 : d = 0
  · have key : ∀ (ph : Int32), (ph = nI 1 ∧ (sp st s 5 = nI 5 ∨ sp st s 5 = nI 6)) ∨ (ph = 0 ∧ ¬ (sp st s 5 = nI 5 ∨ sp st s 5 = nI 6)) → ∃ st', (((if ph = 0 then (some st) else ((if sp st s 6 = 0 then (some st) else (if d = 0 then (if (st 2) ≤ 0 then (some st) else ((if sp st s 6 = (nI 1) then (some (nI 1)) else (some (nI 2))).bind (fun ph100 => ((some (upd (upd st (12 + 7 * s + 3) (st 2)) (12 + 7 * s + 4) ph100)))))) else (some st))))).bind (fun ph101 => ((if d = 0 then (some ph101) else (some (upd ph101 (12 + 7 * s + 3) 0))).bind (fun ph116 => (some (upd ph116 (12 + 7 * s + 5) d)))))) : Option (Nat → Int32)) = some st' ∧ frm (fun k => k = 3 ∨ k = 4 ∨ k = 5) st st' ∧ (∀ s', ¬ s' = s → ∀ k, k < 7 → sp st' s' k = sp st s' k) ∧ sp st' s 5 = d ∧
        sp st' s 3 = (if (if d = 0 then (if (sp st s 5 = nI 5 ∨ sp st s 5 = nI 6) ∧ ¬ sp st s 6 = 0 ∧ ¬ st 2 ≤ 0 then 1 else 0) else 2) = 1 then st 2 else if (if d = 0 then (if (sp st s 5 = nI 5 ∨ sp st s 5 = nI 6) ∧ ¬ sp st s 6 = 0 ∧ ¬ st 2 ≤ 0 then 1 else 0) else 2) = 2 then 0 else sp st s 3) ∧
        sp st' s 4 = (if (if d = 0 then (if (sp st s 5 = nI 5 ∨ sp st s 5 = nI 6) ∧ ¬ sp st s 6 = 0 ∧ ¬ st 2 ≤ 0 then 1 else 0) else 2) = 1 then (if sp st s 6 = nI 1 then nI 1 else nI 2) else sp st s 4) := by
      intro ph hph
      rcases hph with ⟨e1, e2⟩ | ⟨e1, e2⟩
      · have e3 : ¬ ph = 0 := by rw [e1]; decide
        by_cases a2 : sp st s 6 = 0
        · simpa [e3, a1, a2, obS] using (by simpa [a1] using u0)
        · by_cases a3 : st 2 ≤ 0
          · simpa [e3, a1, a2, a3, obS] using (by simpa [a1] using u0)
          · by_cases a4 : sp st s 6 = nI 1
            · simpa [e3, e2, a1, a3, a4, obS, show ¬ nI 1 = 0 by decide] using (by simpa [a1] using u1 (nI 1))
            · simpa [e3, e2, a1, a2, a3, a4, obS] using (by simpa [a1] using u1 (nI 2))
      · simpa [e1, e2, a1, obS] using (by simpa [a1] using u0)
    by_cases o5 : sp st s 5 = nI 5
    · rw [if_pos o5, obS]; exact key (nI 1) (Or.inl ⟨rfl, Or.inl o5⟩)
    · rw [if_neg o5]
      by_cases o6 : sp st s 5 = nI 6
      · rw [if_pos o6, obS]; exact key (nI 1) (Or.inl ⟨rfl, Or.inr o6⟩)
      · rw [if_neg o6, obS]; exact key 0 (Or.inr ⟨rfl, fun e => e.elim o5 o6⟩)
  · have key : ∀ (ph : Int32), (((if ph = 0 then (some st) else ((if sp st s 6 = 0 then (some st) else (if d = 0 then (if (st 2) ≤ 0 then (some st) else ((if sp st s 6 = (nI 1) then (some (nI 1)) else (some (nI 2))).bind (fun ph100 => ((some (upd (upd st (12 + 7 * s + 3) (st 2)) (12 + 7 * s + 4) ph100)))))) else (some st))))).bind (fun ph101 => ((if d = 0 then (some ph101) else (some (upd ph101 (12 + 7 * s + 3) 0))).bind (fun ph116 => (some (upd ph116 (12 + 7 * s + 5) d)))))) : Option (Nat → Int32)) = some (upd (upd st (12 + 7 * s + 3) 0) (12 + 7 * s + 5) d) := by
      intro ph
      by_cases p0 : ph = 0
      · simp [p0, a1, obS]
      · by_cases p1 : sp st s 6 = 0
        · simp [p0, p1, a1, obS]
        · simp [p0, p1, a1, obS]
    obtain ⟨w, ew, hw⟩ := u2
    obtain rfl := Option.some.inj ew
    have hw2 : _ ∧ _ ∧ _ ∧ _ ∧ _ := hw
    by_cases o5 : sp st s 5 = nI 5
    · rw [if_pos o5, obS]; exact ⟨_, key (nI 1), by simpa [a1] using hw⟩
    · rw [if_neg o5]
      by_cases o6 : sp st s 5 = nI 6
      · rw [if_pos o6, obS]; exact ⟨_, key (nI 1), by simpa [a1] using hw⟩
      · rw [if_neg o6, obS]; exact ⟨_, key 0, by simpa [a1] using hw⟩
