/-! PURE PART 6: the controller, grants by falling requests, waits, segments; the whole run -/
/-- the reference's pass for LOCKOUT grants nothing -/
theorem stp62_9 {n : Nat} {st b : Nat → Int32} (h0 : st 0 = nI n) (hn : 3 ≤ n) (h8 : n ≤ 8) (hc : ∀ s, s < n → isCmd (sp st s 2)) (hf : frm C6 st b) (hz : ∀ s, s < n → sp b s 6 = 0) (KG : Int32 → Int32 → (Nat → Int32) → Option (Nat → Int32)) :
    ∃ b', fX6_control_L62 KG FU (nI 9) 0 b = KG (nI 9) (nI n) b' ∧ frm C6 st b' ∧ ∀ s, s < n → sp b' s 6 = 0 := by
  have h := loopF (F := fun f b x => fX6_control_L62 KG f (nI 9) x b) (K := fun b => KG (nI 9) (nI n) b) (N := n) (g := fun i b => if rq n st i = nI 9 then upd b (12 + 7 * i + 6) 0 else b) (fun _ b => frm C6 st b)
    (fun k b hI => by
      show fX6_control_L62 _ (k + 1) _ _ _ = _
      rw [fX6_control_L62, hI.1 0 (by omega), h0, if_pos (nI_le (Nat.le_refl _) (by omega))])
    (fun k b i hi hI => by
      have hb0 : b 0 = nI n := (hI.1 0 (by omega)).trans h0
      have hcb : ∀ s, s < n → isCmd (sp b s 2) := fun s hs => by rw [hI.2 s 2 (by decide) (by simp)]; exact hc s hs
      have gM := M_grant hb0 hn h8 hcb (r := 9) (by omega)
      rw [gr9] at gM
      constructor
      · show fX6_control_L62 _ (k + 1) _ _ _ = fX6_control_L62 _ k _ _ _
        rw [fX6_control_L62, hb0, if_neg (nI_ge hi (by omega)), M_rq hb0 hn h8 hi (hcb i hi), obS, rq_fr hI hn h8 hi, M_at i 6, obS, gM, obS, gI (by omega) (by decide), nI_clamp (by omega), nI_add]
        by_cases e : rq n st i = nI 9
        · rw [if_pos e, if_pos e]
        · rw [if_neg e, if_neg e]
      · show frm C6 st (if _ then _ else _)
        split
        · exact hI.up (by omega) (by decide) rfl
        · exact hI)
    n 0 b FU (by omega) hf (FU_gt (by omega))
  rw [nI_0] at h
  refine ⟨_, h, ?_⟩
  exact fo_inv (g := fun i b => if rq n st i = nI 9 then upd b (12 + 7 * i + 6) 0 else b) (N := n) (fun _ b => frm C6 st b ∧ ∀ s, s < n → sp b s 6 = 0)
    (fun i b hi hI => by
      split
      · refine ⟨hI.1.up (by omega) (by decide) rfl, fun s hs => ?_⟩
        rw [sp_upd (by decide) (by decide)]
        split
        · rfl
        · exact hI.2 s hs
      · exact hI)
    n 0 b (by omega) ⟨hf, hz⟩
/-- the outer loops, from request r down -/
theorem stp56 {n : Nat} {st : Nat → Int32} {tim hel dir : Nat → Int32} (h0 : st 0 = nI n) (hn : 3 ≤ n) (h8 : n ≤ 8) (hc : ∀ s, s < n → isCmd (sp st s 2)) (hq : ∀ s, s < n → rqv (dir s) (tim s) (hel s) = rq n st s)
    (KF : Int32 → Int32 → Int32 → Int32 → Option (Int32 × Int32)) (KG : Int32 → (Nat → Int32) → Option (Nat → Int32)) :
    ∀ (r k k' : Nat) (ss rs : Int32) (b : Nat → Int32), r < 9 → r < k → r < k' → Jr n st r 0 ss rs b → ∃ ss' rs' b', fX1_grantSwitches_L18 (nI n) tim hel dir KF k (b2i (any1 (fun s => decide (rq n st s = nI 9)) n 0)) (nI r) ss rs = KF (b2i (any1 (fun s => decide (rq n st s = nI 9)) n 0)) (nI 0) ss' rs' ∧ fX6_control_L56 KG k' (nI r) b = KG (nI 0) b' ∧ frm C6 st b' ∧ RSw n b' ss' rs' := by
  intro r
  induction r with
  | zero =>
    intro k k' ss rs b _ hk hk' hJ
    obtain ⟨k, rfl⟩ : ∃ j, k = j + 1 := ⟨k - 1, by omega⟩
    obtain ⟨k', rfl⟩ : ∃ j, k' = j + 1 := ⟨k' - 1, by omega⟩
    refine ⟨ss, rs, b, ?_, ?_, hJ.1, hJ.2.1⟩
    · rw [fX1_grantSwitches_L18, if_pos (by decide)]
    · rw [fX6_control_L56, if_pos (by decide)]
  | succ r ih =>
    intro k k' ss rs b hr hk hk' hJ
    obtain ⟨k, rfl⟩ : ∃ j, k = j + 1 := ⟨k - 1, by omega⟩
    obtain ⟨k', rfl⟩ : ∃ j, k' = j + 1 := ⟨k' - 1, by omega⟩
    obtain ⟨s1, r1, b1, g1, g2, g3⟩ := stp62 h0 hn h8 hc hq hr ss rs b hJ (fun x1_25 x2_25 x3_25 v_t_ss_25 v_t_rs_25 => (fX1_grantSwitches_L18 (nI n) tim hel dir KF k x1_25 (x2_25 + (-1)) v_t_ss_25 v_t_rs_25)) (fun x1_62 x2_62 v_t_st_62 => (fX6_control_L56 KG k' (x1_62 + (-1)) v_t_st_62))
    obtain ⟨s2, r2, b2, e1, e2, e3, e4⟩ := ih k k' s1 r1 b1 (by omega) (by omega) (by omega) ⟨g3.1, g3.2.1, fun s hs hz => by
      rcases g3.2.2 s hs hz with ⟨r', a1, a2, a3⟩ | ⟨a1, a2⟩
      · exact Or.inl ⟨r', by omega, a2, a3⟩
      · exact Or.inl ⟨r + 1, by omega, by omega, a1⟩⟩
    refine ⟨s2, r2, b2, ?_, ?_, e3, e4⟩
    · rw [fX1_grantSwitches_L18, if_neg (by rw [nI_ltI (by omega) (by omega)]; omega), g1, pk_m1, e1]
    · rw [fX6_control_L56, if_neg (nI_nle (by omega) (by omega)), g2, pk_m1, e2]
theorem stp_grant {n : Nat} {st : Nat → Int32} {ss0 rs0 : Int32} {tim hel dir : Nat → Int32} (h0 : st 0 = nI n) (hn : 3 ≤ n) (h8 : n ≤ 8) (hc : ∀ s, s < n → isCmd (sp st s 2)) (hq : ∀ s, s < n → rqv (dir s) (tim s) (hel s) = rq n st s)
    (KG : Int32 → (Nat → Int32) → Option (Nat → Int32)) : ∃ ss rs b, fX1_grantSwitches ss0 rs0 (nI n) tim hel dir = some (ss, rs) ∧ fX6_control_L25 (fun x1_25 v_t_st_25 => (fX6_control_L56 KG FU (nI 9) v_t_st_25)) FU 0 st = KG (nI 0) b ∧ frm C6 st b ∧ RSw n b ss rs := by
  obtain ⟨b1, g1, g2, g3⟩ := stp25 h0 hn h8 (fun x1_25 v_t_st_25 => (fX6_control_L56 KG FU (nI 9) v_t_st_25))
  obtain ⟨b2, e1, e2, e3⟩ := stp62_9 h0 hn h8 hc g2 g3 (fun x1_62 x2_62 v_t_st_62 => (fX6_control_L56 KG 399 (x1_62 + (-1)) v_t_st_62))
  have hJ : Jr n st 8 0 0 0 b2 := ⟨e2, ⟨fun s hs => ⟨Or.inl (e3 s hs), by rw [tb_0, e3 s hs]; decide, by rw [tb_0, e3 s hs]; decide⟩, fun i _ => ⟨tb_0 i, tb_0 i⟩⟩, fun s hs hz => absurd (e3 s hs) hz⟩
  obtain ⟨s2, r2, b3, a1, a2, a3, a4⟩ := stp56 h0 hn h8 hc hq (fun x1_18 x2_18 v_t_ss_18 v_t_rs_18 => (some (v_t_ss_18, v_t_rs_18))) KG 8 FU 399 0 0 b2 (by omega) (FU_gt (by omega)) (by omega) hJ
  refine ⟨s2, r2, b3, ?_, ?_, a3, a4⟩
  · unfold fX1_grantSwitches
    rw [C_locked h8, obS]
    rw [show any1 (fun s => decide (rqv (dir s) (tim s) (hel s) = nI 9)) n 0 = any1 (fun s => decide (rq n st s = nI 9)) n 0 from any0_congr (fun s hs => by rw [hq s hs])]
    exact a1
  · rw [g1]
    show fX6_control_L56 KG (399 + 1) (nI 9) b1 = _
    rw [fX6_control_L56, if_neg (by decide), e1, show nI 9 + (-1) = nI 8 from pk_m1 8, a2]
abbrev C3 : Nat → Prop := fun k => k = 3
/-- waits without a switch are dropped -/
theorem stp_drop {n : Nat} {st : Nat → Int32} {ss rs : Int32} {tim hel dir : Nat → Int32} (h0 : st 0 = nI n) (hn : 3 ≤ n) (h8 : n ≤ 8) (hc : ∀ s, s < n → isCmd (sp st s 2)) (hC : RCo n st tim hel dir) (hS : RSw n st ss rs) (hd : ∀ s, s < n → sp st s 5 = dq (dn n st 0 s) (dn n st 1 s) (sp st s 2)) :
    ∃ tim' b, fX1_dropWaitsWithoutSwitch ss rs (nI n) tim hel dir = some tim' ∧ fX6_control_L111 (fun x1_111 v_t_st_111 => (some v_t_st_111)) FU 0 st = some b ∧ frm C3 st b ∧ RCo n b tim' hel dir := by
  have h := lock (F := fun f a x => fX1_dropWaitsWithoutSwitch_L2 ss rs (nI n) hel dir (fun x1_2 v_t_tim_2 => (some v_t_tim_2)) f x a) (G := fun f b x => fX6_control_L111 (fun x1_111 v_t_st_111 => (some v_t_st_111)) f x b)
    (KF := fun a => some a) (KG := fun b => some b) (N := n) (fun _ a b => frm C3 st b ∧ RCo n b a hel dir)
    (fun k a b _ => by
      show fX1_dropWaitsWithoutSwitch_L2 _ _ _ _ _ _ (k + 1) _ _ = _
      rw [fX1_dropWaitsWithoutSwitch_L2, if_pos (nI_le (Nat.le_refl _) (by omega))])
    (fun k a b hI => by
      show fX6_control_L111 _ (k + 1) _ _ = _
      rw [fX6_control_L111, hI.1.1 0 (by omega), h0, if_pos (nI_le (Nat.le_refl _) (by omega))])
    (fun k k' a b i hi hI => by
      obtain ⟨f1, c1⟩ := hI
      have hb0 : b 0 = nI n := (f1.1 0 (by omega)).trans h0
      have hcb : isCmd (sp b i 2) := by rw [f1.2 i 2 (by decide) (by simp)]; exact hc i hi
      have hdb : sp b i 5 = dq (dn n b 0 i) (dn n b 1 i) (sp b i 2) := by rw [f1.2 i 5 (by decide) (by simp), dn_fr f1 hn h8 hi (by decide) (by simp), dn_fr f1 hn h8 hi (by decide) (by simp), f1.2 i 2 (by decide) (by simp)]; exact hd i hi
      have e1 := rq_eq c1 hi hdb
      have e6 : sp b i 6 = sp st i 6 := f1.2 i 6 (by decide) (by simp)
      have sw := swv_eq hS hi
      have F1 : fX1_dropWaitsWithoutSwitch_L2 ss rs (nI n) hel dir (fun x1_2 v_t_tim_2 => (some v_t_tim_2)) (k + 1) (nI i) a = (if (rq n b i = nI 1 ∨ rq n b i = nI 2) ∧ sp st i 6 = 0 then fX1_dropWaitsWithoutSwitch_L2 ss rs (nI n) hel dir (fun x1_2 v_t_tim_2 => (some v_t_tim_2)) k (nI (i + 1)) (upd a i 0) else fX1_dropWaitsWithoutSwitch_L2 ss rs (nI n) hel dir (fun x1_2 v_t_tim_2 => (some v_t_tim_2)) k (nI (i + 1)) a) := by
        rw [fX1_dropWaitsWithoutSwitch_L2, if_neg (nI_ge hi (by omega)), C_rqAt h8 hi, obS, e1, C_swAt (by omega), obS, show (if tb rs i = true then nI 2 else if tb ss i = true then nI 1 else 0) = swv ss rs i from rfl, sw, nI_add, gI (by omega) (by decide), nI_clamp (by omega)]
        by_cases a1 : rq n b i = nI 1
        · by_cases a3 : sp st i 6 = 0
          · simp [a1, a3, obS, show ¬ nI 1 = 0 by decide]
          · simp [a1, a3, obS, show ¬ nI 1 = 0 by decide]
        · by_cases a2 : rq n b i = nI 2
          · have a4 : ¬ nI 2 = nI 1 := by decide
            by_cases a3 : sp st i 6 = 0
            · simp [a2, a3, a4, obS, show ¬ nI 1 = 0 by decide]
            · simp [a2, a3, a4, obS, show ¬ nI 1 = 0 by decide]
          · simp [a1, a2, obS]
      have G1 : fX6_control_L111 (fun x1_111 v_t_st_111 => (some v_t_st_111)) (k' + 1) (nI i) b = (if (rq n b i = nI 1 ∨ rq n b i = nI 2) ∧ sp st i 6 = 0 then fX6_control_L111 (fun x1_111 v_t_st_111 => (some v_t_st_111)) k' (nI (i + 1)) (upd b (12 + 7 * i + 3) 0) else fX6_control_L111 (fun x1_111 v_t_st_111 => (some v_t_st_111)) k' (nI (i + 1)) b) := by
        rw [fX6_control_L111, hb0, if_neg (nI_ge hi (by omega)), M_rq hb0 hn h8 hi hcb, obS, obS, M_of (by omega) (by decide), obS, e6, M_at i 3, obS, gI (by omega) (by decide), nI_clamp (by omega), nI_add]
        by_cases a1 : rq n b i = nI 1
        · by_cases a3 : sp st i 6 = 0
          · simp [a1, a3, obS, show ¬ nI 1 = 0 by decide]
          · simp [a1, a3, obS, show ¬ nI 1 = 0 by decide]
        · by_cases a2 : rq n b i = nI 2
          · have a4 : ¬ nI 2 = nI 1 := by decide
            by_cases a3 : sp st i 6 = 0
            · simp [a2, a3, a4, obS, show ¬ nI 1 = 0 by decide]
            · simp [a2, a3, a4, obS, show ¬ nI 1 = 0 by decide]
          · simp [a1, a2, obS]
      by_cases w : (rq n b i = nI 1 ∨ rq n b i = nI 2) ∧ sp st i 6 = 0
      · rw [if_pos w] at F1 G1
        refine ⟨upd a i 0, upd b (12 + 7 * i + 3) 0, F1, G1, f1.up (by omega) (by decide) rfl, fun s hs => ?_⟩
        obtain ⟨s1, s2, s3, s4⟩ := c1 s hs
        rw [sp_upd (by decide) (by decide), sp_upd (by decide) (by decide), sp_upd (by decide) (by decide), if_neg (show ¬ (s = i ∧ 4 = 3) by omega), if_neg (show ¬ (s = i ∧ 5 = 3) by omega)]
        by_cases e : s = i
        · subst e
          rw [if_pos ⟨rfl, rfl⟩]
          exact ⟨by simp [upd], ⟨0, by omega, nI_0.symm⟩, fun z => absurd (by decide) z, s4⟩
        · rw [if_neg (show ¬ (s = i ∧ 3 = 3) by omega)]
          exact ⟨by simp [upd, e]; exact s1, s2, s3, s4⟩
      · rw [if_neg w] at F1 G1
        exact ⟨a, b, F1, G1, f1, c1⟩)
    n 0 tim st FU FU (by omega) ⟨frm.rf, hC⟩ (FU_gt (by omega)) (FU_gt (by omega))
  rw [nI_0] at h
  obtain ⟨a', b', h1, h2, h3⟩ := h
  exact ⟨a', b', h1, h2, h3.1, h3.2⟩
/-! segments -/
def stt (R : Nat → Bool) : Nat → Nat
  | 0 => 0
  | i + 1 => if R i = true then i + 1 else stt R i
def segC (n : Nat) (R : Nat → Bool) (v : Nat) : Nat := if R (n - 1) = true then stt R v else if stt R (n - 1) ≤ v then 0 else stt R v
theorem stt_le (R : Nat → Bool) : ∀ i, stt R i ≤ i
  | 0 => Nat.le_refl _
  | i + 1 => by
    show (if R i = true then i + 1 else stt R i) ≤ i + 1
    split
    · exact Nat.le_refl _
    · exact Nat.le_succ_of_le (stt_le R i)
theorem stp_seg {n : Nat} (hn : 3 ≤ n) (h8 : n ≤ 8) (rs : Int32) (seg : Nat → Int32) : ∃ seg', fX1_findSegments rs (nI n) seg = some seg' ∧ ∀ v, v < n → seg' v = nI (segC n (tb rs) v) := by
  -- the first loop
  have h := loopF (F := fun f (a : Int32 × (Nat → Int32)) x => fX1_findSegments_L4 rs (nI n) (fun x1_4 x2_4 v_t_seg_4 => ((fX5_contains rs ((nI n) - (nI 1))).bind (fun q60 => (if q60 = true then (some v_t_seg_4) else (fX1_findSegments_L69 rs (nI n) (fun x2_69 v_t_seg_69 => (some v_t_seg_69)) FU x1_4 v_t_seg_4))))) f a.1 x a.2)
    (K := fun a => ((fX5_contains rs ((nI n) - (nI 1))).bind (fun q60 => (if q60 = true then (some a.2) else (fX1_findSegments_L69 rs (nI n) (fun x2_69 v_t_seg_69 => (some v_t_seg_69)) FU a.1 a.2))))) (N := n)
    (g := fun i a => (nI (stt (tb rs) i), upd a.2 i (nI (stt (tb rs) i)))) (fun i a => a.1 = nI (stt (tb rs) (i - 1)))
    (fun k a _ => by
      show fX1_findSegments_L4 _ _ _ (k + 1) _ _ _ = _
      rw [fX1_findSegments_L4, if_pos (nI_le (Nat.le_refl _) (by omega))])
    (fun k a i hi hI => ⟨by
      show fX1_findSegments_L4 _ _ _ (k + 1) _ _ _ = fX1_findSegments_L4 _ _ _ k _ _ _
      rw [fX1_findSegments_L4, if_neg (nI_ge hi (by omega))]
      simp only [gI (show i < 8 by omega) (show 8 < 2 ^ 31 by decide)]
      simp only [nI_clamp (show i < 2 ^ 31 by omega), nI_add, hI]
      cases i with
      | zero => rw [if_pos (by decide), obS]
      | succ i =>
        rw [if_neg (nI_nle (by omega) (by omega)), pk_sub (by omega), Nat.add_sub_cancel, F_contains (by omega), obS]
        show ((if tb rs i = true then some (nI (i + 1)) else some (nI (stt (tb rs) i))).bind _) = fX1_findSegments_L4 _ _ _ k (nI (if tb rs i = true then i + 1 else stt (tb rs) i)) _ (upd a.2 (i + 1) (nI (if tb rs i = true then i + 1 else stt (tb rs) i)))
        by_cases e : tb rs i = true
        · simp only [if_pos e, obS]
        · simp only [if_neg e, obS], by
      show nI (stt (tb rs) i) = nI (stt (tb rs) (i + 1 - 1))
      rw [Nat.add_sub_cancel]⟩)
    n 0 (0, seg) FU (by omega) (by show (0 : Int32) = nI (stt (tb rs) 0); exact nI_0.symm) (FU_gt (by omega))
  have hI := fo_inv (g := fun i (a : Int32 × (Nat → Int32)) => (nI (stt (tb rs) i), upd a.2 i (nI (stt (tb rs) i)))) (N := n) (fun i a => (0 < i → a.1 = nI (stt (tb rs) (i - 1))) ∧ ∀ v, v < i → a.2 v = nI (stt (tb rs) v))
    (fun i a hi hI => ⟨fun _ => by show nI (stt (tb rs) i) = nI (stt (tb rs) (i + 1 - 1)); rw [Nat.add_sub_cancel], fun v hv => by
      show upd a.2 i _ v = _
      by_cases e : v = i
      · subst e; simp [upd]
      · simp only [upd, if_neg e]; exact hI.2 v (by omega)⟩)
    n 0 (0, seg) (by omega) ⟨fun h => absurd h (by omega), fun v hv => absurd hv (by omega)⟩
  generalize fo (fun i (a : Int32 × (Nat → Int32)) => (nI (stt (tb rs) i), upd a.2 i (nI (stt (tb rs) i)))) n 0 (0, seg) = z at h hI
  obtain ⟨z1, z2⟩ := hI
  have z1 := z1 (by omega)
  rw [nI_0] at h
  have hF : fX1_findSegments rs (nI n) seg = ((fX5_contains rs ((nI n) - (nI 1))).bind (fun q60 => (if q60 = true then (some z.2) else (fX1_findSegments_L69 rs (nI n) (fun x2_69 v_t_seg_69 => (some v_t_seg_69)) FU z.1 z.2)))) := h
  rw [pk_sub (by omega), F_contains (by omega), obS] at hF
  by_cases e : tb rs (n - 1) = true
  · rw [if_pos e] at hF
    exact ⟨z.2, hF, fun v hv => by rw [z2 v hv]; unfold segC; rw [if_pos e]⟩
  · rw [if_neg e, z1] at hF
    have hs := stt_le (tb rs) (n - 1)
    have h2 := loopF (F := fun f a x => fX1_findSegments_L69 rs (nI n) (fun x2_69 v_t_seg_69 => (some v_t_seg_69)) f x a) (K := fun a => some a) (N := n) (g := fun i a => upd a i 0) (fun _ _ => True)
      (fun k a _ => by
        show fX1_findSegments_L69 _ _ _ (k + 1) _ _ = _
        rw [fX1_findSegments_L69, if_pos (nI_le (Nat.le_refl _) (by omega))])
      (fun k a i hi _ => ⟨by
        show fX1_findSegments_L69 _ _ _ (k + 1) _ _ = fX1_findSegments_L69 _ _ _ k _ _
        rw [fX1_findSegments_L69, if_neg (nI_ge hi (by omega)), gI (by omega) (by decide), nI_clamp (by omega), nI_add], trivial⟩)
      (n - stt (tb rs) (n - 1)) (stt (tb rs) (n - 1)) z.2 FU (by omega) trivial (FU_gt (by omega))
    have hJ := fo_inv (g := fun i (a : Nat → Int32) => upd a i 0) (N := n) (fun i a => stt (tb rs) (n - 1) ≤ i ∧ ∀ v, v < n → a v = if stt (tb rs) (n - 1) ≤ v ∧ v < i then 0 else nI (stt (tb rs) v))
      (fun i a hi ha => ⟨by omega, fun v hv => by
        show upd a i 0 v = _
        by_cases e : v = i
        · subst e
          simp only [upd, if_true]
          rw [if_pos ⟨ha.1, by omega⟩]
        · simp only [upd, if_neg e]
          rw [ha.2 v hv]
          by_cases w : stt (tb rs) (n - 1) ≤ v ∧ v < i
          · rw [if_pos w, if_pos (by omega)]
          · rw [if_neg w, if_neg (by omega)]⟩)
      (n - stt (tb rs) (n - 1)) (stt (tb rs) (n - 1)) z.2 (by omega) ⟨Nat.le_refl _, fun v hv => by rw [if_neg (by omega)]; exact z2 v hv⟩
    refine ⟨_, hF.trans h2, fun v hv => ?_⟩
    rw [hJ.2 v hv]
    unfold segC
    rw [if_neg e]
    by_cases w : stt (tb rs) (n - 1) ≤ v
    · rw [if_pos ⟨w, hv⟩, if_pos w, nI_0]
    · rw [if_neg (by omega), if_neg w]

/-! the whole run -/
/-- what the last run found, kept by the class -/
def RCa (n : Nat) (st : Nat → Int32) (wd pd : Int32) (seg : Nat → Int32) (rs : Int32) : Prop := ∀ s, s < n → tb wd s = dn n st 0 s ∧ tb pd s = dn n st 1 s ∧ seg s = nI (segC n (tb rs) s) ∧ sp st s 5 = dq (dn n st 0 s) (dn n st 1 s) (sp st s 2)
abbrev C3456 : Nat → Prop := fun k => k = 3 ∨ k = 4 ∨ k = 5 ∨ k = 6
theorem frm.mono {C C' : Nat → Prop} {st st' : Nat → Int32} (h : frm C st st') (hC : ∀ k, C k → C' k) : frm C' st st' := ⟨h.1, fun s k hk h1 => h.2 s k hk (fun e => h1 (hC k e))⟩
theorem frm.tr {C : Nat → Prop} {a b c : Nat → Int32} (h1 : frm C a b) (h2 : frm C b c) : frm C a c := ⟨fun j hj => (h2.1 j hj).trans (h1.1 j hj), fun s k hk hC => (h2.2 s k hk hC).trans (h1.2 s k hk hC)⟩
theorem RMk.fr {n : Nat} {st st' : Nat → Int32} {fw fp fn : Int32} {cmd : Nat → Int32} (h8 : n ≤ 8) (h : RMk n st fw fp fn cmd) (f : frm C3456 st st') : RMk n st' fw fp fn cmd := by
  intro s hs
  rw [f.2 s 0 (by decide) (by simp), f.2 s 1 (by decide) (by simp), f.2 s 2 (by decide) (by simp), f.1 (4 + s) (by omega)]
  exact h s hs
theorem ctl {n : Nat} {st : Nat → Int32} {fw fp fn wd0 pd0 ss0 rs0 rt : Int32} {cmd tim hel dir seg : Nat → Int32} (h0 : st 0 = nI n) (hn : 3 ≤ n) (h8 : n ≤ 8) (hrt : st 2 = rt) (hr : ∃ r, r ≤ 60 ∧ rt = nI r) (hM : RMk n st fw fp fn cmd) (hC : RCo n st tim hel dir) (hS : RSw n st ss0 rs0) :
    ∃ wd pd ss rs tim' hel' dir' seg' st', fX1_run fw fp fn rt wd0 pd0 ss0 rs0 (nI n) cmd tim hel dir seg = some (wd, pd, ss, rs, tim', hel', dir', seg') ∧ fX6_control st = some st' ∧ frm C3456 st st' ∧ RMk n st' fw fp fn cmd ∧ RCo n st' tim' hel' dir' ∧ RSw n st' ss rs ∧ RCa n st' wd pd seg' rs := by
  obtain ⟨cut, c1, c2⟩ := C_caps hn h8 fw fp fn wd0 pd0
  have hw : ∀ s, s < n → tb (fw ||| cut) s = dn n st 0 s := fun s hs => by
    have hm : (s + 1) % n < n := Nat.mod_lt _ (by omega)
    unfold dn; rw [tb_or, c2 s hs, (hM s hs).1, (hM s hs).2.2.1, (hM _ hm).2.2.1]
  have hp : ∀ s, s < n → tb (fp ||| cut) s = dn n st 1 s := fun s hs => by
    have hm : (s + 1) % n < n := Nat.mod_lt _ (by omega)
    unfold dn; rw [tb_or, c2 s hs, (hM s hs).2.1, (hM s hs).2.2.1, (hM _ hm).2.2.1]
  unfold fX1_run fX6_control
  rw [c1, obS]
  obtain ⟨a, b, s1, s2, ⟨f1, r1, d1⟩⟩ := stp1 (seg := seg) h0 hn h8 hrt hr hM hC hS hw hp (fun x1_6 v_t_wd_6 v_t_pd_6 v_t_ss_6 v_t_rs_6 v_t_tim_6 v_t_hel_6 v_t_dir_6 v_t_seg_6 => ((fX1_grantSwitches v_t_ss_6 v_t_rs_6 (nI n) v_t_tim_6 v_t_hel_6 v_t_dir_6).bind (fun q29 => ((fX1_dropWaitsWithoutSwitch q29.1 q29.2 (nI n) v_t_tim_6 v_t_hel_6 v_t_dir_6).bind (fun q33 => ((fX1_findSegments q29.2 (nI n) v_t_seg_6).bind (fun q37 => (some (v_t_wd_6, v_t_pd_6, q29.1, q29.2, q33, v_t_hel_6, v_t_dir_6, q37)))))))))
    (fun x1_2 v_t_st_2 => (fX6_control_L25  (fun x1_25 v_t_st_25 => (fX6_control_L56  (fun x1_56 v_t_st_56 => (fX6_control_L111  (fun x1_111 v_t_st_111 => (some v_t_st_111)) FU 0 v_t_st_56)) FU (nI 9) v_t_st_25)) FU 0 v_t_st_2))
  have hb0 : b 0 = nI n := (f1.1 0 (by omega)).trans h0
  have db : ∀ s, s < n → ∀ k, k < 3 → dn n b k s = dn n st k s := fun s hs k hk => dn_fr f1 hn h8 hs (by omega) (by simp; omega)
  have hcb : ∀ s, s < n → isCmd (sp b s 2) := fun s hs => by rw [f1.2 s 2 (by decide) (by simp)]; exact (hM s hs).2.2.2.2.1
  have hdb : ∀ s, s < n → sp b s 5 = dq (dn n b 0 s) (dn n b 1 s) (sp b s 2) := fun s hs => by rw [db s hs 0 (by omega), db s hs 1 (by omega), f1.2 s 2 (by decide) (by simp)]; exact d1 s hs
  have hq : ∀ s, s < n → rqv (a.2.2 s) (a.1 s) (a.2.1 s) = rq n b s := fun s hs => rq_eq r1 hs (hdb s hs)
  obtain ⟨ss, rs, b2, g1, g2, g3, g4⟩ := stp_grant (ss0 := ss0) (rs0 := rs0) hb0 hn h8 hcb hq (fun x1_56 v_t_st_56 => (fX6_control_L111  (fun x1_111 v_t_st_111 => (some v_t_st_111)) FU 0 v_t_st_56))
  have hb20 : b2 0 = nI n := (g3.1 0 (by omega)).trans hb0
  have hcb2 : ∀ s, s < n → isCmd (sp b2 s 2) := fun s hs => by rw [g3.2 s 2 (by decide) (by simp)]; exact hcb s hs
  have r2 : RCo n b2 a.1 a.2.1 a.2.2 := fun s hs => by rw [g3.2 s 3 (by decide) (by simp), g3.2 s 4 (by decide) (by simp), g3.2 s 5 (by decide) (by simp)]; exact r1 s hs
  have hdb2 : ∀ s, s < n → sp b2 s 5 = dq (dn n b2 0 s) (dn n b2 1 s) (sp b2 s 2) := fun s hs => by rw [g3.2 s 5 (by decide) (by simp), dn_fr g3 hn h8 hs (by decide) (by simp), dn_fr g3 hn h8 hs (by decide) (by simp), g3.2 s 2 (by decide) (by simp)]; exact hdb s hs
  obtain ⟨tim', b3, e1, e2, e3, e4⟩ := stp_drop hb20 hn h8 hcb2 r2 g4 hdb2
  obtain ⟨seg', y1, y2⟩ := stp_seg hn h8 rs seg
  have F13 : frm C3456 st b3 := ((f1.mono (fun k h => by rcases h with h | h | h <;> subst h <;> decide)).tr (g3.mono (fun k h => by have h : k = 6 := h; subst h; decide))).tr (e3.mono (fun k h => by have h : k = 3 := h; subst h; decide))
  refine ⟨fw ||| cut, fp ||| cut, ss, rs, tim', a.2.1, a.2.2, seg', b3, ?_, ?_, F13, hM.fr h8 F13, e4, ?_, ?_⟩
  · refine s1.trans ?_
    show ((fX1_grantSwitches ss0 rs0 (nI n) a.1 a.2.1 a.2.2).bind _) = _
    rw [g1, obS]
    show ((fX1_dropWaitsWithoutSwitch ss rs (nI n) a.1 a.2.1 a.2.2).bind _) = _
    rw [e1, obS]
    show ((fX1_findSegments rs (nI n) seg).bind _) = _
    rw [y1, obS]
  · exact s2.trans (g2.trans e2)
  · refine ⟨fun s hs => ?_, g4.2⟩
    rw [e3.2 s 6 (by decide) (by simp)]; exact g4.1 s hs
  · intro s hs
    have k0 : dn n b3 0 s = dn n st 0 s := dn_fr F13 hn h8 hs (by decide) (by simp)
    have k1 : dn n b3 1 s = dn n st 1 s := dn_fr F13 hn h8 hs (by decide) (by simp)
    refine ⟨by rw [k0]; exact hw s hs, by rw [k1]; exact hp s hs, y2 s hs, ?_⟩
    rw [e3.2 s 5 (by decide) (by simp), e3.2 s 2 (by decide) (by simp), dn_fr e3 hn h8 hs (by decide) (by simp), dn_fr e3 hn h8 hs (by decide) (by simp)]
    exact hdb2 s hs
