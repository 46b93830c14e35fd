/-! PURE PART 5: the controller, its loops in step -/
theorem swv_eq {n : Nat} {st : Nat → Int32} {ss rs : Int32} {s : Nat} (h : RSw n st ss rs) (hs : s < n) : swv ss rs s = sp st s 6 := by
  obtain ⟨h1, h2, h3⟩ := h.1 s hs
  unfold swv
  rw [h2, h3]
  rcases h1 with e | e | e <;> rw [e] <;> decide +kernel
abbrev C345 : Nat → Prop := fun k => k = 3 ∨ k = 4 ∨ k = 5
def I1 (n : Nat) (st : Nat → Int32) (i : Nat) (a : (Nat → Int32) × (Nat → Int32) × (Nat → Int32)) (b : Nat → Int32) : Prop :=
  frm C345 st b ∧ RCo n b a.1 a.2.1 a.2.2 ∧ ∀ s, s < i → sp b s 5 = dq (dn n st 0 s) (dn n st 1 s) (sp st s 2)
theorem stp1 {n : Nat} {st : Nat → Int32} {fw fp fn wd pd ss rs rt : Int32} {cmd tim hel dir seg : Nat → Int32} (h0 : st 0 = nI n) (hn : 3 ≤ n) (h8 : n ≤ 8) (hrt : st 2 = rt) (hr : ∃ r, r ≤ 60 ∧ rt = nI r) (hM : RMk n st fw fp fn cmd) (hC : RCo n st tim hel dir) (hS : RSw n st ss rs)
    (hw : ∀ s, s < n → tb wd s = dn n st 0 s) (hp : ∀ s, s < n → tb pd s = dn n st 1 s) (KF : Int32 → Int32 → Int32 → Int32 → Int32 → (Nat → Int32) → (Nat → Int32) → (Nat → Int32) → (Nat → Int32) → Option (Int32 × Int32 × Int32 × Int32 × (Nat → Int32) × (Nat → Int32) × (Nat → Int32) × (Nat → Int32))) (KG : Int32 → (Nat → Int32) → Option (Nat → Int32)) :
    ∃ (a : (Nat → Int32) × (Nat → Int32) × (Nat → Int32)) (b : Nat → Int32), fX1_run_L6 fw fp fn rt (nI n) cmd KF FU 0 wd pd ss rs tim hel dir seg = KF (nI n) wd pd ss rs a.1 a.2.1 a.2.2 seg ∧ fX6_control_L2 KG FU 0 st = KG (nI n) b ∧ I1 n st n a b := by
  have h := lock (F := fun f (a : (Nat → Int32) × (Nat → Int32) × (Nat → Int32)) x => fX1_run_L6 fw fp fn rt (nI n) cmd KF f x wd pd ss rs a.1 a.2.1 a.2.2 seg) (G := fun f b x => fX6_control_L2 KG f x b)
    (KF := fun a => KF (nI n) wd pd ss rs a.1 a.2.1 a.2.2 seg) (KG := fun b => KG (nI n) b) (N := n) (I1 n st)
    (fun k a b _ => by
      show fX1_run_L6 _ _ _ _ _ _ _ (k + 1) _ _ _ _ _ _ _ _ _ = _
      rw [fX1_run_L6, if_pos (nI_le (Nat.le_refl _) (by omega))])
    (fun k a b hI => by
      show fX6_control_L2 _ (k + 1) _ _ = _
      rw [fX6_control_L2, hI.1.1 0 (by omega), h0, if_pos (nI_le (Nat.le_refl _) (by omega))])
    (fun k k' a b i hi hI => by
      obtain ⟨f1, c1, d1⟩ := hI
      obtain ⟨tim, hel, dir⟩ := a
      have hm := hM i hi
      have hb0 : b 0 = nI n := (f1.1 0 (by omega)).trans h0
      have hc2 : sp b i 2 = sp st i 2 := f1.2 i 2 (by decide) (by simp)
      have hc6 : sp b i 6 = sp st i 6 := f1.2 i 6 (by decide) (by simp)
      have hb2 : b 2 = rt := (f1.1 2 (by omega)).trans hrt
      have e0 : dn n b 0 i = dn n st 0 i := dn_fr f1 hn h8 hi (by decide) (by simp)
      have e1 : dn n b 1 i = dn n st 1 i := dn_fr f1 hn h8 hi (by decide) (by simp)
      obtain ⟨b', g1, g2, g3, g4, g5, g6⟩ := M_compare hb0 hn h8 hi (by rw [hc2]; exact hm.2.2.2.2.1)
      rw [e0, e1, hc2, hc6, hb2] at g5 g6
      rw [e0, e1, hc2] at g4
      obtain ⟨t1, t2, t3, t4⟩ := c1 i hi
      have t4 : dir i = sp b i 5 := t4
      have T := C_take (rt := rt) (wd := wd) (pd := pd) (ss := ss) (rs := rs) (cmd := cmd) (tim := tim) (hel := hel) (dir := dir) (s := i) (by omega) (by rw [hm.2.2.2.1]; exact hm.2.2.2.2.1)
      rw [hw i hi, hp i hi, hm.2.2.2.1, swv_eq hS hi, t4] at T
      generalize efK (sp b i 5) (sp st i 6) (dq (dn n st 0 i) (dn n st 1 i) (sp st i 2)) rt = e at T g5 g6
      obtain ⟨a', T, A1, A2, A3⟩ : ∃ a' : (Nat → Int32) × (Nat → Int32) × (Nat → Int32), fX1_takeDirectRequest rt wd pd ss rs cmd tim hel dir (nI i) = some a' ∧ a'.1 = (if e = 1 then upd tim i rt else if e = 2 then upd tim i 0 else tim) ∧ a'.2.1 = (if e = 1 then upd hel i (if sp st i 6 = nI 1 then nI 1 else nI 2) else hel) ∧ a'.2.2 = upd dir i (dq (dn n st 0 i) (dn n st 1 i) (sp st i 2)) := ⟨_, T, rfl, rfl, rfl⟩
      refine ⟨a', b', ?_, ?_, ?_, ?_, ?_⟩
      · show fX1_run_L6 _ _ _ _ _ _ _ (k + 1) _ _ _ _ _ _ _ _ _ = fX1_run_L6 _ _ _ _ _ _ _ k _ _ _ _ _ _ _ _ _
        rw [fX1_run_L6, if_neg (nI_ge hi (by omega)), T, obS, nI_add]
      · show fX6_control_L2 _ (k' + 1) _ _ = fX6_control_L2 _ k' _ _
        rw [fX6_control_L2, hb0, if_neg (nI_ge hi (by omega)), g1, obS, nI_add]
      · exact ⟨fun j hj => (g2.1 j hj).trans (f1.1 j hj), fun s k hk hC => (g2.2 s k hk hC).trans (f1.2 s k hk hC)⟩
      · intro s hs
        rw [A1, A2, A3]
        by_cases es : s = i
        · subst es
          rw [g4, g5, g6]
          refine ⟨?_, ?_, ?_, by simp [upd]⟩
          · by_cases z1 : e = 1
            · simp [z1, upd]
            · by_cases z2 : e = 2
              · simp [z2, upd]
              · simp [z1, z2]; exact t1
          · by_cases z1 : e = 1
            · simp [z1]; exact hr
            · by_cases z2 : e = 2
              · simp [z2]; exact ⟨0, by omega, nI_0.symm⟩
              · simp [z1, z2]; exact t2
          · by_cases z1 : e = 1
            · intro _
              simp only [z1, if_pos]
              refine ⟨by simp [upd], ?_⟩
              by_cases z6 : sp st s 6 = nI 1
              · exact Or.inl (by rw [if_pos z6])
              · exact Or.inr (by rw [if_neg z6])
            · by_cases z2 : e = 2
              · intro z; simp [z2] at z
              · simp only [z1, z2, if_false]; exact t3
        · obtain ⟨s1, s2, s3, s4⟩ := c1 s hs
          have q : ∀ k, k < 7 → sp b' s k = sp b s k := fun k hk => g3 s es k hk
          rw [q 3 (by decide), q 4 (by decide), q 5 (by decide)]
          have u : ∀ (f : Nat → Int32) (x : Int32), upd f i x s = f s := fun f x => by simp [upd, es]
          refine ⟨?_, s2, ?_, by rw [u]; exact s4⟩
          · by_cases z1 : e = 1
            · rw [if_pos z1, u]; exact s1
            · rw [if_neg z1]
              by_cases z2 : e = 2
              · rw [if_pos z2, u]; exact s1
              · rw [if_neg z2]; exact s1
          · intro z
            by_cases z1 : e = 1
            · rw [if_pos z1, u]; exact s3 z
            · rw [if_neg z1]; exact s3 z
      · intro s hs
        by_cases es : s = i
        · subst es; exact g4
        · rw [g3 s es 5 (by decide)]; exact d1 s (by omega))
    n 0 (tim, hel, dir) st FU FU (by omega) ⟨frm.rf, hC, fun s hs => absurd hs (by omega)⟩ (FU_gt (by omega)) (FU_gt (by omega))
  rw [nI_0] at h
  exact h
/-- the reference takes all switches away -/
theorem stp25 {n : Nat} {st : Nat → Int32} (h0 : st 0 = nI n) (hn : 3 ≤ n) (h8 : n ≤ 8) (K : Int32 → (Nat → Int32) → Option (Nat → Int32)) : ∃ b, fX6_control_L25 K FU 0 st = K (nI n) b ∧ frm (fun k => k = 6) st b ∧ ∀ s, s < n → sp b s 6 = 0 := by
  have h := loopF (F := fun f b x => fX6_control_L25 K f x b) (K := fun b => K (nI n) b) (N := n) (g := fun i b => upd b (12 + 7 * i + 6) 0) (fun _ b => frm (fun k => k = 6) st b)
    (fun k b hI => by
      show fX6_control_L25 _ (k + 1) _ _ = _
      rw [fX6_control_L25, hI.1 0 (by omega), h0, if_pos (nI_le (Nat.le_refl _) (by omega))])
    (fun k b i hi hI => ⟨by
      show fX6_control_L25 _ (k + 1) _ _ = fX6_control_L25 _ k _ _
      rw [fX6_control_L25, hI.1 0 (by omega), h0, if_neg (nI_ge hi (by omega)), M_at i 6, obS, gI (by omega) (by decide), nI_clamp (by omega), nI_add], hI.up (by omega) (by decide) rfl⟩)
    n 0 st FU (by omega) frm.rf (FU_gt (by omega))
  rw [nI_0] at h
  refine ⟨_, h, ?_⟩
  exact fo_inv (g := fun i b => upd b (12 + 7 * i + 6) 0) (N := n) (fun i b => frm (fun k => k = 6) st b ∧ ∀ s, s < i → sp b s 6 = 0)
    (fun i b hi hI => ⟨hI.1.up (by omega) (by decide) rfl, fun s hs => by
      show sp (upd b (12 + 7 * i + 6) 0) s 6 = 0
      rw [sp_upd (by decide) (by decide)]
      by_cases e : s = i
      · rw [if_pos ⟨e, rfl⟩]
      · rw [if_neg (by omega)]; exact hI.2 s (by omega)⟩)
    n 0 st (by omega) ⟨frm.rf, fun s hs => absurd hs (by omega)⟩
abbrev C6 : Nat → Prop := fun k => k = 6
theorem rq_fr {n : Nat} {st st' : Nat → Int32} (h : frm C6 st st') (hn : 3 ≤ n) (h8 : n ≤ 8) {s : Nat} (hs : s < n) : rq n st' s = rq n st s := by
  unfold rq
  rw [dn_fr h hn h8 hs (by decide) (by simp), dn_fr h hn h8 hs (by decide) (by simp), h.2 s 2 (by decide) (by simp), h.2 s 3 (by decide) (by simp), h.2 s 4 (by decide) (by simp)]
/-- a span's request of the reference is the class's -/
theorem rq_eq {n : Nat} {st : Nat → Int32} {tim hel dir : Nat → Int32} (hC : RCo n st tim hel dir) {s : Nat} (hs : s < n) (hd : sp st s 5 = dq (dn n st 0 s) (dn n st 1 s) (sp st s 2)) : rqv (dir s) (tim s) (hel s) = rq n st s := by
  obtain ⟨t1, t2, t3, t4⟩ := hC s hs
  unfold rq
  rw [← hd, t4, t1]
  unfold rqv
  by_cases h1 : sp st s 5 = 0
  · rw [if_pos h1, if_pos h1]
    by_cases h2 : sp st s 3 ≤ 0
    · rw [if_pos h2, if_pos h2]
    · rw [if_neg h2, if_neg h2]; exact (t3 h2).1
  · rw [if_neg h1, if_neg h1]
theorem ss_any {n : Nat} (h8 : n ≤ 8) {m : Int32} {P : Nat → Bool} (h : ∀ s, s < n → tb m s = P s) (hz : ∀ i, n ≤ i → tb m i = false) : decide (¬ m = 0) = any1 P n 0 := by
  cases hp : any1 P n 0
  · rw [any0_f] at hp
    simp only [decide_eq_false_iff_not, Decidable.not_not]
    exact tb_eq0.mpr (fun i _ => by
      by_cases e : i < n
      · rw [h i e]; exact hp i e
      · exact hz i (by omega))
  · rw [any0_iff] at hp
    obtain ⟨j, h1, h2⟩ := hp
    simp only [decide_eq_true_eq]
    intro e
    have := tb_eq0.mp e j (by omega)
    rw [h j h1, h2] at this; cases this
theorem gr_cases (L S R : Bool) {r : Nat} (hr : r < 10) : gr L S R r = 0 ∨ gr L S R r = nI 1 ∨ gr L S R r = nI 2 := by
  have key : ∀ r, r < 10 → ∀ L S R : Bool, gr L S R r = 0 ∨ gr L S R r = nI 1 ∨ gr L S R r = nI 2 := by decide +kernel
  exact key r hr L S R
theorem gr9 (L S R : Bool) : gr L S R 9 = 0 := by cases L <;> cases S <;> cases R <;> decide +kernel
/-- switches so far: only spans of greater requests, or of this request and already looked at, have one -/
def Jr (n : Nat) (st : Nat → Int32) (r i : Nat) (ss rs : Int32) (b : Nat → Int32) : Prop := frm C6 st b ∧ RSw n b ss rs ∧ ∀ s, s < n → ¬ sp b s 6 = 0 → (∃ r', r < r' ∧ r' < 10 ∧ rq n st s = nI r') ∨ (rq n st s = nI r ∧ s < i)
theorem stp62 {n : Nat} {st : Nat → Int32} {tim hel dir : Nat → Int32} (h0 : st 0 = nI n) (hn : 3 ≤ n) (h8 : n ≤ 8) (hc : ∀ s, s < n → isCmd (sp st s 2)) (hq : ∀ s, s < n → rqv (dir s) (tim s) (hel s) = rq n st s) {r : Nat} (hr : r < 9) (ss rs : Int32) (b : Nat → Int32) (hJ : Jr n st r 0 ss rs b)
    (KF : Int32 → Int32 → Int32 → Int32 → Int32 → Option (Int32 × Int32)) (KG : Int32 → Int32 → (Nat → Int32) → Option (Nat → Int32)) :
    ∃ ss' rs' b', fX1_grantSwitches_L25 (nI n) tim hel dir KF FU (b2i (any1 (fun s => decide (rq n st s = nI 9)) n 0)) (nI r) 0 ss rs = KF (b2i (any1 (fun s => decide (rq n st s = nI 9)) n 0)) (nI r) (nI n) ss' rs' ∧ fX6_control_L62 KG FU (nI r) 0 b = KG (nI r) (nI n) b' ∧ Jr n st r n ss' rs' b' := by
  have h := lock (F := fun f (a : Int32 × Int32) x => fX1_grantSwitches_L25 (nI n) tim hel dir KF f (b2i (any1 (fun s => decide (rq n st s = nI 9)) n 0)) (nI r) x a.1 a.2) (G := fun f b x => fX6_control_L62 KG f (nI r) x b)
    (KF := fun a => KF (b2i (any1 (fun s => decide (rq n st s = nI 9)) n 0)) (nI r) (nI n) a.1 a.2) (KG := fun b => KG (nI r) (nI n) b) (N := n) (fun i a b => Jr n st r i a.1 a.2 b)
    (fun k a b _ => by
      show fX1_grantSwitches_L25 _ _ _ _ _ (k + 1) _ _ _ _ _ = _
      rw [fX1_grantSwitches_L25, if_pos (nI_le (Nat.le_refl _) (by omega))])
    (fun k a b hI => by
      show fX6_control_L62 _ (k + 1) _ _ _ = _
      rw [fX6_control_L62, hI.1.1 0 (by omega), h0, if_pos (nI_le (Nat.le_refl _) (by omega))])
    (fun k k' a b i hi hI => by
      obtain ⟨ss, rs⟩ := a
      obtain ⟨f1, w1, z1⟩ := hI
      have f1 : frm C6 st b := f1
      have w1 : RSw n b ss rs := w1
      have hb0 : b 0 = nI n := (f1.1 0 (by omega)).trans h0
      have hcb : ∀ s, s < n → isCmd (sp b s 2) := fun s hs => by rw [f1.2 s 2 (by decide) (by simp)]; exact hc s hs
      have hrb : rq n b i = rq n st i := rq_fr f1 hn h8 hi
      by_cases hrq : rq n st i = nI r
      · have hzero : sp b i 6 = 0 := by
          by_cases e : sp b i 6 = 0
          · exact e
          · rcases z1 i hi e with ⟨r', g1, g2, g3⟩ | ⟨_, g⟩
            · rw [hrq] at g3
              have := (nI_eq (by omega) (by omega)).mp g3
              omega
            · omega
        have eL : any1 (fun s => decide (rq n b s = nI 9)) n 0 = any1 (fun s => decide (rq n st s = nI 9)) n 0 := any0_congr (fun s hs => by rw [rq_fr f1 hn h8 hs])
        have eS : decide (¬ ss = 0) = any1 (fun s => decide (sp b s 6 = nI 1)) n 0 := ss_any h8 (fun s hs => (w1.1 s hs).2.1) (fun i hi => (w1.2 i hi).1)
        have eR : decide (¬ rs = 0) = any1 (fun s => decide (sp b s 6 = nI 2)) n 0 := ss_any h8 (fun s hs => (w1.1 s hs).2.2) (fun i hi => (w1.2 i hi).2)
        have gF := C_grant ss rs i (r := r) (by omega) (any1 (fun s => decide (rq n st s = nI 9)) n 0)
        have gM := M_grant hb0 hn h8 hcb (r := r) (by omega)
        rw [eS, eR] at gF
        rw [eL] at gM
        have gc := gr_cases (any1 (fun s => decide (rq n st s = nI 9)) n 0) (any1 (fun s => decide (sp b s 6 = nI 1)) n 0) (any1 (fun s => decide (sp b s 6 = nI 2)) n 0) (r := r) (by omega)
        generalize gr (any1 (fun s => decide (rq n st s = nI 9)) n 0) (any1 (fun s => decide (sp b s 6 = nI 1)) n 0) (any1 (fun s => decide (sp b s 6 = nI 2)) n 0) r = x at gF gM gc
        obtain ⟨a', gF, A1, A2⟩ : ∃ a' : Int32 × Int32, fX1_grant ss rs (nI i) (nI r) (b2i (any1 (fun s => decide (rq n st s = nI 9)) n 0)) = some a' ∧ a'.1 = (if x = nI 1 then ss ||| ((nI 1) <<< (nI i &&& 31)) else ss) ∧ a'.2 = (if x = nI 2 then rs ||| ((nI 1) <<< (nI i &&& 31)) else rs) := ⟨_, gF, rfl, rfl⟩
        refine ⟨a', upd b (12 + 7 * i + 6) x, ?_, ?_, f1.up (by omega) (by decide) rfl, ?_, ?_⟩
        · show fX1_grantSwitches_L25 _ _ _ _ _ (k + 1) _ _ _ _ _ = fX1_grantSwitches_L25 _ _ _ _ _ k _ _ _ _ _
          rw [fX1_grantSwitches_L25, if_neg (nI_ge hi (by omega)), C_rqAt h8 hi, obS, hq i hi, if_pos hrq, gF, obS, nI_add]
        · show fX6_control_L62 _ (k' + 1) _ _ _ = fX6_control_L62 _ k' _ _ _
          rw [fX6_control_L62, hb0, if_neg (nI_ge hi (by omega)), M_rq hb0 hn h8 hi (hcb i hi), obS, hrb, if_pos hrq, M_at i 6, obS, gM, obS, gI (by omega) (by decide), nI_clamp (by omega), nI_add]
        · rw [A1, A2]
          have n12 : ¬ nI 1 = nI 2 := by decide
          have n21 : ¬ nI 2 = nI 1 := by decide
          have n01 : ¬ (0 : Int32) = nI 1 := by decide
          have n02 : ¬ (0 : Int32) = nI 2 := by decide
          have bi := w1.1 i hi
          rw [hzero] at bi
          have b1 : tb ss i = false := by rw [bi.2.1]; decide
          have b2 : tb rs i = false := by rw [bi.2.2]; decide
          refine ⟨fun s hs => ?_, fun j hj => ?_⟩
          · rw [sp_upd (by decide) (by decide)]
            have hws := w1.1 s hs
            by_cases e : s = i
            · subst e
              rw [if_pos ⟨rfl, rfl⟩]
              refine ⟨gc, ?_, ?_⟩
              · rcases gc with e | e | e <;> rw [e] <;> simp [n12, n21, n01, n02, tb_or, tb_bt (show s < 32 by omega), b1]
              · rcases gc with e | e | e <;> rw [e] <;> simp [n12, n21, n01, n02, tb_or, tb_bt (show s < 32 by omega), b2]
            · rw [if_neg (by omega)]
              refine ⟨hws.1, ?_, ?_⟩
              · rw [← hws.2.1]; split
                · rw [tb_or, tb_bt (by omega)]; simp [e]
                · rfl
              · rw [← hws.2.2]; split
                · rw [tb_or, tb_bt (by omega)]; simp [e]
                · rfl
          · have hwj := w1.2 j hj
            constructor
            · split
              · rw [tb_or, tb_bt (by omega), hwj.1, decide_eq_false (by omega)]; rfl
              · exact hwj.1
            · split
              · rw [tb_or, tb_bt (by omega), hwj.2, decide_eq_false (by omega)]; rfl
              · exact hwj.2
        · intro s hs hz
          rw [sp_upd (by decide) (by decide)] at hz
          by_cases e : s = i
          · subst e; exact Or.inr ⟨hrq, by omega⟩
          · rw [if_neg (by omega)] at hz
            rcases z1 s hs hz with g | ⟨g1, g2⟩
            · exact Or.inl g
            · exact Or.inr ⟨g1, by omega⟩
      · refine ⟨(ss, rs), b, ?_, ?_, f1, w1, ?_⟩
        · show fX1_grantSwitches_L25 _ _ _ _ _ (k + 1) _ _ _ _ _ = fX1_grantSwitches_L25 _ _ _ _ _ k _ _ _ _ _
          rw [fX1_grantSwitches_L25, if_neg (nI_ge hi (by omega)), C_rqAt h8 hi, obS, hq i hi, if_neg hrq, nI_add]
        · show fX6_control_L62 _ (k' + 1) _ _ _ = fX6_control_L62 _ k' _ _ _
          rw [fX6_control_L62, hb0, if_neg (nI_ge hi (by omega)), M_rq hb0 hn h8 hi (hcb i hi), obS, hrb, if_neg hrq, nI_add]
        · intro s hs hz
          rcases z1 s hs hz with g | ⟨g1, g2⟩
          · exact Or.inl g
          · exact Or.inr ⟨g1, by omega⟩)
    n 0 (ss, rs) b FU FU (by omega) hJ (FU_gt (by omega)) (FU_gt (by omega))
  rw [nI_0] at h
  obtain ⟨a', b', h1, h2, h3⟩ := h
  exact ⟨a'.1, a'.2, b', h1, h2, h3⟩
