/-! PURE PART 12: routes, slots, adding and removing circuits -/
def chkR (n a b w : Nat) : Bool := match fX2_route (nI n) (nI a) (nI b) (nI w) with
  | some m => decide (¬ m = 0) && (decide (m.toBitVec.toNat < 2 ^ n) && (List.range n).all (fun s => decide (tb m s = pB n a b (decide (w = 1)) s)))
  | none => false
theorem route_all : ∀ n, n < 9 → 3 ≤ n → ∀ a, a < n → ∀ b, b < n → ∀ w, w < 2 → (decide (a = b) || chkR n a b w) = true := by decide +kernel
theorem C_route {n a b : Nat} (hn : 3 ≤ n) (h8 : n ≤ 8) (ha : a < n) (hb : b < n) (hab : ¬ a = b) (cw : Bool) : ∃ m, fX2_route (nI n) (nI a) (nI b) (wI cw) = some m ∧ ¬ m = 0 ∧ (∀ s, s < n → tb m s = pB n a b cw s) ∧ ∀ i, n ≤ i → tb m i = false := by
  obtain ⟨w, hw, e1, e2⟩ : ∃ w, w < 2 ∧ wI cw = nI w ∧ decide (w = 1) = cw := by
    cases cw
    · exact ⟨0, by omega, nI_0.symm, by decide⟩
    · exact ⟨1, by omega, rfl, by decide⟩
  have h := route_all n (by omega) hn a ha b hb w hw
  rw [decide_eq_false hab, Bool.false_or] at h
  unfold chkR at h
  rw [e1]
  cases hr : fX2_route (nI n) (nI a) (nI b) (nI w) with
  | none => rw [hr] at h; cases h
  | some m =>
    rw [hr] at h
    simp only [Bool.and_eq_true, decide_eq_true_eq, List.all_eq_true, List.mem_range] at h
    refine ⟨m, rfl, h.1, fun s hs => by rw [← e2]; exact h.2.2 s hs, fun i hi => ?_⟩
    exact Nat.testBit_lt_two_pow (Nat.lt_of_lt_of_le h.2.1 (Nat.pow_le_pow_right (by omega) hi))
section CIA
variable {fe se pa sl : Nat → Int32} {ex : Int32} {st : Nat → Int32} {n : Nat}
/-- circuit c of the kind x uses slot t on the path -/
def usd (n : Nat) (st : Nat → Int32) (a b : Nat) (cw x : Bool) (t c : Nat) : Bool := us st c && (decide (cq st c 4 = nI t) && (decide (cq st c 5 = wI x) && any1 (fun s => pth n st c s && pB n a b cw s) n 0))
theorem C_used (h8 : n ≤ 8) (hI : RCi n st fe se pa sl ex) {a b : Nat} {cw : Bool} {m : Int32} (hm : ∀ s, s < n → tb m s = pB n a b cw s) (x : Bool) : ∃ u, fX0_slotsUsed ex pa sl m (wI x) = some u ∧ ∀ t, t < 4 → tb u t = any1 (usd n st a b cw x t) 16 0 := by
  have bw : ∀ p q : Bool, (b2i p = wI q) = (p = q) := by decide +kernel
  have h := loopF (F := fun f a y => fX0_slotsUsed_L5 ex pa sl m (wI x) (fun x3_5 x4_5 => (some x3_5)) f a y) (K := fun a => some a) (N := 16) (g := fun c (u : Int32) => if (decide (¬ (pa c &&& m) = 0) && decide (tb ex c = x)) = true then u ||| ((nI 1) <<< (sl c &&& 31)) else u) (fun _ _ => True)
    (fun f a _ => by
      show fX0_slotsUsed_L5 _ _ _ _ _ _ (f + 1) _ _ = _
      rw [fX0_slotsUsed_L5, if_pos (nI_le (Nat.le_refl _) (by omega))])
    (fun f a i hi _ => ⟨by
      show fX0_slotsUsed_L5 _ _ _ _ _ _ (f + 1) _ _ = fX0_slotsUsed_L5 _ _ _ _ _ _ f _ _
      rw [fX0_slotsUsed_L5, if_neg (nI_ge hi (by omega)), gI hi (by decide), gI hi (by decide), nI_clamp (by omega), C_ex hi, obS, nI_add]
      simp only [bw]
      by_cases e : pa i &&& m = 0
      · simp [e]
      · by_cases e2 : tb ex i = x
        · simp [e, e2]
        · simp [e, e2], trivial⟩) 16 0 0 FU (by omega) trivial (FU_gt (by omega))
  rw [nI_0] at h
  refine ⟨_, h, ?_⟩
  exact fo_inv (g := fun c (u : Int32) => if (decide (¬ (pa c &&& m) = 0) && decide (tb ex c = x)) = true then u ||| ((nI 1) <<< (sl c &&& 31)) else u) (N := 16) (fun i u => ∀ t, t < 4 → tb u t = any1 (usd n st a b cw x t) i 0)
    (fun i u hi hu t ht => by
      show tb (if (decide (¬ (pa i &&& m) = 0) && decide (tb ex i = x)) = true then _ else _) t = _
      rw [any1_snoc, Nat.zero_add, ← hu t ht, cr_us hI h8 hm hi]
      unfold usd
      cases hus : us st i
      · simp
      · obtain ⟨hv, _, _, _, _, _, e4, e5⟩ := us_v hI hi hus
        obtain ⟨-, -, -, ⟨t0, ht0, et⟩, ⟨x0, ex0⟩⟩ := hv
        rw [e5, e4, et, ex0]
        have k1 : (decide (wI x0 = nI 1) = x) = (x0 = x) := by cases x0 <;> cases x <;> decide +kernel
        have k2 : (wI x0 = wI x) = (x0 = x) := by cases x0 <;> cases x <;> decide
        have k3 : (nI t0 = nI t) = (t0 = t) := propext (nI_eq (by omega) (by omega))
        simp only [k1, k2, k3]
        cases any1 (fun s => pth n st i s && pB n a b cw s) n 0
        · simp
        · by_cases e : x0 = x
          · simp only [e, decide_true, Bool.and_true, Bool.true_and, if_true]
            rw [tb_or, tb_bt (by omega)]
            by_cases e3 : t0 = t
            · simp [e3]
            · simp [e3, Ne.symm e3]
          · simp [e])
    16 0 0 (by omega) (fun t _ => by rw [tb_0]; rfl)
theorem M_slotFree (h0 : st 0 = nI n) (hn : 3 ≤ n) (h8 : n ≤ 8) (hI : RCi n st fe se pa sl ex) {a b : Nat} (ha : a < n) (hb : b < n) (cw x : Bool) (t : Nat) : fX6_isSlotFree st (nI a) (nI b) (wI cw) (nI t) (wI x) = some (!any1 (usd n st a b cw x t) 16 0) := by
  have inner : ∀ (K : Int32 → Int32 → Int32 → Option Bool) (z : Option Bool) (c : Nat) (same : Bool), c < 16 → us st c = true ∨ same = false → (∀ p q, K (nI c) p q = z) → fX6_isSlotFree_L61 st (nI a) (nI b) (wI cw) (nI t) (wI x) K FU (nI c) (wI same) 0 = if (same && any1 (fun s => pth n st c s && pB n a b cw s) n 0) = true then some false else z := by
    intro K z c same hc hu hK
    cases same
    · show fX6_isSlotFree_L61 _ _ _ _ _ _ _ (399 + 1) _ _ _ = _
      rw [fX6_isSlotFree_L61, h0, if_neg (by rw [← nI_0]; exact nI_ge (by omega) (by omega)), if_pos (show wI false = 0 from rfl), hK]; rfl
    · have hv := (us_v hI hc (hu.resolve_right (by decide))).1
      have h := loopE (F := fun f y => fX6_isSlotFree_L61 st (nI a) (nI b) (wI cw) (nI t) (wI x) K f (nI c) (wI true) y) (z := z) (P := fun s => pth n st c s && pB n a b cw s) (R := fun _ => some false) (N := n)
        (fun f => by
          show fX6_isSlotFree_L61 _ _ _ _ _ _ _ (f + 1) _ _ _ = _
          rw [fX6_isSlotFree_L61, h0, if_pos (nI_le (Nat.le_refl _) (by omega)), hK])
        (fun f i hi => by
          show fX6_isSlotFree_L61 _ _ _ _ _ _ _ (f + 1) _ _ _ = if _ then _ else fX6_isSlotFree_L61 _ _ _ _ _ _ _ f _ _ _
          rw [fX6_isSlotFree_L61, if_neg (by rw [h0]; exact nI_ge hi (by omega)), if_neg (by decide), M_isOn h0 hn h8 hc hi hv, obS, M_passes h0 hn h8 ha hb hi cw, obS, nI_add]
          cases pth n st c i <;> cases pB n a b cw i <;> rfl)
        n 0 FU (by omega) (FU_gt (by omega))
      rw [nI_0] at h
      refine h.trans ?_
      have hff : ∀ m i, ff (fun s => pth n st c s && pB n a b cw s) (fun _ => some false) z m i = (if any1 (fun s => pth n st c s && pB n a b cw s) m i = true then some false else z) := by
        intro m
        induction m with
        | zero => intro i; rfl
        | succ m ih =>
          intro i
          simp only [ff, any1, ih (i + 1)]
          by_cases h1 : pth n st c i = true <;> by_cases h2 : pB n a b cw i = true <;> simp [h1, h2]
      rw [hff, Bool.true_and]
  have hout := loopE (F := fun f y => fX6_isSlotFree_L3 st (nI a) (nI b) (wI cw) (nI t) (wI x) (fun x6_3 => (some true)) f y) (z := some true) (P := usd n st a b cw x t) (R := fun _ => some false) (N := 16)
    (fun f => by
      show fX6_isSlotFree_L3 _ _ _ _ _ _ _ (f + 1) _ = _
      rw [fX6_isSlotFree_L3, if_pos (nI_le (Nat.le_refl _) (by omega))])
    (fun f i hi => by
      show fX6_isSlotFree_L3 _ _ _ _ _ _ _ (f + 1) _ = if _ then _ else fX6_isSlotFree_L3 _ _ _ _ _ _ _ f _
      rw [fX6_isSlotFree_L3, if_neg (nI_ge hi (by omega)), M_isCirc hi, obS, M_oc hi (by decide), obS, M_oc hi (by decide), obS]
      rw [show ((if wI x = 0 then some 0 else some (nI 1)) : Option Int32) = some (wI x) by cases x <;> rfl, obS]
      rw [show decide (cq st i 0 = nI 1) = us st i from rfl]
      have e1 : ((if us st i = true then (if cq st i 4 = nI t then (if cq st i 5 = wI x then (some (nI 1)) else (some 0)) else (some 0)) else (some 0)) : Option Int32) = some (wI (us st i && (decide (cq st i 4 = nI t) && decide (cq st i 5 = wI x)))) := by
        cases us st i
        · rfl
        · by_cases a1 : cq st i 4 = nI t
          · by_cases a2 : cq st i 5 = wI x
            · simp [a1, a2, wI]
            · rw [if_pos rfl, if_pos a1, if_neg a2, decide_eq_true a1, decide_eq_false a2]; rfl
          · simp [a1, wI]
      rw [e1, obS, inner _ (fX6_isSlotFree_L3 st (nI a) (nI b) (wI cw) (nI t) (wI x) (fun x6_3 => (some true)) f (nI (i + 1))) i _ hi (by cases us st i <;> simp) (fun p q => by rw [nI_add])]
      unfold usd
      rw [Bool.and_assoc, Bool.and_assoc])
    16 0 FU (by omega) (FU_gt (by omega))
  rw [nI_0] at hout
  unfold fX6_isSlotFree
  refine hout.trans ?_
  have hff : ∀ m i, ff (usd n st a b cw x t) (fun _ => some false) (some true) m i = some (!any1 (usd n st a b cw x t) m i) := by
    intro m
    induction m with
    | zero => intro i; rfl
    | succ m ih =>
      intro i
      simp only [ff, any1, ih (i + 1)]
      by_cases h1 : usd n st a b cw x t i = true <;> simp [h1]
  exact hff 16 0
theorem F_first (hI : RCi n st fe se pa sl ex) : fX0_smallestFreeNumber pa = some (ff (fun c => !us st c) nI (-9) 16 0) ∧ fX6_freeNumber st = some (ff (fun c => !us st c) nI (-9) 16 0) := by
  have hs : ∀ m i, ff (fun c => !us st c) (fun c => some (nI c)) (some (-9)) m i = some (ff (fun c => !us st c) nI (-9) m i) := by
    intro m
    induction m with
    | zero => intro i; rfl
    | succ m ih =>
      intro i
      simp only [ff, ih (i + 1)]
      by_cases h1 : us st i = true <;> simp [h1]
  constructor
  · have h := loopE (F := fun f y => fX0_smallestFreeNumber_L2 pa (fun x1_2 => (some (-9))) f y) (z := some (-9)) (P := fun c => !us st c) (R := fun c => some (nI c)) (N := 16)
      (fun f => by
        show fX0_smallestFreeNumber_L2 _ _ (f + 1) _ = _
        rw [fX0_smallestFreeNumber_L2, if_pos (nI_le (Nat.le_refl _) (by omega))])
      (fun f i hi => by
        show fX0_smallestFreeNumber_L2 _ _ (f + 1) _ = if _ then _ else fX0_smallestFreeNumber_L2 _ _ f _
        rw [fX0_smallestFreeNumber_L2, if_neg (nI_ge hi (by omega)), C_has hi, obS, has_us hI hi, nI_add]
        cases us st i <;> rfl) 16 0 FU (by omega) (FU_gt (by omega))
    rw [nI_0] at h
    exact (show fX0_smallestFreeNumber pa = _ from h).trans (hs 16 0)
  · have h := loopE (F := fun f y => fX6_freeNumber_L2 st (fun x1_2 => (some (-9))) f y) (z := some (-9)) (P := fun c => !us st c) (R := fun c => some (nI c)) (N := 16)
      (fun f => by
        show fX6_freeNumber_L2 _ _ (f + 1) _ = _
        rw [fX6_freeNumber_L2, if_pos (nI_le (Nat.le_refl _) (by omega))])
      (fun f i hi => by
        show fX6_freeNumber_L2 _ _ (f + 1) _ = if _ then _ else fX6_freeNumber_L2 _ _ f _
        rw [fX6_freeNumber_L2, if_neg (nI_ge hi (by omega)), M_isCirc hi, obS, nI_add]
        show (if us st i = true then _ else _) = _
        cases us st i <;> rfl) 16 0 FU (by omega) (FU_gt (by omega))
    rw [nI_0] at h
    exact (show fX6_freeNumber st = _ from h).trans (hs 16 0)
theorem ff_cases (P : Nat → Bool) : ∀ m i, ff P nI (-9) m i = -9 ∨ ∃ j, i ≤ j ∧ j < i + m ∧ P j = true ∧ ff P nI (-9) m i = nI j
  | 0, i => Or.inl rfl
  | m + 1, i => by
    simp only [ff]
    by_cases h : P i = true
    · exact Or.inr ⟨i, Nat.le_refl _, by omega, h, by rw [if_pos h]⟩
    · rw [if_neg h]
      rcases ff_cases P m (i + 1) with e | ⟨j, h1, h2, h3, h4⟩
      · exact Or.inl e
      · exact Or.inr ⟨j, by omega, by omega, h3, h4⟩
theorem cq_upd {c k c' k' : Nat} {x : Int32} (hk : k < 6) (hk' : k' < 6) : cq (upd st (68 + 6 * c + k) x) c' k' = if c' = c ∧ k' = k then x else cq st c' k' := by
  unfold cq upd
  by_cases h : c' = c ∧ k' = k
  · rw [if_pos h, if_pos (by omega)]
  · rw [if_neg h, if_neg (by omega)]
/-- both ends of the ring -/
theorem P_fault (hn : 3 ≤ n) (h8 : n ≤ 8) (h0 : st 0 = nI n) (p1 p2 : Int32) : (∃ r, ¬ r = 0 ∧ fX5_faultOfEnds (nI n) p1 p2 = some r ∧ ((r = -1 ∧ (fX6_isNode st p1 = some false ∨ (fX6_isNode st p1 = some true ∧ fX6_isNode st p2 = some false))) ∨ (r = -5 ∧ fX6_isNode st p1 = some true ∧ fX6_isNode st p2 = some true ∧ p1 = p2))) ∨ ∃ a b, a < n ∧ b < n ∧ ¬ a = b ∧ p1 = nI a ∧ p2 = nI b ∧ fX5_faultOfEnds (nI n) p1 p2 = some 0 ∧ fX6_isNode st p1 = some true ∧ fX6_isNode st p2 = some true ∧ ¬ p1 = p2 := by
  unfold fX5_faultOfEnds
  rcases inR n (by omega) p1 with ho | ⟨a, ha, rfl⟩
  · rw [C_hasF ho, obS]
    exact Or.inl ⟨-1, by decide, rfl, Or.inl ⟨rfl, Or.inl (M_isNodeF h0 hn h8 ho)⟩⟩
  · rw [C_hasT h8 ha, obS, if_pos rfl]
    rcases inR n (by omega) p2 with ho | ⟨b, hb, rfl⟩
    · rw [C_hasF ho, obS]
      exact Or.inl ⟨-1, by decide, rfl, Or.inl ⟨rfl, Or.inr ⟨M_isNodeT h0 hn h8 ha, M_isNodeF h0 hn h8 ho⟩⟩⟩
    · rw [C_hasT h8 hb, obS, if_pos rfl]
      by_cases e : a = b
      · subst e
        rw [if_pos rfl]
        exact Or.inl ⟨-5, by decide, rfl, Or.inr ⟨rfl, M_isNodeT h0 hn h8 ha, M_isNodeT h0 hn h8 ha, rfl⟩⟩
      · have e' : ¬ nI a = nI b := fun x => e ((nI_eq (by omega) (by omega)).mp x)
        rw [if_neg e']
        exact Or.inr ⟨a, b, ha, hb, e, rfl, rfl, rfl, M_isNodeT h0 hn h8 ha, M_isNodeT h0 hn h8 hb, e'⟩
end CIA
section PB2
variable {n : Nat} {S : Nat → Nat → Int32} {st : Nat → Int32}
theorem P_freeSlot (h : RS n S st) (p1 p2 : Int32) (cw x : Bool) : ∃ r, fX5_freeSlot (S 1 0) (S 4) (S 5) (S 14 0) (S 15 0) p1 p2 (wI cw) (wI x) = some r ∧ fX6_freeSlot st p1 p2 (wI cw) (wI x) = some r := by
  obtain ⟨hB, hM, hC, hS, hA, hI⟩ := id h
  obtain ⟨hn, h8, h0, hnd, ⟨q, q1, q2, q3, q4⟩, -⟩ := id hB
  unfold fX5_freeSlot fX6_freeSlot
  rw [hnd]
  rcases P_fault hn h8 h0 p1 p2 with ⟨r, hr, f1, (⟨e, (g | ⟨g1, g2⟩)⟩ | ⟨e, g1, g2, g3⟩)⟩ | ⟨a, b, ha, hb, hab, rfl, rfl, f1, g1, g2, g3⟩
  · rw [f1, obS, if_neg hr, g, obS]; exact ⟨_, rfl, by rw [e]; rfl⟩
  · rw [f1, obS, if_neg hr, g1, obS, if_pos rfl, g2, obS]; exact ⟨_, rfl, by rw [e]; rfl⟩
  · rw [f1, obS, if_neg hr, g1, obS, if_pos rfl, g2, obS, if_pos rfl, if_pos g3]; exact ⟨_, rfl, by rw [e]⟩
  · obtain ⟨m, m1, m2, m3, m4⟩ := C_route hn h8 ha hb hab cw
    obtain ⟨u, u1, u2⟩ := C_used h8 hI m3 x
    rw [f1, obS, if_pos rfl, m1, obS, u1, obS, g1, obS, if_pos rfl, g2, obS, if_pos rfl, if_neg g3]
    have a1 := loopE (F := fun f y => fX5_freeSlot_L50 (S 1 0) (S 4) (S 5) (nI n) (S 15 0) (nI a) (nI b) (wI cw) (wI x) (fun x7_50 x8_50 => (some (-9))) f u y) (z := some (-9)) (P := fun t => !any1 (usd n st a b cw x t) 16 0) (R := fun t => some (nI t)) (N := q)
      (fun f => by
        show fX5_freeSlot_L50 _ _ _ _ _ _ _ _ _ _ (f + 1) _ _ = _
        rw [fX5_freeSlot_L50, q4, if_pos (nI_le (Nat.le_refl _) (by omega))])
      (fun f i hi => by
        show fX5_freeSlot_L50 _ _ _ _ _ _ _ _ _ _ (f + 1) _ _ = if _ then _ else fX5_freeSlot_L50 _ _ _ _ _ _ _ _ _ _ f _ _
        rw [fX5_freeSlot_L50, if_neg (by rw [q4]; exact nI_ge hi (by omega)), F_contains (by omega), obS, u2 i (by omega), nI_add]
        by_cases e : any1 (usd n st a b cw x i) 16 0 = true
        · rw [if_pos e, if_neg (by simp [e])]
        · rw [if_neg e, if_pos (by simpa using e)]) q 0 FU (by omega) (FU_gt (by omega))
    have a2 := loopE (F := fun f y => fX6_freeSlot_L29 st (nI a) (nI b) (wI cw) (wI x) (fun x5_29 => (some (-9))) f y) (z := some (-9)) (P := fun t => !any1 (usd n st a b cw x t) 16 0) (R := fun t => some (nI t)) (N := q)
      (fun f => by
        show fX6_freeSlot_L29 _ _ _ _ _ _ (f + 1) _ = _
        rw [fX6_freeSlot_L29, q3, if_pos (nI_le (Nat.le_refl _) (by omega))])
      (fun f i hi => by
        show fX6_freeSlot_L29 _ _ _ _ _ _ (f + 1) _ = if _ then _ else fX6_freeSlot_L29 _ _ _ _ _ _ f _
        rw [fX6_freeSlot_L29, if_neg (by rw [q3]; exact nI_ge hi (by omega)), M_slotFree h0 hn h8 hI ha hb cw x i, obS, nI_add]) q 0 FU (by omega) (FU_gt (by omega))
    rw [nI_0] at a1 a2
    have hs : ∀ k i, ∃ r, ff (fun t => !any1 (usd n st a b cw x t) 16 0) (fun t => some (nI t)) (some (-9)) k i = some r := by
      intro k
      induction k with
      | zero => intro i; exact ⟨_, rfl⟩
      | succ k ih =>
        intro i
        simp only [ff]
        split
        · exact ⟨_, rfl⟩
        · exact ih (i + 1)
    obtain ⟨r, hr⟩ := hs q 0
    exact ⟨r, (show _ = _ from a1).trans hr, (show _ = _ from a2).trans hr⟩
end PB2
/-! adding and taking away -/
theorem RCi.put {n : Nat} {st st' : Nat → Int32} {fe se pa sl fe' se' pa' sl' : Nat → Int32} {ex ex' : Int32} (hI : RCi n st fe se pa sl ex) (c : Nat) (hq : ∀ c', ¬ c' = c → ∀ k, k < 6 → cq st' c' k = cq st c' k)
    (h1 : ∀ c', ¬ c' = c → fe' c' = fe c') (h2 : ∀ c', ¬ c' = c → se' c' = se c') (h3 : ∀ c', ¬ c' = c → pa' c' = pa c') (h4 : ∀ c', ¬ c' = c → sl' c' = sl c') (h5 : ∀ c', ¬ c' = c → c' < 16 → tb ex' c' = tb ex c')
    (hat : (cq st' c 0 = 0 ∧ pa' c = 0) ∨ (cq st' c 0 = nI 1 ∧ VC n st' c ∧ ¬ pa' c = 0 ∧ (∀ s, s < n → tb (pa' c) s = pth n st' c s) ∧ (∀ i, n ≤ i → tb (pa' c) i = false) ∧ fe' c = cq st' c 1 ∧ se' c = cq st' c 2 ∧ sl' c = cq st' c 4 ∧ tb ex' c = decide (cq st' c 5 = nI 1))) : RCi n st' fe' se' pa' sl' ex' := by
  intro c' h'
  by_cases e : c' = c
  · rw [e]; exact hat
  · have eq : ∀ k, k < 6 → cq st' c' k = cq st c' k := hq c' e
    have ep : pth n st' c' = pth n st c' := by funext s; unfold pth; rw [eq 1 (by decide), eq 2 (by decide), eq 3 (by decide)]
    have ev : VC n st' c' = VC n st c' := by unfold VC; rw [eq 1 (by decide), eq 2 (by decide), eq 3 (by decide), eq 4 (by decide), eq 5 (by decide)]
    rw [ep, ev, eq 0 (by decide), eq 1 (by decide), eq 2 (by decide), eq 4 (by decide), eq 5 (by decide), h1 c' e, h2 c' e, h3 c' e, h4 c' e, h5 c' e h']
    exact hI c' h'
theorem upd_ne {st : Nat → Int32} {i j : Nat} {x : Int32} (h : ¬ j = i) : upd st i x j = st j := by unfold upd; rw [if_neg h]
theorem upd_at {st : Nat → Int32} {i : Nat} {x : Int32} : upd st i x i = x := by unfold upd; rw [if_pos rfl]
theorem RS.cir {n : Nat} {S : Nat → Nat → Int32} {st st' : Nat → Int32} {fe se pa sl : Nat → Int32} {ex : Int32} (h : RS n S st) (he : ∀ j, j < 68 → st' j = st j) (hI' : RCi n st' fe se pa sl ex) : RS n (mkS (S 0 0) ex fe se pa sl (S 6 0) (S 7 0) (S 8 0) (S 9 0) (S 10 0) (S 11 0) (S 12 0) (S 13 0) (S 14 0) (S 15 0) (S 16) (S 17) (S 18) (S 19) (S 20)) st' := by
  obtain ⟨⟨hn, h8, h0, hnd, ⟨q, q1, q2, q3, q4⟩, ⟨r, r1, r2, r3⟩, htm⟩, hM, hC, hS, hA, hI⟩ := h
  exact ⟨⟨hn, h8, (he 0 (by omega)).trans h0, hnd, ⟨q, q1, q2, (he 1 (by omega)).trans q3, q4⟩, ⟨r, r1, (he 2 (by omega)).trans r2, r3⟩, (he 3 (by omega)).trans htm⟩, RMk.lo he h8 hM, RCo.lo he h8 hC, RSw.lo he h8 hS, RCa.lo he hn h8 hA, hI'⟩
section PB3
variable {n : Nat} {S : Nat → Nat → Int32} {st : Nat → Int32}
theorem P_add (h : RS n S st) (p1 p2 : Int32) (cw : Bool) (p4 : Int32) (x : Bool) : ∃ q q', fX5_addCircuit (S 1 0) (S 2) (S 3) (S 4) (S 5) (S 14 0) (S 15 0) p1 p2 (wI cw) p4 (wI x) = some q ∧ fX6_addCircuit st p1 p2 (wI cw) p4 (wI x) = some q' ∧ q.1 = q'.1 ∧
    RS n (mkS (S 0 0) q.2.1 q.2.2.1 q.2.2.2.1 q.2.2.2.2.1 q.2.2.2.2.2 (S 6 0) (S 7 0) (S 8 0) (S 9 0) (S 10 0) (S 11 0) (S 12 0) (S 13 0) (S 14 0) (S 15 0) (S 16) (S 17) (S 18) (S 19) (S 20)) q'.2 := by
  obtain ⟨hB, hM, hC, hS, hA, hI⟩ := id h
  obtain ⟨hn, h8, h0, hnd, ⟨q, q1, q2, q3, q4⟩, -⟩ := id hB
  unfold fX5_addCircuit fX6_addCircuit
  rcases P_fault hn h8 h0 p1 p2 with ⟨r, hr, f1, (⟨e, (g | ⟨g1, g2⟩)⟩ | ⟨e, g1, g2, g3⟩)⟩ | ⟨a, b, ha, hb, hab, rfl, rfl, f1, g1, g2, g3⟩
  · rw [← hnd] at f1
    rw [f1, obS, if_neg hr, g, obS]; exact ⟨_, _, rfl, rfl, e, h⟩
  · rw [← hnd] at f1
    rw [f1, obS, if_neg hr, g1, obS, if_pos rfl, g2, obS]; exact ⟨_, _, rfl, rfl, e, h⟩
  · rw [← hnd] at f1
    rw [f1, obS, if_neg hr, g1, obS, if_pos rfl, g2, obS, if_pos rfl, if_pos g3]; exact ⟨_, _, rfl, rfl, e, h⟩
  · rw [← hnd] at f1
    rw [f1, obS, if_pos rfl, g1, obS, if_pos rfl, g2, obS, if_pos rfl, if_neg g3]
    have es1 : st 1 - nI 1 = nI (q - 1) := by rw [q3, pk_sub (by omega)]
    rcases inR q (by omega) p4 with ho | ⟨t, ht, rfl⟩
    · have ef : fX6_in p4 0 (st 1 - nI 1) = some false := by
        rw [es1, ← nI_0]
        exact M_inF (by omega) (by omega) (by rw [nI_0, Nat.sub_add_cancel (by omega)]; exact ho)
      rw [ef, obS]
      by_cases hz : p4 < 0
      · rw [if_pos hz]; exact ⟨_, _, rfl, rfl, rfl, h⟩
      · have hz2 : ¬ p4 < S 15 0 := by
          rw [q4, i_lt]
          have := i_le.mp (ho.resolve_left hz)
          omega
        rw [if_neg hz, if_neg hz2]; exact ⟨_, _, rfl, rfl, rfl, h⟩
    · have ef : fX6_in (nI t) 0 (st 1 - nI 1) = some true := by
        rw [es1, ← nI_0]
        exact M_inT (by omega) (by omega) (by omega)
      have hz2 : nI t < S 15 0 := by rw [q4, nI_ltI (by omega) (by omega)]; exact ht
      obtain ⟨n1, n2⟩ := F_first hI
      rw [ef, obS, if_neg (nI_pos (by omega)), if_pos hz2, if_pos rfl, n1, obS, n2, obS]
      rcases ff_cases (fun c => !us st c) 16 0 with e | ⟨c, -, hc, hu, e⟩
      · rw [e, if_pos rfl, if_neg (by decide)]; exact ⟨_, _, rfl, rfl, rfl, h⟩
      · have hc : c < 16 := by omega
        have hcn : ¬ nI c = -9 := by
          have : ∀ c, c < 16 → ¬ nI c = -9 := by decide +kernel
          exact this c hc
        have hc0 : (0 : Int32) ≤ nI c := by
          have : ∀ c, c < 16 → (0 : Int32) ≤ nI c := by decide +kernel
          exact this c hc
        obtain ⟨m, m1, m2, m3, m4⟩ := C_route hn h8 ha hb hab cw
        obtain ⟨u, u1, u2⟩ := C_used h8 hI m3 x
        rw [← hnd] at m1
        rw [e, if_neg hcn, if_pos hc0, m1, obS, u1, obS, F_contains (by omega), obS, u2 t (by omega), M_slotFree h0 hn h8 hI ha hb cw x t, obS]
        cases hany : any1 (usd n st a b cw x t) 16 0
        · have hpe : fX0_putEnds (S 2) (S 3) (nI c) (nI a) (nI b) = some (upd (S 2) c (nI a), upd (S 3) c (nI b)) := by
            unfold fX0_putEnds
            rw [if_neg (nI_pos (by omega)), if_neg (by rw [nI_leI (by omega) (by omega)]; omega), gI hc (by decide), gI hc (by decide), nI_clamp (by omega)]
          have hpr : fX0_putRoute (S 1 0) (S 4) (S 5) (nI c) m (nI t) (wI x) = some (mkd (S 1 0) c x, upd (S 4) c m, upd (S 5) c (nI t)) := by
            unfold fX0_putRoute
            rw [if_neg (nI_pos (by omega)), if_neg (by rw [nI_leI (by omega) (by omega)]; omega), gI hc (by decide), gI hc (by decide), nI_clamp (by omega), ← b2i_wI, F_marked, obS]
          have e0 : (nI 68 + nI 6 * nI c) + 0 = nI (68 + 6 * c + 0) := by rw [pk_mul, nI_add, ← nI_0, nI_add]
          have e1 : (nI 68 + nI 6 * nI c) + nI 1 = nI (68 + 6 * c + 1) := by rw [pk_mul, nI_add, nI_add]
          have e2 : (nI 68 + nI 6 * nI c) + nI 2 = nI (68 + 6 * c + 2) := by rw [pk_mul, nI_add, nI_add]
          have e3 : (nI 68 + nI 6 * nI c) + nI 3 = nI (68 + 6 * c + 3) := by rw [pk_mul, nI_add, nI_add]
          have e4 : (nI 68 + nI 6 * nI c) + nI 4 = nI (68 + 6 * c + 4) := by rw [pk_mul, nI_add, nI_add]
          have e5 : (nI 68 + nI 6 * nI c) + nI 5 = nI (68 + 6 * c + 5) := by rw [pk_mul, nI_add, nI_add]
          have ew : ((if wI cw = 0 then some 0 else some (nI 1)) : Option Int32) = some (wI cw) := by cases cw <;> rfl
          rw [if_neg (by decide), hpe, obS, hpr, obS, show (!false) = true from rfl, if_pos rfl, e0, e1, e2, e3, e4, e5, gI (by omega) (by decide), gI (by omega) (by decide), gI (by omega) (by decide), ew, obS, gI (by omega) (by decide), gI (by omega) (by decide), gI (by omega) (by decide), gI (by omega) (by decide), nI_clamp (by omega), nI_clamp (by omega), nI_clamp (by omega), nI_clamp (by omega), nI_clamp (by omega), nI_clamp (by omega)]
          have hfin : (if wI x = 0 then some (nI c, upd (upd (upd (upd (upd (upd st (68 + 6 * c + 0) (nI 1)) (68 + 6 * c + 1) (nI a)) (68 + 6 * c + 2) (nI b)) (68 + 6 * c + 3) (wI cw)) (68 + 6 * c + 4) (nI t)) (68 + 6 * c + 5) 0) else some (nI c, upd (upd (upd (upd (upd (upd st (68 + 6 * c + 0) (nI 1)) (68 + 6 * c + 1) (nI a)) (68 + 6 * c + 2) (nI b)) (68 + 6 * c + 3) (wI cw)) (68 + 6 * c + 4) (nI t)) (68 + 6 * c + 5) (nI 1))) = some (nI c, upd (upd (upd (upd (upd (upd st (68 + 6 * c + 0) (nI 1)) (68 + 6 * c + 1) (nI a)) (68 + 6 * c + 2) (nI b)) (68 + 6 * c + 3) (wI cw)) (68 + 6 * c + 4) (nI t)) (68 + 6 * c + 5) (wI x)) := by cases x <;> rfl
          rw [hfin]
          have cqs : ∀ c' k, k < 6 → cq (upd (upd (upd (upd (upd (upd st (68 + 6 * c + 0) (nI 1)) (68 + 6 * c + 1) (nI a)) (68 + 6 * c + 2) (nI b)) (68 + 6 * c + 3) (wI cw)) (68 + 6 * c + 4) (nI t)) (68 + 6 * c + 5) (wI x)) c' k = if c' = c ∧ k = 5 then wI x else if c' = c ∧ k = 4 then nI t else if c' = c ∧ k = 3 then wI cw else if c' = c ∧ k = 2 then nI b else if c' = c ∧ k = 1 then nI a else if c' = c ∧ k = 0 then nI 1 else cq st c' k := fun c' k hk => by
            rw [cq_upd (by decide) hk, cq_upd (by decide) hk, cq_upd (by decide) hk, cq_upd (by decide) hk, cq_upd (by decide) hk, cq_upd (by decide) hk]
          have hlo : ∀ j, j < 68 → (upd (upd (upd (upd (upd (upd st (68 + 6 * c + 0) (nI 1)) (68 + 6 * c + 1) (nI a)) (68 + 6 * c + 2) (nI b)) (68 + 6 * c + 3) (wI cw)) (68 + 6 * c + 4) (nI t)) (68 + 6 * c + 5) (wI x)) j = st j := fun j hj => by
            rw [upd_ne (by omega), upd_ne (by omega), upd_ne (by omega), upd_ne (by omega), upd_ne (by omega), upd_ne (by omega)]
          generalize (upd (upd (upd (upd (upd (upd st (68 + 6 * c + 0) (nI 1)) (68 + 6 * c + 1) (nI a)) (68 + 6 * c + 2) (nI b)) (68 + 6 * c + 3) (wI cw)) (68 + 6 * c + 4) (nI t)) (68 + 6 * c + 5) (wI x)) = st' at cqs hlo ⊢
          have k0 : cq st' c 0 = nI 1 := by rw [cqs c 0 (by decide)]; simp
          have k1 : cq st' c 1 = nI a := by rw [cqs c 1 (by decide)]; simp
          have k2 : cq st' c 2 = nI b := by rw [cqs c 2 (by decide)]; simp
          have k3 : cq st' c 3 = wI cw := by rw [cqs c 3 (by decide)]; simp
          have k4 : cq st' c 4 = nI t := by rw [cqs c 4 (by decide)]; simp
          have k5 : cq st' c 5 = wI x := by rw [cqs c 5 (by decide)]; simp
          have kp : pth n st' c = pB n a b cw := by
            funext s
            unfold pth
            rw [k1, k2, k3, nI_clamp (by omega), nI_clamp (by omega)]
            congr 1
            cases cw <;> decide +kernel
          have hI' : RCi n st' (upd (S 2) c (nI a)) (upd (S 3) c (nI b)) (upd (S 4) c m) (upd (S 5) c (nI t)) (mkd (S 1 0) c x) := by
            refine RCi.put hI c (fun c' e' k hk => ?_) (fun c' e' => upd_ne e') (fun c' e' => upd_ne e') (fun c' e' => upd_ne e') (fun c' e' => upd_ne e') (fun c' e' hc' => ?_) (Or.inr ⟨k0, ⟨⟨a, ha, k1⟩, ⟨b, hb, k2⟩, ⟨cw, k3⟩, ⟨t, by omega, k4⟩, ⟨x, k5⟩⟩, ?_, fun s hs => ?_, fun i hi => ?_, ?_, ?_, ?_, ?_⟩)
            · rw [cqs c' k hk]; simp [e']
            · rw [tb_mkd (by omega) x (by omega), if_neg e']
            · rw [upd_at]; exact m2
            · rw [upd_at, kp]; exact m3 s hs
            · rw [upd_at]; exact m4 i hi
            · rw [upd_at, k1]
            · rw [upd_at, k2]
            · rw [upd_at, k4]
            · rw [tb_mkd (by omega) x (by omega), if_pos rfl, k5]; cases x <;> decide +kernel
          exact ⟨_, _, rfl, rfl, rfl, RS.cir h hlo hI'⟩
        · rw [if_pos rfl, show (!true) = false from rfl, if_neg (by decide)]
          exact ⟨_, _, rfl, rfl, rfl, h⟩
theorem P_remove (h : RS n S st) (v : Int32) : ∃ q q', fX5_removeCircuit (S 1 0) (S 4) (S 5) v = some q ∧ fX6_removeCircuit st v = some q' ∧ q.1 = q'.1 ∧
    RS n (mkS (S 0 0) q.2.1 (S 2) (S 3) q.2.2.1 q.2.2.2 (S 6 0) (S 7 0) (S 8 0) (S 9 0) (S 10 0) (S 11 0) (S 12 0) (S 13 0) (S 14 0) (S 15 0) (S 16) (S 17) (S 18) (S 19) (S 20)) q'.2 := by
  obtain ⟨hB, hM, hC, hS, hA, hI⟩ := id h
  unfold fX5_removeCircuit fX6_removeCircuit
  rcases inR 16 (by omega) v with ho | ⟨c, hc, rfl⟩
  · rw [C_hasNF ho, obS, M_isCircF ho, obS]; exact ⟨_, _, rfl, rfl, rfl, h⟩
  · rw [C_has hc, obS, has_us hI hc, M_isCirc hc, obS, show decide (cq st c 0 = nI 1) = us st c from rfl]
    cases hu : us st c
    · exact ⟨_, _, rfl, rfl, rfl, h⟩
    · have hta : fX0_takeAway (S 1 0) (S 4) (S 5) (nI c) = some (mkd (S 1 0) c false, upd (S 4) c 0, upd (S 5) c 0) := by
        have hm : fX5_marked (S 1 0) (nI c) 0 = some (mkd (S 1 0) c false) := by
          have := F_marked (S 1 0) c false
          rwa [b2i_wI, wI_f] at this
        unfold fX0_takeAway fX0_putRoute
        rw [if_neg (nI_pos (by omega)), if_neg (by rw [nI_leI (by omega) (by omega)]; omega), gI hc (by decide), gI hc (by decide), nI_clamp (by omega), hm, obS, obS]
      have hl := loopF (F := fun f a y => fX6_removeCircuit_L13 (nI c) (fun x2_13 v_t_st_13 => ((fX6_circuitCount v_t_st_13).bind (fun q41 => (some (q41, v_t_st_13))))) f y a) (K := fun a => ((fX6_circuitCount a).bind (fun q41 => (some (q41, a))))) (N := 6) (g := fun i a => upd a (68 + 6 * c + i) 0) (fun _ _ => True)
        (fun f a _ => by
          show fX6_removeCircuit_L13 _ _ (f + 1) _ _ = _
          rw [fX6_removeCircuit_L13, if_pos (nI_le (Nat.le_refl _) (by omega))])
        (fun f a i hi _ => ⟨by
          show fX6_removeCircuit_L13 _ _ (f + 1) _ _ = fX6_removeCircuit_L13 _ _ f _ _
          rw [fX6_removeCircuit_L13, if_neg (nI_ge hi (by omega)), pk_mul, nI_add, nI_add, nI_add, gI (by omega) (by decide), nI_clamp (by omega)], trivial⟩)
        6 0 st FU (by omega) trivial (FU_gt (by omega))
      rw [nI_0] at hl
      have hz := fo_inv (g := fun i a => upd a (68 + 6 * c + i) 0) (N := 6) (fun i a => (∀ j, (j < 68 + 6 * c ∨ 68 + 6 * c + 6 ≤ j) → a j = st j) ∧ ∀ j, 68 + 6 * c ≤ j → j < 68 + 6 * c + i → a j = 0)
        (fun i a hi ha => ⟨fun j hj => by
          show upd a (68 + 6 * c + i) 0 j = st j
          rw [upd_ne (by omega)]; exact ha.1 j hj, fun j h1 h2 => by
          show upd a (68 + 6 * c + i) 0 j = 0
          by_cases e : j = 68 + 6 * c + i
          · rw [e, upd_at]
          · rw [upd_ne e]; exact ha.2 j h1 (by omega)⟩) 6 0 st (by omega) ⟨fun _ _ => rfl, fun j h1 h2 => by omega⟩
      generalize fo (fun i a => upd a (68 + 6 * c + i) 0) 6 0 st = st' at hl hz
      have hI' : RCi n st' (S 2) (S 3) (upd (S 4) c 0) (upd (S 5) c 0) (mkd (S 1 0) c false) := by
        refine RCi.put hI c (fun c' e' k hk => ?_) (fun _ _ => rfl) (fun _ _ => rfl) (fun c' e' => upd_ne e') (fun c' e' => upd_ne e') (fun c' e' hc' => ?_) (Or.inl ⟨?_, upd_at⟩)
        · exact hz.1 _ (by omega)
        · rw [tb_mkd (by omega) false (by omega), if_neg e']
        · exact hz.2 _ (by omega) (by omega)
      obtain ⟨n1, n2⟩ := P_count hI'
      rw [if_pos rfl, if_pos rfl, hta, obS]
      show ∃ q q', ((fX0_count (upd (S 4) c 0)).bind _) = some q ∧ fX6_removeCircuit_L13 (nI c) _ FU 0 st = some q' ∧ _
      refine ⟨_, _, by rw [n1, obS], (show _ = _ from hl).trans (by rw [n2, obS]), rfl, RS.cir h (fun j hj => hz.1 j (by omega)) hI'⟩
end PB3
