/-! PURE PART 7: segments of the reference, states of circuits -/
/-- the reference's walks: forth and back -/
def sgf (n : Nat) (R : Nat → Bool) : Nat → Nat → Nat → Nat
  | 0, l, _ => l
  | m + 1, l, a => if R a = true then l else sgf n R m (if l ≤ (a + 1) % n then l else (a + 1) % n) ((a + 1) % n)
def sgb (n : Nat) (R : Nat → Bool) : Nat → Nat → Nat → Nat
  | 0, l, _ => l
  | m + 1, l, a => if R ((a + n - 1) % n) = true then l else sgb n R m (if l ≤ (a + n - 1) % n then l else (a + n - 1) % n) ((a + n - 1) % n)
def segM (n : Nat) (R : Nat → Bool) (v : Nat) : Nat := sgb n R n (sgf n R n v v) v
theorem seg_same : ∀ n, n < 9 → 3 ≤ n → ∀ m, m < 2 ^ n → ∀ v, v < n → segM n (fun s => m.testBit s) v = segC n (fun s => m.testBit s) v := by decide +kernel
theorem seg_tb {n : Nat} (hn : 3 ≤ n) (h8 : n ≤ 8) {rs : Int32} (hz : ∀ i, n ≤ i → tb rs i = false) {v : Nat} (hv : v < n) : segM n (tb rs) v = segC n (tb rs) v := by
  have e : tb rs = fun s => rs.toBitVec.toNat.testBit s := by funext s; rfl
  rw [e]
  refine seg_same n (by omega) hn _ (Nat.lt_pow_two_of_testBit _ (fun i hi => ?_)) v hv
  exact hz i hi
theorem segC_lt {n : Nat} {R : Nat → Bool} {v : Nat} (hv : v < n) : segC n R v < n := by
  have := stt_le R v
  unfold segC
  split
  · omega
  · split <;> omega
section SEG
variable {st : Nat → Int32} {n : Nat} {rs : Int32}
theorem M_seg (h0 : st 0 = nI n) (hn : 3 ≤ n) (h8 : n ≤ 8) (hR : ∀ s, s < n → decide (sp st s 6 = nI 2) = tb rs s) (hz : ∀ i, n ≤ i → tb rs i = false) {v : Nat} (hv : v < n) : fX6_segmentOf st (nI v) = some (nI (segC n (tb rs) v)) := by
  have L1 : ∀ (K : Int32 → Int32 → Int32 → Int32 → Option Int32) (m i l a k : Nat), i + m = n → l < n → a < n → m < k → ∃ x y, fX6_segmentOf_L15 st (nI v) K k (nI n) (nI l) (nI a) (nI i) = K (nI n) (nI (sgf n (tb rs) m l a)) x y := by
    intro K m
    induction m with
    | zero =>
      intro i l a k hi hl ha hk
      obtain ⟨k, rfl⟩ : ∃ j, k = j + 1 := ⟨k - 1, by omega⟩
      refine ⟨nI a, nI i, ?_⟩
      rw [fX6_segmentOf_L15, if_pos (nI_le (by omega) (by omega))]; rfl
    | succ m ih =>
      intro i l a k hi hl ha hk
      obtain ⟨k, rfl⟩ : ∃ j, k = j + 1 := ⟨k - 1, by omega⟩
      have hm : (a + 1) % n < n := Nat.mod_lt _ (by omega)
      rw [fX6_segmentOf_L15, if_neg (nI_ge (by omega) (by omega)), M_of (by omega) (by decide), obS, M_next h0 hn h8 ha, obS, nI_add]
      show ∃ x y, _ = K (nI n) (nI (if tb rs a = true then l else _)) x y
      by_cases e : sp st a 6 = nI 2
      · rw [if_pos e, if_pos (show tb rs a = true by rw [← hR a ha]; simp [e])]
        exact ⟨_, _, rfl⟩
      · rw [if_neg e, if_neg (show ¬ tb rs a = true by rw [← hR a ha]; simp [e])]
        by_cases c : l ≤ (a + 1) % n
        · rw [if_pos (nI_le c (by omega)), if_pos c]
          exact ih (i + 1) l _ k (by omega) hl hm (by omega)
        · rw [if_neg (nI_ge (by omega) (by omega)), if_neg c]
          exact ih (i + 1) _ _ k (by omega) hm hm (by omega)
  have L2 : ∀ (m i l a k : Nat), i + m = n → l < n → a < n → m < k → fX6_segmentOf_L66 st (nI v) (fun x2_66 x3_66 x4_66 x5_66 => (some x3_66)) k (nI n) (nI l) (nI a) (nI i) = some (nI (sgb n (tb rs) m l a)) := by
    intro m
    induction m with
    | zero =>
      intro i l a k hi hl ha hk
      obtain ⟨k, rfl⟩ : ∃ j, k = j + 1 := ⟨k - 1, by omega⟩
      rw [fX6_segmentOf_L66, if_pos (nI_le (by omega) (by omega))]; rfl
    | succ m ih =>
      intro i l a k hi hl ha hk
      obtain ⟨k, rfl⟩ : ∃ j, k = j + 1 := ⟨k - 1, by omega⟩
      have hm : (a + n - 1) % n < n := Nat.mod_lt _ (by omega)
      rw [fX6_segmentOf_L66, if_neg (nI_ge (by omega) (by omega)), if_neg (nI_ne0 (by omega) (by omega)), if_neg (nI_ne0 (by omega) (by omega)), nI_add, pk_sub (by omega), pk_rem (by omega) (by omega) (by omega), M_of (by omega) (by decide), obS, nI_add]
      show _ = some (nI (if tb rs ((a + n - 1) % n) = true then l else _))
      by_cases e : sp st ((a + n - 1) % n) 6 = nI 2
      · rw [if_pos e, if_pos (show tb rs ((a + n - 1) % n) = true by rw [← hR _ hm]; simp [e])]
      · rw [if_neg e, if_neg (show ¬ tb rs ((a + n - 1) % n) = true by rw [← hR _ hm]; simp [e])]
        by_cases c : l ≤ (a + n - 1) % n
        · rw [if_pos (nI_le c (by omega)), if_pos c]
          exact ih (i + 1) l _ k (by omega) hl hm (by omega)
        · rw [if_neg (nI_ge (by omega) (by omega)), if_neg c]
          exact ih (i + 1) _ _ k (by omega) hm hm (by omega)
  have lt : ∀ m l a, l < n → a < n → sgf n (tb rs) m l a < n := by
    intro m
    induction m with
    | zero => intro l a hl _; exact hl
    | succ m ih =>
      intro l a hl ha
      have hm : (a + 1) % n < n := Nat.mod_lt _ (by omega)
      show (if tb rs a = true then l else _) < n
      split
      · exact hl
      · split
        · exact ih _ _ hl hm
        · exact ih _ _ hm hm
  unfold fX6_segmentOf
  rw [h0, ← nI_0]
  obtain ⟨x, y, e⟩ := L1 (fun x2_15 x3_15 x4_15 x5_15 => (fX6_segmentOf_L66 st (nI v) (fun x2_66 x3_66 x4_66 x5_66 => (some x3_66)) FU x2_15 x3_15 (nI v) (nI 0))) n 0 v v FU (by omega) hv hv (FU_gt (by omega))
  rw [e]
  show fX6_segmentOf_L66 st (nI v) _ FU (nI n) (nI (sgf n (tb rs) n v v)) (nI v) (nI 0) = _
  rw [L2 n 0 _ v FU (by omega) (lt n v v hv hv) hv (FU_gt (by omega)), ← seg_tb hn h8 hz hv]; rfl
/-- a span inside a segment -/
def ins (n : Nat) (R : Nat → Bool) (x s : Nat) : Bool := decide (segC n R s = x) && decide (segC n R ((s + 1) % n) = x)
theorem M_ins (h0 : st 0 = nI n) (hn : 3 ≤ n) (h8 : n ≤ 8) (hR : ∀ s, s < n → decide (sp st s 6 = nI 2) = tb rs s) (hz : ∀ i, n ≤ i → tb rs i = false) {s x : Nat} (hs : s < n) (hx : x < n) : fX6_isInside st (nI s) (nI x) = some (ins n (tb rs) x s) := by
  have hm : (s + 1) % n < n := Nat.mod_lt _ (by omega)
  have l1 := segC_lt (R := tb rs) hs
  have l2 := segC_lt (R := tb rs) hm
  unfold fX6_isInside ins
  rw [M_seg h0 hn h8 hR hz hs, obS, M_next h0 hn h8 hs, obS, M_seg h0 hn h8 hR hz hm, obS]
  by_cases e1 : segC n (tb rs) s = x
  · rw [if_pos (by rw [e1]), decide_eq_true e1, Bool.true_and]
    by_cases e2 : segC n (tb rs) ((s + 1) % n) = x
    · rw [if_pos (by rw [e2]), decide_eq_true e2]
    · rw [if_neg (fun e => e2 ((nI_eq (by omega) (by omega)).mp e)), decide_eq_false e2]
  · rw [if_neg (fun e => e1 ((nI_eq (by omega) (by omega)).mp e)), decide_eq_false e1, Bool.false_and]
theorem M_hasSw (h0 : st 0 = nI n) (hn : 3 ≤ n) (h8 : n ≤ 8) {c : Nat} (hc : c < 16) (hv : VC n st c) (k : Nat) : fX6_hasSwitch st (nI c) (nI k) = some (any1 (fun s => pth n st c s && decide (sp st s 6 = nI k)) n 0) := by
  unfold fX6_hasSwitch
  have := loopB (F := fun f a x => fX6_hasSwitch_L5 st (nI c) (nI k) (fun x3_5 x4_5 => retZ x3_5) f a x) (K := retZ) (P := fun s => pth n st c s && decide (sp st s 6 = nI k)) (N := n)
    (fun f b => by
      show fX6_hasSwitch_L5 _ _ _ _ (f + 1) _ _ = _
      rw [fX6_hasSwitch_L5, h0, if_pos (nI_le (Nat.le_refl _) (by omega))])
    (fun f i hi => by
      show fX6_hasSwitch_L5 _ _ _ _ (f + 1) _ _ = fX6_hasSwitch_L5 _ _ _ _ f _ _
      rw [fX6_hasSwitch_L5, if_neg (by rw [h0]; exact nI_ge hi (by omega)), if_pos rfl, M_isOn h0 hn h8 hc hi hv, obS, M_of (by omega) (by decide), obS, nI_add]
      cases pth n st c i
      · rfl
      · rw [if_pos rfl, Bool.true_and]
        by_cases h : sp st i 6 = nI k
        · rw [if_pos h, decide_eq_true h, wI_t]
        · rw [if_neg h, decide_eq_false h, wI_f])
    (fun f i hi => by
      show fX6_hasSwitch_L5 _ _ _ _ (f + 1) _ _ = fX6_hasSwitch_L5 _ _ _ _ f _ _
      rw [fX6_hasSwitch_L5, if_neg (by rw [h0]; exact nI_ge hi (by omega)), if_neg (by decide), nI_add])
    n 0 false FU (by omega) (FU_gt (by omega))
  rw [wI_f, nI_0] at this
  refine this.trans ?_
  rw [Bool.false_or, retZ_wI]
/-- the ends of circuit c -/
def eA (st : Nat → Int32) (c : Nat) : Nat := (cq st c 1).toNatClampNeg
def eB (st : Nat → Int32) (c : Nat) : Nat := (cq st c 2).toNatClampNeg
theorem eA_of {c : Nat} (hv : VC n st c) (h8 : n ≤ 8) : cq st c 1 = nI (eA st c) ∧ eA st c < n := by
  obtain ⟨⟨a, ha, ea⟩, -⟩ := hv
  unfold eA; rw [ea, nI_clamp (by omega)]; exact ⟨rfl, ha⟩
theorem eB_of {c : Nat} (hv : VC n st c) (h8 : n ≤ 8) : cq st c 2 = nI (eB st c) ∧ eB st c < n := by
  obtain ⟨-, ⟨a, ha, ea⟩, -⟩ := hv
  unfold eB; rw [ea, nI_clamp (by omega)]; exact ⟨rfl, ha⟩
def rgB (n : Nat) (st : Nat → Int32) (c : Nat) : Bool := any1 (fun s => pth n st c s && decide (sp st s 6 = nI 2)) n 0
def spB (n : Nat) (st : Nat → Int32) (c : Nat) : Bool := any1 (fun s => pth n st c s && decide (sp st s 6 = nI 1)) n 0
def loP (n : Nat) (st : Nat → Int32) (rs : Int32) (c s : Nat) : Bool := pth n st c s && (dn n st 0 s && (decide (sp st s 6 = 0) && (!rgB n st c || ins n (tb rs) (segC n (tb rs) (eA st c)) s)))
theorem M_lost (h0 : st 0 = nI n) (hn : 3 ≤ n) (h8 : n ≤ 8) (hR : ∀ s, s < n → decide (sp st s 6 = nI 2) = tb rs s) (hz : ∀ i, n ≤ i → tb rs i = false) {c : Nat} (hc : c < 16) (hv : VC n st c) : fX6_isLost st (nI c) = some (any1 (loP n st rs c) n 0) := by
  have hA := eA_of hv h8
  have hsg := segC_lt (R := tb rs) hA.2
  unfold fX6_isLost
  rw [M_hasSw h0 hn h8 hc hv 2, obS, M_oc hc (by decide), obS, hA.1, M_seg h0 hn h8 hR hz hA.2, obS]
  rw [show any1 (fun s => pth n st c s && decide (sp st s 6 = nI 2)) n 0 = rgB n st c from rfl, b2i_wI]
  have := loopB (F := fun f a x => fX6_isLost_L24 st (nI c) (fun x2_24 x3_24 x4_24 x5_24 => retZ x4_24) f (wI (rgB n st c)) (nI (segC n (tb rs) (eA st c))) a x) (K := retZ) (P := loP n st rs c) (N := n)
    (fun f b => by
      show fX6_isLost_L24 _ _ _ (f + 1) _ _ _ _ = _
      rw [fX6_isLost_L24, h0, if_pos (nI_le (Nat.le_refl _) (by omega))])
    (fun f i hi => by
      show fX6_isLost_L24 _ _ _ (f + 1) _ _ _ _ = fX6_isLost_L24 _ _ _ f _ _ _ _
      rw [fX6_isLost_L24, if_neg (by rw [h0]; exact nI_ge hi (by omega)), if_pos rfl, M_isOn h0 hn h8 hc hi hv, obS, M_isDown0 h0 hn h8 hi, obS, M_of (by omega) (by decide), obS, M_ins h0 hn h8 hR hz hi hsg, obS, nI_add]
      unfold loP
      cases pth n st c i
      · rfl
      · cases dn n st 0 i
        · rfl
        · by_cases e : sp st i 6 = 0
          · cases rgB n st c
            · simp [e, wI]
            · cases ins n (tb rs) (segC n (tb rs) (eA st c)) i
              · simp [e, wI, show ¬ nI 1 = 0 by decide]
              · simp [e, wI, show ¬ nI 1 = 0 by decide]
          · simp [e, wI])
    (fun f i hi => by
      show fX6_isLost_L24 _ _ _ (f + 1) _ _ _ _ = fX6_isLost_L24 _ _ _ f _ _ _ _
      rw [fX6_isLost_L24, if_neg (by rw [h0]; exact nI_ge hi (by omega)), if_neg (by decide), nI_add])
    n 0 false FU (by omega) (FU_gt (by omega))
  rw [wI_f, nI_0] at this
  refine this.trans ?_
  rw [Bool.false_or, retZ_wI]
/-- the state of a circuit -/
def stN (rg ne lost sps : Bool) : Int32 := if (rg && ne) = true then nI 3 else if lost = true then nI 4 else if rg = true then nI 2 else if sps = true then nI 1 else 0
def stE (ar sps pdn : Bool) : Int32 := if (ar || sps) = true then nI 5 else if pdn = true then nI 4 else 0
def neB (n : Nat) (st : Nat → Int32) (rs : Int32) (c : Nat) : Bool := decide (¬ segC n (tb rs) (eA st c) = segC n (tb rs) (eB st c))
def cst (n : Nat) (st : Nat → Int32) (rs : Int32) (c : Nat) : Int32 :=
  if cq st c 5 = nI 1 then stE (any1 (fun s => decide (sp st s 6 = nI 2)) n 0) (spB n st c) (any1 (fun s => pth n st c s && dn n st 1 s) n 0)
  else stN (rgB n st c) (neB n st rs c) (any1 (loP n st rs c) n 0) (spB n st c)
theorem M_state (h0 : st 0 = nI n) (hn : 3 ≤ n) (h8 : n ≤ 8) (hR : ∀ s, s < n → decide (sp st s 6 = nI 2) = tb rs s) (hz : ∀ i, n ≤ i → tb rs i = false) {c : Nat} (hc : c < 16) (hv : VC n st c) : fX6_stateOf st (nI c) = some (cst n st rs c) := by
  have hA := eA_of hv h8
  have hB := eB_of hv h8
  have lA := segC_lt (R := tb rs) hA.2
  have lB := segC_lt (R := tb rs) hB.2
  unfold fX6_stateOf cst
  rw [M_oc hc (by decide), obS]
  by_cases hx : cq st c 5 = nI 1
  · rw [if_pos hx, if_pos hx]
    unfold fX6_extraState
    rw [M_someSw h0 h8 2, obS, M_hasSw h0 hn h8 hc hv 1, obS]
    have hl := loopE (F := fun f x => fX6_extraState_L21 st (nI c) (fun x2_21 => (some 0)) f x) (z := some 0) (P := fun s => pth n st c s && dn n st 1 s) (R := fun _ => some (nI 4)) (N := n)
      (fun f => by
        show fX6_extraState_L21 _ _ _ (f + 1) _ = _
        rw [fX6_extraState_L21, h0, if_pos (nI_le (Nat.le_refl _) (by omega))])
      (fun f i hi => by
        show fX6_extraState_L21 _ _ _ (f + 1) _ = if _ then _ else fX6_extraState_L21 _ _ _ f _
        rw [fX6_extraState_L21, if_neg (by rw [h0]; exact nI_ge hi (by omega)), M_isOn h0 hn h8 hc hi hv, obS, M_isDown h0 hn h8 hi (by decide), obS, nI_add]
        cases pth n st c i <;> cases dn n st 1 i <;> rfl)
      n 0 FU (by omega) (FU_gt (by omega))
    have hff : ∀ m i, ff (fun s => pth n st c s && dn n st 1 s) (fun _ => some (nI 4)) (some 0) m i = some (if any1 (fun s => pth n st c s && dn n st 1 s) m i = true then nI 4 else 0) := by
      intro m
      induction m with
      | zero => intro i; rfl
      | succ m ih =>
        intro i
        simp only [ff, any1, ih (i + 1)]
        by_cases h1 : pth n st c i = true <;> by_cases h2 : dn n st 1 i = true <;> simp [h1, h2]
    rw [nI_0] at hl
    rw [show fX6_extraState_L21 st (nI c) (fun x2_21 => (some 0)) FU 0 = _ from hl, hff]
    unfold stE
    rw [show any1 (fun s => pth n st c s && decide (sp st s 6 = nI 1)) n 0 = spB n st c from rfl]
    cases any1 (fun s => decide (sp st s 6 = nI 2)) n 0 <;> cases spB n st c <;> rfl
  · rw [if_neg hx, if_neg hx]
    unfold fX6_normalState
    rw [M_hasSw h0 hn h8 hc hv 2, obS, M_oc hc (by decide), obS, hA.1, M_seg h0 hn h8 hR hz hA.2, obS, M_oc hc (by decide), obS, hB.1, M_seg h0 hn h8 hR hz hB.2, obS, M_lost h0 hn h8 hR hz hc hv, obS, M_hasSw h0 hn h8 hc hv 1, obS]
    unfold stN neB
    rw [show any1 (fun s => pth n st c s && decide (sp st s 6 = nI 2)) n 0 = rgB n st c from rfl, show any1 (fun s => pth n st c s && decide (sp st s 6 = nI 1)) n 0 = spB n st c from rfl]
    have en : (nI (segC n (tb rs) (eA st c)) = nI (segC n (tb rs) (eB st c))) = (segC n (tb rs) (eA st c) = segC n (tb rs) (eB st c)) := propext (nI_eq (by omega) (by omega))
    simp only [en]
    cases rgB n st c <;> cases any1 (loP n st rs c) n 0 <;> cases spB n st c <;> by_cases e : segC n (tb rs) (eA st c) = segC n (tb rs) (eB st c) <;> simp [e, obS]
end SEG
