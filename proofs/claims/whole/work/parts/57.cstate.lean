/-! PURE PART 8: the class's circuits -/
/-- circuits: the class's rows and the reference's -/
def RCi (n : Nat) (st : Nat → Int32) (fe se pa sl : Nat → Int32) (ex : Int32) : Prop := ∀ c, c < 16 → (cq st c 0 = 0 ∧ pa c = 0) ∨ (cq st c 0 = nI 1 ∧ VC n st c ∧ ¬ pa c = 0 ∧ (∀ s, s < n → tb (pa c) s = pth n st c s) ∧ (∀ i, n ≤ i → tb (pa c) i = false) ∧ fe c = cq st c 1 ∧ se c = cq st c 2 ∧ sl c = cq st c 4 ∧ tb ex c = decide (cq st c 5 = nI 1))
def us (st : Nat → Int32) (c : Nat) : Bool := decide (cq st c 0 = nI 1)
theorem or_0 (a : Int32) : a ||| 0 = a := tb_ext (fun i _ => by rw [tb_or, tb_0, Bool.or_false])
def mskG (P : Nat → Bool) (i : Nat) (a : Int32) : Int32 := if P i = true then a ||| ((nI 1) <<< (nI i &&& 31)) else a
theorem msk_bits (P : Nat → Bool) {N : Nat} (hN : N ≤ 32) (s : Nat) : tb (fo (mskG P) N 0 0) s = (decide (s < N) && P s) := by
  refine fo_inv (g := mskG P) (N := N) (fun i a => ∀ s, tb a s = (decide (s < i) && P s)) (fun i a hi ha s => ?_) N 0 0 (by omega) (fun s => by rw [tb_0]; simp) s
  unfold mskG
  by_cases e : P i = true
  · rw [if_pos e, tb_or, tb_bt (by omega), ha s]
    by_cases es : s = i
    · subst es; simp [e]
    · have : decide (s < i + 1) = decide (s < i) := by simp; omega
      rw [this]; simp [es]
  · rw [if_neg e, ha s]
    by_cases es : s = i
    · subst es
      have e : P s = false := by simpa using e
      simp [e]
    · have : decide (s < i + 1) = decide (s < i) := by simp; omega
      rw [this]
theorem msk_congr {P P' : Nat → Bool} {N : Nat} (h : ∀ i, i < N → P i = P' i) : fo (mskG P) N 0 0 = fo (mskG P') N 0 0 := fo_congr (N := N) (fun i a hi => by unfold mskG; rw [h i hi]) N 0 0 (by omega)
/-- counting -/
def cn (P : Nat → Bool) : Nat → Nat
  | 0 => 0
  | i + 1 => cn P i + (if P i = true then 1 else 0)
theorem cn_le (P : Nat → Bool) : ∀ i, cn P i ≤ i
  | 0 => Nat.le_refl _
  | i + 1 => by
    have := cn_le P i
    show cn P i + _ ≤ i + 1
    split <;> omega
theorem cn_congr {P P' : Nat → Bool} : ∀ {n : Nat}, (∀ i, i < n → P i = P' i) → cn P n = cn P' n
  | 0, _ => rfl
  | n + 1, h => by
    show cn P n + _ = cn P' n + _
    rw [cn_congr (n := n) (fun i hi => h i (by omega)), h n (by omega)]
theorem cn_more {P : Nat → Bool} {n : Nat} : ∀ m, (∀ i, n ≤ i → P i = false) → cn P (n + m) = cn P n
  | 0, _ => rfl
  | m + 1, h => by
    show cn P (n + m) + (if P (n + m) = true then 1 else 0) = _
    rw [cn_more m h, h (n + m) (by omega), if_neg (by decide), Nat.add_zero]
theorem bc_all : ∀ k, k < 256 → fJ6_bitCount_0f7a4 (nI k) = some (nI (cn (fun s => k.testBit s) 8)) := by decide +kernel
theorem F_bc {m : Int32} {n : Nat} (h8 : n ≤ 8) (hz : ∀ i, n ≤ i → tb m i = false) : fJ6_bitCount_0f7a4 m = some (nI (cn (tb m) n)) := by
  have hlt : m.toBitVec.toNat < 2 ^ 8 := Nat.lt_pow_two_of_testBit _ (fun i hi => hz i (by omega))
  have e : m = nI m.toBitVec.toNat := by
    refine tb_ext (fun i hi => ?_)
    rw [tb_nI, decide_eq_true hi, Bool.true_and]; rfl
  have h := bc_all m.toBitVec.toNat hlt
  rw [← e] at h
  rw [h]
  congr 2
  have e2 : (fun s => m.toBitVec.toNat.testBit s) = tb m := by funext s; rfl
  rw [e2, show (8 : Nat) = n + (8 - n) by omega, cn_more _ hz]
section CIR
variable {fe se pa sl seg : Nat → Int32} {ex wd pd ss rs : Int32} {st : Nat → Int32} {n : Nat}
theorem C_path {c : Nat} (hc : c < 16) (h : ¬ pa c = 0) : fX0_pathOf pa (nI c) = some (pa c) := by
  unfold fX0_pathOf; rw [C_has hc, obS, if_pos (by simpa using h), gI hc (by decide), nI_clamp (by omega)]
theorem C_fe {c : Nat} (hc : c < 16) (h : ¬ pa c = 0) : fX0_firstEndOf fe pa (nI c) = some (fe c) := by
  unfold fX0_firstEndOf; rw [C_has hc, obS, if_pos (by simpa using h), gI hc (by decide), nI_clamp (by omega)]
theorem C_se {c : Nat} (hc : c < 16) (h : ¬ pa c = 0) : fX0_secondEndOf se pa (nI c) = some (se c) := by
  unfold fX0_secondEndOf; rw [C_has hc, obS, if_pos (by simpa using h), gI hc (by decide), nI_clamp (by omega)]
theorem C_ex {c : Nat} (hc : c < 16) : fX0_isExtra ex (nI c) = some (tb ex c) := by
  unfold fX0_isExtra; rw [F_contains (by omega), obS]
theorem C_segOf (h8 : n ≤ 8) {v : Nat} (hv : v < n) : fX1_segmentOf (nI n) seg (nI v) = some (seg v) := by
  unfold fX1_segmentOf; rw [C_hasT h8 hv, obS, if_pos rfl, gI (by omega) (by decide), nI_clamp (by omega)]
theorem C_inside (hn : 3 ≤ n) (h8 : n ≤ 8) (hsg : ∀ s, s < n → seg s = nI (segC n (tb rs) s)) {x : Nat} (hx : x < n) : ∃ m, fX1_spansInside (nI n) seg (nI x) = some m ∧ (∀ s, s < n → tb m s = ins n (tb rs) x s) ∧ ∀ i, n ≤ i → tb m i = false := by
  have h := loopF (F := fun f a y => fX1_spansInside_L4 (nI n) seg (nI x) (fun x2_4 x3_4 => (some x2_4)) f a y) (K := fun a => some a) (N := n) (g := mskG (ins n (tb rs) x)) (fun _ _ => True)
    (fun f a _ => by
      show fX1_spansInside_L4 _ _ _ _ (f + 1) _ _ = _
      rw [fX1_spansInside_L4, if_pos (nI_le (Nat.le_refl _) (by omega))])
    (fun f a i hi _ => ⟨by
      have hm : (i + 1) % n < n := Nat.mod_lt _ (by omega)
      have l1 := segC_lt (R := tb rs) hi
      have l2 := segC_lt (R := tb rs) hm
      show fX1_spansInside_L4 _ _ _ _ (f + 1) _ _ = fX1_spansInside_L4 _ _ _ _ f _ _
      rw [fX1_spansInside_L4, if_neg (nI_ge hi (by omega)), C_after hn h8 hi, obS, gI (by omega) (by decide), gI (by omega) (by decide), nI_clamp (by omega), nI_clamp (by omega), hsg i hi, hsg _ hm, nI_add]
      unfold mskG ins
      by_cases e1 : segC n (tb rs) i = x
      · rw [if_pos (by rw [e1]), decide_eq_true e1, Bool.true_and]
        by_cases e2 : segC n (tb rs) ((i + 1) % n) = x
        · rw [if_pos (by rw [e2]), if_pos (decide_eq_true e2)]
        · rw [if_neg (fun e => e2 ((nI_eq (by omega) (by omega)).mp e)), if_neg (by simp [e2])]
      · rw [if_neg (fun e => e1 ((nI_eq (by omega) (by omega)).mp e)), if_neg (by simp [e1])], trivial⟩)
    n 0 0 FU (by omega) trivial (FU_gt (by omega))
  rw [nI_0] at h
  refine ⟨_, h, fun s hs => ?_, fun i hi => ?_⟩
  · rw [msk_bits _ (by omega), decide_eq_true hs, Bool.true_and]
  · rw [msk_bits _ (by omega), decide_eq_false (by omega), Bool.false_and]
theorem sp0 (hS : RSw n st ss rs) {s : Nat} (hs : s < n) : decide (sp st s 6 = 0) = (!tb ss s && !tb rs s) := by
  obtain ⟨h1, h2, h3⟩ := hS.1 s hs
  rw [h2, h3]
  rcases h1 with e | e | e <;> rw [e] <;> decide +kernel
theorem C_state (hn : 3 ≤ n) (h8 : n ≤ 8) (hS : RSw n st ss rs) (hA : RCa n st wd pd seg rs) (hI : RCi n st fe se pa sl ex) {c : Nat} (hc : c < 16) (hu : us st c = true) : fX3_stateOf ex fe se pa wd pd ss rs (nI n) seg (nI c) = some (cst n st rs c) := by
  have hu1 : cq st c 0 = nI 1 := by simpa [us] using hu
  rcases hI c hc with ⟨e, -⟩ | ⟨-, hv, hp, hb, hz, e1, e2, e3, e4⟩
  · rw [e] at hu1; exact absurd hu1 (by decide)
  have kA := eA_of hv h8
  have kB := eB_of hv h8
  have lA := segC_lt (R := tb rs) kA.2
  have lB := segC_lt (R := tb rs) kB.2
  have hsg : ∀ s, s < n → seg s = nI (segC n (tb rs) s) := fun s hs => (hA s hs).2.2.1
  have any : ∀ (m : Int32) (P : Nat → Bool), (∀ s, s < n → tb m s = P s) → decide (¬ (pa c &&& m) = 0) = any1 (fun s => pth n st c s && P s) n 0 := fun m P hm => ss_any h8 (fun s hs => by rw [tb_and, hb s hs, hm s hs]) (fun i hi => by rw [tb_and, hz i hi, Bool.false_and])
  have aS : decide (¬ (pa c &&& ss) = 0) = spB n st c := any ss _ (fun s hs => (hS.1 s hs).2.1)
  have aR : decide (¬ (pa c &&& rs) = 0) = rgB n st c := any rs _ (fun s hs => (hS.1 s hs).2.2)
  have aP : decide (¬ (pa c &&& pd) = 0) = any1 (fun s => pth n st c s && dn n st 1 s) n 0 := any pd _ (fun s hs => (hA s hs).2.1)
  have aN : decide (¬ rs = 0) = any1 (fun s => decide (sp st s 6 = nI 2)) n 0 := ss_any h8 (fun s hs => (hS.1 s hs).2.2) (fun i hi => (hS.2 i hi).2)
  unfold fX3_stateOf cst
  rw [C_ex hc, obS, e4]
  by_cases hx : cq st c 5 = nI 1
  · rw [if_pos (decide_eq_true hx), if_pos hx]
    unfold fX3_stateOfExtra stE
    rw [C_path hc hp, obS, ← aS, ← aP, ← aN]
    by_cases z1 : rs = 0
    · by_cases z2 : pa c &&& ss = 0
      · by_cases z3 : pa c &&& pd = 0
        · simp [z1, z2, z3, obS]
        · simp [z1, z2, z3, obS]
      · simp [z1, z2, obS]
    · simp [z1, obS]
  · rw [if_neg (by simp [hx]), if_neg hx]
    unfold fX3_stateOfNormal
    rw [C_path hc hp, obS, C_fe hc hp, obS, e1, kA.1, C_segOf h8 kA.2, obS, C_se hc hp, obS, e2, kB.1, C_segOf h8 kB.2, obS, hsg _ kA.2, hsg _ kB.2]
    obtain ⟨m, m1, m2, m3⟩ := C_inside hn h8 hsg lA
    rw [m1, obS]
    have hU : ∀ s, s < n → tb (((pa c &&& wd) &&& (ss ^^^ (-1))) &&& (rs ^^^ (-1))) s = (pth n st c s && (dn n st 0 s && decide (sp st s 6 = 0))) := fun s hs => by
      rw [tb_and, tb_and, tb_and, tb_not _ _ (by omega), tb_not _ _ (by omega), hb s hs, (hA s hs).1, sp0 hS hs, Bool.and_assoc, Bool.and_assoc]
    have hUz : ∀ i, n ≤ i → tb (((pa c &&& wd) &&& (ss ^^^ (-1))) &&& (rs ^^^ (-1))) i = false := fun i hi => by rw [tb_and, tb_and, tb_and, hz i hi]; rfl
    generalize (((pa c &&& wd) &&& (ss ^^^ (-1))) &&& (rs ^^^ (-1))) = U at hU hUz ⊢
    unfold stN neB
    rw [← aS]
    have en : (nI (segC n (tb rs) (eA st c)) = nI (segC n (tb rs) (eB st c))) = (segC n (tb rs) (eA st c) = segC n (tb rs) (eB st c)) := propext (nI_eq (by omega) (by omega))
    simp only [en]
    by_cases z1 : pa c &&& rs = 0
    · have rf : rgB n st c = false := by rw [← aR]; simp [z1]
      have aL : decide (¬ U = 0) = any1 (loP n st rs c) n 0 := ss_any h8 (fun s hs => by rw [hU s hs]; unfold loP; rw [rf]; simp) hUz
      rw [← aL, rf]
      by_cases z2 : U = 0
      · by_cases z3 : pa c &&& ss = 0
        · simp [z1, z2, z3, obS]
        · simp [z1, z2, z3, obS]
      · simp [z1, z2, obS]
    · have rt : rgB n st c = true := by rw [← aR]; simp [z1]
      have aL : decide (¬ (U &&& m) = 0) = any1 (loP n st rs c) n 0 := ss_any h8 (fun s hs => by rw [tb_and, hU s hs, m2 s hs]; unfold loP; rw [rt]; simp [Bool.and_assoc]) (fun i hi => by rw [tb_and, hUz i hi, Bool.false_and])
      rw [← aL, rt]
      have n1 : ¬ nI 1 = 0 := by decide
      by_cases z4 : segC n (tb rs) (eA st c) = segC n (tb rs) (eB st c)
      · by_cases z2 : (U &&& m) = 0
        · simp [z1, z2, z4, n1, obS]
        · simp [z1, z2, z4, n1, obS]
      · simp [z1, z4, n1, obS]
/-- the states are few -/
theorem cst_in (c : Nat) : cst n st rs c = 0 ∨ cst n st rs c = nI 1 ∨ cst n st rs c = nI 2 ∨ cst n st rs c = nI 3 ∨ cst n st rs c = nI 4 ∨ cst n st rs c = nI 5 := by
  have k1 : ∀ a b d : Bool, stE a b d = 0 ∨ stE a b d = nI 1 ∨ stE a b d = nI 2 ∨ stE a b d = nI 3 ∨ stE a b d = nI 4 ∨ stE a b d = nI 5 := by decide +kernel
  have k2 : ∀ a b d f : Bool, stN a b d f = 0 ∨ stN a b d f = nI 1 ∨ stN a b d f = nI 2 ∨ stN a b d f = nI 3 ∨ stN a b d f = nI 4 ∨ stN a b d f = nI 5 := by decide +kernel
  unfold cst
  split
  · exact k1 _ _ _
  · exact k2 _ _ _ _
def dl (x : Int32) : Bool := decide (x ≤ nI 2)
theorem C_isDel (c : Nat) : fX5_isDelivery (cst n st rs c) = some (dl (cst n st rs c)) := by
  rcases cst_in (n := n) (st := st) (rs := rs) c with e | e | e | e | e | e <;> rw [e] <;> decide +kernel
theorem M_isDel (h0 : st 0 = nI n) (hn : 3 ≤ n) (h8 : n ≤ 8) (hR : ∀ s, s < n → decide (sp st s 6 = nI 2) = tb rs s) (hz : ∀ i, n ≤ i → tb rs i = false) (hI : RCi n st fe se pa sl ex) {c : Nat} (hc : c < 16) : fX6_isDelivered st (nI c) = some (us st c && dl (cst n st rs c)) := by
  unfold fX6_isDelivered
  rw [M_isCirc hc, obS]
  show (if us st c = true then _ else _) = _
  cases hu : us st c
  · rfl
  · have hu1 : cq st c 0 = nI 1 := by simpa [us] using hu
    rcases hI c hc with ⟨e, -⟩ | ⟨-, hv, -⟩
    · rw [e] at hu1; exact absurd hu1 (by decide)
    rw [if_pos rfl, M_state h0 hn h8 hR hz hc hv, obS, Bool.true_and]
    rcases cst_in (n := n) (st := st) (rs := rs) c with e | e | e | e | e | e <;> rw [e] <;> decide +kernel
end CIR
