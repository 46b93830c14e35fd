/-! PURE PART 1: bits of ints, loops as folds -/
def tb (m : Int32) (i : Nat) : Bool := m.toBitVec.getLsbD i
theorem tb_and (a b : Int32) (i : Nat) : tb (a &&& b) i = (tb a i && tb b i) := by unfold tb; rw [Int32.toBitVec_and, BitVec.getLsbD_and]
theorem tb_or (a b : Int32) (i : Nat) : tb (a ||| b) i = (tb a i || tb b i) := by unfold tb; rw [Int32.toBitVec_or, BitVec.getLsbD_or]
theorem tb_m1 (i : Nat) : tb (-1) i = decide (i < 32) := by
  unfold tb
  rw [show ((-1 : Int32)).toBitVec = BitVec.allOnes 32 by decide +kernel, BitVec.getLsbD_allOnes]
theorem tb_not (a : Int32) (i : Nat) (h : i < 32) : tb (a ^^^ (-1)) i = !tb a i := by
  have h1 : tb (a ^^^ (-1)) i = (tb a i ^^ tb (-1) i) := by unfold tb; rw [Int32.toBitVec_xor, BitVec.getLsbD_xor]
  rw [h1, tb_m1]
  simp [h]
theorem tb_hi (a : Int32) (i : Nat) (h : 32 ≤ i) : tb a i = false := BitVec.getLsbD_of_ge _ _ h
theorem tb_0 (i : Nat) : tb 0 i = false := by
  unfold tb
  rw [show ((0 : Int32)).toBitVec = 0#32 from rfl, BitVec.getLsbD_zero]
theorem tb_ext {a b : Int32} (h : ∀ i, i < 32 → tb a i = tb b i) : a = b := Int32.toBitVec_inj.mp (BitVec.eq_of_getLsbD_eq (fun i hi => h i hi))
theorem tb_nI (n i : Nat) : tb (nI n) i = (decide (i < 32) && n.testBit i) := by
  unfold tb nI
  rw [Int32.toBitVec_ofNat', BitVec.getLsbD_ofNat]
theorem shl_nI : ∀ k, k < 32 → (nI 1) <<< (nI k &&& 31) = nI (2 ^ k) := by decide +kernel
theorem tb_bt {k : Nat} (hk : k < 32) (i : Nat) : tb ((nI 1) <<< (nI k &&& 31)) i = decide (i = k) := by
  rw [shl_nI k hk, tb_nI, Nat.testBit_two_pow]
  by_cases h : i = k
  · subst h; simp [hk]
  · simp [h, Ne.symm h]
theorem tb_eq0 {a : Int32} : a = 0 ↔ ∀ i, i < 32 → tb a i = false := ⟨fun h i _ => by rw [h]; exact tb_0 i, fun h => tb_ext (fun i hi => by rw [h i hi, tb_0])⟩
theorem and_bt {a : Int32} {k : Nat} (hk : k < 32) : (a &&& ((nI 1) <<< (nI k &&& 31))) = 0 ↔ tb a k = false := by
  constructor
  · intro h
    have h1 := tb_eq0.mp h k hk
    rw [tb_and, tb_bt hk] at h1
    simpa using h1
  · intro h
    refine tb_eq0.mpr (fun i _ => ?_)
    rw [tb_and, tb_bt hk]
    by_cases e : i = k
    · subst e; simp [h]
    · simp [e]
theorem F_contains {a : Int32} {k : Nat} (hk : k < 32) : fX5_contains a (nI k) = some (tb a k) := by
  unfold fX5_contains
  by_cases h : tb a k = false
  · rw [if_pos ((and_bt hk).mpr h), h]
  · rw [if_neg (fun e => h ((and_bt hk).mp e))]
    simp at h
    rw [h]
/-- the mark of k set or taken away -/
def mkd (a : Int32) (k : Nat) (b : Bool) : Int32 := if b = true then a ||| ((nI 1) <<< (nI k &&& 31)) else a &&& (((nI 1) <<< (nI k &&& 31)) ^^^ (-1))
theorem tb_mkd {a : Int32} {k : Nat} (hk : k < 32) (b : Bool) {i : Nat} (hi : i < 32) : tb (mkd a k b) i = if i = k then b else tb a i := by
  unfold mkd
  cases b
  · rw [if_neg (by decide), tb_and, tb_not _ _ hi, tb_bt hk]
    by_cases e : i = k
    · simp [e]
    · simp [e]
  · rw [if_pos rfl, tb_or, tb_bt hk]
    by_cases e : i = k
    · simp [e]
    · simp [e]
theorem F_marked (a : Int32) (k : Nat) (b : Bool) : fX5_marked a (nI k) (b2i b) = some (mkd a k b) := by
  unfold fX5_marked mkd
  cases b
  · rfl
  · rw [if_neg (by decide)]; rfl
/-! guards -/
theorem gI {α : Type} {j N : Nat} (h : j < N) (hN : N < 2 ^ 31) (x : Option α) : (if (nI j < 0 ∨ N ≤ (nI j).toNatClampNeg) then none else x) = x := if_neg (nI_in h hN)
theorem g0 {α : Type} {N : Nat} (h : 0 < N) (x : Option α) : (if ((0 : Int32) < 0 ∨ N ≤ (0 : Int32).toNatClampNeg) then none else x) = x := if_neg (by
  rw [sb_cl0]
  intro e
  rcases e with e | e
  · exact absurd e (by decide)
  · omega)
theorem obS {α β : Type} (a : α) (f : α → Option β) : (some a).bind f = f a := rfl
/-! folds -/
def fo {β : Type} (g : Nat → β → β) : Nat → Nat → β → β
  | 0, _, a => a
  | m + 1, i, a => fo g m (i + 1) (g i a)
theorem fo_congr {β : Type} {g g' : Nat → β → β} {N : Nat} (h : ∀ i a, i < N → g i a = g' i a) : ∀ m i a, i + m = N → fo g m i a = fo g' m i a
  | 0, i, a, _ => rfl
  | m + 1, i, a, e => by
    show fo g m (i + 1) (g i a) = fo g' m (i + 1) (g' i a)
    rw [h i a (by omega)]
    exact fo_congr h m (i + 1) _ (by omega)
/-- an invariant of a fold -/
theorem fo_inv {β : Type} {g : Nat → β → β} {N : Nat} (I : Nat → β → Prop) (h : ∀ i a, i < N → I i a → I (i + 1) (g i a)) : ∀ m i a, i + m = N → I i a → I N (fo g m i a)
  | 0, i, a, e, ha => by
    have e : i = N := by omega
    subst e; exact ha
  | m + 1, i, a, e, ha => fo_inv I h m (i + 1) (g i a) (by omega) (h i a (by omega) ha)
/-- a counting loop is a fold: F fuel acc counter -/
theorem loopF {β ρ : Type} {F : Nat → β → Int32 → Option ρ} {K : β → Option ρ} {g : Nat → β → β} {N : Nat} (I : Nat → β → Prop) (hstop : ∀ k a, I N a → F (k + 1) a (nI N) = K a)
    (hstep : ∀ k a i, i < N → I i a → F (k + 1) a (nI i) = F k (g i a) (nI (i + 1)) ∧ I (i + 1) (g i a)) :
    ∀ m i a k, i + m = N → I i a → m < k → F k a (nI i) = K (fo g m i a)
  | 0, i, a, k + 1, e, ha, _ => by
    have e : i = N := by omega
    subst e; exact hstop k a ha
  | m + 1, i, a, k + 1, e, ha, hk => by
    obtain ⟨h1, h2⟩ := hstep k a i (by omega) ha
    rw [h1]
    exact loopF I hstop hstep m (i + 1) (g i a) k (by omega) h2 (by omega)
/-- a loop that leaves at the first i with P i -/
def ff {ρ : Type} (P : Nat → Bool) (R : Nat → ρ) (z : ρ) : Nat → Nat → ρ
  | 0, _ => z
  | m + 1, i => if P i = true then R i else ff P R z m (i + 1)
theorem ff_congr {ρ : Type} {P P' : Nat → Bool} {R R' : Nat → ρ} {z : ρ} {N : Nat} (h : ∀ i, i < N → P i = P' i) (hR : ∀ i, i < N → R i = R' i) : ∀ m i, i + m = N → ff P R z m i = ff P' R' z m i
  | 0, i, _ => rfl
  | m + 1, i, e => by
    show (if P i = true then R i else ff P R z m (i + 1)) = (if P' i = true then R' i else ff P' R' z m (i + 1))
    rw [h i (by omega), hR i (by omega), ff_congr h hR m (i + 1) (by omega)]
theorem loopE {ρ : Type} {F : Nat → Int32 → Option ρ} {z : Option ρ} {P : Nat → Bool} {R : Nat → Option ρ} {N : Nat} (hstop : ∀ k, F (k + 1) (nI N) = z)
    (hstep : ∀ k i, i < N → F (k + 1) (nI i) = if P i = true then R i else F k (nI (i + 1))) : ∀ m i k, i + m = N → m < k → F k (nI i) = ff P R z m i
  | 0, i, k + 1, e, _ => by
    have e : i = N := by omega
    subst e; exact hstop k
  | m + 1, i, k + 1, e, hk => by
    rw [hstep k i (by omega)]
    show _ = (if P i = true then R i else ff P R z m (i + 1))
    rw [loopE hstop hstep m (i + 1) k (by omega) (by omega)]
/-- two loops in step -/
theorem lock {α β ρ σ : Type} {F : Nat → α → Int32 → Option ρ} {G : Nat → β → Int32 → Option σ} {KF : α → Option ρ} {KG : β → Option σ} {N : Nat} (I : Nat → α → β → Prop)
    (hs1 : ∀ k a b, I N a b → F (k + 1) a (nI N) = KF a) (hs2 : ∀ k a b, I N a b → G (k + 1) b (nI N) = KG b)
    (hstep : ∀ k k' a b i, i < N → I i a b → ∃ a' b', F (k + 1) a (nI i) = F k a' (nI (i + 1)) ∧ G (k' + 1) b (nI i) = G k' b' (nI (i + 1)) ∧ I (i + 1) a' b') :
    ∀ m i a b k k', i + m = N → I i a b → m < k → m < k' → ∃ a' b', F k a (nI i) = KF a' ∧ G k' b (nI i) = KG b' ∧ I N a' b'
  | 0, i, a, b, k + 1, k' + 1, e, ha, _, _ => by
    have e : i = N := by omega
    subst e; exact ⟨a, b, hs1 k a b ha, hs2 k' a b ha, ha⟩
  | m + 1, i, a, b, k + 1, k' + 1, e, ha, hk, hk' => by
    obtain ⟨a1, b1, h1, h2, h3⟩ := hstep k k' a b i (by omega) ha
    rw [h1, h2]
    exact lock I hs1 hs2 hstep m (i + 1) a1 b1 k k' (by omega) h3 (by omega) (by omega)
theorem FU_gt {m : Nat} (h : m < 400) : m < FU := h
