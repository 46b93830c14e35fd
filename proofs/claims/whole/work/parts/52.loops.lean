/-! PURE PART 3: bool loops, switches, grants -/
def any1 (P : Nat → Bool) : Nat → Nat → Bool
  | 0, _ => false
  | m + 1, i => P i || any1 P m (i + 1)
theorem any1_iff (P : Nat → Bool) : ∀ m i, any1 P m i = true ↔ ∃ j, i ≤ j ∧ j < i + m ∧ P j = true
  | 0, i => ⟨fun h => absurd h (by simp [any1]), fun ⟨j, h1, h2, _⟩ => by omega⟩
  | m + 1, i => by
    show (P i || any1 P m (i + 1)) = true ↔ _
    rw [Bool.or_eq_true, any1_iff P m (i + 1)]
    constructor
    · rintro (h | ⟨j, h1, h2, h3⟩)
      · exact ⟨i, Nat.le_refl _, by omega, h⟩
      · exact ⟨j, by omega, by omega, h3⟩
    · rintro ⟨j, h1, h2, h3⟩
      by_cases e : j = i
      · subst e; exact Or.inl h3
      · exact Or.inr ⟨j, by omega, by omega, h3⟩
theorem any0_iff (P : Nat → Bool) (n : Nat) : any1 P n 0 = true ↔ ∃ j, j < n ∧ P j = true := by
  rw [any1_iff]
  exact ⟨fun ⟨j, _, h2, h3⟩ => ⟨j, by omega, h3⟩, fun ⟨j, h1, h3⟩ => ⟨j, Nat.zero_le _, by omega, h3⟩⟩
theorem any0_f (P : Nat → Bool) (n : Nat) : any1 P n 0 = false ↔ ∀ j, j < n → P j = false := by
  constructor
  · intro h j hj
    cases hp : P j
    · rfl
    · exact absurd ((any0_iff P n).mpr ⟨j, hj, hp⟩) (by rw [h]; decide)
  · intro h
    cases hp : any1 P n 0
    · rfl
    · obtain ⟨j, h1, h2⟩ := (any0_iff P n).mp hp
      rw [h j h1] at h2; cases h2
theorem any0_congr {P P' : Nat → Bool} {n : Nat} (h : ∀ j, j < n → P j = P' j) : any1 P n 0 = any1 P' n 0 := by
  cases hp : any1 P' n 0
  · rw [any0_f] at hp ⊢
    exact fun j hj => by rw [h j hj]; exact hp j hj
  · rw [any0_iff] at hp ⊢
    obtain ⟨j, h1, h2⟩ := hp
    exact ⟨j, h1, by rw [h j h1]; exact h2⟩
theorem loopB {ρ : Type} {F : Nat → Int32 → Int32 → Option ρ} {K : Int32 → Option ρ} {P : Nat → Bool} {N : Nat} (hstop : ∀ k b, F (k + 1) (wI b) (nI N) = K (wI b))
    (h0 : ∀ k i, i < N → F (k + 1) 0 (nI i) = F k (wI (P i)) (nI (i + 1))) (h1 : ∀ k i, i < N → F (k + 1) (nI 1) (nI i) = F k (nI 1) (nI (i + 1))) :
    ∀ m i b k, i + m = N → m < k → F k (wI b) (nI i) = K (wI (b || any1 P m i))
  | 0, i, b, k + 1, e, _ => by
    have e : i = N := by omega
    subst e
    rw [hstop k b]; simp [any1]
  | m + 1, i, b, k + 1, e, hk => by
    cases b
    · rw [wI_f, h0 k i (by omega), loopB hstop h0 h1 m (i + 1) (P i) k (by omega) (by omega)]
      show _ = K (wI (false || (P i || any1 P m (i + 1))))
      rw [Bool.false_or]
    · rw [wI_t, h1 k i (by omega), ← wI_t, loopB hstop h0 h1 m (i + 1) true k (by omega) (by omega)]
      simp
theorem nI_lt_iff {a b : Nat} (ha : a < 2 ^ 31) (hb : b < 2 ^ 31) : ¬ nI b ≤ nI a ↔ a < b := by rw [nI_leI hb ha]; omega
section MOD2
variable {st : Nat → Int32} {n : Nat}
theorem M_someSw (h0 : st 0 = nI n) (h8 : n ≤ 8) (k : Nat) : fX6_someSwitch st (nI k) = some (any1 (fun s => decide (sp st s 6 = nI k)) n 0) := by
  unfold fX6_someSwitch
  have := loopB (F := fun f a x => fX6_someSwitch_L4 st (nI k) (fun x2_4 x3_4 => retZ x2_4) f a x) (K := retZ) (P := fun s => decide (sp st s 6 = nI k)) (N := n)
    (fun f b => by
      show fX6_someSwitch_L4 _ _ _ (f + 1) _ _ = _
      rw [fX6_someSwitch_L4, h0, if_pos (nI_le (Nat.le_refl _) (by omega))])
    (fun f i hi => by
      show fX6_someSwitch_L4 _ _ _ (f + 1) _ _ = fX6_someSwitch_L4 _ _ _ f _ _
      rw [fX6_someSwitch_L4, h0, if_neg (nI_ge hi (by omega)), if_pos rfl, M_of (by omega) (by decide), obS, nI_add]
      by_cases h : sp st i 6 = nI k
      · rw [if_pos h, decide_eq_true h, wI_t]
      · rw [if_neg h, decide_eq_false h, wI_f])
    (fun f i hi => by
      show fX6_someSwitch_L4 _ _ _ (f + 1) _ _ = fX6_someSwitch_L4 _ _ _ f _ _
      rw [fX6_someSwitch_L4, h0, if_neg (nI_ge hi (by omega)), if_neg (by decide), nI_add])
    n 0 false FU (by omega) (FU_gt (by omega))
  rw [wI_f, nI_0] at this
  refine this.trans ?_
  rw [Bool.false_or, retZ_wI]
theorem M_someRq (h0 : st 0 = nI n) (hn : 3 ≤ n) (h8 : n ≤ 8) (hc : ∀ s, s < n → isCmd (sp st s 2)) (k : Nat) : fX6_someRequest st (nI k) = some (any1 (fun s => decide (rq n st s = nI k)) n 0) := by
  unfold fX6_someRequest
  have := loopB (F := fun f a x => fX6_someRequest_L4 st (nI k) (fun x2_4 x3_4 => retZ x2_4) f a x) (K := retZ) (P := fun s => decide (rq n st s = nI k)) (N := n)
    (fun f b => by
      show fX6_someRequest_L4 _ _ _ (f + 1) _ _ = _
      rw [fX6_someRequest_L4, h0, if_pos (nI_le (Nat.le_refl _) (by omega))])
    (fun f i hi => by
      show fX6_someRequest_L4 _ _ _ (f + 1) _ _ = fX6_someRequest_L4 _ _ _ f _ _
      rw [fX6_someRequest_L4, if_neg (by rw [h0]; exact nI_ge hi (by omega)), if_pos rfl, M_rq h0 hn h8 hi (hc i hi), obS, nI_add]
      by_cases h : rq n st i = nI k
      · rw [if_pos h, decide_eq_true h, wI_t]
      · rw [if_neg h, decide_eq_false h, wI_f])
    (fun f i hi => by
      show fX6_someRequest_L4 _ _ _ (f + 1) _ _ = fX6_someRequest_L4 _ _ _ f _ _
      rw [fX6_someRequest_L4, if_neg (by rw [h0]; exact nI_ge hi (by omega)), if_neg (by decide), nI_add])
    n 0 false FU (by omega) (FU_gt (by omega))
  rw [wI_f, nI_0] at this
  refine this.trans ?_
  rw [Bool.false_or, retZ_wI]
/-- what a request is granted: L some span is locked out, S some span switched, R some ring switched -/
def gr (L S R : Bool) (r : Nat) : Int32 :=
  if r = 8 ∨ r = 6 then (if (L || S) = true then 0 else nI 2) else if r = 4 ∨ r = 2 then (if (L || S || R) = true then 0 else nI 2) else
  if r = 7 ∨ r = 5 ∨ r = 3 ∨ r = 1 then (if R = true then 0 else nI 1) else 0
theorem M_grant (h0 : st 0 = nI n) (hn : 3 ≤ n) (h8 : n ≤ 8) (hc : ∀ s, s < n → isCmd (sp st s 2)) {r : Nat} (hr : r < 10) :
    fX6_grantFor st (nI r) = some (gr (any1 (fun s => decide (rq n st s = nI 9)) n 0) (any1 (fun s => decide (sp st s 6 = nI 1)) n 0) (any1 (fun s => decide (sp st s 6 = nI 2)) n 0) r) := by
  unfold fX6_grantFor
  rw [M_someRq h0 hn h8 hc, obS, M_someSw h0 h8, obS, M_someSw h0 h8, obS]
  generalize any1 (fun s => decide (rq n st s = nI 9)) n 0 = L
  generalize any1 (fun s => decide (sp st s 6 = nI 1)) n 0 = S
  generalize any1 (fun s => decide (sp st s 6 = nI 2)) n 0 = R
  have key : ∀ r, r < 10 → ∀ L S R : Bool, ((if nI r = nI 1 then (if R = true then (some 0) else (some (nI 1))) else (if nI r = nI 2 then (if L = true then (some 0) else (if S = true then (some 0) else (if R = true then (some 0) else (some (nI 2))))) else (if nI r = nI 3 then (if R = true then (some 0) else (some (nI 1))) else (if nI r = nI 4 then (if L = true then (some 0) else (if S = true then (some 0) else (if R = true then (some 0) else (some (nI 2))))) else (if nI r = nI 5 then (if R = true then (some 0) else (some (nI 1))) else (if nI r = nI 6 then (if L = true then (some 0) else (if S = true then (some 0) else (some (nI 2)))) else (if nI r = nI 7 then (if R = true then (some 0) else (some (nI 1))) else (if nI r = nI 8 then (if L = true then (some 0) else (if S = true then (some 0) else (some (nI 2)))) else (some 0))))))))) : Option Int32) = some (gr L S R r) := by decide +kernel
  exact key r hr L S R
end MOD2
theorem C_grant (ss rs : Int32) (s : Nat) {r : Nat} (hr : r < 10) (L : Bool) :
    fX1_grant ss rs (nI s) (nI r) (b2i L) = some ((if gr L (decide (¬ ss = 0)) (decide (¬ rs = 0)) r = nI 1 then ss ||| ((nI 1) <<< (nI s &&& 31)) else ss), (if gr L (decide (¬ ss = 0)) (decide (¬ rs = 0)) r = nI 2 then rs ||| ((nI 1) <<< (nI s &&& 31)) else rs)) := by
  unfold fX1_grant
  generalize ss ||| ((nI 1) <<< (nI s &&& 31)) = s1
  generalize rs ||| ((nI 1) <<< (nI s &&& 31)) = r1
  have hb : (b2i L = 0) = (L = false) := by cases L <;> simp [b2i]
  simp only [hb]
  rcases (show r = 0 ∨ r = 1 ∨ r = 2 ∨ r = 3 ∨ r = 4 ∨ r = 5 ∨ r = 6 ∨ r = 7 ∨ r = 8 ∨ r = 9 by omega) with h | h | h | h | h | h | h | h | h | h <;> subst h <;> by_cases h1 : ss = 0 <;> by_cases h2 : rs = 0 <;> cases L <;> simp (decide := true) [h1, h2, gr]
/-! requests and switches of the class -/
theorem C_rqAt {n : Nat} (h8 : n ≤ 8) {tim hel dir : Nat → Int32} {s : Nat} (hs : s < n) : fX1_requestAt (nI n) tim hel dir (nI s) = some (rqv (dir s) (tim s) (hel s)) := by
  unfold fX1_requestAt rqv
  rw [C_hasST h8 hs, obS, if_pos rfl, gI (by omega) (by decide), gI (by omega) (by decide), gI (by omega) (by decide), nI_clamp (by omega)]
  by_cases h1 : dir s = 0
  · rw [if_pos h1, if_pos h1]
    by_cases h2 : tim s ≤ 0
    · rw [if_pos h2, if_pos h2]
    · rw [if_neg h2, if_neg h2]
  · rw [if_neg h1, if_neg h1]
theorem C_swAt {ss rs : Int32} {s : Nat} (hs : s < 32) : fX1_switchAt ss rs (nI s) = some (if tb rs s = true then nI 2 else if tb ss s = true then nI 1 else 0) := by
  unfold fX1_switchAt
  rw [F_contains hs, obS, F_contains hs, obS]
  cases tb rs s <;> cases tb ss s <;> rfl
theorem C_locked {n : Nat} (h8 : n ≤ 8) {tim hel dir : Nat → Int32} : fX1_isLockedOut (nI n) tim hel dir = some (any1 (fun s => decide (rqv (dir s) (tim s) (hel s) = nI 9)) n 0) := by
  unfold fX1_isLockedOut
  have h := loopE (F := fun f x => fX1_isLockedOut_L2 (nI n) tim hel dir (fun x1_2 => some false) f x) (z := some false) (P := fun s => decide (rqv (dir s) (tim s) (hel s) = nI 9)) (R := fun _ => some true) (N := n)
    (fun f => by
      show fX1_isLockedOut_L2 _ _ _ _ _ (f + 1) _ = _
      rw [fX1_isLockedOut_L2, if_pos (nI_le (Nat.le_refl _) (by omega))])
    (fun f i hi => by
      show fX1_isLockedOut_L2 _ _ _ _ _ (f + 1) _ = if _ then _ else fX1_isLockedOut_L2 _ _ _ _ _ f _
      rw [fX1_isLockedOut_L2, if_neg (nI_ge hi (by omega)), C_rqAt h8 hi, obS, nI_add]
      by_cases h : rqv (dir i) (tim i) (hel i) = nI 9
      · rw [if_pos h, if_pos (decide_eq_true h)]
      · rw [if_neg h, if_neg (by simp [h])])
    n 0 FU (by omega) (FU_gt (by omega))
  rw [nI_0] at h
  refine h.trans ?_
  have : ∀ m i, ff (fun s => decide (rqv (dir s) (tim s) (hel s) = nI 9)) (fun _ => some true) (some false) m i = some (any1 (fun s => decide (rqv (dir s) (tim s) (hel s) = nI 9)) m i) := by
    intro m
    induction m with
    | zero => intro i; rfl
    | succ m ih =>
      intro i
      simp only [ff, any1, ih (i + 1)]
      by_cases hh : rqv (dir i) (tim i) (hel i) = nI 9
      · simp [hh]
      · simp [hh]
  exact this n 0
