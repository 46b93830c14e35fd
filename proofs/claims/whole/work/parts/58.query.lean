/-! PURE PART 9: the relation of the two states; what the queries answer -/
def mkS (tm ex : Int32) (fe se pa sl : Nat → Int32) (fw fp fn rt wd pd ss rs nd sn : Int32) (cmd tim hel dir seg : Nat → Int32) : Nat → Nat → Int32 := fun k => match k with
  | 0 => fun _ => tm
  | 1 => fun _ => ex
  | 2 => fe
  | 3 => se
  | 4 => pa
  | 5 => sl
  | 6 => fun _ => fw
  | 7 => fun _ => fp
  | 8 => fun _ => fn
  | 9 => fun _ => rt
  | 10 => fun _ => wd
  | 11 => fun _ => pd
  | 12 => fun _ => ss
  | 13 => fun _ => rs
  | 14 => fun _ => nd
  | 15 => fun _ => sn
  | 16 => cmd
  | 17 => tim
  | 18 => hel
  | 19 => dir
  | 20 => seg
  | _ => fun _ => 0
def RB (n : Nat) (S : Nat → Nat → Int32) (st : Nat → Int32) : Prop := 3 ≤ n ∧ n ≤ 8 ∧ st 0 = nI n ∧ S 14 0 = nI n ∧ (∃ q, 1 ≤ q ∧ q ≤ 4 ∧ st 1 = nI q ∧ S 15 0 = nI q) ∧ (∃ r, r ≤ 60 ∧ st 2 = nI r ∧ S 9 0 = nI r) ∧ st 3 = S 0 0
/-- the class's simulation S is the reference's array st, on a ring of n nodes -/
def RS (n : Nat) (S : Nat → Nat → Int32) (st : Nat → Int32) : Prop := RB n S st ∧ RMk n st (S 6 0) (S 7 0) (S 8 0) (S 16) ∧ RCo n st (S 17) (S 18) (S 19) ∧ RSw n st (S 12 0) (S 13 0) ∧ RCa n st (S 10 0) (S 11 0) (S 20) (S 13 0) ∧ RCi n st (S 2) (S 3) (S 4) (S 5) (S 1 0)
section QRY
variable {fe se pa sl seg : Nat → Int32} {ex wd pd ss rs : Int32} {st : Nat → Int32} {n : Nat}
theorem has_us (hI : RCi n st fe se pa sl ex) {c : Nat} (hc : c < 16) : decide (¬ pa c = 0) = us st c := by
  unfold us
  rcases hI c hc with ⟨e1, e2⟩ | ⟨e1, _, e2, _⟩
  · rw [e1, e2]; decide
  · rw [e1]; simp [e2]
theorem us_v (hI : RCi n st fe se pa sl ex) {c : Nat} (hc : c < 16) (hu : us st c = true) : VC n st c ∧ ¬ pa c = 0 ∧ (∀ s, s < n → tb (pa c) s = pth n st c s) ∧ (∀ i, n ≤ i → tb (pa c) i = false) ∧ fe c = cq st c 1 ∧ se c = cq st c 2 ∧ sl c = cq st c 4 ∧ tb ex c = decide (cq st c 5 = nI 1) := by
  have hu1 : cq st c 0 = nI 1 := by simpa [us] using hu
  rcases hI c hc with ⟨e, -⟩ | ⟨-, h⟩
  · rw [e] at hu1; exact absurd hu1 (by decide)
  · exact h
theorem us_n (hI : RCi n st fe se pa sl ex) {c : Nat} (hc : c < 16) (hu : us st c = false) : pa c = 0 ∧ cq st c 0 = 0 := by
  have hu1 : ¬ cq st c 0 = nI 1 := by simpa [us] using hu
  rcases hI c hc with ⟨e, e2⟩ | ⟨e, h⟩
  · exact ⟨e2, e⟩
  · exact absurd e hu1
theorem P_count (hI : RCi n st fe se pa sl ex) : fX0_count pa = some (nI (cn (us st) 16)) ∧ fX6_circuitCount st = some (nI (cn (us st) 16)) := by
  have key : fo (fun i (a : Int32) => if us st i = true then a + nI 1 else a) 16 0 0 = nI (cn (us st) 16) :=
    fo_inv (g := fun i (a : Int32) => if us st i = true then a + nI 1 else a) (N := 16) (fun i a => a = nI (cn (us st) i)) (fun i a _ ha => by
      show (if us st i = true then a + nI 1 else a) = nI (cn (us st) i + (if us st i = true then 1 else 0))
      rw [ha]
      cases us st i
      · rfl
      · exact nI_add _ _) 16 0 0 (by omega) nI_0.symm
  constructor
  · have h := loopF (F := fun f a x => fX0_count_L4 pa (fun x1_4 x2_4 => (some x1_4)) f a x) (K := fun a => some a) (N := 16) (g := fun i (a : Int32) => if us st i = true then a + nI 1 else a) (fun _ _ => True)
      (fun f a _ => by
        show fX0_count_L4 _ _ (f + 1) _ _ = _
        rw [fX0_count_L4, if_pos (nI_le (Nat.le_refl _) (by omega))])
      (fun f a i hi _ => ⟨by
        show fX0_count_L4 _ _ (f + 1) _ _ = fX0_count_L4 _ _ f _ _
        rw [fX0_count_L4, if_neg (nI_ge hi (by omega)), C_has hi, obS, has_us hI hi, nI_add]
        cases us st i <;> rfl, trivial⟩) 16 0 0 FU (by omega) trivial (FU_gt (by omega))
    rw [nI_0] at h
    refine (show fX0_count pa = _ from h).trans ?_
    rw [key]
  · have h := loopF (F := fun f a x => fX6_circuitCount_L4 st (fun x1_4 x2_4 => (some x1_4)) f a x) (K := fun a => some a) (N := 16) (g := fun i (a : Int32) => if us st i = true then a + nI 1 else a) (fun _ _ => True)
      (fun f a _ => by
        show fX6_circuitCount_L4 _ _ (f + 1) _ _ = _
        rw [fX6_circuitCount_L4, if_pos (nI_le (Nat.le_refl _) (by omega))])
      (fun f a i hi _ => ⟨by
        show fX6_circuitCount_L4 _ _ (f + 1) _ _ = fX6_circuitCount_L4 _ _ f _ _
        rw [fX6_circuitCount_L4, if_neg (nI_ge hi (by omega)), M_oc0 hi, obS, nI_add]
        cases hu : us st i
        · rw [(us_n hI hi hu).2]
          show fX6_circuitCount_L4 st _ f (a + 0) _ = fX6_circuitCount_L4 st _ f a _
          rw [Int32.add_zero]
        · have hu1 : cq st i 0 = nI 1 := by simpa [us] using hu
          rw [hu1]; rfl, trivial⟩) 16 0 0 FU (by omega) trivial (FU_gt (by omega))
    rw [nI_0] at h
    refine (show fX6_circuitCount st = _ from h).trans ?_
    rw [key]
theorem C_cross (m : Int32) : fX0_crossing pa m = some (fo (mskG (fun c => decide (¬ (pa c &&& m) = 0))) 16 0 0) := by
  have h := loopF (F := fun f a x => fX0_crossing_L4 pa m (fun x2_4 x3_4 => (some x2_4)) f a x) (K := fun a => some a) (N := 16) (g := mskG (fun c => decide (¬ (pa c &&& m) = 0))) (fun _ _ => True)
    (fun f a _ => by
      show fX0_crossing_L4 _ _ _ (f + 1) _ _ = _
      rw [fX0_crossing_L4, if_pos (nI_le (Nat.le_refl _) (by omega))])
    (fun f a i hi _ => ⟨by
      show fX0_crossing_L4 _ _ _ (f + 1) _ _ = fX0_crossing_L4 _ _ _ f _ _
      rw [fX0_crossing_L4, if_neg (nI_ge hi (by omega)), gI hi (by decide), nI_clamp (by omega), nI_add]
      unfold mskG
      by_cases e : pa i &&& m = 0
      · rw [if_pos e, if_neg (by simp [e])]
      · rw [if_neg e, if_pos (by simp [e])], trivial⟩) 16 0 0 FU (by omega) trivial (FU_gt (by omega))
  rw [nI_0] at h
  exact h
/-- the circuits on some spans -/
theorem cr_us (hI : RCi n st fe se pa sl ex) (h8 : n ≤ 8) {m : Int32} {P : Nat → Bool} (hm : ∀ s, s < n → tb m s = P s) {c : Nat} (hc : c < 16) : decide (¬ (pa c &&& m) = 0) = (us st c && any1 (fun s => pth n st c s && P s) n 0) := by
  cases hu : us st c
  · have z : pa c &&& m = 0 := tb_eq0.mpr (fun i _ => by rw [tb_and, (us_n hI hc hu).1, tb_0, Bool.false_and])
    simp [z]
  · obtain ⟨_, _, hb, hz, _⟩ := us_v hI hc hu
    rw [Bool.true_and]
    exact ss_any h8 (fun s hs => by rw [tb_and, hb s hs, hm s hs]) (fun i hi => by rw [tb_and, hz i hi, Bool.false_and])
theorem any_one {P : Nat → Bool} {v : Nat} (hv : v < n) : any1 (fun s => P s && decide (s = v)) n 0 = P v := by
  cases h : P v
  · rw [any0_f]
    intro j _
    by_cases e : j = v
    · rw [e, h]; rfl
    · simp [e]
  · rw [any0_iff]
    exact ⟨v, hv, by simp [h]⟩
theorem M_cirOn (h0 : st 0 = nI n) (hn : 3 ≤ n) (h8 : n ≤ 8) (hI : RCi n st fe se pa sl ex) {v : Nat} (hv : v < n) : fX6_circuitsOn st (nI v) = some (fo (mskG (fun c => us st c && pth n st c v)) 16 0 0) := by
  unfold fX6_circuitsOn
  rw [M_isSpanT h0 hn h8 hv, obS, if_pos rfl]
  have h := loopF (F := fun f a x => fX6_circuitsOn_L15 st (nI v) (fun x2_15 x3_15 => (some x2_15)) f a x) (K := fun a => some a) (N := 16) (g := mskG (fun c => us st c && pth n st c v)) (fun _ _ => True)
    (fun f a _ => by
      show fX6_circuitsOn_L15 _ _ _ (f + 1) _ _ = _
      rw [fX6_circuitsOn_L15, if_pos (nI_le (Nat.le_refl _) (by omega))])
    (fun f a i hi _ => ⟨by
      show fX6_circuitsOn_L15 _ _ _ (f + 1) _ _ = fX6_circuitsOn_L15 _ _ _ f _ _
      rw [fX6_circuitsOn_L15, if_neg (nI_ge hi (by omega)), M_isCirc hi, obS, nI_add]
      show (if us st i = true then _ else _) = _
      rw [show mskG (fun c => us st c && pth n st c v) i a = (if (us st i && pth n st i v) = true then a ||| ((nI 1) <<< (nI i &&& 31)) else a) from rfl]
      cases hu : us st i
      · show fX6_circuitsOn_L15 _ _ _ f (a ||| 0) _ = fX6_circuitsOn_L15 _ _ _ f a _
        rw [or_0]
      · rw [if_pos rfl, M_isOn h0 hn h8 hi hv (us_v hI hi hu).1, obS, Bool.true_and]
        cases pth n st i v
        · show fX6_circuitsOn_L15 _ _ _ f (a ||| 0) _ = fX6_circuitsOn_L15 _ _ _ f a _
          rw [or_0]
        · rfl, trivial⟩) 16 0 0 FU (by omega) trivial (FU_gt (by omega))
  rw [nI_0] at h
  exact h
theorem M_len (h0 : st 0 = nI n) (hn : 3 ≤ n) (h8 : n ≤ 8) {c : Nat} (hc : c < 16) (hv : VC n st c) : fX6_lengthOf st (nI c) = some (nI (cn (pth n st c) n)) := by
  have h := loopF (F := fun f a x => fX6_lengthOf_L4 st (nI c) (fun x2_4 x3_4 => (some x2_4)) f a x) (K := fun a => some a) (N := n) (g := fun i (a : Int32) => if pth n st c i = true then a + nI 1 else a) (fun _ _ => True)
    (fun f a _ => by
      show fX6_lengthOf_L4 _ _ _ (f + 1) _ _ = _
      rw [fX6_lengthOf_L4, h0, if_pos (nI_le (Nat.le_refl _) (by omega))])
    (fun f a i hi _ => ⟨by
      show fX6_lengthOf_L4 _ _ _ (f + 1) _ _ = fX6_lengthOf_L4 _ _ _ f _ _
      rw [fX6_lengthOf_L4, if_neg (by rw [h0]; exact nI_ge hi (by omega)), M_isOn h0 hn h8 hc hi hv, obS, nI_add]
      cases pth n st c i
      · show fX6_lengthOf_L4 _ _ _ f (a + 0) _ = fX6_lengthOf_L4 _ _ _ f a _
        rw [Int32.add_zero]
      · rfl, trivial⟩) n 0 0 FU (by omega) trivial (FU_gt (by omega))
  rw [nI_0] at h
  refine (show fX6_lengthOf st (nI c) = _ from h).trans ?_
  rw [show fo (fun i (a : Int32) => if pth n st c i = true then a + nI 1 else a) n 0 0 = nI (cn (pth n st c) n) from
    fo_inv (g := fun i (a : Int32) => if pth n st c i = true then a + nI 1 else a) (N := n) (fun i a => a = nI (cn (pth n st c) i)) (fun i a _ ha => by
      show (if pth n st c i = true then a + nI 1 else a) = nI (cn (pth n st c) i + (if pth n st c i = true then 1 else 0))
      rw [ha]
      cases pth n st c i
      · rfl
      · exact nI_add _ _) n 0 0 (by omega) nI_0.symm]
end QRY
