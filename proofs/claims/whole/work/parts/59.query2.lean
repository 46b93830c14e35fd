/-! PURE PART 10: states, counts, hops -/
section QR2
variable {fe se pa sl seg : Nat → Int32} {ex wd pd ss rs : Int32} {st : Nat → Int32} {n : Nat}
theorem M_cirIn (h0 : st 0 = nI n) (hn : 3 ≤ n) (h8 : n ≤ 8) (hR : ∀ s, s < n → decide (sp st s 6 = nI 2) = tb rs s) (hz : ∀ i, n ≤ i → tb rs i = false) (hI : RCi n st fe se pa sl ex) (x : Int32) : fX6_circuitsIn_L16 st x (fun x2_16 x3_16 => (some x2_16)) FU 0 0 = some (fo (mskG (fun c => us st c && decide (cst n st rs c = x))) 16 0 0) := by
  have h := loopF (F := fun f a y => fX6_circuitsIn_L16 st x (fun x2_16 x3_16 => (some x2_16)) f a y) (K := fun a => some a) (N := 16) (g := mskG (fun c => us st c && decide (cst n st rs c = x))) (fun _ _ => True)
    (fun f a _ => by
      show fX6_circuitsIn_L16 _ _ _ (f + 1) _ _ = _
      rw [fX6_circuitsIn_L16, if_pos (nI_le (Nat.le_refl _) (by omega))])
    (fun f a i hi _ => ⟨by
      show fX6_circuitsIn_L16 _ _ _ (f + 1) _ _ = fX6_circuitsIn_L16 _ _ _ f _ _
      rw [fX6_circuitsIn_L16, if_neg (nI_ge hi (by omega)), M_isCirc hi, obS, nI_add]
      show (if us st i = true then _ else _) = _
      rw [show mskG (fun c => us st c && decide (cst n st rs c = x)) i a = (if (us st i && decide (cst n st rs i = x)) = true then a ||| ((nI 1) <<< (nI i &&& 31)) else a) from rfl]
      cases hu : us st i
      · show fX6_circuitsIn_L16 _ _ _ f (a ||| 0) _ = fX6_circuitsIn_L16 _ _ _ f a _
        rw [or_0]
      · rw [if_pos rfl, M_state h0 hn h8 hR hz hi (us_v hI hi hu).1, obS, Bool.true_and]
        by_cases e : cst n st rs i = x
        · rw [if_pos e, if_pos (decide_eq_true e)]
        · rw [if_neg e, if_neg (by simp [e]), or_0], trivial⟩) 16 0 0 FU (by omega) trivial (FU_gt (by omega))
  rw [nI_0] at h
  exact h
theorem C_allIn (hn : 3 ≤ n) (h8 : n ≤ 8) (hS : RSw n st ss rs) (hA : RCa n st wd pd seg rs) (hI : RCi n st fe se pa sl ex) (x : Int32) : fX3_allInState ex fe se pa wd pd ss rs (nI n) seg x = some (fo (mskG (fun c => us st c && decide (cst n st rs c = x))) 16 0 0) := by
  have h := loopF (F := fun f a y => fX3_allInState_L4 ex fe se pa wd pd ss rs (nI n) seg x (fun x2_4 x3_4 => (some x2_4)) f a y) (K := fun a => some a) (N := 16) (g := mskG (fun c => us st c && decide (cst n st rs c = x))) (fun _ _ => True)
    (fun f a _ => by
      show fX3_allInState_L4 _ _ _ _ _ _ _ _ _ _ _ _ (f + 1) _ _ = _
      rw [fX3_allInState_L4, if_pos (nI_le (Nat.le_refl _) (by omega))])
    (fun f a i hi _ => ⟨by
      show fX3_allInState_L4 _ _ _ _ _ _ _ _ _ _ _ _ (f + 1) _ _ = fX3_allInState_L4 _ _ _ _ _ _ _ _ _ _ _ _ f _ _
      rw [fX3_allInState_L4, if_neg (nI_ge hi (by omega)), C_has hi, obS, has_us hI hi, nI_add]
      rw [show mskG (fun c => us st c && decide (cst n st rs c = x)) i a = (if (us st i && decide (cst n st rs i = x)) = true then a ||| ((nI 1) <<< (nI i &&& 31)) else a) from rfl]
      cases hu : us st i
      · rfl
      · rw [if_pos rfl, C_state hn h8 hS hA hI hi hu, obS, Bool.true_and]
        by_cases e : cst n st rs i = x
        · rw [if_pos e, if_pos (decide_eq_true e)]
        · rw [if_neg e, if_neg (by simp [e])], trivial⟩) 16 0 0 FU (by omega) trivial (FU_gt (by omega))
  rw [nI_0] at h
  exact h
def dv (n : Nat) (st : Nat → Int32) (rs : Int32) (c : Nat) : Bool := us st c && dl (cst n st rs c)
theorem cnt_fo (P : Nat → Bool) (N : Nat) : fo (fun i (a : Int32) => if P i = true then a + nI 1 else a) N 0 0 = nI (cn P N) :=
  fo_inv (g := fun i (a : Int32) => if P i = true then a + nI 1 else a) (N := N) (fun i a => a = nI (cn P i)) (fun i a _ ha => by
    show (if P i = true then a + nI 1 else a) = nI (cn P i + (if P i = true then 1 else 0))
    rw [ha]
    cases P i
    · rfl
    · exact nI_add _ _) N 0 0 (by omega) nI_0.symm
theorem M_delC (h0 : st 0 = nI n) (hn : 3 ≤ n) (h8 : n ≤ 8) (hR : ∀ s, s < n → decide (sp st s 6 = nI 2) = tb rs s) (hz : ∀ i, n ≤ i → tb rs i = false) (hI : RCi n st fe se pa sl ex) : fX6_deliveredCount st = some (nI (cn (dv n st rs) 16)) := by
  have h := loopF (F := fun f a x => fX6_deliveredCount_L4 st (fun x1_4 x2_4 => (some x1_4)) f a x) (K := fun a => some a) (N := 16) (g := fun i (a : Int32) => if dv n st rs i = true then a + nI 1 else a) (fun _ _ => True)
    (fun f a _ => by
      show fX6_deliveredCount_L4 _ _ (f + 1) _ _ = _
      rw [fX6_deliveredCount_L4, if_pos (nI_le (Nat.le_refl _) (by omega))])
    (fun f a i hi _ => ⟨by
      show fX6_deliveredCount_L4 _ _ (f + 1) _ _ = fX6_deliveredCount_L4 _ _ f _ _
      rw [fX6_deliveredCount_L4, if_neg (nI_ge hi (by omega)), M_isDel h0 hn h8 hR hz hI hi, obS, nI_add]
      show (if dv n st rs i = true then _ else _) = _
      cases dv n st rs i
      · show fX6_deliveredCount_L4 _ _ f (a + 0) _ = fX6_deliveredCount_L4 _ _ f a _
        rw [Int32.add_zero]
      · rfl, trivial⟩) 16 0 0 FU (by omega) trivial (FU_gt (by omega))
  rw [nI_0] at h
  refine (show fX6_deliveredCount st = _ from h).trans ?_
  rw [cnt_fo]
theorem C_delC (hn : 3 ≤ n) (h8 : n ≤ 8) (hS : RSw n st ss rs) (hA : RCa n st wd pd seg rs) (hI : RCi n st fe se pa sl ex) : fX3_countDelivered ex fe se pa wd pd ss rs (nI n) seg = some (nI (cn (dv n st rs) 16)) := by
  have h := loopF (F := fun f a x => fX3_countDelivered_L4 ex fe se pa wd pd ss rs (nI n) seg (fun x1_4 x2_4 => (some x1_4)) f a x) (K := fun a => some a) (N := 16) (g := fun i (a : Int32) => if dv n st rs i = true then a + nI 1 else a) (fun _ _ => True)
    (fun f a _ => by
      show fX3_countDelivered_L4 _ _ _ _ _ _ _ _ _ _ _ (f + 1) _ _ = _
      rw [fX3_countDelivered_L4, if_pos (nI_le (Nat.le_refl _) (by omega))])
    (fun f a i hi _ => ⟨by
      show fX3_countDelivered_L4 _ _ _ _ _ _ _ _ _ _ _ (f + 1) _ _ = fX3_countDelivered_L4 _ _ _ _ _ _ _ _ _ _ _ f _ _
      rw [fX3_countDelivered_L4, if_neg (nI_ge hi (by omega)), C_has hi, obS, has_us hI hi, nI_add]
      unfold dv
      cases hu : us st i
      · rfl
      · rw [if_pos rfl, C_state hn h8 hS hA hI hi hu, obS, C_isDel, obS, Bool.true_and]
        cases dl (cst n st rs i) <;> rfl, trivial⟩) 16 0 0 FU (by omega) trivial (FU_gt (by omega))
  rw [nI_0] at h
  refine (show fX3_countDelivered ex fe se pa wd pd ss rs (nI n) seg = _ from h).trans ?_
  rw [cnt_fo]
/-- open spans of the ends' segment, and hops -/
def op (n : Nat) (st : Nat → Int32) (rs : Int32) (c s : Nat) : Bool := ins n (tb rs) (segC n (tb rs) (eA st c)) s && !tb rs s
def hp (n : Nat) (st : Nat → Int32) (rs : Int32) (c : Nat) : Nat := if cst n st rs c = nI 2 then cn (fun s => pth n st c s && op n st rs c s) n + cn (op n st rs c) n else cn (pth n st c) n
theorem hp_le (h8 : n ≤ 8) (c : Nat) : hp n st rs c ≤ 16 := by
  have a := cn_le (fun s => pth n st c s && op n st rs c s) n
  have b := cn_le (op n st rs c) n
  have d := cn_le (pth n st c) n
  unfold hp
  split <;> omega
theorem C_hops (hn : 3 ≤ n) (h8 : n ≤ 8) (hS : RSw n st ss rs) (hA : RCa n st wd pd seg rs) (hI : RCi n st fe se pa sl ex) {c : Nat} (hc : c < 16) (hu : us st c = true) : fX3_hopsOf ex fe se pa wd pd ss rs (nI n) seg (nI c) = some (if dl (cst n st rs c) = true then nI (hp n st rs c) else -9) := by
  obtain ⟨hv, hp0, hb, hz, e1, _⟩ := us_v hI hc hu
  have kA := eA_of hv h8
  have lA := segC_lt (R := tb rs) kA.2
  have hsg : ∀ s, s < n → seg s = nI (segC n (tb rs) s) := fun s hs => (hA s hs).2.2.1
  obtain ⟨m, m1, m2, m3⟩ := C_inside hn h8 hsg lA
  have o1 : ∀ s, s < n → tb (m &&& (rs ^^^ (-1))) s = op n st rs c s := fun s hs => by rw [tb_and, tb_not _ _ (by omega), m2 s hs]; rfl
  have o2 : ∀ i, n ≤ i → tb (m &&& (rs ^^^ (-1))) i = false := fun i hi => by rw [tb_and, m3 i hi, Bool.false_and]
  have o3 : ∀ s, s < n → tb (pa c &&& (m &&& (rs ^^^ (-1)))) s = (pth n st c s && op n st rs c s) := fun s hs => by rw [tb_and, hb s hs, o1 s hs]
  have o4 : ∀ i, n ≤ i → tb (pa c &&& (m &&& (rs ^^^ (-1)))) i = false := fun i hi => by rw [tb_and, o2 i hi, Bool.and_false]
  unfold fX3_hopsOf hp
  rw [C_state hn h8 hS hA hI hc hu, obS, C_isDel, obS, C_path hc hp0, obS, C_fe hc hp0, obS, e1, kA.1, C_segOf h8 kA.2, obS, hsg _ kA.2, m1, obS, F_bc h8 o4, obS, F_bc h8 o2, obS, F_bc h8 hz, obS, nI_add, cn_congr o3, cn_congr o1, cn_congr hb]
  cases dl (cst n st rs c)
  · rfl
  · by_cases e : cst n st rs c = nI 2
    · simp [e]
    · simp [e]
theorem M_hops (h0 : st 0 = nI n) (hn : 3 ≤ n) (h8 : n ≤ 8) (hR : ∀ s, s < n → decide (sp st s 6 = nI 2) = tb rs s) (hz : ∀ i, n ≤ i → tb rs i = false) {c : Nat} (hc : c < 16) (hv : VC n st c) : fX6_hopsOf st (nI c) = some (nI (hp n st rs c)) := by
  have kA := eA_of hv h8
  have lA := segC_lt (R := tb rs) kA.2
  unfold fX6_hopsOf hp
  rw [M_state h0 hn h8 hR hz hc hv, obS]
  by_cases e : cst n st rs c = nI 2
  · rw [if_pos e, if_pos e, M_oc hc (by decide), obS, kA.1, M_seg h0 hn h8 hR hz kA.2, obS]
    have h := loopF (F := fun f a x => fX6_hopsOf_L31 st (nI c) (fun x2_31 x3_31 x4_31 => (some x3_31)) f (nI (segC n (tb rs) (eA st c))) a x) (K := fun a => some a) (N := n) (g := fun i (a : Int32) => if op n st rs c i = true then (if pth n st c i = true then a + nI 2 else a + nI 1) else a) (fun _ _ => True)
      (fun f a _ => by
        show fX6_hopsOf_L31 _ _ _ (f + 1) _ _ _ = _
        rw [fX6_hopsOf_L31, h0, if_pos (nI_le (Nat.le_refl _) (by omega))])
      (fun f a i hi _ => ⟨by
        show fX6_hopsOf_L31 _ _ _ (f + 1) _ _ _ = fX6_hopsOf_L31 _ _ _ f _ _ _
        rw [fX6_hopsOf_L31, if_neg (by rw [h0]; exact nI_ge hi (by omega)), M_ins h0 hn h8 hR hz hi lA, obS, M_of (by omega) (by decide), obS, M_isOn h0 hn h8 hc hi hv, obS, nI_add]
        unfold op
        rw [← hR i hi]
        cases ins n (tb rs) (segC n (tb rs) (eA st c)) i
        · rfl
        · by_cases w : sp st i 6 = nI 2
          · simp [w]
          · cases pth n st c i
            · simp [w]
            · simp [w], trivial⟩) n 0 0 FU (by omega) trivial (FU_gt (by omega))
    rw [nI_0] at h
    refine h.trans ?_
    rw [show fo (fun i (a : Int32) => if op n st rs c i = true then (if pth n st c i = true then a + nI 2 else a + nI 1) else a) n 0 0 = nI (cn (fun s => pth n st c s && op n st rs c s) n + cn (op n st rs c) n) from
      fo_inv (g := fun i (a : Int32) => if op n st rs c i = true then (if pth n st c i = true then a + nI 2 else a + nI 1) else a) (N := n) (fun i a => a = nI (cn (fun s => pth n st c s && op n st rs c s) i + cn (op n st rs c) i)) (fun i a _ ha => by
        show (if op n st rs c i = true then (if pth n st c i = true then a + nI 2 else a + nI 1) else a) = nI ((cn (fun s => pth n st c s && op n st rs c s) i + (if (pth n st c i && op n st rs c i) = true then 1 else 0)) + (cn (op n st rs c) i + (if op n st rs c i = true then 1 else 0)))
        rw [ha]
        cases op n st rs c i
        · simp
        · cases pth n st c i
          · simp [nI_add, Nat.add_assoc]
          · simp only [if_true, nI_add, Bool.and_self]
            congr 1
            omega) n 0 0 (by omega) nI_0.symm]
  · rw [if_neg e, if_neg e, M_len h0 hn h8 hc hv, obS]
/-- the sum of hops of the delivered -/
def hs (n : Nat) (st : Nat → Int32) (rs : Int32) : Nat → Nat
  | 0 => 0
  | i + 1 => hs n st rs i + (if dv n st rs i = true then hp n st rs i else 0)
theorem C_sumH (hn : 3 ≤ n) (h8 : n ≤ 8) (hS : RSw n st ss rs) (hA : RCa n st wd pd seg rs) (hI : RCi n st fe se pa sl ex) : fX3_sumOfHops ex fe se pa wd pd ss rs (nI n) seg = some (nI (hs n st rs 16)) := by
  have n9 : ∀ k, k < 17 → ¬ nI k = -9 := by decide +kernel
  have h := loopF (F := fun f a x => fX3_sumOfHops_L4 ex fe se pa wd pd ss rs (nI n) seg (fun x1_4 x2_4 => (some x1_4)) f a x) (K := fun a => some a) (N := 16) (g := fun i (a : Int32) => if dv n st rs i = true then a + nI (hp n st rs i) else a) (fun _ _ => True)
    (fun f a _ => by
      show fX3_sumOfHops_L4 _ _ _ _ _ _ _ _ _ _ _ (f + 1) _ _ = _
      rw [fX3_sumOfHops_L4, if_pos (nI_le (Nat.le_refl _) (by omega))])
    (fun f a i hi _ => ⟨by
      show fX3_sumOfHops_L4 _ _ _ _ _ _ _ _ _ _ _ (f + 1) _ _ = fX3_sumOfHops_L4 _ _ _ _ _ _ _ _ _ _ _ f _ _
      rw [fX3_sumOfHops_L4, if_neg (nI_ge hi (by omega)), C_has hi, obS, has_us hI hi, nI_add]
      unfold dv
      cases hu : us st i
      · rfl
      · rw [if_pos rfl, C_hops hn h8 hS hA hI hi hu, obS, obS, Bool.true_and]
        have := hp_le (st := st) (rs := rs) h8 i
        cases dl (cst n st rs i)
        · rfl
        · rw [if_pos rfl, if_neg (n9 _ (by omega)), if_pos rfl], trivial⟩) 16 0 0 FU (by omega) trivial (FU_gt (by omega))
  rw [nI_0] at h
  refine (show fX3_sumOfHops ex fe se pa wd pd ss rs (nI n) seg = _ from h).trans ?_
  rw [show fo (fun i (a : Int32) => if dv n st rs i = true then a + nI (hp n st rs i) else a) 16 0 0 = nI (hs n st rs 16) from
    fo_inv (g := fun i (a : Int32) => if dv n st rs i = true then a + nI (hp n st rs i) else a) (N := 16) (fun i a => a = nI (hs n st rs i)) (fun i a _ ha => by
      show (if dv n st rs i = true then a + nI (hp n st rs i) else a) = nI (hs n st rs i + (if dv n st rs i = true then hp n st rs i else 0))
      rw [ha]
      cases dv n st rs i
      · rfl
      · exact nI_add _ _) 16 0 0 (by omega) nI_0.symm]
theorem M_avg (h0 : st 0 = nI n) (hn : 3 ≤ n) (h8 : n ≤ 8) (hR : ∀ s, s < n → decide (sp st s 6 = nI 2) = tb rs s) (hz : ∀ i, n ≤ i → tb rs i = false) (hI : RCi n st fe se pa sl ex) : fX6_averageHops st = (if nI (cn (dv n st rs) 16) = 0 then some (-9) else some ((nI 100 * nI (hs n st rs 16)) / nI (cn (dv n st rs) 16))) := by
  have h := loopF (F := fun f (a : Int32 × Int32) x => fX6_averageHops_L6 st (fun x1_6 x2_6 x3_6 => (if x1_6 = 0 then (some (-9)) else (if x1_6 = 0 then none else (some (((nI 100) * x2_6) / x1_6))))) f a.1 a.2 x) (K := fun a => (if a.1 = 0 then (some (-9)) else (if a.1 = 0 then none else (some (((nI 100) * a.2) / a.1))))) (N := 16) (g := fun i (a : Int32 × Int32) => if dv n st rs i = true then (a.1 + nI 1, a.2 + nI (hp n st rs i)) else a) (fun _ _ => True)
    (fun f a _ => by
      show fX6_averageHops_L6 _ _ (f + 1) _ _ _ = _
      rw [fX6_averageHops_L6, if_pos (nI_le (Nat.le_refl _) (by omega))])
    (fun f a i hi _ => ⟨by
      show fX6_averageHops_L6 _ _ (f + 1) _ _ _ = fX6_averageHops_L6 _ _ f _ _ _
      rw [fX6_averageHops_L6, if_neg (nI_ge hi (by omega)), M_isDel h0 hn h8 hR hz hI hi, obS, nI_add]
      show (if dv n st rs i = true then _ else _) = _
      cases hd : dv n st rs i
      · rfl
      · have hu : us st i = true := by unfold dv at hd; simp at hd; exact hd.1
        rw [if_pos rfl, M_hops h0 hn h8 hR hz hi (us_v hI hi hu).1, obS, if_pos rfl], trivial⟩) 16 0 (0, 0) FU (by omega) trivial (FU_gt (by omega))
  rw [nI_0] at h
  refine (show fX6_averageHops st = _ from h).trans ?_
  rw [show fo (fun i (a : Int32 × Int32) => if dv n st rs i = true then (a.1 + nI 1, a.2 + nI (hp n st rs i)) else a) 16 0 (0, 0) = (nI (cn (dv n st rs) 16), nI (hs n st rs 16)) from
    fo_inv (g := fun i (a : Int32 × Int32) => if dv n st rs i = true then (a.1 + nI 1, a.2 + nI (hp n st rs i)) else a) (N := 16) (fun i a => a = (nI (cn (dv n st rs) i), nI (hs n st rs i))) (fun i a _ ha => by
      show (if dv n st rs i = true then (a.1 + nI 1, a.2 + nI (hp n st rs i)) else a) = (nI (cn (dv n st rs) i + (if dv n st rs i = true then 1 else 0)), nI (hs n st rs i + (if dv n st rs i = true then hp n st rs i else 0)))
      rw [ha]
      cases dv n st rs i
      · rfl
      · show (nI _ + nI 1, nI _ + nI _) = _
        rw [nI_add, nI_add]; rfl) 16 0 (0, 0) (by omega) (by show ((0 : Int32), (0 : Int32)) = (nI 0, nI 0); rw [nI_0])]
  by_cases e : nI (cn (dv n st rs) 16) = 0
  · simp only [if_pos e]
  · simp only [if_neg e]
end QR2
