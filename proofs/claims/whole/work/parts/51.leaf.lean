/-! PURE PART 2: the reference's leaves, and the class's -/
def wI (b : Bool) : Int32 := if b = true then nI 1 else 0
theorem wI_t : wI true = nI 1 := rfl
theorem wI_f : wI false = 0 := rfl
theorem nI1 : nI 1 = 1 := by decide +kernel
theorem b2i_wI (b : Bool) : b2i b = wI b := by cases b <;> decide +kernel
theorem retZ_wI (b : Bool) : retZ (wI b) = some b := by cases b <;> decide +kernel
theorem wI_0 (b : Bool) : wI b = 0 ↔ b = false := by cases b <;> decide +kernel
theorem wI_1 (b : Bool) : wI b = nI 1 ↔ b = true := by cases b <;> decide +kernel
def sp (st : Nat → Int32) (s k : Nat) : Int32 := st (12 + 7 * s + k)
def cq (st : Nat → Int32) (c k : Nat) : Int32 := st (68 + 6 * c + k)
theorem M_at (s k : Nat) : fX6_at (nI s) (nI k) = some (nI (12 + 7 * s + k)) := by unfold fX6_at; rw [pk_mul, nI_add, nI_add]
theorem M_of {st : Nat → Int32} {s k : Nat} (hs : s < 8) (hk : k < 7) : fX6_of st (nI s) (nI k) = some (sp st s k) := by
  unfold fX6_of; rw [M_at, obS, gI (by omega) (by decide), nI_clamp (by omega)]; rfl
theorem M_of0 {st : Nat → Int32} {s : Nat} (hs : s < 8) : fX6_of st (nI s) 0 = some (sp st s 0) := by rw [← nI_0]; exact M_of hs (by decide)
theorem M_oc {st : Nat → Int32} {c k : Nat} (hc : c < 16) (hk : k < 6) : fX6_ofCircuit st (nI c) (nI k) = some (cq st c k) := by
  unfold fX6_ofCircuit; rw [pk_mul, nI_add, nI_add, gI (by omega) (by decide), nI_clamp (by omega)]; rfl
theorem M_oc0 {st : Nat → Int32} {c : Nat} (hc : c < 16) : fX6_ofCircuit st (nI c) 0 = some (cq st c 0) := by rw [← nI_0]; exact M_oc hc (by decide)
theorem i_lt {x y : Int32} : x < y ↔ x.toInt < y.toInt := Int32.lt_iff_toInt_lt
theorem i_le {x y : Int32} : x ≤ y ↔ x.toInt ≤ y.toInt := Int32.le_iff_toInt_le
theorem i0 : (0 : Int32).toInt = 0 := rfl
/-- in the ring or out of it -/
def outR (n : Nat) (v : Int32) : Prop := v < 0 ∨ nI n ≤ v
theorem inR (n : Nat) (hn : n < 2 ^ 31) (v : Int32) : outR n v ∨ ∃ j : Nat, j < n ∧ v = nI j := by
  rcases pk_ix v hn with h | h | h
  · exact Or.inl (Or.inl h)
  · exact Or.inl (Or.inr h)
  · exact Or.inr h
theorem M_inT {j lo hi : Nat} (h1 : lo ≤ j) (h2 : j ≤ hi) (hh : hi < 2 ^ 31) : fX6_in (nI j) (nI lo) (nI hi) = some true := by
  unfold fX6_in
  rw [if_neg (by rw [nI_ltI (by omega) (by omega)]; omega), if_neg (by rw [nI_ltI (by omega) (by omega)]; omega)]
theorem M_inF {v : Int32} {lo hi : Nat} (hl : lo < 2 ^ 31) (hh : hi < 2 ^ 30) (h : v < nI lo ∨ nI (hi + 1) ≤ v) : fX6_in v (nI lo) (nI hi) = some false := by
  unfold fX6_in
  by_cases h1 : v < nI lo
  · rw [if_pos h1]
  · rw [if_neg h1]
    rcases h with h | h
    · exact absurd h h1
    · rw [if_pos]
      rw [i_lt]; rw [i_le] at h
      rw [nI_toInt (by omega)] at h ⊢
      omega
section MOD
variable {st : Nat → Int32} {n : Nat}
theorem M_isNodeT (h0 : st 0 = nI n) (hn : 3 ≤ n) (h8 : n ≤ 8) {j : Nat} (hj : j < n) : fX6_isNode st (nI j) = some true := by
  unfold fX6_isNode; rw [h0, pk_sub (by omega), ← nI_0, M_inT (by omega) (by omega) (by omega), obS]
theorem M_isNodeF (h0 : st 0 = nI n) (hn : 3 ≤ n) (h8 : n ≤ 8) {v : Int32} (h : outR n v) : fX6_isNode st v = some false := by
  unfold fX6_isNode; rw [h0, pk_sub (by omega), ← nI_0, M_inF (by omega) (by omega) (by rw [nI_0, Nat.sub_add_cancel (by omega)]; exact h), obS]
theorem M_isSpanT (h0 : st 0 = nI n) (hn : 3 ≤ n) (h8 : n ≤ 8) {j : Nat} (hj : j < n) : fX6_isSpan st (nI j) = some true := by
  unfold fX6_isSpan; rw [h0, pk_sub (by omega), ← nI_0, M_inT (by omega) (by omega) (by omega), obS]
theorem M_isSpanF (h0 : st 0 = nI n) (hn : 3 ≤ n) (h8 : n ≤ 8) {v : Int32} (h : outR n v) : fX6_isSpan st v = some false := by
  unfold fX6_isSpan; rw [h0, pk_sub (by omega), ← nI_0, M_inF (by omega) (by omega) (by rw [nI_0, Nat.sub_add_cancel (by omega)]; exact h), obS]
theorem M_isCirc {c : Nat} (hc : c < 16) : fX6_isCircuit st (nI c) = some (decide (cq st c 0 = nI 1)) := by
  unfold fX6_isCircuit
  rw [show fX6_in (nI c) 0 (nI 15) = some true from by rw [← nI_0]; exact M_inT (by omega) (by omega) (by omega), obS, if_pos rfl, M_oc0 hc, obS]
  by_cases h : cq st c 0 = nI 1
  · rw [if_pos h]; simp [h]
  · rw [if_neg h]; simp [h]
theorem M_isCircF {v : Int32} (h : outR 16 v) : fX6_isCircuit st v = some false := by
  unfold fX6_isCircuit
  rw [show fX6_in v 0 (nI 15) = some false from by rw [← nI_0]; exact M_inF (by omega) (by omega) (by rw [nI_0]; exact h), obS, if_neg (by decide)]
theorem M_next (h0 : st 0 = nI n) (hn : 3 ≤ n) (h8 : n ≤ 8) {s : Nat} (hs : s < n) : fX6_next st (nI s) = some (nI ((s + 1) % n)) := by
  unfold fX6_next; rw [h0, if_neg (nI_ne0 (by omega) (by omega)), nI_add, pk_rem (by omega) (by omega) (by omega)]
/-- a capacity is down -/
def dn (n : Nat) (st : Nat → Int32) (k s : Nat) : Bool := decide (sp st s k = nI 1) || (decide (st (4 + s) = nI 1) || decide (st (4 + (s + 1) % n) = nI 1))
theorem M_isDown (h0 : st 0 = nI n) (hn : 3 ≤ n) (h8 : n ≤ 8) {s k : Nat} (hs : s < n) (hk : k < 7) : fX6_isDown st (nI s) (nI k) = some (dn n st k s) := by
  have hm : (s + 1) % n < n := Nat.mod_lt _ (by omega)
  unfold fX6_isDown dn
  rw [M_of (by omega) hk, obS, nI_add, gI (by omega) (by decide), nI_clamp (by omega), M_next h0 hn h8 hs, obS, nI_add, gI (by omega) (by decide), nI_clamp (by omega)]
  by_cases h1 : sp st s k = nI 1
  · rw [if_pos h1]; simp [h1]
  · rw [if_neg h1]
    by_cases h2 : st (4 + s) = nI 1
    · rw [if_pos h2]; simp [h2]
    · rw [if_neg h2]
      by_cases h3 : st (4 + (s + 1) % n) = nI 1
      · rw [if_pos h3]; simp [h3]
      · rw [if_neg h3]; simp [h1, h2, h3]
theorem M_isDown0 (h0 : st 0 = nI n) (hn : 3 ≤ n) (h8 : n ≤ 8) {s : Nat} (hs : s < n) : fX6_isDown st (nI s) 0 = some (dn n st 0 s) := by rw [← nI_0]; exact M_isDown h0 hn h8 hs (by decide)
/-- the direct request, of what is down and the command -/
def dq (w p : Bool) (c : Int32) : Int32 :=
  if c = nI 9 ∨ (p = true ∧ w = false) then nI 9 else if c = nI 8 then nI 8 else if c = nI 7 ∧ p = false then nI 7 else
  if w = true then (if p = true then nI 6 else nI 5) else if c = nI 4 then nI 4 else if c = nI 3 ∧ p = false then nI 3 else 0
def isCmd (c : Int32) : Prop := c = 0 ∨ c = nI 3 ∨ c = nI 4 ∨ c = nI 7 ∨ c = nI 8 ∨ c = nI 9
theorem M_dir (h0 : st 0 = nI n) (hn : 3 ≤ n) (h8 : n ≤ 8) {s : Nat} (hs : s < n) (hc : isCmd (sp st s 2)) : fX6_directOf st (nI s) = some (dq (dn n st 0 s) (dn n st 1 s) (sp st s 2)) := by
  unfold fX6_directOf
  rw [M_isDown0 h0 hn h8 hs, obS, M_isDown h0 hn h8 hs (by decide), obS, M_of (by omega) (by decide), obS]
  generalize dn n st 0 s = w
  generalize dn n st 1 s = p
  rcases hc with h | h | h | h | h | h <;> rw [h] <;> cases w <;> cases p <;> decide +kernel
def rqv (d t h : Int32) : Int32 := if d = 0 then (if t ≤ 0 then d else h) else d
/-- the request of a span -/
def rq (n : Nat) (st : Nat → Int32) (s : Nat) : Int32 := rqv (dq (dn n st 0 s) (dn n st 1 s) (sp st s 2)) (sp st s 3) (sp st s 4)
theorem M_rq (h0 : st 0 = nI n) (hn : 3 ≤ n) (h8 : n ≤ 8) {s : Nat} (hs : s < n) (hc : isCmd (sp st s 2)) : fX6_requestOf st (nI s) = some (rq n st s) := by
  unfold fX6_requestOf rq rqv
  rw [M_dir h0 hn h8 hs hc, obS, M_of (by omega) (by decide), obS, M_of (by omega) (by decide), obS]
  generalize dq (dn n st 0 s) (dn n st 1 s) (sp st s 2) = d
  by_cases h1 : d = 0
  · rw [if_pos h1, if_pos h1]
    by_cases h2 : sp st s 3 ≤ 0
    · rw [if_pos h2, if_pos h2]
    · rw [if_neg h2, if_neg h2]
  · rw [if_neg h1, if_neg h1]
theorem nI_subadd {a b n : Nat} (h : a ≤ b + n) : (nI b - nI a) + nI n = nI (b + n - a) := by
  rw [← pk_sub h, ← nI_add, Int32.sub_eq_add_neg, Int32.sub_eq_add_neg, Int32.add_assoc, Int32.add_assoc, Int32.add_comm (-nI a)]
/-- a path passes a span -/
def pB (n a b : Nat) (cw : Bool) (s : Nat) : Bool := decide (decide ((s + n - a) % n < (b + n - a) % n) = cw)
theorem M_passes (h0 : st 0 = nI n) (hn : 3 ≤ n) (h8 : n ≤ 8) {a b s : Nat} (ha : a < n) (hb : b < n) (hs : s < n) (cw : Bool) : fX6_passes st (nI a) (nI b) (wI cw) (nI s) = some (pB n a b cw s) := by
  have m1 : (b + n - a) % n < n := Nat.mod_lt _ (by omega)
  have m2 : (s + n - a) % n < n := Nat.mod_lt _ (by omega)
  unfold fX6_passes pB
  rw [h0, if_neg (nI_ne0 (by omega) (by omega)), if_neg (nI_ne0 (by omega) (by omega)), nI_subadd (by omega), nI_subadd (by omega), pk_rem (by omega) (by omega) (by omega), pk_rem (by omega) (by omega) (by omega)]
  by_cases h : (s + n - a) % n < (b + n - a) % n
  · rw [if_neg (by rw [nI_leI (by omega) (by omega)]; omega), obS]
    cases cw
    · rw [if_neg (by decide)]; simp [h]
    · rw [if_pos (show nI 1 = wI true from rfl)]; simp [h]
  · rw [if_pos (by rw [nI_leI (by omega) (by omega)]; omega), obS]
    cases cw
    · rw [if_pos (show (0 : Int32) = wI false from rfl)]; simp [h]
    · rw [if_neg (by decide)]; simp [h]
/-- circuit c, where there is one: its ends, its direction, its slot, its kind -/
def VC (n : Nat) (st : Nat → Int32) (c : Nat) : Prop := (∃ a, a < n ∧ cq st c 1 = nI a) ∧ (∃ b, b < n ∧ cq st c 2 = nI b) ∧ (∃ w, cq st c 3 = wI w) ∧ (∃ t, t < 4 ∧ cq st c 4 = nI t) ∧ (∃ x, cq st c 5 = wI x)
def pth (n : Nat) (st : Nat → Int32) (c s : Nat) : Bool := pB n (cq st c 1).toNatClampNeg (cq st c 2).toNatClampNeg (decide (cq st c 3 = nI 1)) s
theorem M_isOn (h0 : st 0 = nI n) (hn : 3 ≤ n) (h8 : n ≤ 8) {c s : Nat} (hc : c < 16) (hs : s < n) (hv : VC n st c) : fX6_isOn st (nI c) (nI s) = some (pth n st c s) := by
  obtain ⟨⟨a, ha, ea⟩, ⟨b, hb, eb⟩, ⟨w, ew⟩, -, -⟩ := hv
  unfold fX6_isOn pth
  rw [M_oc hc (by decide), obS, M_oc hc (by decide), obS, M_oc hc (by decide), obS, ea, eb, ew, nI_clamp (by omega), nI_clamp (by omega)]
  cases w
  · have h := M_passes h0 hn h8 ha hb hs false
    rw [wI_f] at h
    rw [if_neg (by decide), h, obS]; rfl
  · have h := M_passes h0 hn h8 ha hb hs true
    rw [wI_t] at h
    rw [if_pos (show wI true = nI 1 from rfl), h, obS]; rfl
end MOD
/-! the class's leaves -/
theorem C_hasT {n j : Nat} (h8 : n ≤ 8) (hj : j < n) : fX2_hasNode (nI n) (nI j) = some true := by
  unfold fX2_hasNode; rw [if_neg (nI_pos (by omega)), if_neg (by rw [nI_leI (by omega) (by omega)]; omega)]
theorem C_hasF {n : Nat} {v : Int32} (h : outR n v) : fX2_hasNode (nI n) v = some false := by
  unfold fX2_hasNode
  by_cases h1 : v < 0
  · rw [if_pos h1]
  · rw [if_neg h1, if_pos (h.resolve_left h1)]
theorem C_hasST {n j : Nat} (h8 : n ≤ 8) (hj : j < n) : fX2_hasSpan (nI n) (nI j) = some true := C_hasT h8 hj
theorem C_hasSF {n : Nat} {v : Int32} (h : outR n v) : fX2_hasSpan (nI n) v = some false := C_hasF h
theorem C_after {n s : Nat} (hn : 3 ≤ n) (h8 : n ≤ 8) (hs : s < n) : fX2_nodeAfter (nI n) (nI s) = some (nI ((s + 1) % n)) := by
  unfold fX2_nodeAfter
  rw [nI_add]
  by_cases h : s + 1 = n
  · rw [if_pos (by rw [nI_leI (by omega) (by omega)]; omega), h, Nat.mod_self, nI_0]
  · rw [if_neg (by rw [nI_leI (by omega) (by omega)]; omega), Nat.mod_eq_of_lt (by omega)]
theorem C_has {pa : Nat → Int32} {c : Nat} (hc : c < 16) : fX0_has pa (nI c) = some (decide (¬ pa c = 0)) := by
  unfold fX0_has
  rw [if_neg (nI_pos (by omega)), if_neg (by rw [nI_leI (by omega) (by omega)]; omega), gI hc (by decide), nI_clamp (by omega)]
  by_cases h : pa c = 0
  · rw [if_pos h]; simp [h]
  · rw [if_neg h]; simp [h]
theorem C_hasNF {pa : Nat → Int32} {v : Int32} (h : outR 16 v) : fX0_has pa v = some false := by
  unfold fX0_has
  by_cases h1 : v < 0
  · rw [if_pos h1]
  · rw [if_neg h1, if_pos (h.resolve_left h1)]
