/-! own rows: values, guards, contracts in one form, calls, returns -/
def b2i (b : Bool) : Int32 := if b = true then 1 else 0
theorem b2i_nar (b : Bool) : narrow .boolean (.int (b2i b)) = .int (b2i b) := by cases b <;> rfl
theorem b2i_z {b : Bool} (h : b2i b = 0) : ¬ b = true := by cases b <;> simp_all [b2i]
theorem b2i_nz {b : Bool} (h : ¬ b2i b = 0) : b = true := by cases b <;> simp_all [b2i]
theorem b2i_zz {b : Bool} (h : ¬ ¬ b2i b = 0) : ¬ b = true := b2i_z (Decidable.not_not.mp h)
theorem vin0 {n : Nat} (h : 0 < n) (hn : n < 2 ^ 31) : vp_in 0 n := by rw [← nI_0]; exact vp_in_nI h hn
def retZ (v : Int32) : Option Bool := if v = 0 then some false else if v = 1 then some true else none
theorem retZ_spec {v : Int32} {q : Bool} (h : retZ v = some q) : v = b2i q := by
  unfold retZ at h
  by_cases h0 : v = 0
  · rw [if_pos h0] at h; cases h; rw [h0]; rfl
  · rw [if_neg h0] at h
    by_cases h1 : v = 1
    · rw [if_pos h1] at h; cases h; rw [h1]; rfl
    · rw [if_neg h1] at h; cases h
theorem retZ_nar {v : Int32} {q : Bool} (h : retZ v = some q) : narrow .boolean (.int v) = .int v := by rw [retZ_spec h]; exact b2i_nar q
def FU : Nat := 400
theorem bnd {α β : Type} {x : Option α} {f : α → Option β} {b : β} (h : x.bind f = some b) : ∃ a, x = some a ∧ f a = some b := by
  cases x with
  | none => cases h
  | some a => exact ⟨a, rfl, h⟩
theorem grd {α : Type} {c : Prop} [Decidable c] {x : Option α} {q : α} (h : (if c then none else x) = some q) : ¬ c ∧ x = some q := by
  by_cases hc : c
  · rw [if_pos hc] at h; cases h
  · rw [if_neg hc] at h; exact ⟨hc, h⟩
theorem ifp {α : Type} {c : Prop} [Decidable c] {x y : Option α} {q : α} (hc : c) (h : (if c then x else y) = some q) : x = some q := by rw [if_pos hc] at h; exact h
theorem ifn {α : Type} {c : Prop} [Decidable c] {x y : Option α} {q : α} (hc : ¬ c) (h : (if c then x else y) = some q) : y = some q := by rw [if_neg hc] at h; exact h
theorem inc_1 (x : Int32) : x + Int32.ofInt 1 = x + nI 1 := rfl
theorem inc_6 (x : Int32) : x + Int32.ofInt 6 = x + nI 6 := rfl
theorem inc_m1 (x : Int32) : x + Int32.ofInt (-1) = x + (-1) := by rw [show Int32.ofInt (-1) = (-1 : Int32) by decide +kernel]
theorem tnz {x : Int32} {n : Nat} (hn : n < 2 ^ 31) (h : ¬ x = nI n) : x.toInt ≠ (n : Int) := fun e => h (Int32.toInt_inj.mp (e.trans (nI_toInt hn).symm))
theorem tnz0 {x : Int32} (h : ¬ x = 0) : x.toInt ≠ 0 := fun e => h (Int32.toInt_inj.mp e)
theorem ic_m1 : Int32.ofInt (-1) = (-1 : Int32) := by decide +kernel
theorem ic_0 : Int32.ofInt (0) = (0 : Int32) := by decide +kernel
theorem ic_1 : Int32.ofInt (1) = (nI 1 : Int32) := by decide +kernel
theorem ic_2 : Int32.ofInt (2) = (nI 2 : Int32) := by decide +kernel
theorem ic_3 : Int32.ofInt (3) = (nI 3 : Int32) := by decide +kernel
theorem ic_4 : Int32.ofInt (4) = (nI 4 : Int32) := by decide +kernel
theorem ic_5 : Int32.ofInt (5) = (nI 5 : Int32) := by decide +kernel
theorem bp_m9 : (Int8.ofInt (-9)).toInt32 = (-9 : Int32) := by decide +kernel
theorem bp_m8 : (Int8.ofInt (-8)).toInt32 = (-8 : Int32) := by decide +kernel
theorem bp_m7 : (Int8.ofInt (-7)).toInt32 = (-7 : Int32) := by decide +kernel
theorem bp_m6 : (Int8.ofInt (-6)).toInt32 = (-6 : Int32) := by decide +kernel
theorem bp_m5 : (Int8.ofInt (-5)).toInt32 = (-5 : Int32) := by decide +kernel
theorem bp_m4 : (Int8.ofInt (-4)).toInt32 = (-4 : Int32) := by decide +kernel
theorem bp_m3 : (Int8.ofInt (-3)).toInt32 = (-3 : Int32) := by decide +kernel
theorem bp_m2 : (Int8.ofInt (-2)).toInt32 = (-2 : Int32) := by decide +kernel
theorem bp_6 : (Int8.ofInt (6)).toInt32 = (nI 6 : Int32) := by decide +kernel
theorem bp_7 : (Int8.ofInt (7)).toInt32 = (nI 7 : Int32) := by decide +kernel
theorem bp_8 : (Int8.ofInt (8)).toInt32 = (nI 8 : Int32) := by decide +kernel
theorem bp_9 : (Int8.ofInt (9)).toInt32 = (nI 9 : Int32) := by decide +kernel
theorem bp_12 : (Int8.ofInt (12)).toInt32 = (nI 12 : Int32) := by decide +kernel
theorem bp_15 : (Int8.ofInt (15)).toInt32 = (nI 15 : Int32) := by decide +kernel
theorem bp_16 : (Int8.ofInt (16)).toInt32 = (nI 16 : Int32) := by decide +kernel
theorem bp_31 : (Int8.ofInt (31)).toInt32 = (nI 31 : Int32) := by decide +kernel
theorem bp_60 : (Int8.ofInt (60)).toInt32 = (nI 60 : Int32) := by decide +kernel
theorem bp_63 : (Int8.ofInt (63)).toInt32 = (nI 63 : Int32) := by decide +kernel
theorem bp_68 : (Int8.ofInt (68)).toInt32 = (nI 68 : Int32) := by decide +kernel
theorem bp_100 : (Int8.ofInt (100)).toInt32 = (nI 100 : Int32) := by decide +kernel
theorem sp_164 : (Int16.ofInt (164)).toInt32 = (nI 164 : Int32) := by decide +kernel
theorem sp_328 : (Int16.ofInt (328)).toInt32 = (nI 328 : Int32) := by decide +kernel
/-- the nest mates' links, which no word list may hold: a part of each contract's start -/
def nfW : List Cond := [.fieldLinkNest RX5 33 "RingProtection$Shape" "nodes" "I" "RingProtection", .fieldLinkNest RX1 55 "RingProtection$Shape" "nodes" "I" "RingProtection", .fieldLinkNest RX5 47 "RingProtection$Shape" "slots" "I" "RingProtection", .fieldLinkNest RX1 125 "RingProtection$Shape" "slots" "I" "RingProtection", .fieldLinkNest RX3 25 "RingProtection$Controller" "shape" "LRingProtection$Shape;" "RingProtection", .fieldLinkNest RX5 110 "RingProtection$Controller" "failedWorking" "I" "RingProtection", .fieldLinkNest RX5 121 "RingProtection$Controller" "failedProtection" "I" "RingProtection", .fieldLinkNest RX5 127 "RingProtection$Controller" "failedNodes" "I" "RingProtection", .fieldLinkNest RX5 136 "RingProtection$Controller" "restoreTime" "I" "RingProtection", .fieldLinkNest RX3 86 "RingProtection$Controller" "workingDown" "I" "RingProtection", .fieldLinkNest RX3 74 "RingProtection$Controller" "protectionDown" "I" "RingProtection", .fieldLinkNest RX3 71 "RingProtection$Controller" "spanSwitched" "I" "RingProtection", .fieldLinkNest RX3 68 "RingProtection$Controller" "ringSwitched" "I" "RingProtection", .fieldLinkNest RX5 175 "RingProtection$Controller" "ringSwitched" "I" "RingProtection", .fieldLinkNest RX5 50 "RingProtection$Simulation" "circuits" "LRingProtection$CircuitTable;" "RingProtection", .fieldLinkNest RX5 106 "RingProtection$Simulation" "controller" "LRingProtection$Controller;" "RingProtection", .fieldLinkNest RX5 29 "RingProtection$Simulation" "shape" "LRingProtection$Shape;" "RingProtection", .fieldLinkNest RX5 142 "RingProtection$Simulation" "time" "I" "RingProtection", .fieldLinkNest RX5 185 "RingProtection$Snapshot" "kept" "LRingProtection$Simulation;" "RingProtection", .fieldLinkNest RX5 188 "RingProtection$Snapshot" "taken" "Z" "RingProtection"]
def nmW : List Cond := [.methodLinkNest RX5 9 yX3_init "RingProtection", .methodLinkNest RX3 11 yX0_init "RingProtection", .methodLinkNest RX3 20 yX1_init "RingProtection", .methodLinkNest RX1 11 yX2_init "RingProtection", .methodLinkNest RX5 21 yX4_init "RingProtection", .methodLinkNest RX4 9 yX3_init "RingProtection", .methodLinkNest RX0 47 yX5_clearRow "RingProtection", .methodLinkNest RX1 128 yX5_clearRow "RingProtection", .methodLinkNest RX0 32 yX5_contains "RingProtection", .methodLinkNest RX0 39 yX5_marked "RingProtection", .methodLinkNest RX1 48 yX5_contains "RingProtection", .methodLinkNest RX3 98 yX5_isDelivery "RingProtection", .methodLinkNest RX0 51 yX5_copyRow "RingProtection", .methodLinkNest RX1 132 yX5_copyRow "RingProtection"]
def Nst (U : State) : Prop := (∀ a i b n d h, Cond.fieldLinkNest a i b n d h ∈ nfW → va_Nw (.fieldLinkNest a i b n d h) U) ∧ (∀ a i x h, Cond.methodLinkNest a i x h ∈ nmW → va_Nw (.methodLinkNest a i x h) U)
theorem Nst.warm {s U : State} (hW : s.WarmedH U.vm) (h : Nst s) : Nst U := ⟨fun a i b n d g hm => va_Nw.warmF hW (h.1 a i b n d g hm), fun a i x g hm => va_Nw.warmM hW (h.2 a i x g hm)⟩
theorem Nst.vm {s U : State} (e : s.vm = U.vm) (h : Nst s) : Nst U := ⟨fun a i b n d g hm => va_Nw.same rfl e (h.1 a i b n d g hm), fun a i x g hm => va_Nw.same rfl e (h.2 a i x g hm)⟩
theorem Nst.fl {U : State} (h : Nst U) {A : Array Value} {a : String} {i : Nat} {b n d g : String} (k : Nat) (hk : nfW[k]? = some (.fieldLinkNest a i b n d g)) : (Cond.fieldLinkNest a i b n d g).before A U = true := va_Nw.use rfl (h.1 a i b n d g (List.mem_of_getElem? hk))
theorem Nst.ml {U : State} (h : Nst U) {a : String} {i : Nat} {x : MethodName} {g : String} (k : Nat) (hk : nmW[k]? = some (.methodLinkNest a i x g)) : va_Nw (.methodLinkNest a i x g) U := h.2 a i x g (List.mem_of_getElem? hk)
abbrev T2 (cI cZ : ClassId) : List (ClassId × FieldType) := [(cI, .int), (cZ, .boolean)]
/-- the start of a method whose world is WS -/
def SP (D : va_G) (cI cZ : ClassId) (WS : va_W) (sz : Nat) (U : State) : Prop := U.heap.size = sz ∧ va_P D vwCl WS U.heap ∧ va_K D vwCl (T2 cI cZ) U ∧ Nst U ∧ va_D (fun _ => True) WS
theorem SP.blind {D : va_G} {cI cZ : ClassId} {WS : va_W} {sz : Nat} {av : List Value} : FrameBlind (va_Pc av (SP D cI cZ WS sz)) := by
  intro a U g mk q
  obtain ⟨q0, q1, qP, qK, qN, qD⟩ := q
  exact ⟨q0, q1, qP, va_K.moved (u := U) (U := U.calling g mk a) (Vm.Alike.refl U.vm) qK, Nst.vm rfl qN, qD⟩
/-- contracts: an int (or boolean) comes back, the world is then WS'; void likewise. No cell is made. -/
def CI (l : Launch) (D : va_G) (cI cZ : ClassId) (y : MethodName) (ws : List Cond) (rm : Room) (av : List Value) (WS WS' : va_W) (r : Int32) : Prop :=
  ∀ sz : Nat, Met l y ws rm (va_Pc av (SP D cI cZ WS sz)) (va_Qi (fun x (_ : Unit) => x = r) (fun _ t => va_P D vwCl WS' t.heap) (va_A WS sz)) 0 0 (va_A WS sz)
def CV (l : Launch) (D : va_G) (cI cZ : ClassId) (y : MethodName) (ws : List Cond) (rm : Room) (av : List Value) (WS WS' : va_W) : Prop :=
  ∀ sz : Nat, Met l y ws rm (va_Pc av (SP D cI cZ WS sz)) (va_Qv (fun (_ : Unit) => True) (fun _ t => va_P D vwCl WS' t.heap) (va_A WS sz)) 0 0 (va_A WS sz)
abbrev QI (D : va_G) (WS' : va_W) (r : Int32) (A : Nat → Prop) : Array Value → State → Outcome → State → Prop := va_Qi (fun x (_ : Unit) => x = r) (fun _ t => va_P D vwCl WS' t.heap) A
abbrev QV (D : va_G) (WS' : va_W) (A : Nat → Prop) : Array Value → State → Outcome → State → Prop := va_Qv (fun (_ : Unit) => True) (fun _ t => va_P D vwCl WS' t.heap) A
/-- what holds in a method's body throughout -/
def Cx (p : Program) (s : State) (m : MethodId) (args : Array Value) (meth : Method) (c : Code) (D : va_G) (cI cZ : ClassId) (cc : ByteArray) (maxL : Nat) (ret : Option FieldType) (Ts : List Cond) (own : String) (A : Nat → Prop) : Prop :=
  CallFix p m c cc maxL s args Ts own ∧ meth.sig.returnType = ret ∧ meth.locks = false ∧ va_K D vwCl (T2 cI cZ) s ∧ Nst s ∧ ∀ q : Nat, s.heap.size ≤ q → A q
section KIN
variable {l : Launch} {D : va_G} {cI cZ : ClassId} {y : MethodName} {ws ws' : List Cond} {rm : Room} {av : List Value} {WS WS' : va_W} {r : Int32} {cc : ByteArray} {maxL : Nat} {ty : FieldType}
theorem CI.mk (hy : plainName y.cls = true) (hw : ws = Cond.code y cc maxL (some ty) :: ws') (hav : (lg_sl av).length ≤ maxL)
    (body : ∀ (p : Program) (e : Env) (s : State) (m : MethodId) (below : List Frame) (meth : Method) (c : Code) (ls : Array Slot) (A : Nat → Prop), Cx p s m av.toArray meth c D cI cZ cc maxL (some ty) ws y.cls A → va_P D vwCl WS s.heap → va_D A WS → lv_has ls maxL (lv_args 0 av) → va_S A s.heap s.heap [] →
      W p l e rm s m av.toArray below meth c s.heap [] 0 0 (MQ below (QI D WS' r A) av.toArray s 0 0 A) (F0 m 0 ls [])) : CI l D cI cZ y ws rm av WS WS' r := by
  intro sz
  refine Met.ofW (cc := cc) (maxL := maxL) (ret := some ty) hy hw ?_
  intro p e s m args below meth c s₁ B hml hv
  obtain ⟨rfl, hsz, hP, hK, hN, hD0⟩ := hv
  subst hsz
  have hD := hD0.self (sz := s.heap.size)
  rw [lg_entry_eq]
  exact body p e s m below meth c _ (va_A WS s.heap.size) ⟨⟨B.exec, B.bytes, hml, findClass_of_methodNamed B.named, atoms_spec (ws := ws) B.pre⟩, B.returns, B.notSynchronized, hK, hN, fun q h => Or.inr h⟩ hP hD (lv_entry av (n := maxL) hav) va_S.rf
theorem CV.mk (hy : plainName y.cls = true) (hw : ws = Cond.code y cc maxL none :: ws') (hav : (lg_sl av).length ≤ maxL)
    (body : ∀ (p : Program) (e : Env) (s : State) (m : MethodId) (below : List Frame) (meth : Method) (c : Code) (ls : Array Slot) (A : Nat → Prop), Cx p s m av.toArray meth c D cI cZ cc maxL none ws y.cls A → va_P D vwCl WS s.heap → va_D A WS → lv_has ls maxL (lv_args 0 av) → va_S A s.heap s.heap [] →
      W p l e rm s m av.toArray below meth c s.heap [] 0 0 (MQ below (QV D WS' A) av.toArray s 0 0 A) (F0 m 0 ls [])) : CV l D cI cZ y ws rm av WS WS' := by
  intro sz
  refine Met.ofW (cc := cc) (maxL := maxL) (ret := none) hy hw ?_
  intro p e s m args below meth c s₁ B hml hv
  obtain ⟨rfl, hsz, hP, hK, hN, hD0⟩ := hv
  subst hsz
  have hD := hD0.self (sz := s.heap.size)
  rw [lg_entry_eq]
  exact body p e s m below meth c _ (va_A WS s.heap.size) ⟨⟨B.exec, B.bytes, hml, findClass_of_methodNamed B.named, atoms_spec (ws := ws) B.pre⟩, B.returns, B.notSynchronized, hK, hN, fun q h => Or.inr h⟩ hP hD (lv_entry av (n := maxL) hav) va_S.rf
end KIN
/-- the callee's cells put back into the caller's world, each at its place -/
def spl : va_W → List Nat → va_W → va_W
  | big, [], _ => big
  | big, _ :: _, [] => big
  | big, i :: is, w :: ws => spl (big.set i w) is ws
theorem spl_get : ∀ (is : List Nat) (big ws : va_W) (k : Nat) (q : Nat × va_E), is.length = ws.length → (spl big is ws)[k]? = some q → q ∈ ws ∨ (k ∉ is ∧ big[k]? = some q)
  | [], big, ws, k, q, _, h => by
    cases ws with
    | nil => exact Or.inr ⟨List.not_mem_nil, h⟩
    | cons w ws => exact Or.inr ⟨List.not_mem_nil, h⟩
  | i :: is, big, [], k, q, hl, h => by simp at hl
  | i :: is, big, w :: ws, k, q, hl, h => by
    rcases spl_get is (big.set i w) ws k q (Nat.succ.inj hl) h with h1 | ⟨h1, h2⟩
    · exact Or.inl (List.mem_cons_of_mem _ h1)
    · by_cases hk : k = i
      · subst hk
        have hlt : k < big.length := by
          have := (List.getElem?_eq_some_iff.mp h2).1
          rwa [List.length_set] at this
        rw [List.getElem?_set_self hlt] at h2
        cases h2
        exact Or.inl List.mem_cons_self
      · rw [List.getElem?_set_ne (Ne.symm hk)] at h2
        exact Or.inr ⟨fun hm => (List.mem_cons.mp hm).elim hk h1, h2⟩
theorem va_D_adr {A : Nat → Prop} {w1 w2 : va_W} (e : w1.map Prod.fst = w2.map Prod.fst) (h : va_D A w2) : va_D A w1 := by
  have key : ∀ (k : Nat) (q : Nat × va_E), w1[k]? = some q → ∃ q2, w2[k]? = some q2 ∧ q2.1 = q.1 := by
    intro k q hk
    have h1 : (w1.map Prod.fst)[k]? = some q.1 := by rw [List.getElem?_map, hk]; rfl
    rw [e, List.getElem?_map] at h1
    cases h2 : w2[k]? with
    | none => rw [h2] at h1; cases h1
    | some q2 => rw [h2] at h1; exact ⟨q2, rfl, Option.some.inj h1⟩
  refine ⟨fun i j x y hi hj hxy => ?_, fun k q hk => ?_⟩
  · obtain ⟨x2, h1, h2⟩ := key i x hi
    obtain ⟨y2, h3, h4⟩ := key j y hj
    exact h.1 i j x2 y2 h1 h3 (h2.trans (hxy.trans h4.symm))
  · obtain ⟨q2, h1, h2⟩ := key k q hk
    rw [← h2]; exact h.2 k q2 h1
theorem splP {A : Nat → Prop} {D : va_G} {cl : List vw_C} {big WS WS' big' : va_W} {H H1 : Heap} {is : List Nat} (hP : va_P D cl big H) (hD : va_D A big) (hsel : is.map (fun i => big[i]?) = WS.map some) (hlen : is.length = WS'.length) (hspl : spl big is WS' = big')
    (hk : ∀ q : Nat, q < H.size → ¬ va_A WS H.size q → H1[q]? = H[q]?) (hP1 : va_P D cl WS' H1) : va_P D cl big' H1 := by
  intro k q hq
  rw [← hspl] at hq
  rcases spl_get is big WS' k q hlen hq with h1 | ⟨h1, h2⟩
  · obtain ⟨j, hj⟩ := List.getElem?_of_mem h1
    exact hP1 j q hj
  · have hlt := (hP k q h2).lt
    refine (hP k q h2).kept (hk q.1 hlt fun hA => ?_)
    rcases hA with ⟨k2, e2, h3⟩ | h3
    · have h4 : (is.map (fun i => big[i]?))[k2]? = some (some (q.1, e2)) := by rw [hsel, List.getElem?_map, h3]; rfl
      rw [List.getElem?_map] at h4
      cases hi : is[k2]? with
      | none => rw [hi] at h4; cases h4
      | some i =>
        rw [hi] at h4
        have h5 := hD.1 k i q (q.1, e2) h2 (Option.some.inj h4) rfl
        subst h5
        exact h1 (List.mem_of_getElem? hi)
    · omega
section KCALL
variable {p : Program} {l : Launch} {e : Env} {R : Room} {s : State} {m : MethodId} {args : Array Value} {below : List Frame} {meth : Method} {c : Code} {H : Heap} {locs : List Loc} {cells slots : Nat} {Q : State → Prop}
variable {D : va_G} {cI cZ : ClassId} {cc bytes : ByteArray} {nL maxL n index pc : Nat} {ret retC : Option FieldType} {Ts ws : List Cond} {own C host : String} {A : Nat → Prop} {y : MethodName} {rm : Room} {b : Nat} {As rest st0 : List Value} {WS WS' big : va_W} {r : Int32} {ls : Array Slot}
theorem preOf (hK : va_K D vwCl (T2 cI cZ) s) (hN : Nst s) (hP : va_P D vwCl big H) (hD : va_D A big) {is : List Nat} (hsel : is.map (fun i => big[i]?) = WS.map some) (hnd : va_nd is = true) : ∀ U : State, U.heap = H → s.WarmedH U.vm → va_Pc As (SP D cI cZ WS H.size) As.toArray U := by
  intro U hU hW
  have hD1 : va_D A WS := hD.sub is hnd hsel
  refine ⟨rfl, by rw [hU], ?_, va_K.moved hW.alike hK, Nst.warm hW hN, hD1.weaken (fun _ _ _ _ => trivial)⟩
  intro k q hq
  have h4 : (is.map (fun i => big[i]?))[k]? = some (some q) := by rw [hsel, List.getElem?_map, hq]; rfl
  rw [List.getElem?_map] at h4
  cases hi : is[k]? with
  | none => rw [hi] at h4; cases h4
  | some i => rw [hi] at h4; rw [hU]; exact hP i q (Option.some.inj h4)
/-- behind a run of a callee in the standard form: the int, and the world with the callee's cells put back -/
theorem goI (X : Cx p s m args meth c D cI cZ cc nL ret Ts own A) {a : Array Value} (hr : va_Run p l e R s m args below meth c H locs cells slots 0 0 (F0 m pc ls st0) rest (QI D WS' r (va_A WS H.size) a) (va_A WS H.size)) (hP : va_P D vwCl big H) (hD : va_D A big) (hS : va_S A s.heap H locs) (is : List Nat) (big' : va_W) (hsel : is.map (fun i => big[i]?) = WS.map some) (hlen : is.length = WS'.length) (hspl : spl big is WS' = big') (hadr : big'.map Prod.fst = big.map Prod.fst)
    (kk : ∀ (H1 : Heap) (locs1 : List Loc), va_P D vwCl big' H1 → va_D A big' → va_S A s.heap H1 locs1 → W p l e R s m args below meth c H1 locs1 cells slots Q (F0 m (pc + 3) ls (.int r :: rest))) : W p l e R s m args below meth c H locs cells slots Q (F0 m pc ls st0) := by
  have hF := va_free (wc := WS) hD hS X.2.2.2.2.2 is hsel
  refine va_calli hr hS (fun q _ h => hF q h) hF (fun r1 u t H1 locs1 ht _ hw hB _ hk1 hS1 => ?_)
  have hw : r1 = r := hw
  subst hw
  rw [ht] at hB
  exact kk H1 locs1 (splP hP hD hsel hlen hspl hk1 hB) (va_D_adr hadr hD) hS1
theorem goV (X : Cx p s m args meth c D cI cZ cc nL ret Ts own A) {a : Array Value} (hr : va_Run p l e R s m args below meth c H locs cells slots 0 0 (F0 m pc ls st0) rest (QV D WS' (va_A WS H.size) a) (va_A WS H.size)) (hP : va_P D vwCl big H) (hD : va_D A big) (hS : va_S A s.heap H locs) (is : List Nat) (big' : va_W) (hsel : is.map (fun i => big[i]?) = WS.map some) (hlen : is.length = WS'.length) (hspl : spl big is WS' = big') (hadr : big'.map Prod.fst = big.map Prod.fst)
    (kk : ∀ (H1 : Heap) (locs1 : List Loc), va_P D vwCl big' H1 → va_D A big' → va_S A s.heap H1 locs1 → W p l e R s m args below meth c H1 locs1 cells slots Q (F0 m (pc + 3) ls rest)) : W p l e R s m args below meth c H locs cells slots Q (F0 m pc ls st0) := by
  have hF := va_free (wc := WS) hD hS X.2.2.2.2.2 is hsel
  refine va_callv hr hS (fun q _ h => hF q h) hF (fun u t H1 locs1 ht _ _ hB _ hk1 hS1 => ?_)
  rw [ht] at hB
  exact kk H1 locs1 (splP hP hD hsel hlen hspl hk1 hB) (va_D_adr hadr hD) hS1
/-- a virtual call that answers an int -/
theorem callVI (X : Cx p s m args meth c D cI cZ cc nL ret Ts own A) (hC : CI l D cI cZ y ws rm (.ref b :: As) WS WS' r) (cw : CallW R s args own C index y bytes maxL retC ws rm 0 0 n) (hP : va_P D vwCl big H) (hD : va_D A big) (hS : va_S A s.heap H locs) (hls : ls.size = nL)
    (q0 ci : Nat) {T : u_T} {N : Nat} {fs : List Value} (hc : vwCl[ci]? = some (C, T, N)) (hq : big[q0]? = some (b, .inr (ci, fs))) (is : List Nat) (hnd : va_nd is = true) (big' : va_W) (hsel : is.map (fun i => big[i]?) = WS.map some) (hlen : is.length = WS'.length) (hspl : spl big is WS' = big') (hadr : big'.map Prod.fst = big.map Prod.fst)
    (hn : As.length = n) (hst : st0 = As.reverse ++ .ref b :: rest) (hW : (rest.map fun v => v.category).sum ≤ 8) (hdg : decode cc pc = .ok (.invokevirtual index, 3)) (hf : cells ≤ R.cells ∧ slots ≤ R.slots)
    (kk : ∀ (H1 : Heap) (locs1 : List Loc), va_P D vwCl big' H1 → va_D A big' → va_S A s.heap H1 locs1 → W p l e R s m args below meth c H1 locs1 cells slots Q (F0 m (pc + 3) ls (.int r :: rest))) : W p l e R s m args below meth c H locs cells slots Q (F0 m pc ls st0) :=
  goI X (va_runV (As := As) (rest := rest) X.1 (hC H.size) cw ⟨SP.blind, va_recv X.2.2.2.1 hP hc hq, preOf X.2.2.2.1 X.2.2.2.2.1 hP hD hsel hnd⟩ rfl hn hls hst (lv_room hW) hdg hf) hP hD hS is big' hsel hlen hspl hadr kk
theorem callVV (X : Cx p s m args meth c D cI cZ cc nL ret Ts own A) (hC : CV l D cI cZ y ws rm (.ref b :: As) WS WS') (cw : CallW R s args own C index y bytes maxL retC ws rm 0 0 n) (hP : va_P D vwCl big H) (hD : va_D A big) (hS : va_S A s.heap H locs) (hls : ls.size = nL)
    (q0 ci : Nat) {T : u_T} {N : Nat} {fs : List Value} (hc : vwCl[ci]? = some (C, T, N)) (hq : big[q0]? = some (b, .inr (ci, fs))) (is : List Nat) (hnd : va_nd is = true) (big' : va_W) (hsel : is.map (fun i => big[i]?) = WS.map some) (hlen : is.length = WS'.length) (hspl : spl big is WS' = big') (hadr : big'.map Prod.fst = big.map Prod.fst)
    (hn : As.length = n) (hst : st0 = As.reverse ++ .ref b :: rest) (hW : (rest.map fun v => v.category).sum ≤ 8) (hdg : decode cc pc = .ok (.invokevirtual index, 3)) (hf : cells ≤ R.cells ∧ slots ≤ R.slots)
    (kk : ∀ (H1 : Heap) (locs1 : List Loc), va_P D vwCl big' H1 → va_D A big' → va_S A s.heap H1 locs1 → W p l e R s m args below meth c H1 locs1 cells slots Q (F0 m (pc + 3) ls rest)) : W p l e R s m args below meth c H locs cells slots Q (F0 m pc ls st0) :=
  goV X (va_runV (As := As) (rest := rest) X.1 (hC H.size) cw ⟨SP.blind, va_recv X.2.2.2.1 hP hc hq, preOf X.2.2.2.1 X.2.2.2.2.1 hP hD hsel hnd⟩ rfl hn hls hst (lv_room hW) hdg hf) hP hD hS is big' hsel hlen hspl hadr kk
/-- static calls: of the same class, and of a nest mate -/
theorem callSI (X : Cx p s m args meth c D cI cZ cc nL ret Ts own A) (hC : CI l D cI cZ y ws rm As WS WS' r) (cw : CallB R s args own index y bytes maxL retC ws rm 0 0 n ∧ (Cond.static y).before args s = true) (hP : va_P D vwCl big H) (hD : va_D A big) (hS : va_S A s.heap H locs) (hls : ls.size = nL)
    (is : List Nat) (hnd : va_nd is = true) (big' : va_W) (hsel : is.map (fun i => big[i]?) = WS.map some) (hlen : is.length = WS'.length) (hspl : spl big is WS' = big') (hadr : big'.map Prod.fst = big.map Prod.fst)
    (hn : As.length = n) (hst : st0 = As.reverse ++ rest) (hW : (rest.map fun v => v.category).sum ≤ 8) (hdg : decode cc pc = .ok (.invokestatic index, 3)) (hf : cells ≤ R.cells ∧ slots ≤ R.slots)
    (kk : ∀ (H1 : Heap) (locs1 : List Loc), va_P D vwCl big' H1 → va_D A big' → va_S A s.heap H1 locs1 → W p l e R s m args below meth c H1 locs1 cells slots Q (F0 m (pc + 3) ls (.int r :: rest))) : W p l e R s m args below meth c H locs cells slots Q (F0 m pc ls st0) :=
  goI X (va_runS (As := As) (rest := rest) X.1 (hC H.size) cw ⟨SP.blind, preOf X.2.2.2.1 X.2.2.2.2.1 hP hD hsel hnd⟩ rfl hn hls hst (lv_room hW) hdg hf) hP hD hS is big' hsel hlen hspl hadr kk
theorem callSV (X : Cx p s m args meth c D cI cZ cc nL ret Ts own A) (hC : CV l D cI cZ y ws rm As WS WS') (cw : CallB R s args own index y bytes maxL retC ws rm 0 0 n ∧ (Cond.static y).before args s = true) (hP : va_P D vwCl big H) (hD : va_D A big) (hS : va_S A s.heap H locs) (hls : ls.size = nL)
    (is : List Nat) (hnd : va_nd is = true) (big' : va_W) (hsel : is.map (fun i => big[i]?) = WS.map some) (hlen : is.length = WS'.length) (hspl : spl big is WS' = big') (hadr : big'.map Prod.fst = big.map Prod.fst)
    (hn : As.length = n) (hst : st0 = As.reverse ++ rest) (hW : (rest.map fun v => v.category).sum ≤ 8) (hdg : decode cc pc = .ok (.invokestatic index, 3)) (hf : cells ≤ R.cells ∧ slots ≤ R.slots)
    (kk : ∀ (H1 : Heap) (locs1 : List Loc), va_P D vwCl big' H1 → va_D A big' → va_S A s.heap H1 locs1 → W p l e R s m args below meth c H1 locs1 cells slots Q (F0 m (pc + 3) ls rest)) : W p l e R s m args below meth c H locs cells slots Q (F0 m pc ls st0) :=
  goV X (va_runS (As := As) (rest := rest) X.1 (hC H.size) cw ⟨SP.blind, preOf X.2.2.2.1 X.2.2.2.2.1 hP hD hsel hnd⟩ rfl hn hls hst (lv_room hW) hdg hf) hP hD hS is big' hsel hlen hspl hadr kk
theorem callNI (X : Cx p s m args meth c D cI cZ cc nL ret Ts own A) (hC : CI l D cI cZ y ws rm As WS WS' r) (cw : va_CN R s args own index y host bytes maxL retC ws rm 0 0 n ∧ (Cond.static y).before args s = true ∧ True) (hP : va_P D vwCl big H) (hD : va_D A big) (hS : va_S A s.heap H locs) (hls : ls.size = nL)
    (is : List Nat) (hnd : va_nd is = true) (big' : va_W) (hsel : is.map (fun i => big[i]?) = WS.map some) (hlen : is.length = WS'.length) (hspl : spl big is WS' = big') (hadr : big'.map Prod.fst = big.map Prod.fst)
    (hn : As.length = n) (hst : st0 = As.reverse ++ rest) (hW : (rest.map fun v => v.category).sum ≤ 8) (hdg : decode cc pc = .ok (.invokestatic index, 3)) (hf : cells ≤ R.cells ∧ slots ≤ R.slots)
    (kk : ∀ (H1 : Heap) (locs1 : List Loc), va_P D vwCl big' H1 → va_D A big' → va_S A s.heap H1 locs1 → W p l e R s m args below meth c H1 locs1 cells slots Q (F0 m (pc + 3) ls (.int r :: rest))) : W p l e R s m args below meth c H locs cells slots Q (F0 m pc ls st0) :=
  goI X (va_runSN (As := As) (rest := rest) X.1 (hC H.size) cw ⟨SP.blind, preOf X.2.2.2.1 X.2.2.2.2.1 hP hD hsel hnd⟩ rfl hn hls hst (lv_room hW) hdg hf) hP hD hS is big' hsel hlen hspl hadr kk
theorem callNV (X : Cx p s m args meth c D cI cZ cc nL ret Ts own A) (hC : CV l D cI cZ y ws rm As WS WS') (cw : va_CN R s args own index y host bytes maxL retC ws rm 0 0 n ∧ (Cond.static y).before args s = true ∧ True) (hP : va_P D vwCl big H) (hD : va_D A big) (hS : va_S A s.heap H locs) (hls : ls.size = nL)
    (is : List Nat) (hnd : va_nd is = true) (big' : va_W) (hsel : is.map (fun i => big[i]?) = WS.map some) (hlen : is.length = WS'.length) (hspl : spl big is WS' = big') (hadr : big'.map Prod.fst = big.map Prod.fst)
    (hn : As.length = n) (hst : st0 = As.reverse ++ rest) (hW : (rest.map fun v => v.category).sum ≤ 8) (hdg : decode cc pc = .ok (.invokestatic index, 3)) (hf : cells ≤ R.cells ∧ slots ≤ R.slots)
    (kk : ∀ (H1 : Heap) (locs1 : List Loc), va_P D vwCl big' H1 → va_D A big' → va_S A s.heap H1 locs1 → W p l e R s m args below meth c H1 locs1 cells slots Q (F0 m (pc + 3) ls rest)) : W p l e R s m args below meth c H locs cells slots Q (F0 m pc ls st0) :=
  goV X (va_runSN (As := As) (rest := rest) X.1 (hC H.size) cw ⟨SP.blind, preOf X.2.2.2.1 X.2.2.2.2.1 hP hD hsel hnd⟩ rfl hn hls hst (lv_room hW) hdg hf) hP hD hS is big' hsel hlen hspl hadr kk
/-- returns -/
theorem retI {v : Int32} (X : Cx p s m args meth c D cI cZ cc nL (some .int) Ts own A) (hS : va_S A s.heap H locs) (hP : va_P D vwCl WS' H) (hv : v = r) (hdg : decode cc pc = .ok (.ireturn, 1)) : W p l e R s m args below meth c H locs 0 0 (MQ below (QI D WS' r A) args s 0 0 A) (F0 m pc ls [.int v]) :=
  W.iret X.1.1 X.1.2.1 X.2.1 (fun t ht _ => ⟨⟨v, (), rfl, hv, by show va_P D vwCl WS' t.heap; rw [ht]; exact hP⟩, hS.F ht⟩) hS.2.2 hdg X.2.2.1
theorem retB {v : Int32} (X : Cx p s m args meth c D cI cZ cc nL (some .boolean) Ts own A) (hS : va_S A s.heap H locs) (hP : va_P D vwCl WS' H) (hn : narrow .boolean (.int v) = .int v) (hv : v = r) (hdg : decode cc pc = .ok (.ireturn, 1)) : W p l e R s m args below meth c H locs 0 0 (MQ below (QI D WS' r A) args s 0 0 A) (F0 m pc ls [.int v]) :=
  W.zret X.1.1 X.1.2.1 X.2.1 hn (fun t ht _ => ⟨⟨v, (), rfl, hv, by show va_P D vwCl WS' t.heap; rw [ht]; exact hP⟩, hS.F ht⟩) hS.2.2 hdg X.2.2.1
theorem retV (X : Cx p s m args meth c D cI cZ cc nL none Ts own A) (hS : va_S A s.heap H locs) (hP : va_P D vwCl WS' H) (hdg : decode cc pc = .ok (.return_, 1)) : W p l e R s m args below meth c H locs 0 0 (MQ below (QV D WS' A) args s 0 0 A) (F0 m pc ls []) :=
  W.vret X.1.1 X.1.2.1 X.2.1 (fun t ht _ => ⟨⟨(), rfl, trivial, by show va_P D vwCl WS' t.heap; rw [ht]; exact hP⟩, hS.F ht⟩) hS.2.2 hdg X.2.2.1
/-- an array's element, under a name for its place -/
theorem aldI (X : Cx p s m args meth c D cI cZ cc nL ret Ts own A) (hP : va_P D vwCl big H) (q0 : Nat) {a nA : Nat} {f : Nat → Int32} (ha : big[q0]? = some (a, .inl (cI, nA, .inl f))) {i : Int32} (hin : vp_in i nA) {j : Nat} (hj : i.toNatClampNeg = j) (hdg : decode cc pc = .ok (.iaload, 1)) (kk : W p l e R s m args below meth c H locs cells slots Q (F0 m (pc + 1) ls (.int (f j) :: rest))) : W p l e R s m args below meth c H locs cells slots Q (F0 m pc ls (.int i :: .ref a :: rest)) := by
  subst hj
  exact va_iald X.1.1 X.1.2.1 X.2.2.2.1 hP q0 0 ha rfl hin hdg kk
theorem aldZ (X : Cx p s m args meth c D cI cZ cc nL ret Ts own A) (hP : va_P D vwCl big H) (q0 : Nat) {a nA : Nat} {f : Nat → Int32} (ha : big[q0]? = some (a, .inl (cZ, nA, .inl f))) {i : Int32} (hin : vp_in i nA) {j : Nat} (hj : i.toNatClampNeg = j) (hdg : decode cc pc = .ok (.baload, 1)) (kk : W p l e R s m args below meth c H locs cells slots Q (F0 m (pc + 1) ls (.int (f j) :: rest))) : W p l e R s m args below meth c H locs cells slots Q (F0 m pc ls (.int i :: .ref a :: rest)) := by
  subst hj
  exact va_zald X.1.1 X.1.2.1 X.2.2.2.1 hP q0 1 ha rfl hin hdg kk
theorem astI (X : Cx p s m args meth c D cI cZ cc nL ret Ts own A) (hP : va_P D vwCl big H) (hD : va_D A big) (hS : va_S A s.heap H locs) (q0 : Nat) {a nA : Nat} {f : Nat → Int32} (ha : big[q0]? = some (a, .inl (cI, nA, .inl f))) {i x : Int32} (hin : vp_in i nA) {j : Nat} (hj : i.toNatClampNeg = j) (hdg : decode cc pc = .ok (.iastore, 1)) (big' : va_W) (hb' : big.set q0 (a, .inl (cI, nA, .inl (upd f j x))) = big')
    (kk : ∀ (H1 : Heap) (locs1 : List Loc), va_P D vwCl big' H1 → va_D A big' → va_S A s.heap H1 locs1 → W p l e R s m args below meth c H1 locs1 cells slots Q (F0 m (pc + 1) ls rest)) : W p l e R s m args below meth c H locs cells slots Q (F0 m pc ls (.int x :: .int i :: .ref a :: rest)) := by
  subst hj; subst hb'
  exact va_iast X.1.1 X.1.2.1 X.2.2.2.1 hP hD hS q0 0 ha rfl hin hdg kk
theorem astZ (X : Cx p s m args meth c D cI cZ cc nL ret Ts own A) (hP : va_P D vwCl big H) (hD : va_D A big) (hS : va_S A s.heap H locs) (q0 : Nat) {a nA : Nat} {f : Nat → Int32} (ha : big[q0]? = some (a, .inl (cZ, nA, .inl f))) {i x : Int32} (hx : vp_nar .boolean x = x) (hin : vp_in i nA) {j : Nat} (hj : i.toNatClampNeg = j) (hdg : decode cc pc = .ok (.bastore, 1)) (big' : va_W) (hb' : big.set q0 (a, .inl (cZ, nA, .inl (upd f j x))) = big')
    (kk : ∀ (H1 : Heap) (locs1 : List Loc), va_P D vwCl big' H1 → va_D A big' → va_S A s.heap H1 locs1 → W p l e R s m args below meth c H1 locs1 cells slots Q (F0 m (pc + 1) ls rest)) : W p l e R s m args below meth c H locs cells slots Q (F0 m pc ls (.int x :: .int i :: .ref a :: rest)) := by
  subst hj; subst hb'
  refine va_zast X.1.1 X.1.2.1 X.2.2.2.1 hP hD hS q0 1 ha rfl hin hdg ?_
  rw [hx]
  exact kk
/-- fields: of an object of the world, by the class's own link or the nest's -/
theorem getO (X : Cx p s m args meth c D cI cZ cc nL ret Ts own A) (hP : va_P D vwCl big H) {T : u_T} {N ci index a : Nat} (hin : ∀ w ∈ u_ws C T N, w ∈ Ts) (q0 : Nat) {fs : List Value} (he : big[q0]? = some (a, .inr (ci, fs))) (hc : vwCl[ci]? = some (C, T, N)) (k : Nat) (hk : k < N) (hlink : Cond.fieldLink own index (T k).1 (T k).2.1 (T k).2.2.1 ∈ Ts) {v : Value} (hv : fs[k]? = some v) (hdg : decode cc pc = .ok (.getfield index, 3))
    (kk : W p l e R s m args below meth c H locs cells slots Q (F0 m (pc + 3) ls (v :: rest))) : W p l e R s m args below meth c H locs cells slots Q (F0 m pc ls (.ref a :: rest)) :=
  va_get X.1.1 X.1.2.1 X.1.2.2.2.2 hin X.1.2.2.2.1 X.2.2.2.1 hP q0 he hc k hk (X.1.2.2.2.2 _ hlink) (fun _ h => h) hv hdg kk
theorem getN (X : Cx p s m args meth c D cI cZ cc nL ret Ts own A) (hP : va_P D vwCl big H) {T : u_T} {N ci index a : Nat} (hin : ∀ w ∈ u_ws C T N, w ∈ Ts) (q0 : Nat) {fs : List Value} (he : big[q0]? = some (a, .inr (ci, fs))) (hc : vwCl[ci]? = some (C, T, N)) (k : Nat) (hk : k < N) (j : Nat) (hlink : nfW[j]? = some (.fieldLinkNest own index (T k).1 (T k).2.1 (T k).2.2.1 host)) {v : Value} (hv : fs[k]? = some v) (hdg : decode cc pc = .ok (.getfield index, 3))
    (kk : W p l e R s m args below meth c H locs cells slots Q (F0 m (pc + 3) ls (v :: rest))) : W p l e R s m args below meth c H locs cells slots Q (F0 m pc ls (.ref a :: rest)) :=
  va_getN X.1.1 X.1.2.1 X.1.2.2.2.2 hin X.1.2.2.2.1 X.2.2.2.1 hP q0 he hc k hk (X.2.2.2.2.1.fl j hlink) (fun _ h => h) hv hdg kk
theorem putO (X : Cx p s m args meth c D cI cZ cc nL ret Ts own A) (hP : va_P D vwCl big H) (hD : va_D A big) (hS : va_S A s.heap H locs) {T : u_T} {N ci index a : Nat} (hin : ∀ w ∈ u_ws C T N, w ∈ Ts) (ty0 : Nat → FieldType) (hty : ∀ k, k < N → parseFieldDescriptor (T k).2.2.1 = some (ty0 k)) (hnm : ∀ a, a < N → ∀ b, b < N → a ≠ b → (T a).2.1 ≠ (T b).2.1) (q0 : Nat) {fs : List Value} (he : big[q0]? = some (a, .inr (ci, fs))) (hc : vwCl[ci]? = some (C, T, N)) (k : Nat) (hk : k < N) (hlink : Cond.fieldLink own index (T k).1 (T k).2.1 (T k).2.2.1 ∈ Ts) (hfin : (T k).2.2.2 = false) {v : Value} (hn : narrow (ty0 k) v = v) (hfit : fits (ty0 k) v = true) (hl : k < fs.length)
    (hdg : decode cc pc = .ok (.putfield index, 3)) (big' : va_W) (hb' : big.set q0 (a, .inr (ci, fs.set k v)) = big') (kk : ∀ (H1 : Heap) (locs1 : List Loc), va_P D vwCl big' H1 → va_D A big' → va_S A s.heap H1 locs1 → W p l e R s m args below meth c H1 locs1 cells slots Q (F0 m (pc + 3) ls rest)) : W p l e R s m args below meth c H locs cells slots Q (F0 m pc ls (v :: .ref a :: rest)) := by
  subst hb'
  exact va_put X.1.1 X.1.2.1 X.1.2.2.2.2 hin ty0 hty hnm X.1.2.2.2.1 X.2.2.2.1 hP hD hS q0 he hc k hk (X.1.2.2.2.2 _ hlink) (fun _ h => h) hfin (hty k hk) hn hfit hl hdg kk
theorem putN (X : Cx p s m args meth c D cI cZ cc nL ret Ts own A) (hP : va_P D vwCl big H) (hD : va_D A big) (hS : va_S A s.heap H locs) {T : u_T} {N ci index a : Nat} (hin : ∀ w ∈ u_ws C T N, w ∈ Ts) (ty0 : Nat → FieldType) (hty : ∀ k, k < N → parseFieldDescriptor (T k).2.2.1 = some (ty0 k)) (hnm : ∀ a, a < N → ∀ b, b < N → a ≠ b → (T a).2.1 ≠ (T b).2.1) (q0 : Nat) {fs : List Value} (he : big[q0]? = some (a, .inr (ci, fs))) (hc : vwCl[ci]? = some (C, T, N)) (k : Nat) (hk : k < N) (j : Nat) (hlink : nfW[j]? = some (.fieldLinkNest own index (T k).1 (T k).2.1 (T k).2.2.1 host)) (hfin : (T k).2.2.2 = false) {v : Value} (hn : narrow (ty0 k) v = v) (hfit : fits (ty0 k) v = true) (hl : k < fs.length)
    (hdg : decode cc pc = .ok (.putfield index, 3)) (big' : va_W) (hb' : big.set q0 (a, .inr (ci, fs.set k v)) = big') (kk : ∀ (H1 : Heap) (locs1 : List Loc), va_P D vwCl big' H1 → va_D A big' → va_S A s.heap H1 locs1 → W p l e R s m args below meth c H1 locs1 cells slots Q (F0 m (pc + 3) ls rest)) : W p l e R s m args below meth c H locs cells slots Q (F0 m pc ls (v :: .ref a :: rest)) := by
  subst hb'
  exact va_putN X.1.1 X.1.2.1 X.1.2.2.2.2 hin ty0 hty hnm X.1.2.2.2.1 X.2.2.2.1 hP hD hS q0 he hc k hk (X.2.2.2.2.1.fl j hlink) (fun _ h => h) hfin (hty k hk) hn hfit hl hdg kk
theorem alenR (X : Cx p s m args meth c D cI cZ cc nL ret Ts own A) (hP : va_P D vwCl big H) (q0 : Nat) {a nA : Nat} {f : Nat → Int32} (ha : big[q0]? = some (a, .inl (cI, nA, .inl f))) (hdg : decode cc pc = .ok (.arraylength, 1)) (kk : W p l e R s m args below meth c H locs cells slots Q (F0 m (pc + 1) ls (.int (nI nA) :: rest))) : W p l e R s m args below meth c H locs cells slots Q (F0 m pc ls (.ref a :: rest)) :=
  va_alen X.1.1 X.1.2.1 X.2.2.2.1 hP q0 0 ha rfl rfl hdg kk
end KCALL
/-- the cells by their classes -/
abbrev oX0 (a0 a1 a2 a3 : Nat) (i4 : Int32) : va_E := .inr (0, [.ref a0, .ref a1, .ref a2, .ref a3, .int i4])
abbrev oX1 (a0 : Nat) (i1 i2 i3 : Int32) (a4 a5 a6 : Nat) (i7 i8 i9 : Int32) (a10 : Nat) (i11 i12 : Int32) (a13 : Nat) : va_E := .inr (1, [.ref a0, .int i1, .int i2, .int i3, .ref a4, .ref a5, .ref a6, .int i7, .int i8, .int i9, .ref a10, .int i11, .int i12, .ref a13])
abbrev oX2 (i0 i1 : Int32) : va_E := .inr (2, [.int i0, .int i1])
abbrev oX3 (a0 a1 a2 : Nat) (i3 : Int32) : va_E := .inr (3, [.ref a0, .ref a1, .ref a2, .int i3])
abbrev oX4 (a0 : Nat) (i1 : Int32) : va_E := .inr (4, [.ref a0, .int i1])
abbrev oX5 (a0 a1 a2 a3 : Nat) : va_E := .inr (5, [.ref a0, .ref a1, .ref a2, .ref a3])
abbrev oX6 (a0 a1 a2 a3 : Nat) : va_E := .inr (6, [.ref a0, .ref a1, .ref a2, .ref a3])
abbrev rI (c : ClassId) (n : Nat) (f : Nat → Int32) : va_E := .inl (c, n, .inl f)
