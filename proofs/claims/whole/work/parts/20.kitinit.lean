/-! constructors: contracts that make cells; u names the new cells' addresses -/
def CN (l : Launch) (D : va_G) (cI cZ : ClassId) (y : MethodName) (ws : List Cond) (rm : Room) (av : List Value) (WS : va_W) (mk : (Nat → Nat) → va_W) (mc ms : Nat) : Prop :=
  ∀ sz : Nat, Met l y ws rm (va_Pc av (SP D cI cZ WS sz)) (va_Qv (fun (_ : Nat → Nat) => True) (fun u t => va_P D vwCl (mk u) t.heap ∧ va_D (va_A WS sz) (mk u)) (va_A WS sz)) mc ms (va_A WS sz)
abbrev QN (D : va_G) (mk : (Nat → Nat) → va_W) (A : Nat → Prop) : Array Value → State → Outcome → State → Prop := va_Qv (fun (_ : Nat → Nat) => True) (fun u t => va_P D vwCl (mk u) t.heap ∧ va_D A (mk u)) A
theorem CN.mk {l : Launch} {D : va_G} {cI cZ : ClassId} {y : MethodName} {ws ws' : List Cond} {rm : Room} {av : List Value} {WS : va_W} {mk : (Nat → Nat) → va_W} {mc ms : Nat} {cc : ByteArray} {maxL : Nat} (hy : plainName y.cls = true) (hw : ws = Cond.code y cc maxL none :: ws') (hav : (lg_sl av).length ≤ maxL)
    (body : ∀ (p : Program) (e : Env) (s : State) (m : MethodId) (below : List Frame) (meth : Method) (c : Code) (ls : Array Slot) (A : Nat → Prop), Cx p s m av.toArray meth c D cI cZ cc maxL none ws y.cls A → meth.name = y.name → va_P D vwCl WS s.heap → va_D A WS → lv_has ls maxL (lv_args 0 av) → va_S A s.heap s.heap [] →
      W p l e rm s m av.toArray below meth c s.heap [] 0 0 (MQ below (QN D mk A) av.toArray s mc ms A) (F0 m 0 ls [])) : CN l D cI cZ y ws rm av WS mk mc ms := by
  intro sz
  refine Met.ofW (cc := cc) (maxL := maxL) (ret := none) hy hw ?_
  intro p e s m args below meth c s₁ B hml hv
  obtain ⟨rfl, hsz, hP, hK, hN, hD0⟩ := hv
  subst hsz
  have hD := hD0.self (sz := s.heap.size)
  rw [lg_entry_eq]
  exact body p e s m below meth c _ (va_A WS s.heap.size) ⟨⟨B.exec, B.bytes, hml, findClass_of_methodNamed B.named, atoms_spec (ws := ws) B.pre⟩, B.returns, B.notSynchronized, hK, hN, fun q h => Or.inr h⟩ (name_of_methodNamed B.named B.method).1 hP hD (lv_entry av (n := maxL) hav) va_S.rf
section KINIT
variable {p : Program} {l : Launch} {e : Env} {R : Room} {s : State} {m : MethodId} {args : Array Value} {below : List Frame} {meth : Method} {c : Code} {H : Heap} {locs : List Loc} {cells slots mc ms : Nat} {Q : State → Prop}
variable {D : va_G} {cI cZ : ClassId} {cc bytes : ByteArray} {nL maxL n index pc : Nat} {ret : Option FieldType} {Ts ws : List Cond} {own C host : String} {A : Nat → Prop} {y : MethodName} {rm : Room} {b : Nat} {rest st0 : List Value} {WS big : va_W} {ls : Array Slot} {mk : (Nat → Nat) → va_W}
theorem retN (X : Cx p s m args meth c D cI cZ cc nL none Ts own A) (hS : va_S A s.heap H locs) (u : Nat → Nat) (hP : va_P D vwCl (mk u) H) (hD : va_D A (mk u)) (hdg : decode cc pc = .ok (.return_, 1)) : W p l e R s m args below meth c H locs mc ms (MQ below (QN D mk A) args s mc ms A) (F0 m pc ls []) :=
  W.vret X.1.1 X.1.2.1 X.2.1 (fun t ht _ => ⟨⟨u, rfl, trivial, by show va_P D vwCl (mk u) t.heap ∧ va_D A (mk u); rw [ht]; exact ⟨hP, hD⟩⟩, hS.F ht⟩) hS.2.2 hdg X.2.2.1
theorem objI (X : Cx p s m args meth c D cI cZ cc nL ret Ts own A) (hls : ls.size = nL) {idx a : Nat} (h1 : Cond.methodLink own idx Lib.objectInit ∈ Ts) (h2 : Cond.instanceMethod Lib.objectInit ∈ Ts) (h3 : Cond.code Lib.objectInit ⟨#[0xb1]⟩ 1 none ∈ Ts) (hfr : 1 ≤ R.frames) (hlo : 2 * 0 + (rest.map fun v => v.category).sum + 12 ≤ R.locals) (hdg : decode cc pc = .ok (.invokespecial idx, 3))
    (kk : W p l e R s m args below meth c H locs cells slots Q (F0 m (pc + 3) ls rest)) : W p l e R s m args below meth c H locs cells slots Q (F0 m pc ls (.ref a :: rest)) :=
  W.objInit X.1.1 X.1.2.1 X.1.2.2.2.1 (X.1.2.2.2.2 _ h1) (X.1.2.2.2.2 _ h2) (X.1.2.2.2.2 _ h3) (g := F0 m pc ls (.ref a :: rest)) rfl (hls.trans X.1.2.2.1.symm) rfl hdg hfr hlo (W.eq (g2 := F0 m (pc + 3) ls rest) rfl kk)
theorem goN (X : Cx p s m args meth c D cI cZ cc nL ret Ts own A) {a : Array Value} (hr : va_Run p l e R s m args below meth c H locs cells slots mc ms (F0 m pc ls st0) rest (QN D mk (va_A WS H.size) a) (va_A WS H.size)) (hP : va_P D vwCl big H) (hD : va_D A big) (hS : va_S A s.heap H locs) (isC isR : List Nat) (wr : va_W) (hC : isC.map (fun i => big[i]?) = WS.map some) (hR : isR.map (fun i => big[i]?) = wr.map some) (hn : va_nd isR = true) (hdis : ∀ i ∈ isR, i ∉ isC)
    (kk : ∀ (u : Nat → Nat) (H1 : Heap) (locs1 : List Loc), va_P D vwCl (wr ++ mk u) H1 → va_D A (wr ++ mk u) → va_S A s.heap H1 locs1 → W p l e R s m args below meth c H1 locs1 (cells + mc) (slots + ms) Q (F0 m (pc + 3) ls rest)) : W p l e R s m args below meth c H locs cells slots Q (F0 m pc ls st0) := by
  have hF := va_free (wc := WS) hD hS X.2.2.2.2.2 isC hC
  refine va_callv hr hS (fun q _ h => hF q h) hF (fun u t H1 locs1 ht _ _ hB _ hk1 hS1 => ?_)
  obtain ⟨hP1, hD1⟩ := hB
  rw [ht] at hP1
  obtain ⟨hP2, hD2⟩ := va_join hP hD isC isR hC hR hn hdis hk1 hF hP1 hD1
  exact kk u H1 locs1 hP2 hD2 hS1
/-- a nest mate's constructor, and a public one -/
theorem callIN (X : Cx p s m args meth c D cI cZ cc nL ret Ts own A) (hC : CN l D cI cZ y ws rm [.ref b] WS mk mc ms) (cw : va_CN R s args own index y host bytes maxL none ws rm mc ms 0 ∧ y.name = "<init>" ∧ (Cond.instanceMethod y).before args s = true) (hP : va_P D vwCl big H) (hD : va_D A big) (hS : va_S A s.heap H locs) (hls : ls.size = nL)
    (isC isR : List Nat) (wr : va_W) (hnd : va_nd isC = true) (hsel : isC.map (fun i => big[i]?) = WS.map some) (hR : isR.map (fun i => big[i]?) = wr.map some) (hn : va_nd isR = true) (hdis : ∀ i ∈ isR, i ∉ isC)
    (hst : st0 = .ref b :: rest) (hW : (rest.map fun v => v.category).sum ≤ 8) (hdg : decode cc pc = .ok (.invokespecial index, 3)) (hf : cells + mc ≤ R.cells ∧ slots + ms ≤ R.slots)
    (kk : ∀ (u : Nat → Nat) (H1 : Heap) (locs1 : List Loc), va_P D vwCl (wr ++ mk u) H1 → va_D A (wr ++ mk u) → va_S A s.heap H1 locs1 → W p l e R s m args below meth c H1 locs1 (cells + mc) (slots + ms) Q (F0 m (pc + 3) ls rest)) : W p l e R s m args below meth c H locs cells slots Q (F0 m pc ls st0) :=
  goN X (va_runIN (As := []) (rest := rest) X.1 (hC H.size) cw ⟨SP.blind, preOf X.2.2.2.1 X.2.2.2.2.1 hP hD hsel hnd⟩ rfl rfl hls hst (lv_room hW) hdg hf) hP hD hS isC isR wr hsel hR hn hdis kk
theorem callII (X : Cx p s m args meth c D cI cZ cc nL ret Ts own A) (hC : CN l D cI cZ y ws rm [.ref b] WS mk mc ms) (cw : CallB R s args own index y bytes maxL none ws rm mc ms 0 ∧ y.name = "<init>" ∧ (Cond.instanceMethod y).before args s = true) (hP : va_P D vwCl big H) (hD : va_D A big) (hS : va_S A s.heap H locs) (hls : ls.size = nL)
    (isC isR : List Nat) (wr : va_W) (hnd : va_nd isC = true) (hsel : isC.map (fun i => big[i]?) = WS.map some) (hR : isR.map (fun i => big[i]?) = wr.map some) (hn : va_nd isR = true) (hdis : ∀ i ∈ isR, i ∉ isC)
    (hst : st0 = .ref b :: rest) (hW : (rest.map fun v => v.category).sum ≤ 8) (hdg : decode cc pc = .ok (.invokespecial index, 3)) (hf : cells + mc ≤ R.cells ∧ slots + ms ≤ R.slots)
    (kk : ∀ (u : Nat → Nat) (H1 : Heap) (locs1 : List Loc), va_P D vwCl (wr ++ mk u) H1 → va_D A (wr ++ mk u) → va_S A s.heap H1 locs1 → W p l e R s m args below meth c H1 locs1 (cells + mc) (slots + ms) Q (F0 m (pc + 3) ls rest)) : W p l e R s m args below meth c H locs cells slots Q (F0 m pc ls st0) :=
  goN X (va_runI (As := []) (rest := rest) X.1 (hC H.size) cw ⟨SP.blind, preOf X.2.2.2.1 X.2.2.2.2.1 hP hD hsel hnd⟩ rfl rfl hls hst (lv_room hW) hdg hf) hP hD hS isC isR wr hsel hR hn hdis kk
theorem newI (X : Cx p s m args meth c D cI cZ cc nL ret Ts own A) (hP : va_P D vwCl big H) (hD : va_D A big) (hS : va_S A s.heap H locs) (harr : Cond.arrayClass .int ∈ Ts) {n : Int32} {N : Nat} (hn : ¬ n < 0) (hN : n.toNatClampNeg = N) (hby : N * componentBytes .int ≤ 536870912) (hcells : cells + 1 ≤ R.cells) (hslots : slots + N ≤ R.slots) (hdg : decode cc pc = .ok (.newarray .int, 2))
    (kk : ∀ (q : Nat) (H1 : Heap), va_P D vwCl (big ++ [(q, .inl (cI, N, .inl (fun _ => 0)))]) H1 → va_D A (big ++ [(q, .inl (cI, N, .inl (fun _ => 0)))]) → va_S A s.heap H1 locs → W p l e R s m args below meth c H1 locs (cells + 1) (slots + N) Q (F0 m (pc + 2) ls (.ref q :: rest))) : W p l e R s m args below meth c H locs cells slots Q (F0 m pc ls (.int n :: rest)) := by
  refine va_newa (atype := .int) (ty := .int) (a0 := (N, .inl (fun _ => 0))) X.1.1 X.1.2.1 (X.1.2.2.2.2 _ harr) rfl X.2.2.2.1 hP hD hS X.2.2.2.2.2 (fun cA => rfl) hn hN hby hcells hslots hdg (fun q cA H1 hK1 hP1 hD1 hS1 => ?_)
  have h1 : s.vm.findClass ("[" ++ FieldType.int.toString) = some cA := (hK1.2 2 (cA, .int) rfl).2
  have h2 : s.vm.findClass ("[" ++ FieldType.int.toString) = some cI := (X.2.2.2.1.2 0 (cI, .int) rfl).2
  obtain rfl : cI = cA := Option.some.inj (h2.symm.trans h1)
  exact kk q H1 hP1 hD1 hS1
theorem newZ (X : Cx p s m args meth c D cI cZ cc nL ret Ts own A) (hP : va_P D vwCl big H) (hD : va_D A big) (hS : va_S A s.heap H locs) (harr : Cond.arrayClass .boolean ∈ Ts) {n : Int32} {N : Nat} (hn : ¬ n < 0) (hN : n.toNatClampNeg = N) (hby : N * componentBytes .boolean ≤ 536870912) (hcells : cells + 1 ≤ R.cells) (hslots : slots + N ≤ R.slots) (hdg : decode cc pc = .ok (.newarray .boolean, 2))
    (kk : ∀ (q : Nat) (H1 : Heap), va_P D vwCl (big ++ [(q, .inl (cZ, N, .inl (fun _ => 0)))]) H1 → va_D A (big ++ [(q, .inl (cZ, N, .inl (fun _ => 0)))]) → va_S A s.heap H1 locs → W p l e R s m args below meth c H1 locs (cells + 1) (slots + N) Q (F0 m (pc + 2) ls (.ref q :: rest))) : W p l e R s m args below meth c H locs cells slots Q (F0 m pc ls (.int n :: rest)) := by
  refine va_newa (atype := .boolean) (ty := .boolean) (a0 := (N, .inl (fun _ => 0))) X.1.1 X.1.2.1 (X.1.2.2.2.2 _ harr) rfl X.2.2.2.1 hP hD hS X.2.2.2.2.2 (fun cA => rfl) hn hN hby hcells hslots hdg (fun q cA H1 hK1 hP1 hD1 hS1 => ?_)
  have h1 : s.vm.findClass ("[" ++ FieldType.boolean.toString) = some cA := (hK1.2 2 (cA, .boolean) rfl).2
  have h2 : s.vm.findClass ("[" ++ FieldType.boolean.toString) = some cZ := (X.2.2.2.1.2 1 (cZ, .boolean) rfl).2
  obtain rfl : cZ = cA := Option.some.inj (h2.symm.trans h1)
  exact kk q H1 hP1 hD1 hS1
theorem newO (X : Cx p s m args meth c D cI cZ cc nL ret Ts own A) (hP : va_P D vwCl big H) (hD : va_D A big) (hS : va_S A s.heap H locs) {T : u_T} {N ci index : Nat} (hin : ∀ w ∈ u_ws C T N, w ∈ Ts) (ty : Nat → FieldType) (hty : ∀ k, k < N → parseFieldDescriptor (T k).2.2.1 = some (ty k)) (h1 : Cond.classLink own index C ∈ Ts) (h2 : Cond.instantiable C N ∈ Ts) (h3 : Cond.initialized C ∈ Ts) (hc : vwCl[ci]? = some (C, T, N)) (fs : List Value) (hfs : ∀ j, j < N → defaultValue (ty j) = vp_V fs j) (hcells : cells + 1 ≤ R.cells) (hslots : slots + N ≤ R.slots) (hdg : decode cc pc = .ok (.new index, 3))
    (kk : ∀ (q : Nat) (H1 : Heap), va_P D vwCl (big ++ [(q, .inr (ci, fs))]) H1 → va_D A (big ++ [(q, .inr (ci, fs))]) → va_S A s.heap H1 locs → W p l e R s m args below meth c H1 locs (cells + 1) (slots + N) Q (F0 m (pc + 3) ls (.ref q :: rest))) : W p l e R s m args below meth c H locs cells slots Q (F0 m pc ls rest) :=
  va_new X.1.1 X.1.2.1 X.1.2.2.2.2 hin ty hty X.1.2.2.2.1 (X.1.2.2.2.2 _ h1) (X.1.2.2.2.2 _ h2) (X.1.2.2.2.2 _ h3) X.2.2.2.1 hP hD hS X.2.2.2.2.2 hc hfs hcells hslots hdg kk
theorem putF (X : Cx p s m args meth c D cI cZ cc nL ret Ts own A) (hini : meth.name = "<init>") (hP : va_P D vwCl big H) (hD : va_D A big) (hS : va_S A s.heap H locs) {T : u_T} {N ci index a : Nat} (hin : ∀ w ∈ u_ws C T N, w ∈ Ts) (ty0 : Nat → FieldType) (hty : ∀ k, k < N → parseFieldDescriptor (T k).2.2.1 = some (ty0 k)) (hnm : ∀ a, a < N → ∀ b, b < N → a ≠ b → (T a).2.1 ≠ (T b).2.1) (q0 : Nat) {fs : List Value} (he : big[q0]? = some (a, .inr (ci, fs))) (hc : vwCl[ci]? = some (C, T, N)) (k : Nat) (hk : k < N) (hlink : Cond.fieldLink own index (T k).1 (T k).2.1 (T k).2.2.1 ∈ Ts) (hfin : (T k).2.2.2 = true) (hdecl : (T k).1 = own) {v : Value} (hn : narrow (ty0 k) v = v) (hfit : fits (ty0 k) v = true) (hl : k < fs.length)
    (hdg : decode cc pc = .ok (.putfield index, 3)) (big' : va_W) (hb' : big.set q0 (a, .inr (ci, fs.set k v)) = big') (kk : ∀ (H1 : Heap) (locs1 : List Loc), va_P D vwCl big' H1 → va_D A big' → va_S A s.heap H1 locs1 → W p l e R s m args below meth c H1 locs1 cells slots Q (F0 m (pc + 3) ls rest)) : W p l e R s m args below meth c H locs cells slots Q (F0 m pc ls (v :: .ref a :: rest)) := by
  subst hb'
  exact va_putF X.1.1 X.1.2.1 X.1.2.2.2.2 hin ty0 hty hnm X.1.2.2.2.1 X.2.2.2.1 hP hD hS q0 he hc k hk (X.1.2.2.2.2 _ hlink) (fun _ h => h) hfin hini hdecl (hty k hk) hn hfit hl hdg kk
end KINIT
