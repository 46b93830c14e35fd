/-! calls over large worlds: the new world told cell by cell (mp: which cell of the callee's, or none) -/
def pick2 (big ws : va_W) : List (Option Nat) → Nat → List (Option (Nat × va_E))
  | [], _ => []
  | none :: l, k => big[k]? :: pick2 big ws l (k + 1)
  | some j :: l, k => ws[j]? :: pick2 big ws l (k + 1)
theorem pick2_get (big ws : va_W) : ∀ (mp : List (Option Nat)) (k0 k : Nat), (pick2 big ws mp k0)[k]? = (mp[k]?).map (fun o => match o with | none => big[k0 + k]? | some j => ws[j]?)
  | [], k0, k => by simp [pick2]
  | none :: l, k0, 0 => by simp [pick2]
  | some j :: l, k0, 0 => by simp [pick2]
  | none :: l, k0, k + 1 => by
    have h := pick2_get big ws l (k0 + 1) k
    simp only [pick2, List.getElem?_cons_succ]
    rw [h]
    congr 1
    funext o
    cases o <;> simp [Nat.add_assoc, Nat.add_comm 1 k]
  | some j :: l, k0, k + 1 => by
    have h := pick2_get big ws l (k0 + 1) k
    simp only [pick2, List.getElem?_cons_succ]
    rw [h]
    congr 1
    funext o
    cases o <;> simp [Nat.add_assoc, Nat.add_comm 1 k]
theorem pickP {A : Nat → Prop} {D : va_G} {cl : List vw_C} {big WS WS' big' : va_W} {H H1 : Heap} {is : List Nat} {mp : List (Option Nat)} (hP : va_P D cl big H) (hD : va_D A big) (hsel : is.map (fun i => big[i]?) = WS.map some) (hmp : ∀ k ∈ is, mp[k]? ≠ some none) (hspl : pick2 big WS' mp 0 = big'.map some)
    (hk : ∀ q : Nat, q < H.size → ¬ va_A WS H.size q → H1[q]? = H[q]?) (hP1 : va_P D cl WS' H1) : va_P D cl big' H1 := by
  intro k q hq
  have h0 : (pick2 big WS' mp 0)[k]? = some (some q) := by rw [hspl, List.getElem?_map, hq]; rfl
  rw [pick2_get] at h0
  cases hm : mp[k]? with
  | none => rw [hm] at h0; cases h0
  | some o =>
    rw [hm] at h0
    cases o with
    | some j => exact hP1 j q (Option.some.inj h0)
    | none =>
      have h2 : big[0 + k]? = some q := Option.some.inj h0
      rw [Nat.zero_add] at h2
      have hlt := (hP k q h2).lt
      refine (hP k q h2).kept (hk q.1 hlt fun hA => ?_)
      rcases hA with ⟨k2, e2, h3⟩ | h3
      · have h4 : (is.map (fun i => big[i]?))[k2]? = some (some (q.1, e2)) := by rw [hsel, List.getElem?_map, h3]; rfl
        rw [List.getElem?_map] at h4
        cases hi : is[k2]? with
        | none => rw [hi] at h4; cases h4
        | some i =>
          rw [hi] at h4
          have h5 := hD.1 k i q (q.1, e2) h2 (Option.some.inj h4) rfl
          subst h5
          exact hmp k (List.mem_of_getElem? hi) hm
      · omega

section KPICK
variable {p : Program} {l : Launch} {e : Env} {R : Room} {s : State} {m : MethodId} {args : Array Value} {below : List Frame} {meth : Method} {c : Code} {H : Heap} {locs : List Loc} {cells slots : Nat} {Q : State → Prop}
variable {D : va_G} {cI cZ : ClassId} {cc bytes : ByteArray} {nL maxL n index pc : Nat} {ret retC : Option FieldType} {Ts ws : List Cond} {own C host : String} {A : Nat → Prop} {y : MethodName} {rm : Room} {b : Nat} {As rest st0 : List Value} {WS WS' big : va_W} {r : Int32} {ls : Array Slot}

theorem goIp (X : Cx p s m args meth c D cI cZ cc nL ret Ts own A) {a : Array Value} (hr : va_Run p l e R s m args below meth c H locs cells slots 0 0 (F0 m pc ls st0) rest (QI D WS' r (va_A WS H.size) a) (va_A WS H.size)) (hP : va_P D vwCl big H) (hD : va_D A big) (hS : va_S A s.heap H locs) (is : List Nat) (big' : va_W) (hsel : is.map (fun i => big[i]?) = WS.map some) (mp : List (Option Nat)) (hmp : ∀ k ∈ is, mp[k]? ≠ some none) (hspl : pick2 big WS' mp 0 = big'.map some) (hadr : big'.map Prod.fst = big.map Prod.fst)
    (kk : ∀ (H1 : Heap) (locs1 : List Loc), va_P D vwCl big' H1 → va_D A big' → va_S A s.heap H1 locs1 → W p l e R s m args below meth c H1 locs1 cells slots Q (F0 m (pc + 3) ls (.int r :: rest))) : W p l e R s m args below meth c H locs cells slots Q (F0 m pc ls st0) := by
  have hF := va_free (wc := WS) hD hS X.2.2.2.2.2 is hsel
  refine va_calli hr hS (fun q _ h => hF q h) hF (fun r1 u t H1 locs1 ht _ hw hB _ hk1 hS1 => ?_)
  have hw : r1 = r := hw
  subst hw
  rw [ht] at hB
  exact kk H1 locs1 (pickP hP hD hsel hmp hspl hk1 hB) (va_D_adr hadr hD) hS1

theorem goVp (X : Cx p s m args meth c D cI cZ cc nL ret Ts own A) {a : Array Value} (hr : va_Run p l e R s m args below meth c H locs cells slots 0 0 (F0 m pc ls st0) rest (QV D WS' (va_A WS H.size) a) (va_A WS H.size)) (hP : va_P D vwCl big H) (hD : va_D A big) (hS : va_S A s.heap H locs) (is : List Nat) (big' : va_W) (hsel : is.map (fun i => big[i]?) = WS.map some) (mp : List (Option Nat)) (hmp : ∀ k ∈ is, mp[k]? ≠ some none) (hspl : pick2 big WS' mp 0 = big'.map some) (hadr : big'.map Prod.fst = big.map Prod.fst)
    (kk : ∀ (H1 : Heap) (locs1 : List Loc), va_P D vwCl big' H1 → va_D A big' → va_S A s.heap H1 locs1 → W p l e R s m args below meth c H1 locs1 cells slots Q (F0 m (pc + 3) ls rest)) : W p l e R s m args below meth c H locs cells slots Q (F0 m pc ls st0) := by
  have hF := va_free (wc := WS) hD hS X.2.2.2.2.2 is hsel
  refine va_callv hr hS (fun q _ h => hF q h) hF (fun u t H1 locs1 ht _ _ hB _ hk1 hS1 => ?_)
  rw [ht] at hB
  exact kk H1 locs1 (pickP hP hD hsel hmp hspl hk1 hB) (va_D_adr hadr hD) hS1

theorem callVIp (X : Cx p s m args meth c D cI cZ cc nL ret Ts own A) (hC : CI l D cI cZ y ws rm (.ref b :: As) WS WS' r) (cw : CallW R s args own C index y bytes maxL retC ws rm 0 0 n) (hP : va_P D vwCl big H) (hD : va_D A big) (hS : va_S A s.heap H locs) (hls : ls.size = nL)
    (q0 ci : Nat) {T : u_T} {N : Nat} {fs : List Value} (hc : vwCl[ci]? = some (C, T, N)) (hq : big[q0]? = some (b, .inr (ci, fs))) (is : List Nat) (hnd : va_nd is = true) (big' : va_W) (hsel : is.map (fun i => big[i]?) = WS.map some) (mp : List (Option Nat)) (hmp : ∀ k ∈ is, mp[k]? ≠ some none) (hspl : pick2 big WS' mp 0 = big'.map some) (hadr : big'.map Prod.fst = big.map Prod.fst)
    (hn : As.length = n) (hst : st0 = As.reverse ++ .ref b :: rest) (hW : (rest.map fun v => v.category).sum ≤ 8) (hdg : decode cc pc = .ok (.invokevirtual index, 3)) (hf : cells ≤ R.cells ∧ slots ≤ R.slots)
    (kk : ∀ (H1 : Heap) (locs1 : List Loc), va_P D vwCl big' H1 → va_D A big' → va_S A s.heap H1 locs1 → W p l e R s m args below meth c H1 locs1 cells slots Q (F0 m (pc + 3) ls (.int r :: rest))) : W p l e R s m args below meth c H locs cells slots Q (F0 m pc ls st0) :=
  goIp X (va_runV (As := As) (rest := rest) X.1 (hC H.size) cw ⟨SP.blind, va_recv X.2.2.2.1 hP hc hq, preOf X.2.2.2.1 X.2.2.2.2.1 hP hD hsel hnd⟩ rfl hn hls hst (lv_room hW) hdg hf) hP hD hS is big' hsel mp hmp hspl hadr kk

theorem callVVp (X : Cx p s m args meth c D cI cZ cc nL ret Ts own A) (hC : CV l D cI cZ y ws rm (.ref b :: As) WS WS') (cw : CallW R s args own C index y bytes maxL retC ws rm 0 0 n) (hP : va_P D vwCl big H) (hD : va_D A big) (hS : va_S A s.heap H locs) (hls : ls.size = nL)
    (q0 ci : Nat) {T : u_T} {N : Nat} {fs : List Value} (hc : vwCl[ci]? = some (C, T, N)) (hq : big[q0]? = some (b, .inr (ci, fs))) (is : List Nat) (hnd : va_nd is = true) (big' : va_W) (hsel : is.map (fun i => big[i]?) = WS.map some) (mp : List (Option Nat)) (hmp : ∀ k ∈ is, mp[k]? ≠ some none) (hspl : pick2 big WS' mp 0 = big'.map some) (hadr : big'.map Prod.fst = big.map Prod.fst)
    (hn : As.length = n) (hst : st0 = As.reverse ++ .ref b :: rest) (hW : (rest.map fun v => v.category).sum ≤ 8) (hdg : decode cc pc = .ok (.invokevirtual index, 3)) (hf : cells ≤ R.cells ∧ slots ≤ R.slots)
    (kk : ∀ (H1 : Heap) (locs1 : List Loc), va_P D vwCl big' H1 → va_D A big' → va_S A s.heap H1 locs1 → W p l e R s m args below meth c H1 locs1 cells slots Q (F0 m (pc + 3) ls rest)) : W p l e R s m args below meth c H locs cells slots Q (F0 m pc ls st0) :=
  goVp X (va_runV (As := As) (rest := rest) X.1 (hC H.size) cw ⟨SP.blind, va_recv X.2.2.2.1 hP hc hq, preOf X.2.2.2.1 X.2.2.2.2.1 hP hD hsel hnd⟩ rfl hn hls hst (lv_room hW) hdg hf) hP hD hS is big' hsel mp hmp hspl hadr kk

end KPICK
