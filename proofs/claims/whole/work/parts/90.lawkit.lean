/-! THE LAW 1: its world, its steps -/
def LW (cI cZ : ClassId) (q0 : Nat) (u : Nat → Nat) (q1 : Nat) (w : Nat → Nat) (S Z : Nat → Nat → Int32) (k0 : Int32) (T : Nat → Nat → Int32) (k1 : Int32) (U : Nat → Nat → Int32) (st be so sv : Nat → Int32) : va_W := [(q0, oX5 (u 0) (u 13) (u 26) (u 40)), ((u 0), oX3 (u 1) (u 6) (u 7) (S 0 0)), ((u 1), oX0 (u 2) (u 3) (u 4) (u 5) (S 1 0)), ((u 2), rI cI 16 (S 2)), ((u 3), rI cI 16 (S 3)), ((u 4), rI cI 16 (S 4)), ((u 5), rI cI 16 (S 5)), ((u 6), oX1 (u 7) (S 6 0) (S 7 0) (S 8 0) (u 8) (u 9) (u 10) (S 9 0) (S 10 0) (S 11 0) (u 11) (S 12 0) (S 13 0) (u 12)), ((u 7), oX2 (S 14 0) (S 15 0)), ((u 8), rI cI 8 (S 16)), ((u 9), rI cI 8 (S 17)), ((u 10), rI cI 8 (S 18)), ((u 11), rI cI 8 (S 19)), ((u 12), rI cI 8 (S 20)), ((u 13), oX3 (u 14) (u 19) (u 20) (Z 0 0)), ((u 14), oX0 (u 15) (u 16) (u 17) (u 18) (Z 1 0)), ((u 15), rI cI 16 (Z 2)), ((u 16), rI cI 16 (Z 3)), ((u 17), rI cI 16 (Z 4)), ((u 18), rI cI 16 (Z 5)), ((u 19), oX1 (u 20) (Z 6 0) (Z 7 0) (Z 8 0) (u 21) (u 22) (u 23) (Z 9 0) (Z 10 0) (Z 11 0) (u 24) (Z 12 0) (Z 13 0) (u 25)), ((u 20), oX2 (Z 14 0) (Z 15 0)), ((u 21), rI cI 8 (Z 16)), ((u 22), rI cI 8 (Z 17)), ((u 23), rI cI 8 (Z 18)), ((u 24), rI cI 8 (Z 19)), ((u 25), rI cI 8 (Z 20)), ((u 26), oX4 (u 27) k0), ((u 27), oX3 (u 28) (u 33) (u 34) (T 0 0)), ((u 28), oX0 (u 29) (u 30) (u 31) (u 32) (T 1 0)), ((u 29), rI cI 16 (T 2)), ((u 30), rI cI 16 (T 3)), ((u 31), rI cI 16 (T 4)), ((u 32), rI cI 16 (T 5)), ((u 33), oX1 (u 34) (T 6 0) (T 7 0) (T 8 0) (u 35) (u 36) (u 37) (T 9 0) (T 10 0) (T 11 0) (u 38) (T 12 0) (T 13 0) (u 39)), ((u 34), oX2 (T 14 0) (T 15 0)), ((u 35), rI cI 8 (T 16)), ((u 36), rI cI 8 (T 17)), ((u 37), rI cI 8 (T 18)), ((u 38), rI cI 8 (T 19)), ((u 39), rI cI 8 (T 20)), ((u 40), oX4 (u 41) k1), ((u 41), oX3 (u 42) (u 47) (u 48) (U 0 0)), ((u 42), oX0 (u 43) (u 44) (u 45) (u 46) (U 1 0)), ((u 43), rI cI 16 (U 2)), ((u 44), rI cI 16 (U 3)), ((u 45), rI cI 16 (U 4)), ((u 46), rI cI 16 (U 5)), ((u 47), oX1 (u 48) (U 6 0) (U 7 0) (U 8 0) (u 49) (u 50) (u 51) (U 9 0) (U 10 0) (U 11 0) (u 52) (U 12 0) (U 13 0) (u 53)), ((u 48), oX2 (U 14 0) (U 15 0)), ((u 49), rI cI 8 (U 16)), ((u 50), rI cI 8 (U 17)), ((u 51), rI cI 8 (U 18)), ((u 52), rI cI 8 (U 19)), ((u 53), rI cI 8 (U 20)), (q1, oX6 (w 0) (w 1) (w 2) (w 3)), ((w 0), rI cI 164 st), ((w 1), rI cI 164 be), ((w 2), rI cI 328 so), ((w 3), rI cZ 2 sv)]
/-- what the law keeps -/
def INV (S : Nat → Nat → Int32) (k0 : Int32) (T : Nat → Nat → Int32) (k1 : Int32) (U : Nat → Nat → Int32) (st so sv : Nat → Int32) : Prop := (∃ n, RS n S st) ∧ SV k0 T so sv 0 ∧ SV k1 U so sv 1
section LKIT
variable {p : Program} {l : Launch} {e : Env} {R : Room} {s : State} {m : MethodId} {args : Array Value} {below : List Frame} {meth : Method} {c : Code} {H : Heap} {locs : List Loc} {cells slots : Nat} {Q : State → Prop}
variable {D : va_G} {cI cZ : ClassId} {cc bytes : ByteArray} {nL maxL n index pc : Nat} {ret retC : Option FieldType} {Ts ws : List Cond} {own C host : String} {A : Nat → Prop} {y : MethodName} {rm : Room} {b : Nat} {As rest st0 : List Value} {WS WS' big : va_W} {r : Int32} {ls : Array Slot}
/-- an int of the script, and a boolean of it -/
theorem sarg (hx : p.tables.exec = Jvm.exec) (hb : c.code = cc) {b L i k q0 q1 : Nat} {xs : Nat → Int32} {z : Int} (hX : va_X b L xs s s.heap) (hbl : b < s.heap.size) (hbA : ¬ A b) (hS : va_S A s.heap H locs) (hl : lv_has ls 4 [(0, .ref b), (1, .ref q0), (2, .ref q1), (3, .int (nI i))]) (hik : i + k < L) (hL : L ≤ 3072) (hz : Int32.ofInt z = nI k) (d0 : decode cc pc = .ok (.aload_n 0, 1)) (d1 : decode cc (pc + 1) = .ok (.iload_n 3, 1)) (d2 : decode cc (pc + 1 + 1) = .ok (.iconst z, 1)) (d3 : decode cc (pc + 1 + 1 + 1) = .ok (.iadd, 1)) (d4 : decode cc (pc + 1 + 1 + 1 + 1) = .ok (.iaload, 1))
    (kk : W p l e R s m args below meth c H locs cells slots Q (F0 m (pc + 5) ls (.int (xs (i + k)) :: rest))) : W p l e R s m args below meth c H locs cells slots Q (F0 m pc ls rest) := by
  refine lv_aload_n hx hb d0 rfl (lv_at hl 0 rfl) ?_
  refine lv_iload_n hx hb d1 rfl (lv_at hl 3 rfl) ?_
  refine lv_iconst hx hb d2 hz ?_
  refine lv_iadd hx hb d3 ?_
  have hin : vp_in (nI i + nI k) L := by rw [nI_add]; exact vp_in_nI hik (by omega)
  refine va_sld hx hb hX hbl hbA hS hin d4 ?_
  rw [nI_add, nI_clamp (by omega)]
  exact kk
theorem zarg (hx : p.tables.exec = Jvm.exec) (hb : c.code = cc) {x : Int32} {t1 t2 : Nat} (ht1 : ((pc : Nat) : Int) + 7 = (t1 : Int)) (ht2 : ((pc + 3 + 1 : Nat) : Int) + 4 = (t2 : Int)) (ht : t1 + 1 = t2) (d0 : decode cc pc = .ok (.ifCond .eq 7, 3)) (d1 : decode cc (pc + 3) = .ok (.iconst 1, 1)) (d2 : decode cc (pc + 3 + 1) = .ok (.goto 4, 3)) (d3 : decode cc t1 = .ok (.iconst 0, 1))
    (kk : W p l e R s m args below meth c H locs cells slots Q (F0 m t2 ls (.int (wI (!decide (x = 0))) :: rest))) : W p l e R s m args below meth c H locs cells slots Q (F0 m pc ls (.int x :: rest)) := by
  refine lv_if_eq (tgt := t1) hx hb d0 ht1 (fun h => ?_) (fun h => ?_)
  · refine lv_iconst hx hb d3 ic_0 ?_
    rw [ht]
    rw [decide_eq_true h] at kk
    exact kk
  · refine lv_iconst hx hb d1 ic_1 ?_
    refine lv_goto (tgt := t2) hx hb d2 ht2 ?_
    rw [decide_eq_false h] at kk
    exact kk
/-- a callee that leaves its world as it was -/
theorem sameP {A : Nat → Prop} {D : va_G} {cl : List vw_C} {big WS : va_W} {H H1 : Heap} {is : List Nat} (hP : va_P D cl big H) (hD : va_D A big) (hsel : is.map (fun i => big[i]?) = WS.map some)
    (hk : ∀ q : Nat, q < H.size → ¬ va_A WS H.size q → H1[q]? = H[q]?) (hP1 : va_P D cl WS H1) : va_P D cl big H1 := by
  intro k q hq
  by_cases hm : k ∈ is
  · obtain ⟨j, hj⟩ := List.getElem?_of_mem hm
    have h4 : (WS.map some)[j]? = some (some q) := by rw [← hsel, List.getElem?_map, hj]; show some big[k]? = _; rw [hq]
    rw [List.getElem?_map] at h4
    cases hw : WS[j]? with
    | none => rw [hw] at h4; cases h4
    | some q2 =>
      rw [hw] at h4
      have e2 : q2 = q := Option.some.inj (Option.some.inj h4)
      rw [e2] at hw
      exact hP1 j q hw
  · have hlt := (hP k q hq).lt
    refine (hP k q hq).kept (hk q.1 hlt fun hA => ?_)
    rcases hA with ⟨k2, e2, h3⟩ | h3
    · have h4 : (is.map (fun i => big[i]?))[k2]? = some (some (q.1, e2)) := by rw [hsel, List.getElem?_map, h3]; rfl
      rw [List.getElem?_map] at h4
      cases hi : is[k2]? with
      | none => rw [hi] at h4; cases h4
      | some i =>
        rw [hi] at h4
        have h5 := hD.1 k i q (q.1, e2) hq (Option.some.inj h4) rfl
        subst h5
        exact hm (List.mem_of_getElem? hi)
    · omega
theorem goIq (X : Cx p s m args meth c D cI cZ cc nL ret Ts own A) {a : Array Value} (hr : va_Run p l e R s m args below meth c H locs cells slots 0 0 (F0 m pc ls st0) rest (QI D WS r (va_A WS H.size) a) (va_A WS H.size)) (hP : va_P D vwCl big H) (hD : va_D A big) (hS : va_S A s.heap H locs) (is : List Nat) (hsel : is.map (fun i => big[i]?) = WS.map some)
    (kk : ∀ (H1 : Heap) (locs1 : List Loc), va_P D vwCl big H1 → va_D A big → va_S A s.heap H1 locs1 → W p l e R s m args below meth c H1 locs1 cells slots Q (F0 m (pc + 3) ls (.int r :: rest))) : W p l e R s m args below meth c H locs cells slots Q (F0 m pc ls st0) := by
  have hF := va_free (wc := WS) hD hS X.2.2.2.2.2 is hsel
  refine va_calli hr hS (fun q _ h => hF q h) hF (fun r1 u t H1 locs1 ht _ hw hB _ hk1 hS1 => ?_)
  have hw : r1 = r := hw
  subst hw
  rw [ht] at hB
  exact kk H1 locs1 (sameP hP hD hsel hk1 hB) hD hS1
theorem callVIq (X : Cx p s m args meth c D cI cZ cc nL ret Ts own A) (hC : CI l D cI cZ y ws rm (.ref b :: As) WS WS r) (cw : CallW R s args own C index y bytes maxL retC ws rm 0 0 n) (hP : va_P D vwCl big H) (hD : va_D A big) (hS : va_S A s.heap H locs) (hls : ls.size = nL)
    (q0 ci : Nat) {T : u_T} {N : Nat} {fs : List Value} (hc : vwCl[ci]? = some (C, T, N)) (hq : big[q0]? = some (b, .inr (ci, fs))) (is : List Nat) (hnd : va_nd is = true) (hsel : is.map (fun i => big[i]?) = WS.map some)
    (hn : As.length = n) (hst : st0 = As.reverse ++ .ref b :: rest) (hW : (rest.map fun v => v.category).sum ≤ 8) (hdg : decode cc pc = .ok (.invokevirtual index, 3)) (hf : cells ≤ R.cells ∧ slots ≤ R.slots)
    (kk : ∀ (H1 : Heap) (locs1 : List Loc), va_P D vwCl big H1 → va_D A big → va_S A s.heap H1 locs1 → W p l e R s m args below meth c H1 locs1 cells slots Q (F0 m (pc + 3) ls (.int r :: rest))) : W p l e R s m args below meth c H locs cells slots Q (F0 m pc ls st0) :=
  goIq X (va_runV (As := As) (rest := rest) X.1 (hC H.size) cw ⟨SP.blind, va_recv X.2.2.2.1 hP hc hq, preOf X.2.2.2.1 X.2.2.2.2.1 hP hD hsel hnd⟩ rfl hn hls hst (lv_room hW) hdg hf) hP hD hS is hsel kk
end LKIT
