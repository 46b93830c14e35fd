section
-- ===== PART A: goes FIRST, ahead of the names: the tables' words, and 'selects' of the private methods out of them =====
/-- a private method of a class that the tables say can be made, by its rows of tables_1 -/
def lw_okq (q : MethodName × Nat) : Prop := (q.1.cls ≠ "java/lang/invoke/MethodHandle" ∧ q.1.cls ≠ "java/lang/invoke/VarHandle") ∧ Cond.instantiable q.1.cls q.2 ∈ tables_1 ∧ Cond.privateMethod q.1 ∈ tables_1 ∧ Cond.instanceMethod q.1 ∈ tables_1
theorem lw_p0 : lw_okq (⟨"RingProtection", "faultOfEnds", "(II)I"⟩, 4) := ⟨⟨by decide +kernel, by decide +kernel⟩, List.mem_of_getElem? (i := 11) (by decide +kernel), List.mem_of_getElem? (i := 194) (by decide +kernel), List.mem_of_getElem? (i := 195) (by decide +kernel)⟩
theorem lw_p1 : lw_okq (⟨"RingProtection$Controller", "findCapacitiesDown", "()V"⟩, 14) := ⟨⟨by decide +kernel, by decide +kernel⟩, List.mem_of_getElem? (i := 48) (by decide +kernel), List.mem_of_getElem? (i := 298) (by decide +kernel), List.mem_of_getElem? (i := 299) (by decide +kernel)⟩
theorem lw_p2 : lw_okq (⟨"RingProtection$Controller", "takeDirectRequest", "(I)V"⟩, 14) := ⟨⟨by decide +kernel, by decide +kernel⟩, List.mem_of_getElem? (i := 48) (by decide +kernel), List.mem_of_getElem? (i := 307) (by decide +kernel), List.mem_of_getElem? (i := 308) (by decide +kernel)⟩
theorem lw_p3 : lw_okq (⟨"RingProtection$Controller", "requestOfFailures", "(I)I"⟩, 14) := ⟨⟨by decide +kernel, by decide +kernel⟩, List.mem_of_getElem? (i := 48) (by decide +kernel), List.mem_of_getElem? (i := 311) (by decide +kernel), List.mem_of_getElem? (i := 312) (by decide +kernel)⟩
theorem lw_p4 : lw_okq (⟨"RingProtection$Controller", "requestOfCommand", "(I)I"⟩, 14) := ⟨⟨by decide +kernel, by decide +kernel⟩, List.mem_of_getElem? (i := 48) (by decide +kernel), List.mem_of_getElem? (i := 315) (by decide +kernel), List.mem_of_getElem? (i := 316) (by decide +kernel)⟩
theorem lw_p5 : lw_okq (⟨"RingProtection$Controller", "startWaiting", "(I)V"⟩, 14) := ⟨⟨by decide +kernel, by decide +kernel⟩, List.mem_of_getElem? (i := 48) (by decide +kernel), List.mem_of_getElem? (i := 322) (by decide +kernel), List.mem_of_getElem? (i := 323) (by decide +kernel)⟩
theorem lw_p6 : lw_okq (⟨"RingProtection$Controller", "grantSwitches", "()V"⟩, 14) := ⟨⟨by decide +kernel, by decide +kernel⟩, List.mem_of_getElem? (i := 48) (by decide +kernel), List.mem_of_getElem? (i := 330) (by decide +kernel), List.mem_of_getElem? (i := 331) (by decide +kernel)⟩
theorem lw_p7 : lw_okq (⟨"RingProtection$Controller", "isLockedOut", "()Z"⟩, 14) := ⟨⟨by decide +kernel, by decide +kernel⟩, List.mem_of_getElem? (i := 48) (by decide +kernel), List.mem_of_getElem? (i := 334) (by decide +kernel), List.mem_of_getElem? (i := 335) (by decide +kernel)⟩
theorem lw_p8 : lw_okq (⟨"RingProtection$Controller", "grant", "(IIZ)V"⟩, 14) := ⟨⟨by decide +kernel, by decide +kernel⟩, List.mem_of_getElem? (i := 48) (by decide +kernel), List.mem_of_getElem? (i := 343) (by decide +kernel), List.mem_of_getElem? (i := 344) (by decide +kernel)⟩
theorem lw_p9 : lw_okq (⟨"RingProtection$Controller", "dropWaitsWithoutSwitch", "()V"⟩, 14) := ⟨⟨by decide +kernel, by decide +kernel⟩, List.mem_of_getElem? (i := 48) (by decide +kernel), List.mem_of_getElem? (i := 347) (by decide +kernel), List.mem_of_getElem? (i := 348) (by decide +kernel)⟩
theorem lw_p10 : lw_okq (⟨"RingProtection$Controller", "findSegments", "()V"⟩, 14) := ⟨⟨by decide +kernel, by decide +kernel⟩, List.mem_of_getElem? (i := 48) (by decide +kernel), List.mem_of_getElem? (i := 351) (by decide +kernel), List.mem_of_getElem? (i := 352) (by decide +kernel)⟩
theorem lw_p11 : lw_okq (⟨"RingProtection$Simulation", "stateOfExtra", "(I)I"⟩, 4) := ⟨⟨by decide +kernel, by decide +kernel⟩, List.mem_of_getElem? (i := 19) (by decide +kernel), List.mem_of_getElem? (i := 431) (by decide +kernel), List.mem_of_getElem? (i := 432) (by decide +kernel)⟩
theorem lw_p12 : lw_okq (⟨"RingProtection$Simulation", "stateOfNormal", "(I)I"⟩, 4) := ⟨⟨by decide +kernel, by decide +kernel⟩, List.mem_of_getElem? (i := 19) (by decide +kernel), List.mem_of_getElem? (i := 436) (by decide +kernel), List.mem_of_getElem? (i := 437) (by decide +kernel)⟩
theorem lw_p13 : lw_okq (⟨"RingProtection", "deliveredAfterCut", "(I)I"⟩, 4) := ⟨⟨by decide +kernel, by decide +kernel⟩, List.mem_of_getElem? (i := 11) (by decide +kernel), List.mem_of_getElem? (i := 502) (by decide +kernel), List.mem_of_getElem? (i := 503) (by decide +kernel)⟩
theorem lw_p14 : lw_okq (⟨"RingProtectionModel", "isNode", "(I)Z"⟩, 4) := ⟨⟨by decide +kernel, by decide +kernel⟩, List.mem_of_getElem? (i := 538) (by decide +kernel), List.mem_of_getElem? (i := 569) (by decide +kernel), List.mem_of_getElem? (i := 570) (by decide +kernel)⟩
theorem lw_p15 : lw_okq (⟨"RingProtectionModel", "freeNumber", "()I"⟩, 4) := ⟨⟨by decide +kernel, by decide +kernel⟩, List.mem_of_getElem? (i := 538) (by decide +kernel), List.mem_of_getElem? (i := 573) (by decide +kernel), List.mem_of_getElem? (i := 574) (by decide +kernel)⟩
def lw_privs_1 : List (MethodName × Nat) := [(⟨"RingProtection", "faultOfEnds", "(II)I"⟩, 4), (⟨"RingProtection$Controller", "findCapacitiesDown", "()V"⟩, 14), (⟨"RingProtection$Controller", "takeDirectRequest", "(I)V"⟩, 14), (⟨"RingProtection$Controller", "requestOfFailures", "(I)I"⟩, 14), (⟨"RingProtection$Controller", "requestOfCommand", "(I)I"⟩, 14), (⟨"RingProtection$Controller", "startWaiting", "(I)V"⟩, 14), (⟨"RingProtection$Controller", "grantSwitches", "()V"⟩, 14), (⟨"RingProtection$Controller", "isLockedOut", "()Z"⟩, 14), (⟨"RingProtection$Controller", "grant", "(IIZ)V"⟩, 14), (⟨"RingProtection$Controller", "dropWaitsWithoutSwitch", "()V"⟩, 14), (⟨"RingProtection$Controller", "findSegments", "()V"⟩, 14), (⟨"RingProtection$Simulation", "stateOfExtra", "(I)I"⟩, 4), (⟨"RingProtection$Simulation", "stateOfNormal", "(I)I"⟩, 4), (⟨"RingProtection", "deliveredAfterCut", "(I)I"⟩, 4), (⟨"RingProtectionModel", "isNode", "(I)Z"⟩, 4), (⟨"RingProtectionModel", "freeNumber", "()I"⟩, 4)]
theorem lw_r1 : ∀ q ∈ lw_privs_1, lw_okq q := List.forall_mem_cons.mpr ⟨lw_p0, List.forall_mem_cons.mpr ⟨lw_p1, List.forall_mem_cons.mpr ⟨lw_p2, List.forall_mem_cons.mpr ⟨lw_p3, List.forall_mem_cons.mpr ⟨lw_p4, List.forall_mem_cons.mpr ⟨lw_p5, List.forall_mem_cons.mpr ⟨lw_p6, List.forall_mem_cons.mpr ⟨lw_p7, List.forall_mem_cons.mpr ⟨lw_p8, List.forall_mem_cons.mpr ⟨lw_p9, List.forall_mem_cons.mpr ⟨lw_p10, List.forall_mem_cons.mpr ⟨lw_p11, List.forall_mem_cons.mpr ⟨lw_p12, List.forall_mem_cons.mpr ⟨lw_p13, List.forall_mem_cons.mpr ⟨lw_p14, List.forall_mem_cons.mpr ⟨lw_p15, fun _ h => absurd h List.not_mem_nil⟩⟩⟩⟩⟩⟩⟩⟩⟩⟩⟩⟩⟩⟩⟩⟩
theorem lw_p16 : lw_okq (⟨"RingProtectionModel", "isCircuit", "(I)Z"⟩, 4) := ⟨⟨by decide +kernel, by decide +kernel⟩, List.mem_of_getElem? (i := 538) (by decide +kernel), List.mem_of_getElem? (i := 577) (by decide +kernel), List.mem_of_getElem? (i := 578) (by decide +kernel)⟩
theorem lw_p17 : lw_okq (⟨"RingProtectionModel", "ofCircuit", "(II)I"⟩, 4) := ⟨⟨by decide +kernel, by decide +kernel⟩, List.mem_of_getElem? (i := 538) (by decide +kernel), List.mem_of_getElem? (i := 581) (by decide +kernel), List.mem_of_getElem? (i := 582) (by decide +kernel)⟩
theorem lw_p18 : lw_okq (⟨"RingProtectionModel", "isSlotFree", "(IIZIZ)Z"⟩, 4) := ⟨⟨by decide +kernel, by decide +kernel⟩, List.mem_of_getElem? (i := 538) (by decide +kernel), List.mem_of_getElem? (i := 585) (by decide +kernel), List.mem_of_getElem? (i := 586) (by decide +kernel)⟩
theorem lw_p19 : lw_okq (⟨"RingProtectionModel", "isOn", "(II)Z"⟩, 4) := ⟨⟨by decide +kernel, by decide +kernel⟩, List.mem_of_getElem? (i := 538) (by decide +kernel), List.mem_of_getElem? (i := 589) (by decide +kernel), List.mem_of_getElem? (i := 590) (by decide +kernel)⟩
theorem lw_p20 : lw_okq (⟨"RingProtectionModel", "passes", "(IIZI)Z"⟩, 4) := ⟨⟨by decide +kernel, by decide +kernel⟩, List.mem_of_getElem? (i := 538) (by decide +kernel), List.mem_of_getElem? (i := 593) (by decide +kernel), List.mem_of_getElem? (i := 594) (by decide +kernel)⟩
theorem lw_p21 : lw_okq (⟨"RingProtectionModel", "isSpan", "(I)Z"⟩, 4) := ⟨⟨by decide +kernel, by decide +kernel⟩, List.mem_of_getElem? (i := 538) (by decide +kernel), List.mem_of_getElem? (i := 614) (by decide +kernel), List.mem_of_getElem? (i := 615) (by decide +kernel)⟩
theorem lw_p22 : lw_okq (⟨"RingProtectionModel", "lengthOf", "(I)I"⟩, 4) := ⟨⟨by decide +kernel, by decide +kernel⟩, List.mem_of_getElem? (i := 538) (by decide +kernel), List.mem_of_getElem? (i := 622) (by decide +kernel), List.mem_of_getElem? (i := 623) (by decide +kernel)⟩
theorem lw_p23 : lw_okq (⟨"RingProtectionModel", "mark", "(IZ)I"⟩, 4) := ⟨⟨by decide +kernel, by decide +kernel⟩, List.mem_of_getElem? (i := 538) (by decide +kernel), List.mem_of_getElem? (i := 633) (by decide +kernel), List.mem_of_getElem? (i := 634) (by decide +kernel)⟩
theorem lw_p24 : lw_okq (⟨"RingProtectionModel", "set", "(II)I"⟩, 4) := ⟨⟨by decide +kernel, by decide +kernel⟩, List.mem_of_getElem? (i := 538) (by decide +kernel), List.mem_of_getElem? (i := 637) (by decide +kernel), List.mem_of_getElem? (i := 638) (by decide +kernel)⟩
theorem lw_p25 : lw_okq (⟨"RingProtectionModel", "control", "()V"⟩, 4) := ⟨⟨by decide +kernel, by decide +kernel⟩, List.mem_of_getElem? (i := 538) (by decide +kernel), List.mem_of_getElem? (i := 641) (by decide +kernel), List.mem_of_getElem? (i := 642) (by decide +kernel)⟩
theorem lw_p26 : lw_okq (⟨"RingProtectionModel", "compare", "(I)V"⟩, 4) := ⟨⟨by decide +kernel, by decide +kernel⟩, List.mem_of_getElem? (i := 538) (by decide +kernel), List.mem_of_getElem? (i := 645) (by decide +kernel), List.mem_of_getElem? (i := 646) (by decide +kernel)⟩
theorem lw_p27 : lw_okq (⟨"RingProtectionModel", "of", "(II)I"⟩, 4) := ⟨⟨by decide +kernel, by decide +kernel⟩, List.mem_of_getElem? (i := 538) (by decide +kernel), List.mem_of_getElem? (i := 649) (by decide +kernel), List.mem_of_getElem? (i := 650) (by decide +kernel)⟩
theorem lw_p28 : lw_okq (⟨"RingProtectionModel", "directOf", "(I)I"⟩, 4) := ⟨⟨by decide +kernel, by decide +kernel⟩, List.mem_of_getElem? (i := 538) (by decide +kernel), List.mem_of_getElem? (i := 653) (by decide +kernel), List.mem_of_getElem? (i := 654) (by decide +kernel)⟩
theorem lw_p29 : lw_okq (⟨"RingProtectionModel", "isDown", "(II)Z"⟩, 4) := ⟨⟨by decide +kernel, by decide +kernel⟩, List.mem_of_getElem? (i := 538) (by decide +kernel), List.mem_of_getElem? (i := 657) (by decide +kernel), List.mem_of_getElem? (i := 658) (by decide +kernel)⟩
theorem lw_p30 : lw_okq (⟨"RingProtectionModel", "next", "(I)I"⟩, 4) := ⟨⟨by decide +kernel, by decide +kernel⟩, List.mem_of_getElem? (i := 538) (by decide +kernel), List.mem_of_getElem? (i := 661) (by decide +kernel), List.mem_of_getElem? (i := 662) (by decide +kernel)⟩
theorem lw_p31 : lw_okq (⟨"RingProtectionModel", "requestOf", "(I)I"⟩, 4) := ⟨⟨by decide +kernel, by decide +kernel⟩, List.mem_of_getElem? (i := 538) (by decide +kernel), List.mem_of_getElem? (i := 665) (by decide +kernel), List.mem_of_getElem? (i := 666) (by decide +kernel)⟩
def lw_privs_2 : List (MethodName × Nat) := [(⟨"RingProtectionModel", "isCircuit", "(I)Z"⟩, 4), (⟨"RingProtectionModel", "ofCircuit", "(II)I"⟩, 4), (⟨"RingProtectionModel", "isSlotFree", "(IIZIZ)Z"⟩, 4), (⟨"RingProtectionModel", "isOn", "(II)Z"⟩, 4), (⟨"RingProtectionModel", "passes", "(IIZI)Z"⟩, 4), (⟨"RingProtectionModel", "isSpan", "(I)Z"⟩, 4), (⟨"RingProtectionModel", "lengthOf", "(I)I"⟩, 4), (⟨"RingProtectionModel", "mark", "(IZ)I"⟩, 4), (⟨"RingProtectionModel", "set", "(II)I"⟩, 4), (⟨"RingProtectionModel", "control", "()V"⟩, 4), (⟨"RingProtectionModel", "compare", "(I)V"⟩, 4), (⟨"RingProtectionModel", "of", "(II)I"⟩, 4), (⟨"RingProtectionModel", "directOf", "(I)I"⟩, 4), (⟨"RingProtectionModel", "isDown", "(II)Z"⟩, 4), (⟨"RingProtectionModel", "next", "(I)I"⟩, 4), (⟨"RingProtectionModel", "requestOf", "(I)I"⟩, 4)]
theorem lw_r2 : ∀ q ∈ lw_privs_2, lw_okq q := List.forall_mem_cons.mpr ⟨lw_p16, List.forall_mem_cons.mpr ⟨lw_p17, List.forall_mem_cons.mpr ⟨lw_p18, List.forall_mem_cons.mpr ⟨lw_p19, List.forall_mem_cons.mpr ⟨lw_p20, List.forall_mem_cons.mpr ⟨lw_p21, List.forall_mem_cons.mpr ⟨lw_p22, List.forall_mem_cons.mpr ⟨lw_p23, List.forall_mem_cons.mpr ⟨lw_p24, List.forall_mem_cons.mpr ⟨lw_p25, List.forall_mem_cons.mpr ⟨lw_p26, List.forall_mem_cons.mpr ⟨lw_p27, List.forall_mem_cons.mpr ⟨lw_p28, List.forall_mem_cons.mpr ⟨lw_p29, List.forall_mem_cons.mpr ⟨lw_p30, List.forall_mem_cons.mpr ⟨lw_p31, fun _ h => absurd h List.not_mem_nil⟩⟩⟩⟩⟩⟩⟩⟩⟩⟩⟩⟩⟩⟩⟩⟩
theorem lw_p32 : lw_okq (⟨"RingProtectionModel", "grantFor", "(I)I"⟩, 4) := ⟨⟨by decide +kernel, by decide +kernel⟩, List.mem_of_getElem? (i := 538) (by decide +kernel), List.mem_of_getElem? (i := 669) (by decide +kernel), List.mem_of_getElem? (i := 670) (by decide +kernel)⟩
theorem lw_p33 : lw_okq (⟨"RingProtectionModel", "someRequest", "(I)Z"⟩, 4) := ⟨⟨by decide +kernel, by decide +kernel⟩, List.mem_of_getElem? (i := 538) (by decide +kernel), List.mem_of_getElem? (i := 673) (by decide +kernel), List.mem_of_getElem? (i := 674) (by decide +kernel)⟩
theorem lw_p34 : lw_okq (⟨"RingProtectionModel", "someSwitch", "(I)Z"⟩, 4) := ⟨⟨by decide +kernel, by decide +kernel⟩, List.mem_of_getElem? (i := 538) (by decide +kernel), List.mem_of_getElem? (i := 677) (by decide +kernel), List.mem_of_getElem? (i := 678) (by decide +kernel)⟩
theorem lw_p35 : lw_okq (⟨"RingProtectionModel", "segmentOf", "(I)I"⟩, 4) := ⟨⟨by decide +kernel, by decide +kernel⟩, List.mem_of_getElem? (i := 538) (by decide +kernel), List.mem_of_getElem? (i := 724) (by decide +kernel), List.mem_of_getElem? (i := 725) (by decide +kernel)⟩
theorem lw_p36 : lw_okq (⟨"RingProtectionModel", "stateOf", "(I)I"⟩, 4) := ⟨⟨by decide +kernel, by decide +kernel⟩, List.mem_of_getElem? (i := 538) (by decide +kernel), List.mem_of_getElem? (i := 732) (by decide +kernel), List.mem_of_getElem? (i := 733) (by decide +kernel)⟩
theorem lw_p37 : lw_okq (⟨"RingProtectionModel", "extraState", "(I)I"⟩, 4) := ⟨⟨by decide +kernel, by decide +kernel⟩, List.mem_of_getElem? (i := 538) (by decide +kernel), List.mem_of_getElem? (i := 736) (by decide +kernel), List.mem_of_getElem? (i := 737) (by decide +kernel)⟩
theorem lw_p38 : lw_okq (⟨"RingProtectionModel", "hasSwitch", "(II)Z"⟩, 4) := ⟨⟨by decide +kernel, by decide +kernel⟩, List.mem_of_getElem? (i := 538) (by decide +kernel), List.mem_of_getElem? (i := 740) (by decide +kernel), List.mem_of_getElem? (i := 741) (by decide +kernel)⟩
theorem lw_p39 : lw_okq (⟨"RingProtectionModel", "normalState", "(I)I"⟩, 4) := ⟨⟨by decide +kernel, by decide +kernel⟩, List.mem_of_getElem? (i := 538) (by decide +kernel), List.mem_of_getElem? (i := 744) (by decide +kernel), List.mem_of_getElem? (i := 745) (by decide +kernel)⟩
theorem lw_p40 : lw_okq (⟨"RingProtectionModel", "isLost", "(I)Z"⟩, 4) := ⟨⟨by decide +kernel, by decide +kernel⟩, List.mem_of_getElem? (i := 538) (by decide +kernel), List.mem_of_getElem? (i := 748) (by decide +kernel), List.mem_of_getElem? (i := 749) (by decide +kernel)⟩
theorem lw_p41 : lw_okq (⟨"RingProtectionModel", "isInside", "(II)Z"⟩, 4) := ⟨⟨by decide +kernel, by decide +kernel⟩, List.mem_of_getElem? (i := 538) (by decide +kernel), List.mem_of_getElem? (i := 752) (by decide +kernel), List.mem_of_getElem? (i := 753) (by decide +kernel)⟩
theorem lw_p42 : lw_okq (⟨"RingProtectionModel", "isDelivered", "(I)Z"⟩, 4) := ⟨⟨by decide +kernel, by decide +kernel⟩, List.mem_of_getElem? (i := 538) (by decide +kernel), List.mem_of_getElem? (i := 764) (by decide +kernel), List.mem_of_getElem? (i := 765) (by decide +kernel)⟩
theorem lw_p43 : lw_okq (⟨"RingProtectionModel", "hopsOf", "(I)I"⟩, 4) := ⟨⟨by decide +kernel, by decide +kernel⟩, List.mem_of_getElem? (i := 538) (by decide +kernel), List.mem_of_getElem? (i := 772) (by decide +kernel), List.mem_of_getElem? (i := 773) (by decide +kernel)⟩
theorem lw_p44 : lw_okq (⟨"RingProtectionModel", "switchesAt", "(II)Z"⟩, 4) := ⟨⟨by decide +kernel, by decide +kernel⟩, List.mem_of_getElem? (i := 538) (by decide +kernel), List.mem_of_getElem? (i := 784) (by decide +kernel), List.mem_of_getElem? (i := 785) (by decide +kernel)⟩
theorem lw_p45 : lw_okq (⟨"RingProtectionModel", "ifCut", "(I)I"⟩, 4) := ⟨⟨by decide +kernel, by decide +kernel⟩, List.mem_of_getElem? (i := 538) (by decide +kernel), List.mem_of_getElem? (i := 792) (by decide +kernel), List.mem_of_getElem? (i := 793) (by decide +kernel)⟩
theorem lw_p46 : lw_okq (⟨"RingProtectionModel", "keep", "()V"⟩, 4) := ⟨⟨by decide +kernel, by decide +kernel⟩, List.mem_of_getElem? (i := 538) (by decide +kernel), List.mem_of_getElem? (i := 796) (by decide +kernel), List.mem_of_getElem? (i := 797) (by decide +kernel)⟩
theorem lw_p47 : lw_okq (⟨"RingProtectionModel", "deliveredAndBack", "()I"⟩, 4) := ⟨⟨by decide +kernel, by decide +kernel⟩, List.mem_of_getElem? (i := 538) (by decide +kernel), List.mem_of_getElem? (i := 800) (by decide +kernel), List.mem_of_getElem? (i := 801) (by decide +kernel)⟩
def lw_privs_3 : List (MethodName × Nat) := [(⟨"RingProtectionModel", "grantFor", "(I)I"⟩, 4), (⟨"RingProtectionModel", "someRequest", "(I)Z"⟩, 4), (⟨"RingProtectionModel", "someSwitch", "(I)Z"⟩, 4), (⟨"RingProtectionModel", "segmentOf", "(I)I"⟩, 4), (⟨"RingProtectionModel", "stateOf", "(I)I"⟩, 4), (⟨"RingProtectionModel", "extraState", "(I)I"⟩, 4), (⟨"RingProtectionModel", "hasSwitch", "(II)Z"⟩, 4), (⟨"RingProtectionModel", "normalState", "(I)I"⟩, 4), (⟨"RingProtectionModel", "isLost", "(I)Z"⟩, 4), (⟨"RingProtectionModel", "isInside", "(II)Z"⟩, 4), (⟨"RingProtectionModel", "isDelivered", "(I)Z"⟩, 4), (⟨"RingProtectionModel", "hopsOf", "(I)I"⟩, 4), (⟨"RingProtectionModel", "switchesAt", "(II)Z"⟩, 4), (⟨"RingProtectionModel", "ifCut", "(I)I"⟩, 4), (⟨"RingProtectionModel", "keep", "()V"⟩, 4), (⟨"RingProtectionModel", "deliveredAndBack", "()I"⟩, 4)]
theorem lw_r3 : ∀ q ∈ lw_privs_3, lw_okq q := List.forall_mem_cons.mpr ⟨lw_p32, List.forall_mem_cons.mpr ⟨lw_p33, List.forall_mem_cons.mpr ⟨lw_p34, List.forall_mem_cons.mpr ⟨lw_p35, List.forall_mem_cons.mpr ⟨lw_p36, List.forall_mem_cons.mpr ⟨lw_p37, List.forall_mem_cons.mpr ⟨lw_p38, List.forall_mem_cons.mpr ⟨lw_p39, List.forall_mem_cons.mpr ⟨lw_p40, List.forall_mem_cons.mpr ⟨lw_p41, List.forall_mem_cons.mpr ⟨lw_p42, List.forall_mem_cons.mpr ⟨lw_p43, List.forall_mem_cons.mpr ⟨lw_p44, List.forall_mem_cons.mpr ⟨lw_p45, List.forall_mem_cons.mpr ⟨lw_p46, List.forall_mem_cons.mpr ⟨lw_p47, fun _ h => absurd h List.not_mem_nil⟩⟩⟩⟩⟩⟩⟩⟩⟩⟩⟩⟩⟩⟩⟩⟩
def lw_privs : List (MethodName × Nat) := lw_privs_1 ++ (lw_privs_2 ++ (lw_privs_3))
def lw_tbl : List Cond := k2_sels lw_privs ++ tables_1
theorem lw_privs_ok : ∀ q ∈ lw_privs, lw_okq q := by
  show ∀ q ∈ lw_privs_1 ++ (lw_privs_2 ++ (lw_privs_3)), lw_okq q
  exact List.forall_mem_append.mpr ⟨lw_r1, List.forall_mem_append.mpr ⟨lw_r2, lw_r3⟩⟩
end
section
/-! ===== BEGIN words of one list among another's, by their places ===== -/
theorem goodIn_r {big : List Cond} (ws : List Cond) (ps : List Nat) (hp : ws = ps.filterMap (fun i => big[i]?)) (h : ws.all goodWord = true) : GoodIn big ws := by
  intro w hw
  have h1 := List.all_eq_true.mp h w hw
  rw [hp] at hw
  obtain ⟨i, -, hi⟩ := List.mem_filterMap.mp hw
  have hm : w ∈ big := by first | exact List.mem_of_getElem? hi | exact List.getElem?_mem hi
  exact ⟨hm, good_of_word h1⟩
theorem goodIn_app {big a b : List Cond} (ha : GoodIn big a) (hb : GoodIn big b) : GoodIn big (a ++ b) := fun w h => (List.mem_append.mp h).elim (ha w) (hb w)
theorem goodIn_ca {big a b : List Cond} {c : Cond} (ha : GoodIn big (c :: a)) (hb : GoodIn big b) : GoodIn big (c :: (a ++ b)) := fun w h => (List.mem_cons.mp h).elim (fun e => ha w (List.mem_cons.mpr (Or.inl e))) (fun h => (List.mem_append.mp h).elim (fun h => ha w (List.mem_cons.mpr (Or.inr h))) (hb w))
theorem goodIn_sub {big ws : List Cond} (hm : ∀ w ∈ ws, w ∈ big) (h : ws.all goodWord = true) : GoodIn big ws := fun w hw => ⟨hm w hw, good_of_word (List.all_eq_true.mp h w hw)⟩
/-! ===== END ===== -/

/-! ===== BEGIN printed: names, fields, word lists, decode rows ===== -/
def RX0 : String := "RingProtection$CircuitTable"
def TX0 : u_T := fun k => match k with
  | 0 => ("RingProtection$CircuitTable", "firstEnds", "[I", true)
  | 1 => ("RingProtection$CircuitTable", "secondEnds", "[I", true)
  | 2 => ("RingProtection$CircuitTable", "paths", "[I", true)
  | 3 => ("RingProtection$CircuitTable", "slots", "[I", true)
  | _ => ("RingProtection$CircuitTable", "extras", "I", false)
def tyX0 : Nat → FieldType := fun k => match k with
  | 0 => .array .int
  | 1 => .array .int
  | 2 => .array .int
  | 3 => .array .int
  | _ => .int
abbrev wsX00 : List Cond := u_ws RX0 TX0 5
theorem nmX0 : ∀ a, a < 5 → ∀ b, b < 5 → a ≠ b → (TX0 a).2.1 ≠ (TX0 b).2.1 := by decide +kernel
theorem tyX0_ok : ∀ k, k < 5 → parseFieldDescriptor (TX0 k).2.2.1 = some (tyX0 k) := by decide +kernel
abbrev cX0_init : ByteArray := prog_2_method_1_code
def yX0_init : MethodName := ⟨RX0, "<init>", "()V"⟩
abbrev cX0_has : ByteArray := prog_2_method_2_code
def yX0_has : MethodName := ⟨RX0, "has", "(I)Z"⟩
abbrev cX0_firstEndOf : ByteArray := prog_2_method_3_code
def yX0_firstEndOf : MethodName := ⟨RX0, "firstEndOf", "(I)I"⟩
abbrev cX0_secondEndOf : ByteArray := prog_2_method_4_code
def yX0_secondEndOf : MethodName := ⟨RX0, "secondEndOf", "(I)I"⟩
abbrev cX0_pathOf : ByteArray := prog_2_method_5_code
def yX0_pathOf : MethodName := ⟨RX0, "pathOf", "(I)I"⟩
abbrev cX0_isExtra : ByteArray := prog_2_method_6_code
def yX0_isExtra : MethodName := ⟨RX0, "isExtra", "(I)Z"⟩
abbrev cX0_count : ByteArray := prog_2_method_7_code
def yX0_count : MethodName := ⟨RX0, "count", "()I"⟩
abbrev cX0_smallestFreeNumber : ByteArray := prog_2_method_8_code
def yX0_smallestFreeNumber : MethodName := ⟨RX0, "smallestFreeNumber", "()I"⟩
abbrev cX0_crossing : ByteArray := prog_2_method_9_code
def yX0_crossing : MethodName := ⟨RX0, "crossing", "(I)I"⟩
abbrev cX0_slotsUsed : ByteArray := prog_2_method_10_code
def yX0_slotsUsed : MethodName := ⟨RX0, "slotsUsed", "(IZ)I"⟩
abbrev cX0_putEnds : ByteArray := prog_2_method_11_code
def yX0_putEnds : MethodName := ⟨RX0, "putEnds", "(III)V"⟩
abbrev cX0_putRoute : ByteArray := prog_2_method_12_code
def yX0_putRoute : MethodName := ⟨RX0, "putRoute", "(IIIZ)V"⟩
abbrev cX0_takeAway : ByteArray := prog_2_method_13_code
def yX0_takeAway : MethodName := ⟨RX0, "takeAway", "(I)V"⟩
abbrev cX0_takeAllAway : ByteArray := prog_2_method_14_code
def yX0_takeAllAway : MethodName := ⟨RX0, "takeAllAway", "()V"⟩
abbrev cX0_copyFrom : ByteArray := prog_2_method_15_code
def yX0_copyFrom : MethodName := ⟨RX0, "copyFrom", "(LRingProtection$CircuitTable;)V"⟩
def RX1 : String := "RingProtection$Controller"
def TX1 : u_T := fun k => match k with
  | 0 => ("RingProtection$Controller", "shape", "LRingProtection$Shape;", true)
  | 1 => ("RingProtection$Controller", "failedWorking", "I", false)
  | 2 => ("RingProtection$Controller", "failedProtection", "I", false)
  | 3 => ("RingProtection$Controller", "failedNodes", "I", false)
  | 4 => ("RingProtection$Controller", "commands", "[I", true)
  | 5 => ("RingProtection$Controller", "timers", "[I", true)
  | 6 => ("RingProtection$Controller", "heldRequests", "[I", true)
  | 7 => ("RingProtection$Controller", "restoreTime", "I", false)
  | 8 => ("RingProtection$Controller", "workingDown", "I", false)
  | 9 => ("RingProtection$Controller", "protectionDown", "I", false)
  | 10 => ("RingProtection$Controller", "directRequests", "[I", true)
  | 11 => ("RingProtection$Controller", "spanSwitched", "I", false)
  | 12 => ("RingProtection$Controller", "ringSwitched", "I", false)
  | _ => ("RingProtection$Controller", "segments", "[I", true)
def tyX1 : Nat → FieldType := fun k => match k with
  | 0 => .object "RingProtection$Shape"
  | 1 => .int
  | 2 => .int
  | 3 => .int
  | 4 => .array .int
  | 5 => .array .int
  | 6 => .array .int
  | 7 => .int
  | 8 => .int
  | 9 => .int
  | 10 => .array .int
  | 11 => .int
  | 12 => .int
  | _ => .array .int
abbrev wsX10 : List Cond := u_ws RX1 TX1 14
theorem nmX1 : ∀ a, a < 14 → ∀ b, b < 14 → a ≠ b → (TX1 a).2.1 ≠ (TX1 b).2.1 := by decide +kernel
theorem tyX1_ok : ∀ k, k < 14 → parseFieldDescriptor (TX1 k).2.2.1 = some (tyX1 k) := by decide +kernel
abbrev cX1_init : ByteArray := prog_3_method_1_code
def yX1_init : MethodName := ⟨RX1, "<init>", "()V"⟩
abbrev cX1_replaceCommand : ByteArray := prog_3_method_2_code
def yX1_replaceCommand : MethodName := ⟨RX1, "replaceCommand", "(II)I"⟩
abbrev cX1_timerAt : ByteArray := prog_3_method_3_code
def yX1_timerAt : MethodName := ⟨RX1, "timerAt", "(I)I"⟩
abbrev cX1_segmentOf : ByteArray := prog_3_method_4_code
def yX1_segmentOf : MethodName := ⟨RX1, "segmentOf", "(I)I"⟩
abbrev cX1_requestAt : ByteArray := prog_3_method_5_code
def yX1_requestAt : MethodName := ⟨RX1, "requestAt", "(I)I"⟩
abbrev cX1_switchAt : ByteArray := prog_3_method_6_code
def yX1_switchAt : MethodName := ⟨RX1, "switchAt", "(I)I"⟩
abbrev cX1_spansInside : ByteArray := prog_3_method_7_code
def yX1_spansInside : MethodName := ⟨RX1, "spansInside", "(I)I"⟩
abbrev cX1_countTimersDown : ByteArray := prog_3_method_8_code
def yX1_countTimersDown : MethodName := ⟨RX1, "countTimersDown", "()V"⟩
abbrev cX1_run : ByteArray := prog_3_method_9_code
def yX1_run : MethodName := ⟨RX1, "run", "()V"⟩
abbrev cX1_findCapacitiesDown : ByteArray := prog_3_method_10_code
def yX1_findCapacitiesDown : MethodName := ⟨RX1, "findCapacitiesDown", "()V"⟩
abbrev cX1_takeDirectRequest : ByteArray := prog_3_method_11_code
def yX1_takeDirectRequest : MethodName := ⟨RX1, "takeDirectRequest", "(I)V"⟩
abbrev cX1_requestOfFailures : ByteArray := prog_3_method_12_code
def yX1_requestOfFailures : MethodName := ⟨RX1, "requestOfFailures", "(I)I"⟩
abbrev cX1_requestOfCommand : ByteArray := prog_3_method_13_code
def yX1_requestOfCommand : MethodName := ⟨RX1, "requestOfCommand", "(I)I"⟩
abbrev cX1_startWaiting : ByteArray := prog_3_method_14_code
def yX1_startWaiting : MethodName := ⟨RX1, "startWaiting", "(I)V"⟩
abbrev cX1_grantSwitches : ByteArray := prog_3_method_15_code
def yX1_grantSwitches : MethodName := ⟨RX1, "grantSwitches", "()V"⟩
abbrev cX1_isLockedOut : ByteArray := prog_3_method_16_code
def yX1_isLockedOut : MethodName := ⟨RX1, "isLockedOut", "()Z"⟩
abbrev cX1_grant : ByteArray := prog_3_method_17_code
def yX1_grant : MethodName := ⟨RX1, "grant", "(IIZ)V"⟩
abbrev cX1_dropWaitsWithoutSwitch : ByteArray := prog_3_method_18_code
def yX1_dropWaitsWithoutSwitch : MethodName := ⟨RX1, "dropWaitsWithoutSwitch", "()V"⟩
abbrev cX1_findSegments : ByteArray := prog_3_method_19_code
def yX1_findSegments : MethodName := ⟨RX1, "findSegments", "()V"⟩
abbrev cX1_startAnew : ByteArray := prog_3_method_20_code
def yX1_startAnew : MethodName := ⟨RX1, "startAnew", "(II)V"⟩
abbrev cX1_copyFrom : ByteArray := prog_3_method_21_code
def yX1_copyFrom : MethodName := ⟨RX1, "copyFrom", "(LRingProtection$Controller;)V"⟩
def RX2 : String := "RingProtection$Shape"
def TX2 : u_T := fun k => match k with
  | 0 => ("RingProtection$Shape", "nodes", "I", false)
  | _ => ("RingProtection$Shape", "slots", "I", false)
def tyX2 : Nat → FieldType := fun k => match k with
  | 0 => .int
  | _ => .int
abbrev wsX20 : List Cond := u_ws RX2 TX2 2
theorem nmX2 : ∀ a, a < 2 → ∀ b, b < 2 → a ≠ b → (TX2 a).2.1 ≠ (TX2 b).2.1 := by decide +kernel
theorem tyX2_ok : ∀ k, k < 2 → parseFieldDescriptor (TX2 k).2.2.1 = some (tyX2 k) := by decide +kernel
abbrev cX2_init : ByteArray := prog_4_method_1_code
def yX2_init : MethodName := ⟨RX2, "<init>", "()V"⟩
abbrev cX2_hasNode : ByteArray := prog_4_method_2_code
def yX2_hasNode : MethodName := ⟨RX2, "hasNode", "(I)Z"⟩
abbrev cX2_hasSpan : ByteArray := prog_4_method_3_code
def yX2_hasSpan : MethodName := ⟨RX2, "hasSpan", "(I)Z"⟩
abbrev cX2_nodeAfter : ByteArray := prog_4_method_4_code
def yX2_nodeAfter : MethodName := ⟨RX2, "nodeAfter", "(I)I"⟩
abbrev cX2_spansAt : ByteArray := prog_4_method_5_code
def yX2_spansAt : MethodName := ⟨RX2, "spansAt", "(I)I"⟩
abbrev cX2_route : ByteArray := prog_4_method_6_code
def yX2_route : MethodName := ⟨RX2, "route", "(IIZ)I"⟩
def RX3 : String := "RingProtection$Simulation"
def TX3 : u_T := fun k => match k with
  | 0 => ("RingProtection$Simulation", "circuits", "LRingProtection$CircuitTable;", true)
  | 1 => ("RingProtection$Simulation", "controller", "LRingProtection$Controller;", true)
  | 2 => ("RingProtection$Simulation", "shape", "LRingProtection$Shape;", true)
  | _ => ("RingProtection$Simulation", "time", "I", false)
def tyX3 : Nat → FieldType := fun k => match k with
  | 0 => .object "RingProtection$CircuitTable"
  | 1 => .object "RingProtection$Controller"
  | 2 => .object "RingProtection$Shape"
  | _ => .int
abbrev wsX30 : List Cond := u_ws RX3 TX3 4
theorem nmX3 : ∀ a, a < 4 → ∀ b, b < 4 → a ≠ b → (TX3 a).2.1 ≠ (TX3 b).2.1 := by decide +kernel
theorem tyX3_ok : ∀ k, k < 4 → parseFieldDescriptor (TX3 k).2.2.1 = some (tyX3 k) := by decide +kernel
abbrev cX3_init : ByteArray := prog_5_method_1_code
def yX3_init : MethodName := ⟨RX3, "<init>", "()V"⟩
abbrev cX3_startAnew : ByteArray := prog_5_method_2_code
def yX3_startAnew : MethodName := ⟨RX3, "startAnew", "(II)V"⟩
abbrev cX3_copyFrom : ByteArray := prog_5_method_3_code
def yX3_copyFrom : MethodName := ⟨RX3, "copyFrom", "(LRingProtection$Simulation;)V"⟩
abbrev cX3_passSecond : ByteArray := prog_5_method_4_code
def yX3_passSecond : MethodName := ⟨RX3, "passSecond", "()V"⟩
abbrev cX3_stateOf : ByteArray := prog_5_method_5_code
def yX3_stateOf : MethodName := ⟨RX3, "stateOf", "(I)I"⟩
abbrev cX3_stateOfExtra : ByteArray := prog_5_method_6_code
def yX3_stateOfExtra : MethodName := ⟨RX3, "stateOfExtra", "(I)I"⟩
abbrev cX3_stateOfNormal : ByteArray := prog_5_method_7_code
def yX3_stateOfNormal : MethodName := ⟨RX3, "stateOfNormal", "(I)I"⟩
abbrev cX3_allInState : ByteArray := prog_5_method_8_code
def yX3_allInState : MethodName := ⟨RX3, "allInState", "(I)I"⟩
abbrev cX3_countDelivered : ByteArray := prog_5_method_9_code
def yX3_countDelivered : MethodName := ⟨RX3, "countDelivered", "()I"⟩
abbrev cX3_hopsOf : ByteArray := prog_5_method_10_code
def yX3_hopsOf : MethodName := ⟨RX3, "hopsOf", "(I)I"⟩
abbrev cX3_sumOfHops : ByteArray := prog_5_method_11_code
def yX3_sumOfHops : MethodName := ⟨RX3, "sumOfHops", "()I"⟩
def RX4 : String := "RingProtection$Snapshot"
def TX4 : u_T := fun k => match k with
  | 0 => ("RingProtection$Snapshot", "kept", "LRingProtection$Simulation;", true)
  | _ => ("RingProtection$Snapshot", "taken", "Z", false)
def tyX4 : Nat → FieldType := fun k => match k with
  | 0 => .object "RingProtection$Simulation"
  | _ => .boolean
abbrev wsX40 : List Cond := u_ws RX4 TX4 2
theorem nmX4 : ∀ a, a < 2 → ∀ b, b < 2 → a ≠ b → (TX4 a).2.1 ≠ (TX4 b).2.1 := by decide +kernel
theorem tyX4_ok : ∀ k, k < 2 → parseFieldDescriptor (TX4 k).2.2.1 = some (tyX4 k) := by decide +kernel
abbrev cX4_init : ByteArray := prog_6_method_1_code
def yX4_init : MethodName := ⟨RX4, "<init>", "()V"⟩
def RX5 : String := "RingProtection"
def TX5 : u_T := fun k => match k with
  | 0 => ("RingProtection", "current", "LRingProtection$Simulation;", true)
  | 1 => ("RingProtection", "trial", "LRingProtection$Simulation;", true)
  | 2 => ("RingProtection", "snapshot0", "LRingProtection$Snapshot;", true)
  | _ => ("RingProtection", "snapshot1", "LRingProtection$Snapshot;", true)
def tyX5 : Nat → FieldType := fun k => match k with
  | 0 => .object "RingProtection$Simulation"
  | 1 => .object "RingProtection$Simulation"
  | 2 => .object "RingProtection$Snapshot"
  | _ => .object "RingProtection$Snapshot"
abbrev wsX50 : List Cond := u_ws RX5 TX5 4
theorem nmX5 : ∀ a, a < 4 → ∀ b, b < 4 → a ≠ b → (TX5 a).2.1 ≠ (TX5 b).2.1 := by decide +kernel
theorem tyX5_ok : ∀ k, k < 4 → parseFieldDescriptor (TX5 k).2.2.1 = some (tyX5 k) := by decide +kernel
abbrev cX5_init : ByteArray := prog_1_method_1_code
def yX5_init : MethodName := ⟨RX5, "<init>", "()V"⟩
abbrev cX5_reset : ByteArray := prog_1_method_2_code
def yX5_reset : MethodName := ⟨RX5, "reset", "(II)I"⟩
abbrev cX5_addCircuit : ByteArray := prog_1_method_3_code
def yX5_addCircuit : MethodName := ⟨RX5, "addCircuit", "(IIZIZ)I"⟩
abbrev cX5_removeCircuit : ByteArray := prog_1_method_4_code
def yX5_removeCircuit : MethodName := ⟨RX5, "removeCircuit", "(I)I"⟩
abbrev cX5_circuitCount : ByteArray := prog_1_method_5_code
def yX5_circuitCount : MethodName := ⟨RX5, "circuitCount", "()I"⟩
abbrev cX5_freeSlot : ByteArray := prog_1_method_6_code
def yX5_freeSlot : MethodName := ⟨RX5, "freeSlot", "(IIZZ)I"⟩
abbrev cX5_circuitsOn : ByteArray := prog_1_method_7_code
def yX5_circuitsOn : MethodName := ⟨RX5, "circuitsOn", "(I)I"⟩
abbrev cX5_pathLength : ByteArray := prog_1_method_8_code
def yX5_pathLength : MethodName := ⟨RX5, "pathLength", "(I)I"⟩
abbrev cX5_failWorking : ByteArray := prog_1_method_9_code
def yX5_failWorking : MethodName := ⟨RX5, "failWorking", "(IZ)I"⟩
abbrev cX5_failProtection : ByteArray := prog_1_method_10_code
def yX5_failProtection : MethodName := ⟨RX5, "failProtection", "(IZ)I"⟩
abbrev cX5_failNode : ByteArray := prog_1_method_11_code
def yX5_failNode : MethodName := ⟨RX5, "failNode", "(IZ)I"⟩
abbrev cX5_command : ByteArray := prog_1_method_12_code
def yX5_command : MethodName := ⟨RX5, "command", "(II)I"⟩
abbrev cX5_setRestoreTime : ByteArray := prog_1_method_13_code
def yX5_setRestoreTime : MethodName := ⟨RX5, "setRestoreTime", "(I)I"⟩
abbrev cX5_advance : ByteArray := prog_1_method_14_code
def yX5_advance : MethodName := ⟨RX5, "advance", "(I)I"⟩
abbrev cX5_clock : ByteArray := prog_1_method_15_code
def yX5_clock : MethodName := ⟨RX5, "clock", "()I"⟩
abbrev cX5_request : ByteArray := prog_1_method_16_code
def yX5_request : MethodName := ⟨RX5, "request", "(I)I"⟩
abbrev cX5_switchOf : ByteArray := prog_1_method_17_code
def yX5_switchOf : MethodName := ⟨RX5, "switchOf", "(I)I"⟩
abbrev cX5_restoreTimer : ByteArray := prog_1_method_18_code
def yX5_restoreTimer : MethodName := ⟨RX5, "restoreTimer", "(I)I"⟩
abbrev cX5_segment : ByteArray := prog_1_method_19_code
def yX5_segment : MethodName := ⟨RX5, "segment", "(I)I"⟩
abbrev cX5_state : ByteArray := prog_1_method_20_code
def yX5_state : MethodName := ⟨RX5, "state", "(I)I"⟩
abbrev cX5_circuitsIn : ByteArray := prog_1_method_21_code
def yX5_circuitsIn : MethodName := ⟨RX5, "circuitsIn", "(I)I"⟩
abbrev cX5_deliveredCount : ByteArray := prog_1_method_22_code
def yX5_deliveredCount : MethodName := ⟨RX5, "deliveredCount", "()I"⟩
abbrev cX5_hops : ByteArray := prog_1_method_23_code
def yX5_hops : MethodName := ⟨RX5, "hops", "(I)I"⟩
abbrev cX5_averageHops : ByteArray := prog_1_method_24_code
def yX5_averageHops : MethodName := ⟨RX5, "averageHops", "()I"⟩
abbrev cX5_squelchedAt : ByteArray := prog_1_method_25_code
def yX5_squelchedAt : MethodName := ⟨RX5, "squelchedAt", "(I)I"⟩
abbrev cX5_deliveredIfCut : ByteArray := prog_1_method_26_code
def yX5_deliveredIfCut : MethodName := ⟨RX5, "deliveredIfCut", "(I)I"⟩
abbrev cX5_deliveredIfNodeFails : ByteArray := prog_1_method_27_code
def yX5_deliveredIfNodeFails : MethodName := ⟨RX5, "deliveredIfNodeFails", "(I)I"⟩
abbrev cX5_worstCut : ByteArray := prog_1_method_28_code
def yX5_worstCut : MethodName := ⟨RX5, "worstCut", "()I"⟩
abbrev cX5_save : ByteArray := prog_1_method_29_code
def yX5_save : MethodName := ⟨RX5, "save", "(I)I"⟩
abbrev cX5_restore : ByteArray := prog_1_method_30_code
def yX5_restore : MethodName := ⟨RX5, "restore", "(I)I"⟩
abbrev cX5_faultOfEnds : ByteArray := prog_1_method_31_code
def yX5_faultOfEnds : MethodName := ⟨RX5, "faultOfEnds", "(II)I"⟩
abbrev cX5_deliveredAfterCut : ByteArray := prog_1_method_32_code
def yX5_deliveredAfterCut : MethodName := ⟨RX5, "deliveredAfterCut", "(I)I"⟩
abbrev cX5_isCommand : ByteArray := prog_1_method_33_code
def yX5_isCommand : MethodName := ⟨RX5, "isCommand", "(I)Z"⟩
abbrev cX5_isDelivery : ByteArray := prog_1_method_34_code
def yX5_isDelivery : MethodName := ⟨RX5, "isDelivery", "(I)Z"⟩
abbrev cX5_contains : ByteArray := prog_1_method_35_code
def yX5_contains : MethodName := ⟨RX5, "contains", "(II)Z"⟩
abbrev cX5_marked : ByteArray := prog_1_method_36_code
def yX5_marked : MethodName := ⟨RX5, "marked", "(IIZ)I"⟩
abbrev cX5_copyRow : ByteArray := prog_1_method_37_code
def yX5_copyRow : MethodName := ⟨RX5, "copyRow", "([I[I)V"⟩
abbrev cX5_clearRow : ByteArray := prog_1_method_38_code
def yX5_clearRow : MethodName := ⟨RX5, "clearRow", "([I)V"⟩
def RX6 : String := "RingProtectionModel"
def TX6 : u_T := fun k => match k with
  | 0 => ("RingProtectionModel", "state", "[I", true)
  | 1 => ("RingProtectionModel", "before", "[I", true)
  | 2 => ("RingProtectionModel", "slots", "[I", true)
  | _ => ("RingProtectionModel", "isSaved", "[Z", true)
def tyX6 : Nat → FieldType := fun k => match k with
  | 0 => .array .int
  | 1 => .array .int
  | 2 => .array .int
  | _ => .array .boolean
abbrev wsX60 : List Cond := u_ws RX6 TX6 4
theorem nmX6 : ∀ a, a < 4 → ∀ b, b < 4 → a ≠ b → (TX6 a).2.1 ≠ (TX6 b).2.1 := by decide +kernel
theorem tyX6_ok : ∀ k, k < 4 → parseFieldDescriptor (TX6 k).2.2.1 = some (tyX6 k) := by decide +kernel
abbrev cX6_init : ByteArray := prog_8_method_1_code
def yX6_init : MethodName := ⟨RX6, "<init>", "()V"⟩
abbrev cX6_in : ByteArray := prog_8_method_2_code
def yX6_in : MethodName := ⟨RX6, "in", "(III)Z"⟩
abbrev cX6_isNode : ByteArray := prog_8_method_3_code
def yX6_isNode : MethodName := ⟨RX6, "isNode", "(I)Z"⟩
abbrev cX6_isSpan : ByteArray := prog_8_method_4_code
def yX6_isSpan : MethodName := ⟨RX6, "isSpan", "(I)Z"⟩
abbrev cX6_next : ByteArray := prog_8_method_5_code
def yX6_next : MethodName := ⟨RX6, "next", "(I)I"⟩
abbrev cX6_at : ByteArray := prog_8_method_6_code
def yX6_at : MethodName := ⟨RX6, "at", "(II)I"⟩
abbrev cX6_of : ByteArray := prog_8_method_7_code
def yX6_of : MethodName := ⟨RX6, "of", "(II)I"⟩
abbrev cX6_ofCircuit : ByteArray := prog_8_method_8_code
def yX6_ofCircuit : MethodName := ⟨RX6, "ofCircuit", "(II)I"⟩
abbrev cX6_isCircuit : ByteArray := prog_8_method_9_code
def yX6_isCircuit : MethodName := ⟨RX6, "isCircuit", "(I)Z"⟩
abbrev cX6_set : ByteArray := prog_8_method_10_code
def yX6_set : MethodName := ⟨RX6, "set", "(II)I"⟩
abbrev cX6_reset : ByteArray := prog_8_method_11_code
def yX6_reset : MethodName := ⟨RX6, "reset", "(II)I"⟩
abbrev cX6_passes : ByteArray := prog_8_method_12_code
def yX6_passes : MethodName := ⟨RX6, "passes", "(IIZI)Z"⟩
abbrev cX6_isOn : ByteArray := prog_8_method_13_code
def yX6_isOn : MethodName := ⟨RX6, "isOn", "(II)Z"⟩
abbrev cX6_isSlotFree : ByteArray := prog_8_method_14_code
def yX6_isSlotFree : MethodName := ⟨RX6, "isSlotFree", "(IIZIZ)Z"⟩
abbrev cX6_freeNumber : ByteArray := prog_8_method_15_code
def yX6_freeNumber : MethodName := ⟨RX6, "freeNumber", "()I"⟩
abbrev cX6_addCircuit : ByteArray := prog_8_method_16_code
def yX6_addCircuit : MethodName := ⟨RX6, "addCircuit", "(IIZIZ)I"⟩
abbrev cX6_circuitCount : ByteArray := prog_8_method_17_code
def yX6_circuitCount : MethodName := ⟨RX6, "circuitCount", "()I"⟩
abbrev cX6_removeCircuit : ByteArray := prog_8_method_18_code
def yX6_removeCircuit : MethodName := ⟨RX6, "removeCircuit", "(I)I"⟩
abbrev cX6_freeSlot : ByteArray := prog_8_method_19_code
def yX6_freeSlot : MethodName := ⟨RX6, "freeSlot", "(IIZZ)I"⟩
abbrev cX6_circuitsOn : ByteArray := prog_8_method_20_code
def yX6_circuitsOn : MethodName := ⟨RX6, "circuitsOn", "(I)I"⟩
abbrev cX6_lengthOf : ByteArray := prog_8_method_21_code
def yX6_lengthOf : MethodName := ⟨RX6, "lengthOf", "(I)I"⟩
abbrev cX6_pathLength : ByteArray := prog_8_method_22_code
def yX6_pathLength : MethodName := ⟨RX6, "pathLength", "(I)I"⟩
abbrev cX6_isDown : ByteArray := prog_8_method_23_code
def yX6_isDown : MethodName := ⟨RX6, "isDown", "(II)Z"⟩
abbrev cX6_directOf : ByteArray := prog_8_method_24_code
def yX6_directOf : MethodName := ⟨RX6, "directOf", "(I)I"⟩
abbrev cX6_requestOf : ByteArray := prog_8_method_25_code
def yX6_requestOf : MethodName := ⟨RX6, "requestOf", "(I)I"⟩
abbrev cX6_compare : ByteArray := prog_8_method_26_code
def yX6_compare : MethodName := ⟨RX6, "compare", "(I)V"⟩
abbrev cX6_someRequest : ByteArray := prog_8_method_27_code
def yX6_someRequest : MethodName := ⟨RX6, "someRequest", "(I)Z"⟩
abbrev cX6_someSwitch : ByteArray := prog_8_method_28_code
def yX6_someSwitch : MethodName := ⟨RX6, "someSwitch", "(I)Z"⟩
abbrev cX6_grantFor : ByteArray := prog_8_method_29_code
def yX6_grantFor : MethodName := ⟨RX6, "grantFor", "(I)I"⟩
abbrev cX6_control : ByteArray := prog_8_method_30_code
def yX6_control : MethodName := ⟨RX6, "control", "()V"⟩
abbrev cX6_mark : ByteArray := prog_8_method_31_code
def yX6_mark : MethodName := ⟨RX6, "mark", "(IZ)I"⟩
abbrev cX6_failWorking : ByteArray := prog_8_method_32_code
def yX6_failWorking : MethodName := ⟨RX6, "failWorking", "(IZ)I"⟩
abbrev cX6_failProtection : ByteArray := prog_8_method_33_code
def yX6_failProtection : MethodName := ⟨RX6, "failProtection", "(IZ)I"⟩
abbrev cX6_failNode : ByteArray := prog_8_method_34_code
def yX6_failNode : MethodName := ⟨RX6, "failNode", "(IZ)I"⟩
abbrev cX6_isCommand : ByteArray := prog_8_method_35_code
def yX6_isCommand : MethodName := ⟨RX6, "isCommand", "(I)Z"⟩
abbrev cX6_command : ByteArray := prog_8_method_36_code
def yX6_command : MethodName := ⟨RX6, "command", "(II)I"⟩
abbrev cX6_setRestoreTime : ByteArray := prog_8_method_37_code
def yX6_setRestoreTime : MethodName := ⟨RX6, "setRestoreTime", "(I)I"⟩
abbrev cX6_advance : ByteArray := prog_8_method_38_code
def yX6_advance : MethodName := ⟨RX6, "advance", "(I)I"⟩
abbrev cX6_clock : ByteArray := prog_8_method_39_code
def yX6_clock : MethodName := ⟨RX6, "clock", "()I"⟩
abbrev cX6_request : ByteArray := prog_8_method_40_code
def yX6_request : MethodName := ⟨RX6, "request", "(I)I"⟩
abbrev cX6_switchOf : ByteArray := prog_8_method_41_code
def yX6_switchOf : MethodName := ⟨RX6, "switchOf", "(I)I"⟩
abbrev cX6_restoreTimer : ByteArray := prog_8_method_42_code
def yX6_restoreTimer : MethodName := ⟨RX6, "restoreTimer", "(I)I"⟩
abbrev cX6_segmentOf : ByteArray := prog_8_method_43_code
def yX6_segmentOf : MethodName := ⟨RX6, "segmentOf", "(I)I"⟩
abbrev cX6_segment : ByteArray := prog_8_method_44_code
def yX6_segment : MethodName := ⟨RX6, "segment", "(I)I"⟩
abbrev cX6_hasSwitch : ByteArray := prog_8_method_45_code
def yX6_hasSwitch : MethodName := ⟨RX6, "hasSwitch", "(II)Z"⟩
abbrev cX6_isInside : ByteArray := prog_8_method_46_code
def yX6_isInside : MethodName := ⟨RX6, "isInside", "(II)Z"⟩
abbrev cX6_isLost : ByteArray := prog_8_method_47_code
def yX6_isLost : MethodName := ⟨RX6, "isLost", "(I)Z"⟩
abbrev cX6_normalState : ByteArray := prog_8_method_48_code
def yX6_normalState : MethodName := ⟨RX6, "normalState", "(I)I"⟩
abbrev cX6_extraState : ByteArray := prog_8_method_49_code
def yX6_extraState : MethodName := ⟨RX6, "extraState", "(I)I"⟩
abbrev cX6_stateOf : ByteArray := prog_8_method_50_code
def yX6_stateOf : MethodName := ⟨RX6, "stateOf", "(I)I"⟩
abbrev cX6_state : ByteArray := prog_8_method_51_code
def yX6_state : MethodName := ⟨RX6, "state", "(I)I"⟩
abbrev cX6_circuitsIn : ByteArray := prog_8_method_52_code
def yX6_circuitsIn : MethodName := ⟨RX6, "circuitsIn", "(I)I"⟩
abbrev cX6_isDelivered : ByteArray := prog_8_method_53_code
def yX6_isDelivered : MethodName := ⟨RX6, "isDelivered", "(I)Z"⟩
abbrev cX6_deliveredCount : ByteArray := prog_8_method_54_code
def yX6_deliveredCount : MethodName := ⟨RX6, "deliveredCount", "()I"⟩
abbrev cX6_hopsOf : ByteArray := prog_8_method_55_code
def yX6_hopsOf : MethodName := ⟨RX6, "hopsOf", "(I)I"⟩
abbrev cX6_hops : ByteArray := prog_8_method_56_code
def yX6_hops : MethodName := ⟨RX6, "hops", "(I)I"⟩
abbrev cX6_averageHops : ByteArray := prog_8_method_57_code
def yX6_averageHops : MethodName := ⟨RX6, "averageHops", "()I"⟩
abbrev cX6_switchesAt : ByteArray := prog_8_method_58_code
def yX6_switchesAt : MethodName := ⟨RX6, "switchesAt", "(II)Z"⟩
abbrev cX6_squelchedAt : ByteArray := prog_8_method_59_code
def yX6_squelchedAt : MethodName := ⟨RX6, "squelchedAt", "(I)I"⟩
abbrev cX6_keep : ByteArray := prog_8_method_60_code
def yX6_keep : MethodName := ⟨RX6, "keep", "()V"⟩
abbrev cX6_deliveredAndBack : ByteArray := prog_8_method_61_code
def yX6_deliveredAndBack : MethodName := ⟨RX6, "deliveredAndBack", "()I"⟩
abbrev cX6_ifCut : ByteArray := prog_8_method_62_code
def yX6_ifCut : MethodName := ⟨RX6, "ifCut", "(I)I"⟩
abbrev cX6_deliveredIfCut : ByteArray := prog_8_method_63_code
def yX6_deliveredIfCut : MethodName := ⟨RX6, "deliveredIfCut", "(I)I"⟩
abbrev cX6_deliveredIfNodeFails : ByteArray := prog_8_method_64_code
def yX6_deliveredIfNodeFails : MethodName := ⟨RX6, "deliveredIfNodeFails", "(I)I"⟩
abbrev cX6_worstCut : ByteArray := prog_8_method_65_code
def yX6_worstCut : MethodName := ⟨RX6, "worstCut", "()I"⟩
abbrev cX6_save : ByteArray := prog_8_method_66_code
def yX6_save : MethodName := ⟨RX6, "save", "(I)I"⟩
abbrev cX6_restore : ByteArray := prog_8_method_67_code
def yX6_restore : MethodName := ⟨RX6, "restore", "(I)I"⟩
def RJ6 : String := "java/lang/Integer"
def TJ6 : u_T := fun k => match k with
  | _ => ("", "", "", false)
def tyJ6 : Nat → FieldType := fun k => match k with
  | _ => .int
abbrev wsJ60 : List Cond := u_ws RJ6 TJ6 0
theorem nmJ6 : ∀ a, a < 0 → ∀ b, b < 0 → a ≠ b → (TJ6 a).2.1 ≠ (TJ6 b).2.1 := by decide +kernel
theorem tyJ6_ok : ∀ k, k < 0 → parseFieldDescriptor (TJ6 k).2.2.1 = some (tyJ6 k) := by decide +kernel
abbrev cJ6_bitCount_0f7a4 : ByteArray := prog_9_method_49_code
def yJ6_bitCount_0f7a4 : MethodName := ⟨RJ6, "bitCount", "(I)I"⟩
def RJ9 : String := "java/lang/Math"
def TJ9 : u_T := fun k => match k with
  | _ => ("", "", "", false)
def tyJ9 : Nat → FieldType := fun k => match k with
  | _ => .int
abbrev wsJ90 : List Cond := u_ws RJ9 TJ9 0
theorem nmJ9 : ∀ a, a < 0 → ∀ b, b < 0 → a ≠ b → (TJ9 a).2.1 ≠ (TJ9 b).2.1 := by decide +kernel
theorem tyJ9_ok : ∀ k, k < 0 → parseFieldDescriptor (TJ9 k).2.2.1 = some (tyJ9 k) := by decide +kernel
abbrev cJ9_max_7cf53 : ByteArray := prog_10_method_65_code
def yJ9_max_7cf53 : MethodName := ⟨RJ9, "max", "(II)I"⟩
def RL : String := "RingProtectionLaw"
abbrev cL_law : ByteArray := code
def yL_law : MethodName := ⟨RL, "law", "([I)Z"⟩
def wsX0_init : List Cond := .code yX0_init cX0_init 1 none :: ([.methodLink RX0 3 objectInit, .instanceMethod objectInit, .code objectInit ⟨#[0xb1]⟩ 1 none, .arrayClass .int, .fieldLink RX0 9 "RingProtection$CircuitTable" "firstEnds" "[I", .fieldLink RX0 15 "RingProtection$CircuitTable" "secondEnds" "[I", .fieldLink RX0 18 "RingProtection$CircuitTable" "paths" "[I", .fieldLink RX0 21 "RingProtection$CircuitTable" "slots" "[I"] ++ wsX00)
def wsX0_has : List Cond := .code yX0_has cX0_has 2 (some .boolean) :: ([.fieldLink RX0 18 "RingProtection$CircuitTable" "paths" "[I"] ++ wsX00)
def wsX0_firstEndOf : List Cond := .code yX0_firstEndOf cX0_firstEndOf 2 (some .int) :: ([.fieldLink RX0 9 "RingProtection$CircuitTable" "firstEnds" "[I", .methodLink RX0 24 yX0_has, .instanceMethod yX0_has, .selects RX0 yX0_has yX0_has, .initialized RX0, .code yX0_has cX0_has 2 (some .boolean), .fieldLink RX0 18 "RingProtection$CircuitTable" "paths" "[I"] ++ wsX00)
def wsX0_secondEndOf : List Cond := .code yX0_secondEndOf cX0_secondEndOf 2 (some .int) :: ([.fieldLink RX0 15 "RingProtection$CircuitTable" "secondEnds" "[I", .methodLink RX0 24 yX0_has, .instanceMethod yX0_has, .selects RX0 yX0_has yX0_has, .initialized RX0, .code yX0_has cX0_has 2 (some .boolean), .fieldLink RX0 18 "RingProtection$CircuitTable" "paths" "[I"] ++ wsX00)
def wsX0_pathOf : List Cond := .code yX0_pathOf cX0_pathOf 2 (some .int) :: ([.fieldLink RX0 18 "RingProtection$CircuitTable" "paths" "[I", .methodLink RX0 24 yX0_has, .instanceMethod yX0_has, .selects RX0 yX0_has yX0_has, .initialized RX0, .code yX0_has cX0_has 2 (some .boolean)] ++ wsX00)
def wsX5_contains : List Cond := .code yX5_contains cX5_contains 2 (some .boolean) :: ([])
def wsX0_isExtra : List Cond := .code yX0_isExtra cX0_isExtra 2 (some .boolean) :: ([.fieldLink RX0 28 "RingProtection$CircuitTable" "extras" "I", .static yX5_contains, .initialized RX5, .code yX5_contains cX5_contains 2 (some .boolean)] ++ wsX00)
def wsX0_count : List Cond := .code yX0_count cX0_count 3 (some .int) :: ([.methodLink RX0 24 yX0_has, .instanceMethod yX0_has, .selects RX0 yX0_has yX0_has, .initialized RX0, .code yX0_has cX0_has 2 (some .boolean), .fieldLink RX0 18 "RingProtection$CircuitTable" "paths" "[I"] ++ wsX00)
def wsX0_smallestFreeNumber : List Cond := .code yX0_smallestFreeNumber cX0_smallestFreeNumber 2 (some .int) :: ([.methodLink RX0 24 yX0_has, .instanceMethod yX0_has, .selects RX0 yX0_has yX0_has, .initialized RX0, .code yX0_has cX0_has 2 (some .boolean), .fieldLink RX0 18 "RingProtection$CircuitTable" "paths" "[I"] ++ wsX00)
def wsX0_crossing : List Cond := .code yX0_crossing cX0_crossing 4 (some .int) :: ([.fieldLink RX0 18 "RingProtection$CircuitTable" "paths" "[I"] ++ wsX00)
def wsX0_slotsUsed : List Cond := .code yX0_slotsUsed cX0_slotsUsed 5 (some .int) :: ([.fieldLink RX0 18 "RingProtection$CircuitTable" "paths" "[I", .fieldLink RX0 21 "RingProtection$CircuitTable" "slots" "[I", .methodLink RX0 36 yX0_isExtra, .instanceMethod yX0_isExtra, .selects RX0 yX0_isExtra yX0_isExtra, .initialized RX0, .code yX0_isExtra cX0_isExtra 2 (some .boolean), .fieldLink RX0 28 "RingProtection$CircuitTable" "extras" "I", .static yX5_contains, .initialized RX5, .code yX5_contains cX5_contains 2 (some .boolean)] ++ wsX00)
def wsX0_putEnds : List Cond := .code yX0_putEnds cX0_putEnds 4 none :: ([.fieldLink RX0 9 "RingProtection$CircuitTable" "firstEnds" "[I", .fieldLink RX0 15 "RingProtection$CircuitTable" "secondEnds" "[I"] ++ wsX00)
def wsX5_marked : List Cond := .code yX5_marked cX5_marked 3 (some .int) :: ([])
def wsX0_putRoute : List Cond := .code yX0_putRoute cX0_putRoute 5 none :: ([.fieldLink RX0 18 "RingProtection$CircuitTable" "paths" "[I", .fieldLink RX0 21 "RingProtection$CircuitTable" "slots" "[I", .fieldLink RX0 28 "RingProtection$CircuitTable" "extras" "I", .static yX5_marked, .initialized RX5, .code yX5_marked cX5_marked 3 (some .int)] ++ wsX00)
def wsX0_takeAway : List Cond := .code yX0_takeAway cX0_takeAway 2 none :: ([.methodLink RX0 43 yX0_putRoute, .instanceMethod yX0_putRoute, .selects RX0 yX0_putRoute yX0_putRoute, .initialized RX0, .code yX0_putRoute cX0_putRoute 5 none, .fieldLink RX0 18 "RingProtection$CircuitTable" "paths" "[I", .fieldLink RX0 21 "RingProtection$CircuitTable" "slots" "[I", .fieldLink RX0 28 "RingProtection$CircuitTable" "extras" "I", .static yX5_marked, .initialized RX5, .code yX5_marked cX5_marked 3 (some .int)] ++ wsX00)
def wsX5_clearRow : List Cond := .code yX5_clearRow cX5_clearRow 2 none :: ([])
def wsX0_takeAllAway : List Cond := .code yX0_takeAllAway cX0_takeAllAway 1 none :: ([.fieldLink RX0 18 "RingProtection$CircuitTable" "paths" "[I", .fieldLink RX0 28 "RingProtection$CircuitTable" "extras" "I", .static yX5_clearRow, .initialized RX5, .code yX5_clearRow cX5_clearRow 2 none] ++ wsX00)
def wsX5_copyRow : List Cond := .code yX5_copyRow cX5_copyRow 3 none :: ([])
def wsX0_copyFrom : List Cond := .code yX0_copyFrom cX0_copyFrom 2 none :: ([.fieldLink RX0 9 "RingProtection$CircuitTable" "firstEnds" "[I", .fieldLink RX0 15 "RingProtection$CircuitTable" "secondEnds" "[I", .fieldLink RX0 18 "RingProtection$CircuitTable" "paths" "[I", .fieldLink RX0 21 "RingProtection$CircuitTable" "slots" "[I", .fieldLink RX0 28 "RingProtection$CircuitTable" "extras" "I", .static yX5_copyRow, .initialized RX5, .code yX5_copyRow cX5_copyRow 3 none] ++ wsX00)
def wsX2_init : List Cond := .code yX2_init cX2_init 1 none :: ([.methodLink RX2 3 objectInit, .instanceMethod objectInit, .code objectInit ⟨#[0xb1]⟩ 1 none, .fieldLink RX2 9 "RingProtection$Shape" "nodes" "I", .fieldLink RX2 15 "RingProtection$Shape" "slots" "I"] ++ wsX20)
def wsX1_init : List Cond := .code yX1_init cX1_init 1 none :: ([.methodLink RX1 3 objectInit, .instanceMethod objectInit, .code objectInit ⟨#[0xb1]⟩ 1 none, .classLink RX1 9 RX2, .instantiable RX2 2, .initialized RX2, .fieldLink RX1 12 "RingProtection$Controller" "shape" "LRingProtection$Shape;", .arrayClass .int, .fieldLink RX1 18 "RingProtection$Controller" "commands" "[I", .fieldLink RX1 22 "RingProtection$Controller" "timers" "[I", .fieldLink RX1 25 "RingProtection$Controller" "heldRequests" "[I", .fieldLink RX1 28 "RingProtection$Controller" "restoreTime" "I", .fieldLink RX1 32 "RingProtection$Controller" "directRequests" "[I", .fieldLink RX1 35 "RingProtection$Controller" "segments" "[I", .instanceMethod yX2_init, .code yX2_init cX2_init 1 none, .methodLink RX2 3 objectInit, .fieldLink RX2 9 "RingProtection$Shape" "nodes" "I", .fieldLink RX2 15 "RingProtection$Shape" "slots" "I"] ++ wsX20 ++ wsX10)
def wsX2_hasSpan : List Cond := .code yX2_hasSpan cX2_hasSpan 2 (some .boolean) :: ([.fieldLink RX2 9 "RingProtection$Shape" "nodes" "I"] ++ wsX20)
def wsX1_replaceCommand : List Cond := .code yX1_replaceCommand cX1_replaceCommand 4 (some .int) :: ([.fieldLink RX1 12 "RingProtection$Controller" "shape" "LRingProtection$Shape;", .fieldLink RX1 18 "RingProtection$Controller" "commands" "[I", .methodLink RX1 38 yX2_hasSpan, .instanceMethod yX2_hasSpan, .selects RX2 yX2_hasSpan yX2_hasSpan, .initialized RX2, .code yX2_hasSpan cX2_hasSpan 2 (some .boolean), .fieldLink RX2 9 "RingProtection$Shape" "nodes" "I"] ++ wsX10 ++ wsX20)
def wsX1_timerAt : List Cond := .code yX1_timerAt cX1_timerAt 2 (some .int) :: ([.fieldLink RX1 12 "RingProtection$Controller" "shape" "LRingProtection$Shape;", .fieldLink RX1 22 "RingProtection$Controller" "timers" "[I", .methodLink RX1 38 yX2_hasSpan, .instanceMethod yX2_hasSpan, .selects RX2 yX2_hasSpan yX2_hasSpan, .initialized RX2, .code yX2_hasSpan cX2_hasSpan 2 (some .boolean), .fieldLink RX2 9 "RingProtection$Shape" "nodes" "I"] ++ wsX10 ++ wsX20)
def wsX2_hasNode : List Cond := .code yX2_hasNode cX2_hasNode 2 (some .boolean) :: ([.fieldLink RX2 9 "RingProtection$Shape" "nodes" "I"] ++ wsX20)
def wsX1_segmentOf : List Cond := .code yX1_segmentOf cX1_segmentOf 2 (some .int) :: ([.fieldLink RX1 12 "RingProtection$Controller" "shape" "LRingProtection$Shape;", .fieldLink RX1 35 "RingProtection$Controller" "segments" "[I", .methodLink RX1 42 yX2_hasNode, .instanceMethod yX2_hasNode, .selects RX2 yX2_hasNode yX2_hasNode, .initialized RX2, .code yX2_hasNode cX2_hasNode 2 (some .boolean), .fieldLink RX2 9 "RingProtection$Shape" "nodes" "I"] ++ wsX10 ++ wsX20)
def wsX1_requestAt : List Cond := .code yX1_requestAt cX1_requestAt 3 (some .int) :: ([.fieldLink RX1 12 "RingProtection$Controller" "shape" "LRingProtection$Shape;", .fieldLink RX1 32 "RingProtection$Controller" "directRequests" "[I", .fieldLink RX1 22 "RingProtection$Controller" "timers" "[I", .fieldLink RX1 25 "RingProtection$Controller" "heldRequests" "[I", .methodLink RX1 38 yX2_hasSpan, .instanceMethod yX2_hasSpan, .selects RX2 yX2_hasSpan yX2_hasSpan, .initialized RX2, .code yX2_hasSpan cX2_hasSpan 2 (some .boolean), .fieldLink RX2 9 "RingProtection$Shape" "nodes" "I"] ++ wsX10 ++ wsX20)
def wsX1_switchAt : List Cond := .code yX1_switchAt cX1_switchAt 2 (some .int) :: ([.fieldLink RX1 45 "RingProtection$Controller" "ringSwitched" "I", .fieldLink RX1 52 "RingProtection$Controller" "spanSwitched" "I", .static yX5_contains, .initialized RX5, .code yX5_contains cX5_contains 2 (some .boolean)] ++ wsX10)
def wsX2_nodeAfter : List Cond := .code yX2_nodeAfter cX2_nodeAfter 2 (some .int) :: ([.fieldLink RX2 9 "RingProtection$Shape" "nodes" "I"] ++ wsX20)
def wsX1_spansInside : List Cond := .code yX1_spansInside cX1_spansInside 5 (some .int) :: ([.fieldLink RX1 12 "RingProtection$Controller" "shape" "LRingProtection$Shape;", .fieldLink RX1 35 "RingProtection$Controller" "segments" "[I", .methodLink RX1 58 yX2_nodeAfter, .instanceMethod yX2_nodeAfter, .selects RX2 yX2_nodeAfter yX2_nodeAfter, .initialized RX2, .code yX2_nodeAfter cX2_nodeAfter 2 (some .int), .fieldLink RX2 9 "RingProtection$Shape" "nodes" "I"] ++ wsX10 ++ wsX20)
def wsX1_countTimersDown : List Cond := .code yX1_countTimersDown cX1_countTimersDown 2 none :: ([.fieldLink RX1 12 "RingProtection$Controller" "shape" "LRingProtection$Shape;", .fieldLink RX1 22 "RingProtection$Controller" "timers" "[I"] ++ wsX10 ++ wsX20)
def wsX2_spansAt : List Cond := .code yX2_spansAt cX2_spansAt 3 (some .int) :: ([.fieldLink RX2 9 "RingProtection$Shape" "nodes" "I"] ++ wsX20)
def wsX1_findCapacitiesDown : List Cond := .code yX1_findCapacitiesDown cX1_findCapacitiesDown 3 none :: ([.fieldLink RX1 12 "RingProtection$Controller" "shape" "LRingProtection$Shape;", .fieldLink RX1 78 "RingProtection$Controller" "failedNodes" "I", .fieldLink RX1 84 "RingProtection$Controller" "failedWorking" "I", .fieldLink RX1 87 "RingProtection$Controller" "workingDown" "I", .fieldLink RX1 90 "RingProtection$Controller" "failedProtection" "I", .fieldLink RX1 93 "RingProtection$Controller" "protectionDown" "I", .static yX5_contains, .initialized RX5, .code yX5_contains cX5_contains 2 (some .boolean), .methodLink RX1 81 yX2_spansAt, .instanceMethod yX2_spansAt, .selects RX2 yX2_spansAt yX2_spansAt, .initialized RX2, .code yX2_spansAt cX2_spansAt 3 (some .int), .fieldLink RX2 9 "RingProtection$Shape" "nodes" "I"] ++ wsX10 ++ wsX20)
def wsX1_requestOfFailures : List Cond := .code yX1_requestOfFailures cX1_requestOfFailures 3 (some .int) :: ([.fieldLink RX1 87 "RingProtection$Controller" "workingDown" "I", .fieldLink RX1 93 "RingProtection$Controller" "protectionDown" "I", .static yX5_contains, .initialized RX5, .code yX5_contains cX5_contains 2 (some .boolean)] ++ wsX10)
def wsX1_requestOfCommand : List Cond := .code yX1_requestOfCommand cX1_requestOfCommand 4 (some .int) :: ([.fieldLink RX1 18 "RingProtection$Controller" "commands" "[I", .fieldLink RX1 93 "RingProtection$Controller" "protectionDown" "I", .static yX5_contains, .initialized RX5, .code yX5_contains cX5_contains 2 (some .boolean)] ++ wsX10)
def wsX1_startWaiting : List Cond := .code yX1_startWaiting cX1_startWaiting 3 none :: ([.fieldLink RX1 22 "RingProtection$Controller" "timers" "[I", .fieldLink RX1 28 "RingProtection$Controller" "restoreTime" "I", .fieldLink RX1 25 "RingProtection$Controller" "heldRequests" "[I", .methodLink RX1 111 yX1_switchAt, .instanceMethod yX1_switchAt, .selects RX1 yX1_switchAt yX1_switchAt, .initialized RX1, .code yX1_switchAt cX1_switchAt 2 (some .int), .fieldLink RX1 45 "RingProtection$Controller" "ringSwitched" "I", .fieldLink RX1 52 "RingProtection$Controller" "spanSwitched" "I", .static yX5_contains, .initialized RX5, .code yX5_contains cX5_contains 2 (some .boolean)] ++ wsX10)
def wsX1_takeDirectRequest_r1 : List Cond := [Cond.methodLink RX1 102 Lib.Math.max.name, Cond.static Lib.Math.max.name, Cond.initialized "java/lang/Math", Cond.code Lib.Math.max.name Lib.Math.max.code 2 (some .int), Cond.fieldLink RX1 32 "RingProtection$Controller" "directRequests" "[I", Cond.fieldLink RX1 22 "RingProtection$Controller" "timers" "[I", Cond.fieldLink RX1 28 "RingProtection$Controller" "restoreTime" "I", Cond.methodLink RX1 96 yX1_requestOfFailures, Cond.instanceMethod yX1_requestOfFailures, Cond.selects RX1 yX1_requestOfFailures yX1_requestOfFailures, Cond.initialized RX1, Cond.code yX1_requestOfFailures cX1_requestOfFailures 3 (some .int), Cond.fieldLink RX1 87 "RingProtection$Controller" "workingDown" "I", Cond.fieldLink RX1 93 "RingProtection$Controller" "protectionDown" "I", Cond.static yX5_contains, Cond.initialized RX5, Cond.code yX5_contains cX5_contains 2 (some .boolean), Cond.methodLink RX1 99 yX1_requestOfCommand, Cond.instanceMethod yX1_requestOfCommand, Cond.selects RX1 yX1_requestOfCommand yX1_requestOfCommand, Cond.code yX1_requestOfCommand cX1_requestOfCommand 4 (some .int), Cond.fieldLink RX1 18 "RingProtection$Controller" "commands" "[I", Cond.methodLink RX1 108 yX1_startWaiting, Cond.instanceMethod yX1_startWaiting]
def wsX1_takeDirectRequest_r2 : List Cond := [Cond.selects RX1 yX1_startWaiting yX1_startWaiting, Cond.code yX1_startWaiting cX1_startWaiting 3 none, Cond.fieldLink RX1 25 "RingProtection$Controller" "heldRequests" "[I", Cond.methodLink RX1 111 yX1_switchAt, Cond.instanceMethod yX1_switchAt, Cond.selects RX1 yX1_switchAt yX1_switchAt, Cond.code yX1_switchAt cX1_switchAt 2 (some .int), Cond.fieldLink RX1 45 "RingProtection$Controller" "ringSwitched" "I", Cond.fieldLink RX1 52 "RingProtection$Controller" "spanSwitched" "I"]
def wsX1_takeDirectRequest : List Cond := .code yX1_takeDirectRequest cX1_takeDirectRequest 4 none :: ((wsX1_takeDirectRequest_r1 ++ wsX1_takeDirectRequest_r2) ++ wsX10)
def wsX1_isLockedOut : List Cond := .code yX1_isLockedOut cX1_isLockedOut 2 (some .boolean) :: ([.fieldLink RX1 12 "RingProtection$Controller" "shape" "LRingProtection$Shape;", .methodLink RX1 118 yX1_requestAt, .instanceMethod yX1_requestAt, .selects RX1 yX1_requestAt yX1_requestAt, .initialized RX1, .code yX1_requestAt cX1_requestAt 3 (some .int), .fieldLink RX1 32 "RingProtection$Controller" "directRequests" "[I", .fieldLink RX1 22 "RingProtection$Controller" "timers" "[I", .fieldLink RX1 25 "RingProtection$Controller" "heldRequests" "[I", .methodLink RX1 38 yX2_hasSpan, .instanceMethod yX2_hasSpan, .selects RX2 yX2_hasSpan yX2_hasSpan, .initialized RX2, .code yX2_hasSpan cX2_hasSpan 2 (some .boolean), .fieldLink RX2 9 "RingProtection$Shape" "nodes" "I"] ++ wsX10 ++ wsX20)
def wsX1_grant : List Cond := .code yX1_grant cX1_grant 4 none :: ([.fieldLink RX1 52 "RingProtection$Controller" "spanSwitched" "I", .fieldLink RX1 45 "RingProtection$Controller" "ringSwitched" "I"] ++ wsX10)
def wsX1_grantSwitches_r1 : List Cond := [Cond.fieldLink RX1 52 "RingProtection$Controller" "spanSwitched" "I", Cond.fieldLink RX1 45 "RingProtection$Controller" "ringSwitched" "I", Cond.fieldLink RX1 12 "RingProtection$Controller" "shape" "LRingProtection$Shape;", Cond.methodLink RX1 114 yX1_isLockedOut, Cond.instanceMethod yX1_isLockedOut, Cond.selects RX1 yX1_isLockedOut yX1_isLockedOut, Cond.initialized RX1, Cond.code yX1_isLockedOut cX1_isLockedOut 2 (some .boolean), Cond.methodLink RX1 118 yX1_requestAt, Cond.instanceMethod yX1_requestAt, Cond.selects RX1 yX1_requestAt yX1_requestAt, Cond.code yX1_requestAt cX1_requestAt 3 (some .int), Cond.fieldLink RX1 32 "RingProtection$Controller" "directRequests" "[I", Cond.fieldLink RX1 22 "RingProtection$Controller" "timers" "[I", Cond.fieldLink RX1 25 "RingProtection$Controller" "heldRequests" "[I", Cond.methodLink RX1 38 yX2_hasSpan, Cond.instanceMethod yX2_hasSpan, Cond.selects RX2 yX2_hasSpan yX2_hasSpan, Cond.initialized RX2, Cond.code yX2_hasSpan cX2_hasSpan 2 (some .boolean), Cond.fieldLink RX2 9 "RingProtection$Shape" "nodes" "I", Cond.methodLink RX1 121 yX1_grant, Cond.instanceMethod yX1_grant, Cond.selects RX1 yX1_grant yX1_grant]
def wsX1_grantSwitches_r2 : List Cond := [Cond.code yX1_grant cX1_grant 4 none]
def wsX1_grantSwitches : List Cond := .code yX1_grantSwitches cX1_grantSwitches 4 none :: ((wsX1_grantSwitches_r1 ++ wsX1_grantSwitches_r2) ++ wsX10 ++ wsX20)
def wsX1_dropWaitsWithoutSwitch : List Cond := .code yX1_dropWaitsWithoutSwitch cX1_dropWaitsWithoutSwitch 4 none :: ([.fieldLink RX1 12 "RingProtection$Controller" "shape" "LRingProtection$Shape;", .fieldLink RX1 22 "RingProtection$Controller" "timers" "[I", .methodLink RX1 118 yX1_requestAt, .instanceMethod yX1_requestAt, .selects RX1 yX1_requestAt yX1_requestAt, .initialized RX1, .code yX1_requestAt cX1_requestAt 3 (some .int), .fieldLink RX1 32 "RingProtection$Controller" "directRequests" "[I", .fieldLink RX1 25 "RingProtection$Controller" "heldRequests" "[I", .methodLink RX1 38 yX2_hasSpan, .instanceMethod yX2_hasSpan, .selects RX2 yX2_hasSpan yX2_hasSpan, .initialized RX2, .code yX2_hasSpan cX2_hasSpan 2 (some .boolean), .fieldLink RX2 9 "RingProtection$Shape" "nodes" "I", .methodLink RX1 111 yX1_switchAt, .instanceMethod yX1_switchAt, .selects RX1 yX1_switchAt yX1_switchAt, .code yX1_switchAt cX1_switchAt 2 (some .int), .fieldLink RX1 45 "RingProtection$Controller" "ringSwitched" "I", .fieldLink RX1 52 "RingProtection$Controller" "spanSwitched" "I", .static yX5_contains, .initialized RX5, .code yX5_contains cX5_contains 2 (some .boolean)] ++ wsX10 ++ wsX20)
def wsX1_findSegments : List Cond := .code yX1_findSegments cX1_findSegments 3 none :: ([.fieldLink RX1 12 "RingProtection$Controller" "shape" "LRingProtection$Shape;", .fieldLink RX1 45 "RingProtection$Controller" "ringSwitched" "I", .fieldLink RX1 35 "RingProtection$Controller" "segments" "[I", .static yX5_contains, .initialized RX5, .code yX5_contains cX5_contains 2 (some .boolean)] ++ wsX10 ++ wsX20)
def wsX1_run_r1 : List Cond := [Cond.fieldLink RX1 12 "RingProtection$Controller" "shape" "LRingProtection$Shape;", Cond.methodLink RX1 62 yX1_findCapacitiesDown, Cond.instanceMethod yX1_findCapacitiesDown, Cond.selects RX1 yX1_findCapacitiesDown yX1_findCapacitiesDown, Cond.initialized RX1, Cond.code yX1_findCapacitiesDown cX1_findCapacitiesDown 3 none, Cond.fieldLink RX1 78 "RingProtection$Controller" "failedNodes" "I", Cond.fieldLink RX1 84 "RingProtection$Controller" "failedWorking" "I", Cond.fieldLink RX1 87 "RingProtection$Controller" "workingDown" "I", Cond.fieldLink RX1 90 "RingProtection$Controller" "failedProtection" "I", Cond.fieldLink RX1 93 "RingProtection$Controller" "protectionDown" "I", Cond.static yX5_contains, Cond.initialized RX5, Cond.code yX5_contains cX5_contains 2 (some .boolean), Cond.methodLink RX1 81 yX2_spansAt, Cond.instanceMethod yX2_spansAt, Cond.selects RX2 yX2_spansAt yX2_spansAt, Cond.initialized RX2, Cond.code yX2_spansAt cX2_spansAt 3 (some .int), Cond.fieldLink RX2 9 "RingProtection$Shape" "nodes" "I", Cond.methodLink RX1 65 yX1_takeDirectRequest, Cond.instanceMethod yX1_takeDirectRequest, Cond.selects RX1 yX1_takeDirectRequest yX1_takeDirectRequest, Cond.code yX1_takeDirectRequest cX1_takeDirectRequest 4 none]
def wsX1_run_r2 : List Cond := [Cond.methodLink RX1 102 Lib.Math.max.name, Cond.static Lib.Math.max.name, Cond.initialized "java/lang/Math", Cond.code Lib.Math.max.name Lib.Math.max.code 2 (some .int), Cond.fieldLink RX1 32 "RingProtection$Controller" "directRequests" "[I", Cond.fieldLink RX1 22 "RingProtection$Controller" "timers" "[I", Cond.fieldLink RX1 28 "RingProtection$Controller" "restoreTime" "I", Cond.methodLink RX1 96 yX1_requestOfFailures, Cond.instanceMethod yX1_requestOfFailures, Cond.selects RX1 yX1_requestOfFailures yX1_requestOfFailures, Cond.code yX1_requestOfFailures cX1_requestOfFailures 3 (some .int), Cond.methodLink RX1 99 yX1_requestOfCommand, Cond.instanceMethod yX1_requestOfCommand, Cond.selects RX1 yX1_requestOfCommand yX1_requestOfCommand, Cond.code yX1_requestOfCommand cX1_requestOfCommand 4 (some .int), Cond.fieldLink RX1 18 "RingProtection$Controller" "commands" "[I", Cond.methodLink RX1 108 yX1_startWaiting, Cond.instanceMethod yX1_startWaiting, Cond.selects RX1 yX1_startWaiting yX1_startWaiting, Cond.code yX1_startWaiting cX1_startWaiting 3 none, Cond.fieldLink RX1 25 "RingProtection$Controller" "heldRequests" "[I", Cond.methodLink RX1 111 yX1_switchAt, Cond.instanceMethod yX1_switchAt, Cond.selects RX1 yX1_switchAt yX1_switchAt]
def wsX1_run_r3 : List Cond := [Cond.code yX1_switchAt cX1_switchAt 2 (some .int), Cond.fieldLink RX1 45 "RingProtection$Controller" "ringSwitched" "I", Cond.fieldLink RX1 52 "RingProtection$Controller" "spanSwitched" "I", Cond.methodLink RX1 69 yX1_grantSwitches, Cond.instanceMethod yX1_grantSwitches, Cond.selects RX1 yX1_grantSwitches yX1_grantSwitches, Cond.code yX1_grantSwitches cX1_grantSwitches 4 none, Cond.methodLink RX1 114 yX1_isLockedOut, Cond.instanceMethod yX1_isLockedOut, Cond.selects RX1 yX1_isLockedOut yX1_isLockedOut, Cond.code yX1_isLockedOut cX1_isLockedOut 2 (some .boolean), Cond.methodLink RX1 118 yX1_requestAt, Cond.instanceMethod yX1_requestAt, Cond.selects RX1 yX1_requestAt yX1_requestAt, Cond.code yX1_requestAt cX1_requestAt 3 (some .int), Cond.methodLink RX1 38 yX2_hasSpan, Cond.instanceMethod yX2_hasSpan, Cond.selects RX2 yX2_hasSpan yX2_hasSpan, Cond.code yX2_hasSpan cX2_hasSpan 2 (some .boolean), Cond.methodLink RX1 121 yX1_grant, Cond.instanceMethod yX1_grant, Cond.selects RX1 yX1_grant yX1_grant, Cond.code yX1_grant cX1_grant 4 none, Cond.methodLink RX1 72 yX1_dropWaitsWithoutSwitch]
def wsX1_run_r4 : List Cond := [Cond.instanceMethod yX1_dropWaitsWithoutSwitch, Cond.selects RX1 yX1_dropWaitsWithoutSwitch yX1_dropWaitsWithoutSwitch, Cond.code yX1_dropWaitsWithoutSwitch cX1_dropWaitsWithoutSwitch 4 none, Cond.methodLink RX1 75 yX1_findSegments, Cond.instanceMethod yX1_findSegments, Cond.selects RX1 yX1_findSegments yX1_findSegments, Cond.code yX1_findSegments cX1_findSegments 3 none, Cond.fieldLink RX1 35 "RingProtection$Controller" "segments" "[I"]
def wsX1_run : List Cond := .code yX1_run cX1_run 2 none :: ((wsX1_run_r1 ++ (wsX1_run_r2 ++ (wsX1_run_r3 ++ wsX1_run_r4))) ++ wsX10 ++ wsX20)
def wsX1_startAnew : List Cond := .code yX1_startAnew cX1_startAnew 3 none :: ([.fieldLink RX1 12 "RingProtection$Controller" "shape" "LRingProtection$Shape;", .fieldLink RX1 84 "RingProtection$Controller" "failedWorking" "I", .fieldLink RX1 90 "RingProtection$Controller" "failedProtection" "I", .fieldLink RX1 78 "RingProtection$Controller" "failedNodes" "I", .fieldLink RX1 87 "RingProtection$Controller" "workingDown" "I", .fieldLink RX1 93 "RingProtection$Controller" "protectionDown" "I", .fieldLink RX1 52 "RingProtection$Controller" "spanSwitched" "I", .fieldLink RX1 45 "RingProtection$Controller" "ringSwitched" "I", .fieldLink RX1 18 "RingProtection$Controller" "commands" "[I", .fieldLink RX1 22 "RingProtection$Controller" "timers" "[I", .fieldLink RX1 32 "RingProtection$Controller" "directRequests" "[I", .fieldLink RX1 35 "RingProtection$Controller" "segments" "[I", .static yX5_clearRow, .initialized RX5, .code yX5_clearRow cX5_clearRow 2 none] ++ wsX10 ++ wsX20)
def wsX1_copyFrom : List Cond := .code yX1_copyFrom cX1_copyFrom 2 none :: ([.fieldLink RX1 12 "RingProtection$Controller" "shape" "LRingProtection$Shape;", .fieldLink RX1 84 "RingProtection$Controller" "failedWorking" "I", .fieldLink RX1 90 "RingProtection$Controller" "failedProtection" "I", .fieldLink RX1 78 "RingProtection$Controller" "failedNodes" "I", .fieldLink RX1 28 "RingProtection$Controller" "restoreTime" "I", .fieldLink RX1 87 "RingProtection$Controller" "workingDown" "I", .fieldLink RX1 93 "RingProtection$Controller" "protectionDown" "I", .fieldLink RX1 52 "RingProtection$Controller" "spanSwitched" "I", .fieldLink RX1 45 "RingProtection$Controller" "ringSwitched" "I", .fieldLink RX1 18 "RingProtection$Controller" "commands" "[I", .fieldLink RX1 22 "RingProtection$Controller" "timers" "[I", .fieldLink RX1 25 "RingProtection$Controller" "heldRequests" "[I", .fieldLink RX1 32 "RingProtection$Controller" "directRequests" "[I", .fieldLink RX1 35 "RingProtection$Controller" "segments" "[I", .static yX5_copyRow, .initialized RX5, .code yX5_copyRow cX5_copyRow 3 none] ++ wsX10 ++ wsX20)
def wsX2_route : List Cond := .code yX2_route cX2_route 7 (some .int) :: ([.fieldLink RX2 9 "RingProtection$Shape" "nodes" "I", .methodLink RX2 18 yX2_nodeAfter, .instanceMethod yX2_nodeAfter, .selects RX2 yX2_nodeAfter yX2_nodeAfter, .initialized RX2, .code yX2_nodeAfter cX2_nodeAfter 2 (some .int)] ++ wsX20)
def wsX3_init_r1 : List Cond := [Cond.methodLink RX3 3 objectInit, Cond.instanceMethod objectInit, Cond.code objectInit ⟨#[0xb1]⟩ 1 none, Cond.classLink RX3 9 RX0, Cond.instantiable RX0 5, Cond.initialized RX0, Cond.fieldLink RX3 12 "RingProtection$Simulation" "circuits" "LRingProtection$CircuitTable;", Cond.classLink RX3 18 RX1, Cond.instantiable RX1 14, Cond.initialized RX1, Cond.fieldLink RX3 21 "RingProtection$Simulation" "controller" "LRingProtection$Controller;", Cond.fieldLink RX3 29 "RingProtection$Simulation" "shape" "LRingProtection$Shape;", Cond.instanceMethod yX0_init, Cond.code yX0_init cX0_init 1 none, Cond.methodLink RX0 3 objectInit, Cond.arrayClass .int, Cond.fieldLink RX0 9 "RingProtection$CircuitTable" "firstEnds" "[I", Cond.fieldLink RX0 15 "RingProtection$CircuitTable" "secondEnds" "[I", Cond.fieldLink RX0 18 "RingProtection$CircuitTable" "paths" "[I", Cond.fieldLink RX0 21 "RingProtection$CircuitTable" "slots" "[I", Cond.instanceMethod yX1_init, Cond.code yX1_init cX1_init 1 none, Cond.methodLink RX1 3 objectInit, Cond.classLink RX1 9 RX2]
def wsX3_init_r2 : List Cond := [Cond.instantiable RX2 2, Cond.initialized RX2, Cond.fieldLink RX1 12 "RingProtection$Controller" "shape" "LRingProtection$Shape;", Cond.fieldLink RX1 18 "RingProtection$Controller" "commands" "[I", Cond.fieldLink RX1 22 "RingProtection$Controller" "timers" "[I", Cond.fieldLink RX1 25 "RingProtection$Controller" "heldRequests" "[I", Cond.fieldLink RX1 28 "RingProtection$Controller" "restoreTime" "I", Cond.fieldLink RX1 32 "RingProtection$Controller" "directRequests" "[I", Cond.fieldLink RX1 35 "RingProtection$Controller" "segments" "[I", Cond.instanceMethod yX2_init, Cond.code yX2_init cX2_init 1 none, Cond.methodLink RX2 3 objectInit, Cond.fieldLink RX2 9 "RingProtection$Shape" "nodes" "I", Cond.fieldLink RX2 15 "RingProtection$Shape" "slots" "I"]
def wsX3_init : List Cond := .code yX3_init cX3_init 1 none :: ((wsX3_init_r1 ++ wsX3_init_r2) ++ wsX00 ++ wsX30 ++ wsX10 ++ wsX20)
def wsX3_startAnew_r1 : List Cond := [Cond.fieldLink RX3 12 "RingProtection$Simulation" "circuits" "LRingProtection$CircuitTable;", Cond.fieldLink RX3 21 "RingProtection$Simulation" "controller" "LRingProtection$Controller;", Cond.fieldLink RX3 37 "RingProtection$Simulation" "time" "I", Cond.methodLink RX3 30 yX0_takeAllAway, Cond.instanceMethod yX0_takeAllAway, Cond.selects RX0 yX0_takeAllAway yX0_takeAllAway, Cond.initialized RX0, Cond.code yX0_takeAllAway cX0_takeAllAway 1 none, Cond.fieldLink RX0 18 "RingProtection$CircuitTable" "paths" "[I", Cond.fieldLink RX0 28 "RingProtection$CircuitTable" "extras" "I", Cond.static yX5_clearRow, Cond.initialized RX5, Cond.code yX5_clearRow cX5_clearRow 2 none, Cond.methodLink RX3 33 yX1_startAnew, Cond.instanceMethod yX1_startAnew, Cond.selects RX1 yX1_startAnew yX1_startAnew, Cond.initialized RX1, Cond.code yX1_startAnew cX1_startAnew 3 none, Cond.fieldLink RX1 12 "RingProtection$Controller" "shape" "LRingProtection$Shape;", Cond.fieldLink RX1 84 "RingProtection$Controller" "failedWorking" "I", Cond.fieldLink RX1 90 "RingProtection$Controller" "failedProtection" "I", Cond.fieldLink RX1 78 "RingProtection$Controller" "failedNodes" "I", Cond.fieldLink RX1 87 "RingProtection$Controller" "workingDown" "I", Cond.fieldLink RX1 93 "RingProtection$Controller" "protectionDown" "I"]
def wsX3_startAnew_r2 : List Cond := [Cond.fieldLink RX1 52 "RingProtection$Controller" "spanSwitched" "I", Cond.fieldLink RX1 45 "RingProtection$Controller" "ringSwitched" "I", Cond.fieldLink RX1 18 "RingProtection$Controller" "commands" "[I", Cond.fieldLink RX1 22 "RingProtection$Controller" "timers" "[I", Cond.fieldLink RX1 32 "RingProtection$Controller" "directRequests" "[I", Cond.fieldLink RX1 35 "RingProtection$Controller" "segments" "[I"]
def wsX3_startAnew : List Cond := .code yX3_startAnew cX3_startAnew 3 none :: ((wsX3_startAnew_r1 ++ wsX3_startAnew_r2) ++ wsX30 ++ wsX00 ++ wsX10 ++ wsX20)
def wsX3_copyFrom_r1 : List Cond := [Cond.fieldLink RX3 12 "RingProtection$Simulation" "circuits" "LRingProtection$CircuitTable;", Cond.fieldLink RX3 21 "RingProtection$Simulation" "controller" "LRingProtection$Controller;", Cond.fieldLink RX3 37 "RingProtection$Simulation" "time" "I", Cond.methodLink RX3 41 yX0_copyFrom, Cond.instanceMethod yX0_copyFrom, Cond.selects RX0 yX0_copyFrom yX0_copyFrom, Cond.initialized RX0, Cond.code yX0_copyFrom cX0_copyFrom 2 none, Cond.fieldLink RX0 9 "RingProtection$CircuitTable" "firstEnds" "[I", Cond.fieldLink RX0 15 "RingProtection$CircuitTable" "secondEnds" "[I", Cond.fieldLink RX0 18 "RingProtection$CircuitTable" "paths" "[I", Cond.fieldLink RX0 21 "RingProtection$CircuitTable" "slots" "[I", Cond.fieldLink RX0 28 "RingProtection$CircuitTable" "extras" "I", Cond.static yX5_copyRow, Cond.initialized RX5, Cond.code yX5_copyRow cX5_copyRow 3 none, Cond.methodLink RX3 45 yX1_copyFrom, Cond.instanceMethod yX1_copyFrom, Cond.selects RX1 yX1_copyFrom yX1_copyFrom, Cond.initialized RX1, Cond.code yX1_copyFrom cX1_copyFrom 2 none, Cond.fieldLink RX1 12 "RingProtection$Controller" "shape" "LRingProtection$Shape;", Cond.fieldLink RX1 84 "RingProtection$Controller" "failedWorking" "I", Cond.fieldLink RX1 90 "RingProtection$Controller" "failedProtection" "I"]
def wsX3_copyFrom_r2 : List Cond := [Cond.fieldLink RX1 78 "RingProtection$Controller" "failedNodes" "I", Cond.fieldLink RX1 28 "RingProtection$Controller" "restoreTime" "I", Cond.fieldLink RX1 87 "RingProtection$Controller" "workingDown" "I", Cond.fieldLink RX1 93 "RingProtection$Controller" "protectionDown" "I", Cond.fieldLink RX1 52 "RingProtection$Controller" "spanSwitched" "I", Cond.fieldLink RX1 45 "RingProtection$Controller" "ringSwitched" "I", Cond.fieldLink RX1 18 "RingProtection$Controller" "commands" "[I", Cond.fieldLink RX1 22 "RingProtection$Controller" "timers" "[I", Cond.fieldLink RX1 25 "RingProtection$Controller" "heldRequests" "[I", Cond.fieldLink RX1 32 "RingProtection$Controller" "directRequests" "[I", Cond.fieldLink RX1 35 "RingProtection$Controller" "segments" "[I"]
def wsX3_copyFrom : List Cond := .code yX3_copyFrom cX3_copyFrom 2 none :: ((wsX3_copyFrom_r1 ++ wsX3_copyFrom_r2) ++ wsX30 ++ wsX00 ++ wsX10 ++ wsX20)
def wsX3_passSecond_r1 : List Cond := [Cond.fieldLink RX3 37 "RingProtection$Simulation" "time" "I", Cond.fieldLink RX3 21 "RingProtection$Simulation" "controller" "LRingProtection$Controller;", Cond.methodLink RX3 48 yX1_countTimersDown, Cond.instanceMethod yX1_countTimersDown, Cond.selects RX1 yX1_countTimersDown yX1_countTimersDown, Cond.initialized RX1, Cond.code yX1_countTimersDown cX1_countTimersDown 2 none, Cond.fieldLink RX1 12 "RingProtection$Controller" "shape" "LRingProtection$Shape;", Cond.fieldLink RX1 22 "RingProtection$Controller" "timers" "[I", Cond.methodLink RX3 51 yX1_run, Cond.instanceMethod yX1_run, Cond.selects RX1 yX1_run yX1_run, Cond.code yX1_run cX1_run 2 none, Cond.methodLink RX1 62 yX1_findCapacitiesDown, Cond.instanceMethod yX1_findCapacitiesDown, Cond.selects RX1 yX1_findCapacitiesDown yX1_findCapacitiesDown, Cond.code yX1_findCapacitiesDown cX1_findCapacitiesDown 3 none, Cond.fieldLink RX1 78 "RingProtection$Controller" "failedNodes" "I", Cond.fieldLink RX1 84 "RingProtection$Controller" "failedWorking" "I", Cond.fieldLink RX1 87 "RingProtection$Controller" "workingDown" "I", Cond.fieldLink RX1 90 "RingProtection$Controller" "failedProtection" "I", Cond.fieldLink RX1 93 "RingProtection$Controller" "protectionDown" "I", Cond.static yX5_contains, Cond.initialized RX5]
def wsX3_passSecond_r2 : List Cond := [Cond.code yX5_contains cX5_contains 2 (some .boolean), Cond.methodLink RX1 81 yX2_spansAt, Cond.instanceMethod yX2_spansAt, Cond.selects RX2 yX2_spansAt yX2_spansAt, Cond.initialized RX2, Cond.code yX2_spansAt cX2_spansAt 3 (some .int), Cond.fieldLink RX2 9 "RingProtection$Shape" "nodes" "I", Cond.methodLink RX1 65 yX1_takeDirectRequest, Cond.instanceMethod yX1_takeDirectRequest, Cond.selects RX1 yX1_takeDirectRequest yX1_takeDirectRequest, Cond.code yX1_takeDirectRequest cX1_takeDirectRequest 4 none, Cond.methodLink RX1 102 Lib.Math.max.name, Cond.static Lib.Math.max.name, Cond.initialized "java/lang/Math", Cond.code Lib.Math.max.name Lib.Math.max.code 2 (some .int), Cond.fieldLink RX1 32 "RingProtection$Controller" "directRequests" "[I", Cond.fieldLink RX1 28 "RingProtection$Controller" "restoreTime" "I", Cond.methodLink RX1 96 yX1_requestOfFailures, Cond.instanceMethod yX1_requestOfFailures, Cond.selects RX1 yX1_requestOfFailures yX1_requestOfFailures, Cond.code yX1_requestOfFailures cX1_requestOfFailures 3 (some .int), Cond.methodLink RX1 99 yX1_requestOfCommand, Cond.instanceMethod yX1_requestOfCommand, Cond.selects RX1 yX1_requestOfCommand yX1_requestOfCommand]
def wsX3_passSecond_r3 : List Cond := [Cond.code yX1_requestOfCommand cX1_requestOfCommand 4 (some .int), Cond.fieldLink RX1 18 "RingProtection$Controller" "commands" "[I", Cond.methodLink RX1 108 yX1_startWaiting, Cond.instanceMethod yX1_startWaiting, Cond.selects RX1 yX1_startWaiting yX1_startWaiting, Cond.code yX1_startWaiting cX1_startWaiting 3 none, Cond.fieldLink RX1 25 "RingProtection$Controller" "heldRequests" "[I", Cond.methodLink RX1 111 yX1_switchAt, Cond.instanceMethod yX1_switchAt, Cond.selects RX1 yX1_switchAt yX1_switchAt, Cond.code yX1_switchAt cX1_switchAt 2 (some .int), Cond.fieldLink RX1 45 "RingProtection$Controller" "ringSwitched" "I", Cond.fieldLink RX1 52 "RingProtection$Controller" "spanSwitched" "I", Cond.methodLink RX1 69 yX1_grantSwitches, Cond.instanceMethod yX1_grantSwitches, Cond.selects RX1 yX1_grantSwitches yX1_grantSwitches, Cond.code yX1_grantSwitches cX1_grantSwitches 4 none, Cond.methodLink RX1 114 yX1_isLockedOut, Cond.instanceMethod yX1_isLockedOut, Cond.selects RX1 yX1_isLockedOut yX1_isLockedOut, Cond.code yX1_isLockedOut cX1_isLockedOut 2 (some .boolean), Cond.methodLink RX1 118 yX1_requestAt, Cond.instanceMethod yX1_requestAt, Cond.selects RX1 yX1_requestAt yX1_requestAt]
def wsX3_passSecond_r4 : List Cond := [Cond.code yX1_requestAt cX1_requestAt 3 (some .int), Cond.methodLink RX1 38 yX2_hasSpan, Cond.instanceMethod yX2_hasSpan, Cond.selects RX2 yX2_hasSpan yX2_hasSpan, Cond.code yX2_hasSpan cX2_hasSpan 2 (some .boolean), Cond.methodLink RX1 121 yX1_grant, Cond.instanceMethod yX1_grant, Cond.selects RX1 yX1_grant yX1_grant, Cond.code yX1_grant cX1_grant 4 none, Cond.methodLink RX1 72 yX1_dropWaitsWithoutSwitch, Cond.instanceMethod yX1_dropWaitsWithoutSwitch, Cond.selects RX1 yX1_dropWaitsWithoutSwitch yX1_dropWaitsWithoutSwitch, Cond.code yX1_dropWaitsWithoutSwitch cX1_dropWaitsWithoutSwitch 4 none, Cond.methodLink RX1 75 yX1_findSegments, Cond.instanceMethod yX1_findSegments, Cond.selects RX1 yX1_findSegments yX1_findSegments, Cond.code yX1_findSegments cX1_findSegments 3 none, Cond.fieldLink RX1 35 "RingProtection$Controller" "segments" "[I"]
def wsX3_passSecond : List Cond := .code yX3_passSecond cX3_passSecond 1 none :: ((wsX3_passSecond_r1 ++ (wsX3_passSecond_r2 ++ (wsX3_passSecond_r3 ++ wsX3_passSecond_r4))) ++ wsX30 ++ wsX10 ++ wsX20)
def wsX3_stateOfExtra : List Cond := .code yX3_stateOfExtra cX3_stateOfExtra 3 (some .int) :: ([.fieldLink RX3 12 "RingProtection$Simulation" "circuits" "LRingProtection$CircuitTable;", .fieldLink RX3 21 "RingProtection$Simulation" "controller" "LRingProtection$Controller;", .methodLink RX3 65 yX0_pathOf, .instanceMethod yX0_pathOf, .selects RX0 yX0_pathOf yX0_pathOf, .initialized RX0, .code yX0_pathOf cX0_pathOf 2 (some .int), .fieldLink RX0 18 "RingProtection$CircuitTable" "paths" "[I", .methodLink RX0 24 yX0_has, .instanceMethod yX0_has, .selects RX0 yX0_has yX0_has, .code yX0_has cX0_has 2 (some .boolean)] ++ wsX30 ++ wsX10 ++ wsX00)
def wsX3_stateOfNormal_r1 : List Cond := [Cond.fieldLink RX3 12 "RingProtection$Simulation" "circuits" "LRingProtection$CircuitTable;", Cond.fieldLink RX3 21 "RingProtection$Simulation" "controller" "LRingProtection$Controller;", Cond.methodLink RX3 65 yX0_pathOf, Cond.instanceMethod yX0_pathOf, Cond.selects RX0 yX0_pathOf yX0_pathOf, Cond.initialized RX0, Cond.code yX0_pathOf cX0_pathOf 2 (some .int), Cond.fieldLink RX0 18 "RingProtection$CircuitTable" "paths" "[I", Cond.methodLink RX0 24 yX0_has, Cond.instanceMethod yX0_has, Cond.selects RX0 yX0_has yX0_has, Cond.code yX0_has cX0_has 2 (some .boolean), Cond.methodLink RX3 77 yX0_firstEndOf, Cond.instanceMethod yX0_firstEndOf, Cond.selects RX0 yX0_firstEndOf yX0_firstEndOf, Cond.code yX0_firstEndOf cX0_firstEndOf 2 (some .int), Cond.fieldLink RX0 9 "RingProtection$CircuitTable" "firstEnds" "[I", Cond.methodLink RX3 80 yX1_segmentOf, Cond.instanceMethod yX1_segmentOf, Cond.selects RX1 yX1_segmentOf yX1_segmentOf, Cond.initialized RX1, Cond.code yX1_segmentOf cX1_segmentOf 2 (some .int), Cond.fieldLink RX1 12 "RingProtection$Controller" "shape" "LRingProtection$Shape;", Cond.fieldLink RX1 35 "RingProtection$Controller" "segments" "[I"]
def wsX3_stateOfNormal_r2 : List Cond := [Cond.methodLink RX1 42 yX2_hasNode, Cond.instanceMethod yX2_hasNode, Cond.selects RX2 yX2_hasNode yX2_hasNode, Cond.initialized RX2, Cond.code yX2_hasNode cX2_hasNode 2 (some .boolean), Cond.fieldLink RX2 9 "RingProtection$Shape" "nodes" "I", Cond.methodLink RX3 83 yX0_secondEndOf, Cond.instanceMethod yX0_secondEndOf, Cond.selects RX0 yX0_secondEndOf yX0_secondEndOf, Cond.code yX0_secondEndOf cX0_secondEndOf 2 (some .int), Cond.fieldLink RX0 15 "RingProtection$CircuitTable" "secondEnds" "[I", Cond.methodLink RX3 89 yX1_spansInside, Cond.instanceMethod yX1_spansInside, Cond.selects RX1 yX1_spansInside yX1_spansInside, Cond.code yX1_spansInside cX1_spansInside 5 (some .int), Cond.methodLink RX1 58 yX2_nodeAfter, Cond.instanceMethod yX2_nodeAfter, Cond.selects RX2 yX2_nodeAfter yX2_nodeAfter, Cond.code yX2_nodeAfter cX2_nodeAfter 2 (some .int)]
def wsX3_stateOfNormal : List Cond := .code yX3_stateOfNormal cX3_stateOfNormal 7 (some .int) :: ((wsX3_stateOfNormal_r1 ++ wsX3_stateOfNormal_r2) ++ wsX30 ++ wsX10 ++ wsX00 ++ wsX20)
def wsX3_stateOf_r1 : List Cond := [Cond.fieldLink RX3 12 "RingProtection$Simulation" "circuits" "LRingProtection$CircuitTable;", Cond.methodLink RX3 54 yX0_isExtra, Cond.instanceMethod yX0_isExtra, Cond.selects RX0 yX0_isExtra yX0_isExtra, Cond.initialized RX0, Cond.code yX0_isExtra cX0_isExtra 2 (some .boolean), Cond.fieldLink RX0 28 "RingProtection$CircuitTable" "extras" "I", Cond.static yX5_contains, Cond.initialized RX5, Cond.code yX5_contains cX5_contains 2 (some .boolean), Cond.methodLink RX3 58 yX3_stateOfExtra, Cond.instanceMethod yX3_stateOfExtra, Cond.selects RX3 yX3_stateOfExtra yX3_stateOfExtra, Cond.initialized RX3, Cond.code yX3_stateOfExtra cX3_stateOfExtra 3 (some .int), Cond.fieldLink RX3 21 "RingProtection$Simulation" "controller" "LRingProtection$Controller;", Cond.methodLink RX3 65 yX0_pathOf, Cond.instanceMethod yX0_pathOf, Cond.selects RX0 yX0_pathOf yX0_pathOf, Cond.code yX0_pathOf cX0_pathOf 2 (some .int), Cond.fieldLink RX0 18 "RingProtection$CircuitTable" "paths" "[I", Cond.methodLink RX0 24 yX0_has, Cond.instanceMethod yX0_has, Cond.selects RX0 yX0_has yX0_has]
def wsX3_stateOf_r2 : List Cond := [Cond.code yX0_has cX0_has 2 (some .boolean), Cond.methodLink RX3 62 yX3_stateOfNormal, Cond.instanceMethod yX3_stateOfNormal, Cond.selects RX3 yX3_stateOfNormal yX3_stateOfNormal, Cond.code yX3_stateOfNormal cX3_stateOfNormal 7 (some .int), Cond.methodLink RX3 77 yX0_firstEndOf, Cond.instanceMethod yX0_firstEndOf, Cond.selects RX0 yX0_firstEndOf yX0_firstEndOf, Cond.code yX0_firstEndOf cX0_firstEndOf 2 (some .int), Cond.fieldLink RX0 9 "RingProtection$CircuitTable" "firstEnds" "[I", Cond.methodLink RX3 80 yX1_segmentOf, Cond.instanceMethod yX1_segmentOf, Cond.selects RX1 yX1_segmentOf yX1_segmentOf, Cond.initialized RX1, Cond.code yX1_segmentOf cX1_segmentOf 2 (some .int), Cond.fieldLink RX1 12 "RingProtection$Controller" "shape" "LRingProtection$Shape;", Cond.fieldLink RX1 35 "RingProtection$Controller" "segments" "[I", Cond.methodLink RX1 42 yX2_hasNode, Cond.instanceMethod yX2_hasNode, Cond.selects RX2 yX2_hasNode yX2_hasNode, Cond.initialized RX2, Cond.code yX2_hasNode cX2_hasNode 2 (some .boolean), Cond.fieldLink RX2 9 "RingProtection$Shape" "nodes" "I", Cond.methodLink RX3 83 yX0_secondEndOf]
def wsX3_stateOf_r3 : List Cond := [Cond.instanceMethod yX0_secondEndOf, Cond.selects RX0 yX0_secondEndOf yX0_secondEndOf, Cond.code yX0_secondEndOf cX0_secondEndOf 2 (some .int), Cond.fieldLink RX0 15 "RingProtection$CircuitTable" "secondEnds" "[I", Cond.methodLink RX3 89 yX1_spansInside, Cond.instanceMethod yX1_spansInside, Cond.selects RX1 yX1_spansInside yX1_spansInside, Cond.code yX1_spansInside cX1_spansInside 5 (some .int), Cond.methodLink RX1 58 yX2_nodeAfter, Cond.instanceMethod yX2_nodeAfter, Cond.selects RX2 yX2_nodeAfter yX2_nodeAfter, Cond.code yX2_nodeAfter cX2_nodeAfter 2 (some .int)]
def wsX3_stateOf : List Cond := .code yX3_stateOf cX3_stateOf 2 (some .int) :: ((wsX3_stateOf_r1 ++ (wsX3_stateOf_r2 ++ wsX3_stateOf_r3)) ++ wsX30 ++ wsX00 ++ wsX10 ++ wsX20)
def wsX3_allInState_r1 : List Cond := [Cond.fieldLink RX3 12 "RingProtection$Simulation" "circuits" "LRingProtection$CircuitTable;", Cond.methodLink RX3 92 yX0_has, Cond.instanceMethod yX0_has, Cond.selects RX0 yX0_has yX0_has, Cond.initialized RX0, Cond.code yX0_has cX0_has 2 (some .boolean), Cond.fieldLink RX0 18 "RingProtection$CircuitTable" "paths" "[I", Cond.methodLink RX3 95 yX3_stateOf, Cond.instanceMethod yX3_stateOf, Cond.selects RX3 yX3_stateOf yX3_stateOf, Cond.initialized RX3, Cond.code yX3_stateOf cX3_stateOf 2 (some .int), Cond.methodLink RX3 54 yX0_isExtra, Cond.instanceMethod yX0_isExtra, Cond.selects RX0 yX0_isExtra yX0_isExtra, Cond.code yX0_isExtra cX0_isExtra 2 (some .boolean), Cond.fieldLink RX0 28 "RingProtection$CircuitTable" "extras" "I", Cond.static yX5_contains, Cond.initialized RX5, Cond.code yX5_contains cX5_contains 2 (some .boolean), Cond.methodLink RX3 58 yX3_stateOfExtra, Cond.instanceMethod yX3_stateOfExtra, Cond.selects RX3 yX3_stateOfExtra yX3_stateOfExtra, Cond.code yX3_stateOfExtra cX3_stateOfExtra 3 (some .int)]
def wsX3_allInState_r2 : List Cond := [Cond.fieldLink RX3 21 "RingProtection$Simulation" "controller" "LRingProtection$Controller;", Cond.methodLink RX3 65 yX0_pathOf, Cond.instanceMethod yX0_pathOf, Cond.selects RX0 yX0_pathOf yX0_pathOf, Cond.code yX0_pathOf cX0_pathOf 2 (some .int), Cond.methodLink RX0 24 yX0_has, Cond.methodLink RX3 62 yX3_stateOfNormal, Cond.instanceMethod yX3_stateOfNormal, Cond.selects RX3 yX3_stateOfNormal yX3_stateOfNormal, Cond.code yX3_stateOfNormal cX3_stateOfNormal 7 (some .int), Cond.methodLink RX3 77 yX0_firstEndOf, Cond.instanceMethod yX0_firstEndOf, Cond.selects RX0 yX0_firstEndOf yX0_firstEndOf, Cond.code yX0_firstEndOf cX0_firstEndOf 2 (some .int), Cond.fieldLink RX0 9 "RingProtection$CircuitTable" "firstEnds" "[I", Cond.methodLink RX3 80 yX1_segmentOf, Cond.instanceMethod yX1_segmentOf, Cond.selects RX1 yX1_segmentOf yX1_segmentOf, Cond.initialized RX1, Cond.code yX1_segmentOf cX1_segmentOf 2 (some .int), Cond.fieldLink RX1 12 "RingProtection$Controller" "shape" "LRingProtection$Shape;", Cond.fieldLink RX1 35 "RingProtection$Controller" "segments" "[I", Cond.methodLink RX1 42 yX2_hasNode, Cond.instanceMethod yX2_hasNode]
def wsX3_allInState_r3 : List Cond := [Cond.selects RX2 yX2_hasNode yX2_hasNode, Cond.initialized RX2, Cond.code yX2_hasNode cX2_hasNode 2 (some .boolean), Cond.fieldLink RX2 9 "RingProtection$Shape" "nodes" "I", Cond.methodLink RX3 83 yX0_secondEndOf, Cond.instanceMethod yX0_secondEndOf, Cond.selects RX0 yX0_secondEndOf yX0_secondEndOf, Cond.code yX0_secondEndOf cX0_secondEndOf 2 (some .int), Cond.fieldLink RX0 15 "RingProtection$CircuitTable" "secondEnds" "[I", Cond.methodLink RX3 89 yX1_spansInside, Cond.instanceMethod yX1_spansInside, Cond.selects RX1 yX1_spansInside yX1_spansInside, Cond.code yX1_spansInside cX1_spansInside 5 (some .int), Cond.methodLink RX1 58 yX2_nodeAfter, Cond.instanceMethod yX2_nodeAfter, Cond.selects RX2 yX2_nodeAfter yX2_nodeAfter, Cond.code yX2_nodeAfter cX2_nodeAfter 2 (some .int)]
def wsX3_allInState : List Cond := .code yX3_allInState cX3_allInState 4 (some .int) :: ((wsX3_allInState_r1 ++ (wsX3_allInState_r2 ++ wsX3_allInState_r3)) ++ wsX30 ++ wsX00 ++ wsX10 ++ wsX20)
def wsX5_isDelivery : List Cond := .code yX5_isDelivery cX5_isDelivery 1 (some .boolean) :: ([])
def wsX3_countDelivered_r1 : List Cond := [Cond.fieldLink RX3 12 "RingProtection$Simulation" "circuits" "LRingProtection$CircuitTable;", Cond.methodLink RX3 92 yX0_has, Cond.instanceMethod yX0_has, Cond.selects RX0 yX0_has yX0_has, Cond.initialized RX0, Cond.code yX0_has cX0_has 2 (some .boolean), Cond.fieldLink RX0 18 "RingProtection$CircuitTable" "paths" "[I", Cond.methodLink RX3 95 yX3_stateOf, Cond.instanceMethod yX3_stateOf, Cond.selects RX3 yX3_stateOf yX3_stateOf, Cond.initialized RX3, Cond.code yX3_stateOf cX3_stateOf 2 (some .int), Cond.methodLink RX3 54 yX0_isExtra, Cond.instanceMethod yX0_isExtra, Cond.selects RX0 yX0_isExtra yX0_isExtra, Cond.code yX0_isExtra cX0_isExtra 2 (some .boolean), Cond.fieldLink RX0 28 "RingProtection$CircuitTable" "extras" "I", Cond.static yX5_contains, Cond.initialized RX5, Cond.code yX5_contains cX5_contains 2 (some .boolean), Cond.methodLink RX3 58 yX3_stateOfExtra, Cond.instanceMethod yX3_stateOfExtra, Cond.selects RX3 yX3_stateOfExtra yX3_stateOfExtra, Cond.code yX3_stateOfExtra cX3_stateOfExtra 3 (some .int)]
def wsX3_countDelivered_r2 : List Cond := [Cond.fieldLink RX3 21 "RingProtection$Simulation" "controller" "LRingProtection$Controller;", Cond.methodLink RX3 65 yX0_pathOf, Cond.instanceMethod yX0_pathOf, Cond.selects RX0 yX0_pathOf yX0_pathOf, Cond.code yX0_pathOf cX0_pathOf 2 (some .int), Cond.methodLink RX0 24 yX0_has, Cond.methodLink RX3 62 yX3_stateOfNormal, Cond.instanceMethod yX3_stateOfNormal, Cond.selects RX3 yX3_stateOfNormal yX3_stateOfNormal, Cond.code yX3_stateOfNormal cX3_stateOfNormal 7 (some .int), Cond.methodLink RX3 77 yX0_firstEndOf, Cond.instanceMethod yX0_firstEndOf, Cond.selects RX0 yX0_firstEndOf yX0_firstEndOf, Cond.code yX0_firstEndOf cX0_firstEndOf 2 (some .int), Cond.fieldLink RX0 9 "RingProtection$CircuitTable" "firstEnds" "[I", Cond.methodLink RX3 80 yX1_segmentOf, Cond.instanceMethod yX1_segmentOf, Cond.selects RX1 yX1_segmentOf yX1_segmentOf, Cond.initialized RX1, Cond.code yX1_segmentOf cX1_segmentOf 2 (some .int), Cond.fieldLink RX1 12 "RingProtection$Controller" "shape" "LRingProtection$Shape;", Cond.fieldLink RX1 35 "RingProtection$Controller" "segments" "[I", Cond.methodLink RX1 42 yX2_hasNode, Cond.instanceMethod yX2_hasNode]
def wsX3_countDelivered_r3 : List Cond := [Cond.selects RX2 yX2_hasNode yX2_hasNode, Cond.initialized RX2, Cond.code yX2_hasNode cX2_hasNode 2 (some .boolean), Cond.fieldLink RX2 9 "RingProtection$Shape" "nodes" "I", Cond.methodLink RX3 83 yX0_secondEndOf, Cond.instanceMethod yX0_secondEndOf, Cond.selects RX0 yX0_secondEndOf yX0_secondEndOf, Cond.code yX0_secondEndOf cX0_secondEndOf 2 (some .int), Cond.fieldLink RX0 15 "RingProtection$CircuitTable" "secondEnds" "[I", Cond.methodLink RX3 89 yX1_spansInside, Cond.instanceMethod yX1_spansInside, Cond.selects RX1 yX1_spansInside yX1_spansInside, Cond.code yX1_spansInside cX1_spansInside 5 (some .int), Cond.methodLink RX1 58 yX2_nodeAfter, Cond.instanceMethod yX2_nodeAfter, Cond.selects RX2 yX2_nodeAfter yX2_nodeAfter, Cond.code yX2_nodeAfter cX2_nodeAfter 2 (some .int), Cond.static yX5_isDelivery, Cond.code yX5_isDelivery cX5_isDelivery 1 (some .boolean)]
def wsX3_countDelivered : List Cond := .code yX3_countDelivered cX3_countDelivered 3 (some .int) :: ((wsX3_countDelivered_r1 ++ (wsX3_countDelivered_r2 ++ wsX3_countDelivered_r3)) ++ wsX30 ++ wsX00 ++ wsX10 ++ wsX20)
def wsJ6_bitCount_0f7a4 : List Cond := .code yJ6_bitCount_0f7a4 cJ6_bitCount_0f7a4 1 (some .int) :: ([.constant RJ6 265 (1431655765), .constant RJ6 266 (858993459), .constant RJ6 267 (252645135)])
def wsX3_hopsOf_r1 : List Cond := [Cond.fieldLink RX3 12 "RingProtection$Simulation" "circuits" "LRingProtection$CircuitTable;", Cond.fieldLink RX3 21 "RingProtection$Simulation" "controller" "LRingProtection$Controller;", Cond.methodLink RX3 95 yX3_stateOf, Cond.instanceMethod yX3_stateOf, Cond.selects RX3 yX3_stateOf yX3_stateOf, Cond.initialized RX3, Cond.code yX3_stateOf cX3_stateOf 2 (some .int), Cond.methodLink RX3 54 yX0_isExtra, Cond.instanceMethod yX0_isExtra, Cond.selects RX0 yX0_isExtra yX0_isExtra, Cond.initialized RX0, Cond.code yX0_isExtra cX0_isExtra 2 (some .boolean), Cond.fieldLink RX0 28 "RingProtection$CircuitTable" "extras" "I", Cond.static yX5_contains, Cond.initialized RX5, Cond.code yX5_contains cX5_contains 2 (some .boolean), Cond.methodLink RX3 58 yX3_stateOfExtra, Cond.instanceMethod yX3_stateOfExtra, Cond.selects RX3 yX3_stateOfExtra yX3_stateOfExtra, Cond.code yX3_stateOfExtra cX3_stateOfExtra 3 (some .int), Cond.methodLink RX3 65 yX0_pathOf, Cond.instanceMethod yX0_pathOf, Cond.selects RX0 yX0_pathOf yX0_pathOf, Cond.code yX0_pathOf cX0_pathOf 2 (some .int)]
def wsX3_hopsOf_r2 : List Cond := [Cond.fieldLink RX0 18 "RingProtection$CircuitTable" "paths" "[I", Cond.methodLink RX0 24 yX0_has, Cond.instanceMethod yX0_has, Cond.selects RX0 yX0_has yX0_has, Cond.code yX0_has cX0_has 2 (some .boolean), Cond.methodLink RX3 62 yX3_stateOfNormal, Cond.instanceMethod yX3_stateOfNormal, Cond.selects RX3 yX3_stateOfNormal yX3_stateOfNormal, Cond.code yX3_stateOfNormal cX3_stateOfNormal 7 (some .int), Cond.methodLink RX3 77 yX0_firstEndOf, Cond.instanceMethod yX0_firstEndOf, Cond.selects RX0 yX0_firstEndOf yX0_firstEndOf, Cond.code yX0_firstEndOf cX0_firstEndOf 2 (some .int), Cond.fieldLink RX0 9 "RingProtection$CircuitTable" "firstEnds" "[I", Cond.methodLink RX3 80 yX1_segmentOf, Cond.instanceMethod yX1_segmentOf, Cond.selects RX1 yX1_segmentOf yX1_segmentOf, Cond.initialized RX1, Cond.code yX1_segmentOf cX1_segmentOf 2 (some .int), Cond.fieldLink RX1 12 "RingProtection$Controller" "shape" "LRingProtection$Shape;", Cond.fieldLink RX1 35 "RingProtection$Controller" "segments" "[I", Cond.methodLink RX1 42 yX2_hasNode, Cond.instanceMethod yX2_hasNode, Cond.selects RX2 yX2_hasNode yX2_hasNode]
def wsX3_hopsOf_r3 : List Cond := [Cond.initialized RX2, Cond.code yX2_hasNode cX2_hasNode 2 (some .boolean), Cond.fieldLink RX2 9 "RingProtection$Shape" "nodes" "I", Cond.methodLink RX3 83 yX0_secondEndOf, Cond.instanceMethod yX0_secondEndOf, Cond.selects RX0 yX0_secondEndOf yX0_secondEndOf, Cond.code yX0_secondEndOf cX0_secondEndOf 2 (some .int), Cond.fieldLink RX0 15 "RingProtection$CircuitTable" "secondEnds" "[I", Cond.methodLink RX3 89 yX1_spansInside, Cond.instanceMethod yX1_spansInside, Cond.selects RX1 yX1_spansInside yX1_spansInside, Cond.code yX1_spansInside cX1_spansInside 5 (some .int), Cond.methodLink RX1 58 yX2_nodeAfter, Cond.instanceMethod yX2_nodeAfter, Cond.selects RX2 yX2_nodeAfter yX2_nodeAfter, Cond.code yX2_nodeAfter cX2_nodeAfter 2 (some .int), Cond.static yX5_isDelivery, Cond.code yX5_isDelivery cX5_isDelivery 1 (some .boolean), Cond.methodLink RX3 101 yJ6_bitCount_0f7a4, Cond.static yJ6_bitCount_0f7a4, Cond.initialized RJ6, Cond.code yJ6_bitCount_0f7a4 cJ6_bitCount_0f7a4 1 (some .int), Cond.constant RJ6 265 (1431655765), Cond.constant RJ6 266 (858993459)]
def wsX3_hopsOf_r4 : List Cond := [Cond.constant RJ6 267 (252645135)]
def wsX3_hopsOf : List Cond := .code yX3_hopsOf cX3_hopsOf 6 (some .int) :: ((wsX3_hopsOf_r1 ++ (wsX3_hopsOf_r2 ++ (wsX3_hopsOf_r3 ++ wsX3_hopsOf_r4))) ++ wsX30 ++ wsX10 ++ wsX00 ++ wsX20)
def wsX3_sumOfHops_r1 : List Cond := [Cond.fieldLink RX3 12 "RingProtection$Simulation" "circuits" "LRingProtection$CircuitTable;", Cond.methodLink RX3 92 yX0_has, Cond.instanceMethod yX0_has, Cond.selects RX0 yX0_has yX0_has, Cond.initialized RX0, Cond.code yX0_has cX0_has 2 (some .boolean), Cond.fieldLink RX0 18 "RingProtection$CircuitTable" "paths" "[I", Cond.methodLink RX3 106 yX3_hopsOf, Cond.instanceMethod yX3_hopsOf, Cond.selects RX3 yX3_hopsOf yX3_hopsOf, Cond.initialized RX3, Cond.code yX3_hopsOf cX3_hopsOf 6 (some .int), Cond.fieldLink RX3 21 "RingProtection$Simulation" "controller" "LRingProtection$Controller;", Cond.methodLink RX3 95 yX3_stateOf, Cond.instanceMethod yX3_stateOf, Cond.selects RX3 yX3_stateOf yX3_stateOf, Cond.code yX3_stateOf cX3_stateOf 2 (some .int), Cond.methodLink RX3 54 yX0_isExtra, Cond.instanceMethod yX0_isExtra, Cond.selects RX0 yX0_isExtra yX0_isExtra, Cond.code yX0_isExtra cX0_isExtra 2 (some .boolean), Cond.fieldLink RX0 28 "RingProtection$CircuitTable" "extras" "I", Cond.static yX5_contains, Cond.initialized RX5]
def wsX3_sumOfHops_r2 : List Cond := [Cond.code yX5_contains cX5_contains 2 (some .boolean), Cond.methodLink RX3 58 yX3_stateOfExtra, Cond.instanceMethod yX3_stateOfExtra, Cond.selects RX3 yX3_stateOfExtra yX3_stateOfExtra, Cond.code yX3_stateOfExtra cX3_stateOfExtra 3 (some .int), Cond.methodLink RX3 65 yX0_pathOf, Cond.instanceMethod yX0_pathOf, Cond.selects RX0 yX0_pathOf yX0_pathOf, Cond.code yX0_pathOf cX0_pathOf 2 (some .int), Cond.methodLink RX0 24 yX0_has, Cond.methodLink RX3 62 yX3_stateOfNormal, Cond.instanceMethod yX3_stateOfNormal, Cond.selects RX3 yX3_stateOfNormal yX3_stateOfNormal, Cond.code yX3_stateOfNormal cX3_stateOfNormal 7 (some .int), Cond.methodLink RX3 77 yX0_firstEndOf, Cond.instanceMethod yX0_firstEndOf, Cond.selects RX0 yX0_firstEndOf yX0_firstEndOf, Cond.code yX0_firstEndOf cX0_firstEndOf 2 (some .int), Cond.fieldLink RX0 9 "RingProtection$CircuitTable" "firstEnds" "[I", Cond.methodLink RX3 80 yX1_segmentOf, Cond.instanceMethod yX1_segmentOf, Cond.selects RX1 yX1_segmentOf yX1_segmentOf, Cond.initialized RX1, Cond.code yX1_segmentOf cX1_segmentOf 2 (some .int)]
def wsX3_sumOfHops_r3 : List Cond := [Cond.fieldLink RX1 12 "RingProtection$Controller" "shape" "LRingProtection$Shape;", Cond.fieldLink RX1 35 "RingProtection$Controller" "segments" "[I", Cond.methodLink RX1 42 yX2_hasNode, Cond.instanceMethod yX2_hasNode, Cond.selects RX2 yX2_hasNode yX2_hasNode, Cond.initialized RX2, Cond.code yX2_hasNode cX2_hasNode 2 (some .boolean), Cond.fieldLink RX2 9 "RingProtection$Shape" "nodes" "I", Cond.methodLink RX3 83 yX0_secondEndOf, Cond.instanceMethod yX0_secondEndOf, Cond.selects RX0 yX0_secondEndOf yX0_secondEndOf, Cond.code yX0_secondEndOf cX0_secondEndOf 2 (some .int), Cond.fieldLink RX0 15 "RingProtection$CircuitTable" "secondEnds" "[I", Cond.methodLink RX3 89 yX1_spansInside, Cond.instanceMethod yX1_spansInside, Cond.selects RX1 yX1_spansInside yX1_spansInside, Cond.code yX1_spansInside cX1_spansInside 5 (some .int), Cond.methodLink RX1 58 yX2_nodeAfter, Cond.instanceMethod yX2_nodeAfter, Cond.selects RX2 yX2_nodeAfter yX2_nodeAfter, Cond.code yX2_nodeAfter cX2_nodeAfter 2 (some .int), Cond.static yX5_isDelivery, Cond.code yX5_isDelivery cX5_isDelivery 1 (some .boolean), Cond.methodLink RX3 101 yJ6_bitCount_0f7a4]
def wsX3_sumOfHops_r4 : List Cond := [Cond.static yJ6_bitCount_0f7a4, Cond.initialized RJ6, Cond.code yJ6_bitCount_0f7a4 cJ6_bitCount_0f7a4 1 (some .int), Cond.constant RJ6 265 (1431655765), Cond.constant RJ6 266 (858993459), Cond.constant RJ6 267 (252645135)]
def wsX3_sumOfHops : List Cond := .code yX3_sumOfHops cX3_sumOfHops 4 (some .int) :: ((wsX3_sumOfHops_r1 ++ (wsX3_sumOfHops_r2 ++ (wsX3_sumOfHops_r3 ++ wsX3_sumOfHops_r4))) ++ wsX30 ++ wsX00 ++ wsX10 ++ wsX20)
def wsX4_init_r1 : List Cond := [Cond.methodLink RX4 1 objectInit, Cond.instanceMethod objectInit, Cond.code objectInit ⟨#[0xb1]⟩ 1 none, Cond.classLink RX4 7 RX3, Cond.instantiable RX3 4, Cond.initialized RX3, Cond.fieldLink RX4 10 "RingProtection$Snapshot" "kept" "LRingProtection$Simulation;", Cond.instanceMethod yX3_init, Cond.code yX3_init cX3_init 1 none, Cond.methodLink RX3 3 objectInit, Cond.classLink RX3 9 RX0, Cond.instantiable RX0 5, Cond.initialized RX0, Cond.fieldLink RX3 12 "RingProtection$Simulation" "circuits" "LRingProtection$CircuitTable;", Cond.classLink RX3 18 RX1, Cond.instantiable RX1 14, Cond.initialized RX1, Cond.fieldLink RX3 21 "RingProtection$Simulation" "controller" "LRingProtection$Controller;", Cond.fieldLink RX3 29 "RingProtection$Simulation" "shape" "LRingProtection$Shape;", Cond.instanceMethod yX0_init, Cond.code yX0_init cX0_init 1 none, Cond.methodLink RX0 3 objectInit, Cond.arrayClass .int, Cond.fieldLink RX0 9 "RingProtection$CircuitTable" "firstEnds" "[I"]
def wsX4_init_r2 : List Cond := [Cond.fieldLink RX0 15 "RingProtection$CircuitTable" "secondEnds" "[I", Cond.fieldLink RX0 18 "RingProtection$CircuitTable" "paths" "[I", Cond.fieldLink RX0 21 "RingProtection$CircuitTable" "slots" "[I", Cond.instanceMethod yX1_init, Cond.code yX1_init cX1_init 1 none, Cond.methodLink RX1 3 objectInit, Cond.classLink RX1 9 RX2, Cond.instantiable RX2 2, Cond.initialized RX2, Cond.fieldLink RX1 12 "RingProtection$Controller" "shape" "LRingProtection$Shape;", Cond.fieldLink RX1 18 "RingProtection$Controller" "commands" "[I", Cond.fieldLink RX1 22 "RingProtection$Controller" "timers" "[I", Cond.fieldLink RX1 25 "RingProtection$Controller" "heldRequests" "[I", Cond.fieldLink RX1 28 "RingProtection$Controller" "restoreTime" "I", Cond.fieldLink RX1 32 "RingProtection$Controller" "directRequests" "[I", Cond.fieldLink RX1 35 "RingProtection$Controller" "segments" "[I", Cond.instanceMethod yX2_init, Cond.code yX2_init cX2_init 1 none, Cond.methodLink RX2 3 objectInit, Cond.fieldLink RX2 9 "RingProtection$Shape" "nodes" "I", Cond.fieldLink RX2 15 "RingProtection$Shape" "slots" "I"]
def wsX4_init : List Cond := .code yX4_init cX4_init 1 none :: ((wsX4_init_r1 ++ wsX4_init_r2) ++ wsX30 ++ wsX40 ++ wsX00 ++ wsX10 ++ wsX20)
def wsX5_init_r1 : List Cond := [Cond.methodLink RX5 1 objectInit, Cond.instanceMethod objectInit, Cond.code objectInit ⟨#[0xb1]⟩ 1 none, Cond.classLink RX5 7 RX3, Cond.instantiable RX3 4, Cond.initialized RX3, Cond.fieldLink RX5 10 "RingProtection" "current" "LRingProtection$Simulation;", Cond.fieldLink RX5 16 "RingProtection" "trial" "LRingProtection$Simulation;", Cond.classLink RX5 19 RX4, Cond.instantiable RX4 2, Cond.initialized RX4, Cond.fieldLink RX5 22 "RingProtection" "snapshot0" "LRingProtection$Snapshot;", Cond.fieldLink RX5 26 "RingProtection" "snapshot1" "LRingProtection$Snapshot;", Cond.instanceMethod yX3_init, Cond.code yX3_init cX3_init 1 none, Cond.methodLink RX3 3 objectInit, Cond.classLink RX3 9 RX0, Cond.instantiable RX0 5, Cond.initialized RX0, Cond.fieldLink RX3 12 "RingProtection$Simulation" "circuits" "LRingProtection$CircuitTable;", Cond.classLink RX3 18 RX1, Cond.instantiable RX1 14, Cond.initialized RX1, Cond.fieldLink RX3 21 "RingProtection$Simulation" "controller" "LRingProtection$Controller;"]
def wsX5_init_r2 : List Cond := [Cond.fieldLink RX3 29 "RingProtection$Simulation" "shape" "LRingProtection$Shape;", Cond.instanceMethod yX0_init, Cond.code yX0_init cX0_init 1 none, Cond.methodLink RX0 3 objectInit, Cond.arrayClass .int, Cond.fieldLink RX0 9 "RingProtection$CircuitTable" "firstEnds" "[I", Cond.fieldLink RX0 15 "RingProtection$CircuitTable" "secondEnds" "[I", Cond.fieldLink RX0 18 "RingProtection$CircuitTable" "paths" "[I", Cond.fieldLink RX0 21 "RingProtection$CircuitTable" "slots" "[I", Cond.instanceMethod yX1_init, Cond.code yX1_init cX1_init 1 none, Cond.methodLink RX1 3 objectInit, Cond.classLink RX1 9 RX2, Cond.instantiable RX2 2, Cond.initialized RX2, Cond.fieldLink RX1 12 "RingProtection$Controller" "shape" "LRingProtection$Shape;", Cond.fieldLink RX1 18 "RingProtection$Controller" "commands" "[I", Cond.fieldLink RX1 22 "RingProtection$Controller" "timers" "[I", Cond.fieldLink RX1 25 "RingProtection$Controller" "heldRequests" "[I", Cond.fieldLink RX1 28 "RingProtection$Controller" "restoreTime" "I", Cond.fieldLink RX1 32 "RingProtection$Controller" "directRequests" "[I", Cond.fieldLink RX1 35 "RingProtection$Controller" "segments" "[I", Cond.instanceMethod yX2_init, Cond.code yX2_init cX2_init 1 none]
def wsX5_init_r3 : List Cond := [Cond.methodLink RX2 3 objectInit, Cond.fieldLink RX2 9 "RingProtection$Shape" "nodes" "I", Cond.fieldLink RX2 15 "RingProtection$Shape" "slots" "I", Cond.instanceMethod yX4_init, Cond.code yX4_init cX4_init 1 none, Cond.methodLink RX4 1 objectInit, Cond.classLink RX4 7 RX3, Cond.fieldLink RX4 10 "RingProtection$Snapshot" "kept" "LRingProtection$Simulation;"]
def wsX5_init : List Cond := .code yX5_init cX5_init 1 none :: ((wsX5_init_r1 ++ (wsX5_init_r2 ++ wsX5_init_r3)) ++ wsX30 ++ wsX50 ++ wsX40 ++ wsX00 ++ wsX10 ++ wsX20)
def wsX5_reset_r1 : List Cond := [Cond.fieldLink RX5 10 "RingProtection" "current" "LRingProtection$Simulation;", Cond.methodLink RX5 39 yX3_startAnew, Cond.instanceMethod yX3_startAnew, Cond.selects RX3 yX3_startAnew yX3_startAnew, Cond.initialized RX3, Cond.code yX3_startAnew cX3_startAnew 3 none, Cond.fieldLink RX3 12 "RingProtection$Simulation" "circuits" "LRingProtection$CircuitTable;", Cond.fieldLink RX3 21 "RingProtection$Simulation" "controller" "LRingProtection$Controller;", Cond.fieldLink RX3 37 "RingProtection$Simulation" "time" "I", Cond.methodLink RX3 30 yX0_takeAllAway, Cond.instanceMethod yX0_takeAllAway, Cond.selects RX0 yX0_takeAllAway yX0_takeAllAway, Cond.initialized RX0, Cond.code yX0_takeAllAway cX0_takeAllAway 1 none, Cond.fieldLink RX0 18 "RingProtection$CircuitTable" "paths" "[I", Cond.fieldLink RX0 28 "RingProtection$CircuitTable" "extras" "I", Cond.static yX5_clearRow, Cond.initialized RX5, Cond.code yX5_clearRow cX5_clearRow 2 none, Cond.methodLink RX3 33 yX1_startAnew, Cond.instanceMethod yX1_startAnew, Cond.selects RX1 yX1_startAnew yX1_startAnew, Cond.initialized RX1, Cond.code yX1_startAnew cX1_startAnew 3 none]
def wsX5_reset_r2 : List Cond := [Cond.fieldLink RX1 12 "RingProtection$Controller" "shape" "LRingProtection$Shape;", Cond.fieldLink RX1 84 "RingProtection$Controller" "failedWorking" "I", Cond.fieldLink RX1 90 "RingProtection$Controller" "failedProtection" "I", Cond.fieldLink RX1 78 "RingProtection$Controller" "failedNodes" "I", Cond.fieldLink RX1 87 "RingProtection$Controller" "workingDown" "I", Cond.fieldLink RX1 93 "RingProtection$Controller" "protectionDown" "I", Cond.fieldLink RX1 52 "RingProtection$Controller" "spanSwitched" "I", Cond.fieldLink RX1 45 "RingProtection$Controller" "ringSwitched" "I", Cond.fieldLink RX1 18 "RingProtection$Controller" "commands" "[I", Cond.fieldLink RX1 22 "RingProtection$Controller" "timers" "[I", Cond.fieldLink RX1 32 "RingProtection$Controller" "directRequests" "[I", Cond.fieldLink RX1 35 "RingProtection$Controller" "segments" "[I"]
def wsX5_reset : List Cond := .code yX5_reset cX5_reset 4 (some .int) :: ((wsX5_reset_r1 ++ wsX5_reset_r2) ++ wsX50 ++ wsX30 ++ wsX20 ++ wsX00 ++ wsX10)
def wsX5_faultOfEnds : List Cond := .code yX5_faultOfEnds cX5_faultOfEnds 3 (some .int) :: ([.fieldLink RX5 10 "RingProtection" "current" "LRingProtection$Simulation;", .methodLink RX5 124 yX2_hasNode, .instanceMethod yX2_hasNode, .selects RX2 yX2_hasNode yX2_hasNode, .initialized RX2, .code yX2_hasNode cX2_hasNode 2 (some .boolean), .fieldLink RX2 9 "RingProtection$Shape" "nodes" "I"] ++ wsX50 ++ wsX30 ++ wsX20)
def wsX5_addCircuit_r1 : List Cond := [Cond.fieldLink RX5 10 "RingProtection" "current" "LRingProtection$Simulation;", Cond.methodLink RX5 43 yX5_faultOfEnds, Cond.instanceMethod yX5_faultOfEnds, Cond.selects RX5 yX5_faultOfEnds yX5_faultOfEnds, Cond.initialized RX5, Cond.code yX5_faultOfEnds cX5_faultOfEnds 3 (some .int), Cond.methodLink RX5 124 yX2_hasNode, Cond.instanceMethod yX2_hasNode, Cond.selects RX2 yX2_hasNode yX2_hasNode, Cond.initialized RX2, Cond.code yX2_hasNode cX2_hasNode 2 (some .boolean), Cond.fieldLink RX2 9 "RingProtection$Shape" "nodes" "I", Cond.methodLink RX5 54 yX0_smallestFreeNumber, Cond.instanceMethod yX0_smallestFreeNumber, Cond.selects RX0 yX0_smallestFreeNumber yX0_smallestFreeNumber, Cond.initialized RX0, Cond.code yX0_smallestFreeNumber cX0_smallestFreeNumber 2 (some .int), Cond.methodLink RX0 24 yX0_has, Cond.instanceMethod yX0_has, Cond.selects RX0 yX0_has yX0_has, Cond.code yX0_has cX0_has 2 (some .boolean), Cond.fieldLink RX0 18 "RingProtection$CircuitTable" "paths" "[I", Cond.methodLink RX5 60 yX2_route, Cond.instanceMethod yX2_route]
def wsX5_addCircuit_r2 : List Cond := [Cond.selects RX2 yX2_route yX2_route, Cond.code yX2_route cX2_route 7 (some .int), Cond.methodLink RX2 18 yX2_nodeAfter, Cond.instanceMethod yX2_nodeAfter, Cond.selects RX2 yX2_nodeAfter yX2_nodeAfter, Cond.code yX2_nodeAfter cX2_nodeAfter 2 (some .int), Cond.methodLink RX5 64 yX0_slotsUsed, Cond.instanceMethod yX0_slotsUsed, Cond.selects RX0 yX0_slotsUsed yX0_slotsUsed, Cond.code yX0_slotsUsed cX0_slotsUsed 5 (some .int), Cond.fieldLink RX0 21 "RingProtection$CircuitTable" "slots" "[I", Cond.methodLink RX0 36 yX0_isExtra, Cond.instanceMethod yX0_isExtra, Cond.selects RX0 yX0_isExtra yX0_isExtra, Cond.code yX0_isExtra cX0_isExtra 2 (some .boolean), Cond.fieldLink RX0 28 "RingProtection$CircuitTable" "extras" "I", Cond.static yX5_contains, Cond.code yX5_contains cX5_contains 2 (some .boolean), Cond.methodLink RX5 68 yX5_contains, Cond.methodLink RX5 72 yX0_putEnds, Cond.instanceMethod yX0_putEnds, Cond.selects RX0 yX0_putEnds yX0_putEnds, Cond.code yX0_putEnds cX0_putEnds 4 none, Cond.fieldLink RX0 9 "RingProtection$CircuitTable" "firstEnds" "[I"]
def wsX5_addCircuit_r3 : List Cond := [Cond.fieldLink RX0 15 "RingProtection$CircuitTable" "secondEnds" "[I", Cond.methodLink RX5 76 yX0_putRoute, Cond.instanceMethod yX0_putRoute, Cond.selects RX0 yX0_putRoute yX0_putRoute, Cond.code yX0_putRoute cX0_putRoute 5 none, Cond.static yX5_marked, Cond.code yX5_marked cX5_marked 3 (some .int)]
def wsX5_addCircuit : List Cond := .code yX5_addCircuit cX5_addCircuit 9 (some .int) :: ((wsX5_addCircuit_r1 ++ (wsX5_addCircuit_r2 ++ wsX5_addCircuit_r3)) ++ wsX50 ++ wsX30 ++ wsX20 ++ wsX00)
def wsX5_removeCircuit_r1 : List Cond := [Cond.fieldLink RX5 10 "RingProtection" "current" "LRingProtection$Simulation;", Cond.methodLink RX5 80 yX0_has, Cond.instanceMethod yX0_has, Cond.selects RX0 yX0_has yX0_has, Cond.initialized RX0, Cond.code yX0_has cX0_has 2 (some .boolean), Cond.fieldLink RX0 18 "RingProtection$CircuitTable" "paths" "[I", Cond.methodLink RX5 84 yX0_takeAway, Cond.instanceMethod yX0_takeAway, Cond.selects RX0 yX0_takeAway yX0_takeAway, Cond.code yX0_takeAway cX0_takeAway 2 none, Cond.methodLink RX0 43 yX0_putRoute, Cond.instanceMethod yX0_putRoute, Cond.selects RX0 yX0_putRoute yX0_putRoute, Cond.code yX0_putRoute cX0_putRoute 5 none, Cond.fieldLink RX0 21 "RingProtection$CircuitTable" "slots" "[I", Cond.fieldLink RX0 28 "RingProtection$CircuitTable" "extras" "I", Cond.static yX5_marked, Cond.initialized RX5, Cond.code yX5_marked cX5_marked 3 (some .int), Cond.methodLink RX5 88 yX0_count, Cond.instanceMethod yX0_count, Cond.selects RX0 yX0_count yX0_count, Cond.code yX0_count cX0_count 3 (some .int)]
def wsX5_removeCircuit_r2 : List Cond := [Cond.methodLink RX0 24 yX0_has]
def wsX5_removeCircuit : List Cond := .code yX5_removeCircuit cX5_removeCircuit 2 (some .int) :: ((wsX5_removeCircuit_r1 ++ wsX5_removeCircuit_r2) ++ wsX50 ++ wsX30 ++ wsX00)
def wsX5_circuitCount : List Cond := .code yX5_circuitCount cX5_circuitCount 1 (some .int) :: ([.fieldLink RX5 10 "RingProtection" "current" "LRingProtection$Simulation;", .methodLink RX5 88 yX0_count, .instanceMethod yX0_count, .selects RX0 yX0_count yX0_count, .initialized RX0, .code yX0_count cX0_count 3 (some .int), .methodLink RX0 24 yX0_has, .instanceMethod yX0_has, .selects RX0 yX0_has yX0_has, .code yX0_has cX0_has 2 (some .boolean), .fieldLink RX0 18 "RingProtection$CircuitTable" "paths" "[I"] ++ wsX50 ++ wsX30 ++ wsX00)
def wsX5_freeSlot_r1 : List Cond := [Cond.fieldLink RX5 10 "RingProtection" "current" "LRingProtection$Simulation;", Cond.methodLink RX5 43 yX5_faultOfEnds, Cond.instanceMethod yX5_faultOfEnds, Cond.selects RX5 yX5_faultOfEnds yX5_faultOfEnds, Cond.initialized RX5, Cond.code yX5_faultOfEnds cX5_faultOfEnds 3 (some .int), Cond.methodLink RX5 124 yX2_hasNode, Cond.instanceMethod yX2_hasNode, Cond.selects RX2 yX2_hasNode yX2_hasNode, Cond.initialized RX2, Cond.code yX2_hasNode cX2_hasNode 2 (some .boolean), Cond.fieldLink RX2 9 "RingProtection$Shape" "nodes" "I", Cond.methodLink RX5 60 yX2_route, Cond.instanceMethod yX2_route, Cond.selects RX2 yX2_route yX2_route, Cond.code yX2_route cX2_route 7 (some .int), Cond.methodLink RX2 18 yX2_nodeAfter, Cond.instanceMethod yX2_nodeAfter, Cond.selects RX2 yX2_nodeAfter yX2_nodeAfter, Cond.code yX2_nodeAfter cX2_nodeAfter 2 (some .int), Cond.methodLink RX5 64 yX0_slotsUsed, Cond.instanceMethod yX0_slotsUsed, Cond.selects RX0 yX0_slotsUsed yX0_slotsUsed, Cond.initialized RX0]
def wsX5_freeSlot_r2 : List Cond := [Cond.code yX0_slotsUsed cX0_slotsUsed 5 (some .int), Cond.fieldLink RX0 18 "RingProtection$CircuitTable" "paths" "[I", Cond.fieldLink RX0 21 "RingProtection$CircuitTable" "slots" "[I", Cond.methodLink RX0 36 yX0_isExtra, Cond.instanceMethod yX0_isExtra, Cond.selects RX0 yX0_isExtra yX0_isExtra, Cond.code yX0_isExtra cX0_isExtra 2 (some .boolean), Cond.fieldLink RX0 28 "RingProtection$CircuitTable" "extras" "I", Cond.static yX5_contains, Cond.code yX5_contains cX5_contains 2 (some .boolean), Cond.methodLink RX5 68 yX5_contains]
def wsX5_freeSlot : List Cond := .code yX5_freeSlot cX5_freeSlot 9 (some .int) :: ((wsX5_freeSlot_r1 ++ wsX5_freeSlot_r2) ++ wsX50 ++ wsX30 ++ wsX20 ++ wsX00)
def wsX5_circuitsOn : List Cond := .code yX5_circuitsOn cX5_circuitsOn 2 (some .int) :: ([.fieldLink RX5 10 "RingProtection" "current" "LRingProtection$Simulation;", .methodLink RX5 91 yX2_hasSpan, .instanceMethod yX2_hasSpan, .selects RX2 yX2_hasSpan yX2_hasSpan, .initialized RX2, .code yX2_hasSpan cX2_hasSpan 2 (some .boolean), .fieldLink RX2 9 "RingProtection$Shape" "nodes" "I", .methodLink RX5 94 yX0_crossing, .instanceMethod yX0_crossing, .selects RX0 yX0_crossing yX0_crossing, .initialized RX0, .code yX0_crossing cX0_crossing 4 (some .int), .fieldLink RX0 18 "RingProtection$CircuitTable" "paths" "[I"] ++ wsX50 ++ wsX30 ++ wsX20 ++ wsX00)
def wsX5_pathLength : List Cond := .code yX5_pathLength cX5_pathLength 2 (some .int) :: ([.fieldLink RX5 10 "RingProtection" "current" "LRingProtection$Simulation;", .methodLink RX5 80 yX0_has, .instanceMethod yX0_has, .selects RX0 yX0_has yX0_has, .initialized RX0, .code yX0_has cX0_has 2 (some .boolean), .fieldLink RX0 18 "RingProtection$CircuitTable" "paths" "[I", .methodLink RX5 98 yX0_pathOf, .instanceMethod yX0_pathOf, .selects RX0 yX0_pathOf yX0_pathOf, .code yX0_pathOf cX0_pathOf 2 (some .int), .methodLink RX0 24 yX0_has, .methodLink RX5 101 yJ6_bitCount_0f7a4, .static yJ6_bitCount_0f7a4, .initialized RJ6, .code yJ6_bitCount_0f7a4 cJ6_bitCount_0f7a4 1 (some .int), .constant RJ6 265 (1431655765), .constant RJ6 266 (858993459), .constant RJ6 267 (252645135)] ++ wsX50 ++ wsX30 ++ wsX00)
def wsX5_failWorking_r1 : List Cond := [Cond.fieldLink RX5 10 "RingProtection" "current" "LRingProtection$Simulation;", Cond.methodLink RX5 91 yX2_hasSpan, Cond.instanceMethod yX2_hasSpan, Cond.selects RX2 yX2_hasSpan yX2_hasSpan, Cond.initialized RX2, Cond.code yX2_hasSpan cX2_hasSpan 2 (some .boolean), Cond.fieldLink RX2 9 "RingProtection$Shape" "nodes" "I", Cond.methodLink RX5 115 yX5_marked, Cond.static yX5_marked, Cond.initialized RX5, Cond.code yX5_marked cX5_marked 3 (some .int), Cond.methodLink RX5 118 yX1_run, Cond.instanceMethod yX1_run, Cond.selects RX1 yX1_run yX1_run, Cond.initialized RX1, Cond.code yX1_run cX1_run 2 none, Cond.fieldLink RX1 12 "RingProtection$Controller" "shape" "LRingProtection$Shape;", Cond.methodLink RX1 62 yX1_findCapacitiesDown, Cond.instanceMethod yX1_findCapacitiesDown, Cond.selects RX1 yX1_findCapacitiesDown yX1_findCapacitiesDown, Cond.code yX1_findCapacitiesDown cX1_findCapacitiesDown 3 none, Cond.fieldLink RX1 78 "RingProtection$Controller" "failedNodes" "I", Cond.fieldLink RX1 84 "RingProtection$Controller" "failedWorking" "I", Cond.fieldLink RX1 87 "RingProtection$Controller" "workingDown" "I"]
def wsX5_failWorking_r2 : List Cond := [Cond.fieldLink RX1 90 "RingProtection$Controller" "failedProtection" "I", Cond.fieldLink RX1 93 "RingProtection$Controller" "protectionDown" "I", Cond.static yX5_contains, Cond.code yX5_contains cX5_contains 2 (some .boolean), Cond.methodLink RX1 81 yX2_spansAt, Cond.instanceMethod yX2_spansAt, Cond.selects RX2 yX2_spansAt yX2_spansAt, Cond.code yX2_spansAt cX2_spansAt 3 (some .int), Cond.methodLink RX1 65 yX1_takeDirectRequest, Cond.instanceMethod yX1_takeDirectRequest, Cond.selects RX1 yX1_takeDirectRequest yX1_takeDirectRequest, Cond.code yX1_takeDirectRequest cX1_takeDirectRequest 4 none, Cond.methodLink RX1 102 Lib.Math.max.name, Cond.static Lib.Math.max.name, Cond.initialized "java/lang/Math", Cond.code Lib.Math.max.name Lib.Math.max.code 2 (some .int), Cond.fieldLink RX1 32 "RingProtection$Controller" "directRequests" "[I", Cond.fieldLink RX1 22 "RingProtection$Controller" "timers" "[I", Cond.fieldLink RX1 28 "RingProtection$Controller" "restoreTime" "I", Cond.methodLink RX1 96 yX1_requestOfFailures, Cond.instanceMethod yX1_requestOfFailures, Cond.selects RX1 yX1_requestOfFailures yX1_requestOfFailures, Cond.code yX1_requestOfFailures cX1_requestOfFailures 3 (some .int), Cond.methodLink RX1 99 yX1_requestOfCommand]
def wsX5_failWorking_r3 : List Cond := [Cond.instanceMethod yX1_requestOfCommand, Cond.selects RX1 yX1_requestOfCommand yX1_requestOfCommand, Cond.code yX1_requestOfCommand cX1_requestOfCommand 4 (some .int), Cond.fieldLink RX1 18 "RingProtection$Controller" "commands" "[I", Cond.methodLink RX1 108 yX1_startWaiting, Cond.instanceMethod yX1_startWaiting, Cond.selects RX1 yX1_startWaiting yX1_startWaiting, Cond.code yX1_startWaiting cX1_startWaiting 3 none, Cond.fieldLink RX1 25 "RingProtection$Controller" "heldRequests" "[I", Cond.methodLink RX1 111 yX1_switchAt, Cond.instanceMethod yX1_switchAt, Cond.selects RX1 yX1_switchAt yX1_switchAt, Cond.code yX1_switchAt cX1_switchAt 2 (some .int), Cond.fieldLink RX1 45 "RingProtection$Controller" "ringSwitched" "I", Cond.fieldLink RX1 52 "RingProtection$Controller" "spanSwitched" "I", Cond.methodLink RX1 69 yX1_grantSwitches, Cond.instanceMethod yX1_grantSwitches, Cond.selects RX1 yX1_grantSwitches yX1_grantSwitches, Cond.code yX1_grantSwitches cX1_grantSwitches 4 none, Cond.methodLink RX1 114 yX1_isLockedOut, Cond.instanceMethod yX1_isLockedOut, Cond.selects RX1 yX1_isLockedOut yX1_isLockedOut, Cond.code yX1_isLockedOut cX1_isLockedOut 2 (some .boolean), Cond.methodLink RX1 118 yX1_requestAt]
def wsX5_failWorking_r4 : List Cond := [Cond.instanceMethod yX1_requestAt, Cond.selects RX1 yX1_requestAt yX1_requestAt, Cond.code yX1_requestAt cX1_requestAt 3 (some .int), Cond.methodLink RX1 38 yX2_hasSpan, Cond.methodLink RX1 121 yX1_grant, Cond.instanceMethod yX1_grant, Cond.selects RX1 yX1_grant yX1_grant, Cond.code yX1_grant cX1_grant 4 none, Cond.methodLink RX1 72 yX1_dropWaitsWithoutSwitch, Cond.instanceMethod yX1_dropWaitsWithoutSwitch, Cond.selects RX1 yX1_dropWaitsWithoutSwitch yX1_dropWaitsWithoutSwitch, Cond.code yX1_dropWaitsWithoutSwitch cX1_dropWaitsWithoutSwitch 4 none, Cond.methodLink RX1 75 yX1_findSegments, Cond.instanceMethod yX1_findSegments, Cond.selects RX1 yX1_findSegments yX1_findSegments, Cond.code yX1_findSegments cX1_findSegments 3 none, Cond.fieldLink RX1 35 "RingProtection$Controller" "segments" "[I", Cond.methodLink RX5 68 yX5_contains]
def wsX5_failWorking : List Cond := .code yX5_failWorking cX5_failWorking 4 (some .int) :: ((wsX5_failWorking_r1 ++ (wsX5_failWorking_r2 ++ (wsX5_failWorking_r3 ++ wsX5_failWorking_r4))) ++ wsX50 ++ wsX30 ++ wsX10 ++ wsX20)
def wsX5_failProtection_r1 : List Cond := [Cond.fieldLink RX5 10 "RingProtection" "current" "LRingProtection$Simulation;", Cond.methodLink RX5 91 yX2_hasSpan, Cond.instanceMethod yX2_hasSpan, Cond.selects RX2 yX2_hasSpan yX2_hasSpan, Cond.initialized RX2, Cond.code yX2_hasSpan cX2_hasSpan 2 (some .boolean), Cond.fieldLink RX2 9 "RingProtection$Shape" "nodes" "I", Cond.methodLink RX5 115 yX5_marked, Cond.static yX5_marked, Cond.initialized RX5, Cond.code yX5_marked cX5_marked 3 (some .int), Cond.methodLink RX5 118 yX1_run, Cond.instanceMethod yX1_run, Cond.selects RX1 yX1_run yX1_run, Cond.initialized RX1, Cond.code yX1_run cX1_run 2 none, Cond.fieldLink RX1 12 "RingProtection$Controller" "shape" "LRingProtection$Shape;", Cond.methodLink RX1 62 yX1_findCapacitiesDown, Cond.instanceMethod yX1_findCapacitiesDown, Cond.selects RX1 yX1_findCapacitiesDown yX1_findCapacitiesDown, Cond.code yX1_findCapacitiesDown cX1_findCapacitiesDown 3 none, Cond.fieldLink RX1 78 "RingProtection$Controller" "failedNodes" "I", Cond.fieldLink RX1 84 "RingProtection$Controller" "failedWorking" "I", Cond.fieldLink RX1 87 "RingProtection$Controller" "workingDown" "I"]
def wsX5_failProtection_r2 : List Cond := [Cond.fieldLink RX1 90 "RingProtection$Controller" "failedProtection" "I", Cond.fieldLink RX1 93 "RingProtection$Controller" "protectionDown" "I", Cond.static yX5_contains, Cond.code yX5_contains cX5_contains 2 (some .boolean), Cond.methodLink RX1 81 yX2_spansAt, Cond.instanceMethod yX2_spansAt, Cond.selects RX2 yX2_spansAt yX2_spansAt, Cond.code yX2_spansAt cX2_spansAt 3 (some .int), Cond.methodLink RX1 65 yX1_takeDirectRequest, Cond.instanceMethod yX1_takeDirectRequest, Cond.selects RX1 yX1_takeDirectRequest yX1_takeDirectRequest, Cond.code yX1_takeDirectRequest cX1_takeDirectRequest 4 none, Cond.methodLink RX1 102 Lib.Math.max.name, Cond.static Lib.Math.max.name, Cond.initialized "java/lang/Math", Cond.code Lib.Math.max.name Lib.Math.max.code 2 (some .int), Cond.fieldLink RX1 32 "RingProtection$Controller" "directRequests" "[I", Cond.fieldLink RX1 22 "RingProtection$Controller" "timers" "[I", Cond.fieldLink RX1 28 "RingProtection$Controller" "restoreTime" "I", Cond.methodLink RX1 96 yX1_requestOfFailures, Cond.instanceMethod yX1_requestOfFailures, Cond.selects RX1 yX1_requestOfFailures yX1_requestOfFailures, Cond.code yX1_requestOfFailures cX1_requestOfFailures 3 (some .int), Cond.methodLink RX1 99 yX1_requestOfCommand]
def wsX5_failProtection_r3 : List Cond := [Cond.instanceMethod yX1_requestOfCommand, Cond.selects RX1 yX1_requestOfCommand yX1_requestOfCommand, Cond.code yX1_requestOfCommand cX1_requestOfCommand 4 (some .int), Cond.fieldLink RX1 18 "RingProtection$Controller" "commands" "[I", Cond.methodLink RX1 108 yX1_startWaiting, Cond.instanceMethod yX1_startWaiting, Cond.selects RX1 yX1_startWaiting yX1_startWaiting, Cond.code yX1_startWaiting cX1_startWaiting 3 none, Cond.fieldLink RX1 25 "RingProtection$Controller" "heldRequests" "[I", Cond.methodLink RX1 111 yX1_switchAt, Cond.instanceMethod yX1_switchAt, Cond.selects RX1 yX1_switchAt yX1_switchAt, Cond.code yX1_switchAt cX1_switchAt 2 (some .int), Cond.fieldLink RX1 45 "RingProtection$Controller" "ringSwitched" "I", Cond.fieldLink RX1 52 "RingProtection$Controller" "spanSwitched" "I", Cond.methodLink RX1 69 yX1_grantSwitches, Cond.instanceMethod yX1_grantSwitches, Cond.selects RX1 yX1_grantSwitches yX1_grantSwitches, Cond.code yX1_grantSwitches cX1_grantSwitches 4 none, Cond.methodLink RX1 114 yX1_isLockedOut, Cond.instanceMethod yX1_isLockedOut, Cond.selects RX1 yX1_isLockedOut yX1_isLockedOut, Cond.code yX1_isLockedOut cX1_isLockedOut 2 (some .boolean), Cond.methodLink RX1 118 yX1_requestAt]
def wsX5_failProtection_r4 : List Cond := [Cond.instanceMethod yX1_requestAt, Cond.selects RX1 yX1_requestAt yX1_requestAt, Cond.code yX1_requestAt cX1_requestAt 3 (some .int), Cond.methodLink RX1 38 yX2_hasSpan, Cond.methodLink RX1 121 yX1_grant, Cond.instanceMethod yX1_grant, Cond.selects RX1 yX1_grant yX1_grant, Cond.code yX1_grant cX1_grant 4 none, Cond.methodLink RX1 72 yX1_dropWaitsWithoutSwitch, Cond.instanceMethod yX1_dropWaitsWithoutSwitch, Cond.selects RX1 yX1_dropWaitsWithoutSwitch yX1_dropWaitsWithoutSwitch, Cond.code yX1_dropWaitsWithoutSwitch cX1_dropWaitsWithoutSwitch 4 none, Cond.methodLink RX1 75 yX1_findSegments, Cond.instanceMethod yX1_findSegments, Cond.selects RX1 yX1_findSegments yX1_findSegments, Cond.code yX1_findSegments cX1_findSegments 3 none, Cond.fieldLink RX1 35 "RingProtection$Controller" "segments" "[I", Cond.methodLink RX5 68 yX5_contains]
def wsX5_failProtection : List Cond := .code yX5_failProtection cX5_failProtection 4 (some .int) :: ((wsX5_failProtection_r1 ++ (wsX5_failProtection_r2 ++ (wsX5_failProtection_r3 ++ wsX5_failProtection_r4))) ++ wsX50 ++ wsX30 ++ wsX10 ++ wsX20)
def wsX5_failNode_r1 : List Cond := [Cond.fieldLink RX5 10 "RingProtection" "current" "LRingProtection$Simulation;", Cond.methodLink RX5 124 yX2_hasNode, Cond.instanceMethod yX2_hasNode, Cond.selects RX2 yX2_hasNode yX2_hasNode, Cond.initialized RX2, Cond.code yX2_hasNode cX2_hasNode 2 (some .boolean), Cond.fieldLink RX2 9 "RingProtection$Shape" "nodes" "I", Cond.methodLink RX5 115 yX5_marked, Cond.static yX5_marked, Cond.initialized RX5, Cond.code yX5_marked cX5_marked 3 (some .int), Cond.methodLink RX5 118 yX1_run, Cond.instanceMethod yX1_run, Cond.selects RX1 yX1_run yX1_run, Cond.initialized RX1, Cond.code yX1_run cX1_run 2 none, Cond.fieldLink RX1 12 "RingProtection$Controller" "shape" "LRingProtection$Shape;", Cond.methodLink RX1 62 yX1_findCapacitiesDown, Cond.instanceMethod yX1_findCapacitiesDown, Cond.selects RX1 yX1_findCapacitiesDown yX1_findCapacitiesDown, Cond.code yX1_findCapacitiesDown cX1_findCapacitiesDown 3 none, Cond.fieldLink RX1 78 "RingProtection$Controller" "failedNodes" "I", Cond.fieldLink RX1 84 "RingProtection$Controller" "failedWorking" "I", Cond.fieldLink RX1 87 "RingProtection$Controller" "workingDown" "I"]
def wsX5_failNode_r2 : List Cond := [Cond.fieldLink RX1 90 "RingProtection$Controller" "failedProtection" "I", Cond.fieldLink RX1 93 "RingProtection$Controller" "protectionDown" "I", Cond.static yX5_contains, Cond.code yX5_contains cX5_contains 2 (some .boolean), Cond.methodLink RX1 81 yX2_spansAt, Cond.instanceMethod yX2_spansAt, Cond.selects RX2 yX2_spansAt yX2_spansAt, Cond.code yX2_spansAt cX2_spansAt 3 (some .int), Cond.methodLink RX1 65 yX1_takeDirectRequest, Cond.instanceMethod yX1_takeDirectRequest, Cond.selects RX1 yX1_takeDirectRequest yX1_takeDirectRequest, Cond.code yX1_takeDirectRequest cX1_takeDirectRequest 4 none, Cond.methodLink RX1 102 Lib.Math.max.name, Cond.static Lib.Math.max.name, Cond.initialized "java/lang/Math", Cond.code Lib.Math.max.name Lib.Math.max.code 2 (some .int), Cond.fieldLink RX1 32 "RingProtection$Controller" "directRequests" "[I", Cond.fieldLink RX1 22 "RingProtection$Controller" "timers" "[I", Cond.fieldLink RX1 28 "RingProtection$Controller" "restoreTime" "I", Cond.methodLink RX1 96 yX1_requestOfFailures, Cond.instanceMethod yX1_requestOfFailures, Cond.selects RX1 yX1_requestOfFailures yX1_requestOfFailures, Cond.code yX1_requestOfFailures cX1_requestOfFailures 3 (some .int), Cond.methodLink RX1 99 yX1_requestOfCommand]
def wsX5_failNode_r3 : List Cond := [Cond.instanceMethod yX1_requestOfCommand, Cond.selects RX1 yX1_requestOfCommand yX1_requestOfCommand, Cond.code yX1_requestOfCommand cX1_requestOfCommand 4 (some .int), Cond.fieldLink RX1 18 "RingProtection$Controller" "commands" "[I", Cond.methodLink RX1 108 yX1_startWaiting, Cond.instanceMethod yX1_startWaiting, Cond.selects RX1 yX1_startWaiting yX1_startWaiting, Cond.code yX1_startWaiting cX1_startWaiting 3 none, Cond.fieldLink RX1 25 "RingProtection$Controller" "heldRequests" "[I", Cond.methodLink RX1 111 yX1_switchAt, Cond.instanceMethod yX1_switchAt, Cond.selects RX1 yX1_switchAt yX1_switchAt, Cond.code yX1_switchAt cX1_switchAt 2 (some .int), Cond.fieldLink RX1 45 "RingProtection$Controller" "ringSwitched" "I", Cond.fieldLink RX1 52 "RingProtection$Controller" "spanSwitched" "I", Cond.methodLink RX1 69 yX1_grantSwitches, Cond.instanceMethod yX1_grantSwitches, Cond.selects RX1 yX1_grantSwitches yX1_grantSwitches, Cond.code yX1_grantSwitches cX1_grantSwitches 4 none, Cond.methodLink RX1 114 yX1_isLockedOut, Cond.instanceMethod yX1_isLockedOut, Cond.selects RX1 yX1_isLockedOut yX1_isLockedOut, Cond.code yX1_isLockedOut cX1_isLockedOut 2 (some .boolean), Cond.methodLink RX1 118 yX1_requestAt]
def wsX5_failNode_r4 : List Cond := [Cond.instanceMethod yX1_requestAt, Cond.selects RX1 yX1_requestAt yX1_requestAt, Cond.code yX1_requestAt cX1_requestAt 3 (some .int), Cond.methodLink RX1 38 yX2_hasSpan, Cond.instanceMethod yX2_hasSpan, Cond.selects RX2 yX2_hasSpan yX2_hasSpan, Cond.code yX2_hasSpan cX2_hasSpan 2 (some .boolean), Cond.methodLink RX1 121 yX1_grant, Cond.instanceMethod yX1_grant, Cond.selects RX1 yX1_grant yX1_grant, Cond.code yX1_grant cX1_grant 4 none, Cond.methodLink RX1 72 yX1_dropWaitsWithoutSwitch, Cond.instanceMethod yX1_dropWaitsWithoutSwitch, Cond.selects RX1 yX1_dropWaitsWithoutSwitch yX1_dropWaitsWithoutSwitch, Cond.code yX1_dropWaitsWithoutSwitch cX1_dropWaitsWithoutSwitch 4 none, Cond.methodLink RX1 75 yX1_findSegments, Cond.instanceMethod yX1_findSegments, Cond.selects RX1 yX1_findSegments yX1_findSegments, Cond.code yX1_findSegments cX1_findSegments 3 none, Cond.fieldLink RX1 35 "RingProtection$Controller" "segments" "[I", Cond.methodLink RX5 68 yX5_contains]
def wsX5_failNode : List Cond := .code yX5_failNode cX5_failNode 4 (some .int) :: ((wsX5_failNode_r1 ++ (wsX5_failNode_r2 ++ (wsX5_failNode_r3 ++ wsX5_failNode_r4))) ++ wsX50 ++ wsX30 ++ wsX10 ++ wsX20)
def wsX5_isCommand : List Cond := .code yX5_isCommand cX5_isCommand 1 (some .boolean) :: ([])
def wsX5_command_r1 : List Cond := [Cond.fieldLink RX5 10 "RingProtection" "current" "LRingProtection$Simulation;", Cond.methodLink RX5 91 yX2_hasSpan, Cond.instanceMethod yX2_hasSpan, Cond.selects RX2 yX2_hasSpan yX2_hasSpan, Cond.initialized RX2, Cond.code yX2_hasSpan cX2_hasSpan 2 (some .boolean), Cond.fieldLink RX2 9 "RingProtection$Shape" "nodes" "I", Cond.methodLink RX5 130 yX5_isCommand, Cond.static yX5_isCommand, Cond.initialized RX5, Cond.code yX5_isCommand cX5_isCommand 1 (some .boolean), Cond.methodLink RX5 133 yX1_replaceCommand, Cond.instanceMethod yX1_replaceCommand, Cond.selects RX1 yX1_replaceCommand yX1_replaceCommand, Cond.initialized RX1, Cond.code yX1_replaceCommand cX1_replaceCommand 4 (some .int), Cond.fieldLink RX1 12 "RingProtection$Controller" "shape" "LRingProtection$Shape;", Cond.fieldLink RX1 18 "RingProtection$Controller" "commands" "[I", Cond.methodLink RX1 38 yX2_hasSpan, Cond.methodLink RX5 118 yX1_run, Cond.instanceMethod yX1_run, Cond.selects RX1 yX1_run yX1_run, Cond.code yX1_run cX1_run 2 none, Cond.methodLink RX1 62 yX1_findCapacitiesDown]
def wsX5_command_r2 : List Cond := [Cond.instanceMethod yX1_findCapacitiesDown, Cond.selects RX1 yX1_findCapacitiesDown yX1_findCapacitiesDown, Cond.code yX1_findCapacitiesDown cX1_findCapacitiesDown 3 none, Cond.fieldLink RX1 78 "RingProtection$Controller" "failedNodes" "I", Cond.fieldLink RX1 84 "RingProtection$Controller" "failedWorking" "I", Cond.fieldLink RX1 87 "RingProtection$Controller" "workingDown" "I", Cond.fieldLink RX1 90 "RingProtection$Controller" "failedProtection" "I", Cond.fieldLink RX1 93 "RingProtection$Controller" "protectionDown" "I", Cond.static yX5_contains, Cond.code yX5_contains cX5_contains 2 (some .boolean), Cond.methodLink RX1 81 yX2_spansAt, Cond.instanceMethod yX2_spansAt, Cond.selects RX2 yX2_spansAt yX2_spansAt, Cond.code yX2_spansAt cX2_spansAt 3 (some .int), Cond.methodLink RX1 65 yX1_takeDirectRequest, Cond.instanceMethod yX1_takeDirectRequest, Cond.selects RX1 yX1_takeDirectRequest yX1_takeDirectRequest, Cond.code yX1_takeDirectRequest cX1_takeDirectRequest 4 none, Cond.methodLink RX1 102 Lib.Math.max.name, Cond.static Lib.Math.max.name, Cond.initialized "java/lang/Math", Cond.code Lib.Math.max.name Lib.Math.max.code 2 (some .int), Cond.fieldLink RX1 32 "RingProtection$Controller" "directRequests" "[I", Cond.fieldLink RX1 22 "RingProtection$Controller" "timers" "[I"]
def wsX5_command_r3 : List Cond := [Cond.fieldLink RX1 28 "RingProtection$Controller" "restoreTime" "I", Cond.methodLink RX1 96 yX1_requestOfFailures, Cond.instanceMethod yX1_requestOfFailures, Cond.selects RX1 yX1_requestOfFailures yX1_requestOfFailures, Cond.code yX1_requestOfFailures cX1_requestOfFailures 3 (some .int), Cond.methodLink RX1 99 yX1_requestOfCommand, Cond.instanceMethod yX1_requestOfCommand, Cond.selects RX1 yX1_requestOfCommand yX1_requestOfCommand, Cond.code yX1_requestOfCommand cX1_requestOfCommand 4 (some .int), Cond.methodLink RX1 108 yX1_startWaiting, Cond.instanceMethod yX1_startWaiting, Cond.selects RX1 yX1_startWaiting yX1_startWaiting, Cond.code yX1_startWaiting cX1_startWaiting 3 none, Cond.fieldLink RX1 25 "RingProtection$Controller" "heldRequests" "[I", Cond.methodLink RX1 111 yX1_switchAt, Cond.instanceMethod yX1_switchAt, Cond.selects RX1 yX1_switchAt yX1_switchAt, Cond.code yX1_switchAt cX1_switchAt 2 (some .int), Cond.fieldLink RX1 45 "RingProtection$Controller" "ringSwitched" "I", Cond.fieldLink RX1 52 "RingProtection$Controller" "spanSwitched" "I", Cond.methodLink RX1 69 yX1_grantSwitches, Cond.instanceMethod yX1_grantSwitches, Cond.selects RX1 yX1_grantSwitches yX1_grantSwitches, Cond.code yX1_grantSwitches cX1_grantSwitches 4 none]
def wsX5_command_r4 : List Cond := [Cond.methodLink RX1 114 yX1_isLockedOut, Cond.instanceMethod yX1_isLockedOut, Cond.selects RX1 yX1_isLockedOut yX1_isLockedOut, Cond.code yX1_isLockedOut cX1_isLockedOut 2 (some .boolean), Cond.methodLink RX1 118 yX1_requestAt, Cond.instanceMethod yX1_requestAt, Cond.selects RX1 yX1_requestAt yX1_requestAt, Cond.code yX1_requestAt cX1_requestAt 3 (some .int), Cond.methodLink RX1 121 yX1_grant, Cond.instanceMethod yX1_grant, Cond.selects RX1 yX1_grant yX1_grant, Cond.code yX1_grant cX1_grant 4 none, Cond.methodLink RX1 72 yX1_dropWaitsWithoutSwitch, Cond.instanceMethod yX1_dropWaitsWithoutSwitch, Cond.selects RX1 yX1_dropWaitsWithoutSwitch yX1_dropWaitsWithoutSwitch, Cond.code yX1_dropWaitsWithoutSwitch cX1_dropWaitsWithoutSwitch 4 none, Cond.methodLink RX1 75 yX1_findSegments, Cond.instanceMethod yX1_findSegments, Cond.selects RX1 yX1_findSegments yX1_findSegments, Cond.code yX1_findSegments cX1_findSegments 3 none, Cond.fieldLink RX1 35 "RingProtection$Controller" "segments" "[I"]
def wsX5_command : List Cond := .code yX5_command cX5_command 4 (some .int) :: ((wsX5_command_r1 ++ (wsX5_command_r2 ++ (wsX5_command_r3 ++ wsX5_command_r4))) ++ wsX50 ++ wsX30 ++ wsX20 ++ wsX10)
def wsX5_setRestoreTime : List Cond := .code yX5_setRestoreTime cX5_setRestoreTime 3 (some .int) :: ([.fieldLink RX5 10 "RingProtection" "current" "LRingProtection$Simulation;"] ++ wsX50 ++ wsX30 ++ wsX10)
def wsX5_advance_r1 : List Cond := [Cond.fieldLink RX5 10 "RingProtection" "current" "LRingProtection$Simulation;", Cond.methodLink RX5 139 yX3_passSecond, Cond.instanceMethod yX3_passSecond, Cond.selects RX3 yX3_passSecond yX3_passSecond, Cond.initialized RX3, Cond.code yX3_passSecond cX3_passSecond 1 none, Cond.fieldLink RX3 37 "RingProtection$Simulation" "time" "I", Cond.fieldLink RX3 21 "RingProtection$Simulation" "controller" "LRingProtection$Controller;", Cond.methodLink RX3 48 yX1_countTimersDown, Cond.instanceMethod yX1_countTimersDown, Cond.selects RX1 yX1_countTimersDown yX1_countTimersDown, Cond.initialized RX1, Cond.code yX1_countTimersDown cX1_countTimersDown 2 none, Cond.fieldLink RX1 12 "RingProtection$Controller" "shape" "LRingProtection$Shape;", Cond.fieldLink RX1 22 "RingProtection$Controller" "timers" "[I", Cond.methodLink RX3 51 yX1_run, Cond.instanceMethod yX1_run, Cond.selects RX1 yX1_run yX1_run, Cond.code yX1_run cX1_run 2 none, Cond.methodLink RX1 62 yX1_findCapacitiesDown, Cond.instanceMethod yX1_findCapacitiesDown, Cond.selects RX1 yX1_findCapacitiesDown yX1_findCapacitiesDown, Cond.code yX1_findCapacitiesDown cX1_findCapacitiesDown 3 none, Cond.fieldLink RX1 78 "RingProtection$Controller" "failedNodes" "I"]
def wsX5_advance_r2 : List Cond := [Cond.fieldLink RX1 84 "RingProtection$Controller" "failedWorking" "I", Cond.fieldLink RX1 87 "RingProtection$Controller" "workingDown" "I", Cond.fieldLink RX1 90 "RingProtection$Controller" "failedProtection" "I", Cond.fieldLink RX1 93 "RingProtection$Controller" "protectionDown" "I", Cond.static yX5_contains, Cond.initialized RX5, Cond.code yX5_contains cX5_contains 2 (some .boolean), Cond.methodLink RX1 81 yX2_spansAt, Cond.instanceMethod yX2_spansAt, Cond.selects RX2 yX2_spansAt yX2_spansAt, Cond.initialized RX2, Cond.code yX2_spansAt cX2_spansAt 3 (some .int), Cond.fieldLink RX2 9 "RingProtection$Shape" "nodes" "I", Cond.methodLink RX1 65 yX1_takeDirectRequest, Cond.instanceMethod yX1_takeDirectRequest, Cond.selects RX1 yX1_takeDirectRequest yX1_takeDirectRequest, Cond.code yX1_takeDirectRequest cX1_takeDirectRequest 4 none, Cond.methodLink RX1 102 Lib.Math.max.name, Cond.static Lib.Math.max.name, Cond.initialized "java/lang/Math", Cond.code Lib.Math.max.name Lib.Math.max.code 2 (some .int), Cond.fieldLink RX1 32 "RingProtection$Controller" "directRequests" "[I", Cond.fieldLink RX1 28 "RingProtection$Controller" "restoreTime" "I", Cond.methodLink RX1 96 yX1_requestOfFailures]
def wsX5_advance_r3 : List Cond := [Cond.instanceMethod yX1_requestOfFailures, Cond.selects RX1 yX1_requestOfFailures yX1_requestOfFailures, Cond.code yX1_requestOfFailures cX1_requestOfFailures 3 (some .int), Cond.methodLink RX1 99 yX1_requestOfCommand, Cond.instanceMethod yX1_requestOfCommand, Cond.selects RX1 yX1_requestOfCommand yX1_requestOfCommand, Cond.code yX1_requestOfCommand cX1_requestOfCommand 4 (some .int), Cond.fieldLink RX1 18 "RingProtection$Controller" "commands" "[I", Cond.methodLink RX1 108 yX1_startWaiting, Cond.instanceMethod yX1_startWaiting, Cond.selects RX1 yX1_startWaiting yX1_startWaiting, Cond.code yX1_startWaiting cX1_startWaiting 3 none, Cond.fieldLink RX1 25 "RingProtection$Controller" "heldRequests" "[I", Cond.methodLink RX1 111 yX1_switchAt, Cond.instanceMethod yX1_switchAt, Cond.selects RX1 yX1_switchAt yX1_switchAt, Cond.code yX1_switchAt cX1_switchAt 2 (some .int), Cond.fieldLink RX1 45 "RingProtection$Controller" "ringSwitched" "I", Cond.fieldLink RX1 52 "RingProtection$Controller" "spanSwitched" "I", Cond.methodLink RX1 69 yX1_grantSwitches, Cond.instanceMethod yX1_grantSwitches, Cond.selects RX1 yX1_grantSwitches yX1_grantSwitches, Cond.code yX1_grantSwitches cX1_grantSwitches 4 none, Cond.methodLink RX1 114 yX1_isLockedOut]
def wsX5_advance_r4 : List Cond := [Cond.instanceMethod yX1_isLockedOut, Cond.selects RX1 yX1_isLockedOut yX1_isLockedOut, Cond.code yX1_isLockedOut cX1_isLockedOut 2 (some .boolean), Cond.methodLink RX1 118 yX1_requestAt, Cond.instanceMethod yX1_requestAt, Cond.selects RX1 yX1_requestAt yX1_requestAt, Cond.code yX1_requestAt cX1_requestAt 3 (some .int), Cond.methodLink RX1 38 yX2_hasSpan, Cond.instanceMethod yX2_hasSpan, Cond.selects RX2 yX2_hasSpan yX2_hasSpan, Cond.code yX2_hasSpan cX2_hasSpan 2 (some .boolean), Cond.methodLink RX1 121 yX1_grant, Cond.instanceMethod yX1_grant, Cond.selects RX1 yX1_grant yX1_grant, Cond.code yX1_grant cX1_grant 4 none, Cond.methodLink RX1 72 yX1_dropWaitsWithoutSwitch, Cond.instanceMethod yX1_dropWaitsWithoutSwitch, Cond.selects RX1 yX1_dropWaitsWithoutSwitch yX1_dropWaitsWithoutSwitch, Cond.code yX1_dropWaitsWithoutSwitch cX1_dropWaitsWithoutSwitch 4 none, Cond.methodLink RX1 75 yX1_findSegments, Cond.instanceMethod yX1_findSegments, Cond.selects RX1 yX1_findSegments yX1_findSegments, Cond.code yX1_findSegments cX1_findSegments 3 none, Cond.fieldLink RX1 35 "RingProtection$Controller" "segments" "[I"]
def wsX5_advance : List Cond := .code yX5_advance cX5_advance 3 (some .int) :: ((wsX5_advance_r1 ++ (wsX5_advance_r2 ++ (wsX5_advance_r3 ++ wsX5_advance_r4))) ++ wsX50 ++ wsX30 ++ wsX10 ++ wsX20)
def wsX5_clock : List Cond := .code yX5_clock cX5_clock 1 (some .int) :: ([.fieldLink RX5 10 "RingProtection" "current" "LRingProtection$Simulation;"] ++ wsX50 ++ wsX30)
def wsX5_request : List Cond := .code yX5_request cX5_request 2 (some .int) :: ([.fieldLink RX5 10 "RingProtection" "current" "LRingProtection$Simulation;", .methodLink RX5 91 yX2_hasSpan, .instanceMethod yX2_hasSpan, .selects RX2 yX2_hasSpan yX2_hasSpan, .initialized RX2, .code yX2_hasSpan cX2_hasSpan 2 (some .boolean), .fieldLink RX2 9 "RingProtection$Shape" "nodes" "I", .methodLink RX5 145 yX1_requestAt, .instanceMethod yX1_requestAt, .selects RX1 yX1_requestAt yX1_requestAt, .initialized RX1, .code yX1_requestAt cX1_requestAt 3 (some .int), .fieldLink RX1 12 "RingProtection$Controller" "shape" "LRingProtection$Shape;", .fieldLink RX1 32 "RingProtection$Controller" "directRequests" "[I", .fieldLink RX1 22 "RingProtection$Controller" "timers" "[I", .fieldLink RX1 25 "RingProtection$Controller" "heldRequests" "[I", .methodLink RX1 38 yX2_hasSpan] ++ wsX50 ++ wsX30 ++ wsX20 ++ wsX10)
def wsX5_switchOf : List Cond := .code yX5_switchOf cX5_switchOf 2 (some .int) :: ([.fieldLink RX5 10 "RingProtection" "current" "LRingProtection$Simulation;", .methodLink RX5 91 yX2_hasSpan, .instanceMethod yX2_hasSpan, .selects RX2 yX2_hasSpan yX2_hasSpan, .initialized RX2, .code yX2_hasSpan cX2_hasSpan 2 (some .boolean), .fieldLink RX2 9 "RingProtection$Shape" "nodes" "I", .methodLink RX5 148 yX1_switchAt, .instanceMethod yX1_switchAt, .selects RX1 yX1_switchAt yX1_switchAt, .initialized RX1, .code yX1_switchAt cX1_switchAt 2 (some .int), .fieldLink RX1 45 "RingProtection$Controller" "ringSwitched" "I", .fieldLink RX1 52 "RingProtection$Controller" "spanSwitched" "I", .static yX5_contains, .initialized RX5, .code yX5_contains cX5_contains 2 (some .boolean)] ++ wsX50 ++ wsX30 ++ wsX20 ++ wsX10)
def wsX5_restoreTimer : List Cond := .code yX5_restoreTimer cX5_restoreTimer 2 (some .int) :: ([.fieldLink RX5 10 "RingProtection" "current" "LRingProtection$Simulation;", .methodLink RX5 91 yX2_hasSpan, .instanceMethod yX2_hasSpan, .selects RX2 yX2_hasSpan yX2_hasSpan, .initialized RX2, .code yX2_hasSpan cX2_hasSpan 2 (some .boolean), .fieldLink RX2 9 "RingProtection$Shape" "nodes" "I", .methodLink RX5 151 yX1_timerAt, .instanceMethod yX1_timerAt, .selects RX1 yX1_timerAt yX1_timerAt, .initialized RX1, .code yX1_timerAt cX1_timerAt 2 (some .int), .fieldLink RX1 12 "RingProtection$Controller" "shape" "LRingProtection$Shape;", .fieldLink RX1 22 "RingProtection$Controller" "timers" "[I", .methodLink RX1 38 yX2_hasSpan] ++ wsX50 ++ wsX30 ++ wsX20 ++ wsX10)
def wsX5_segment : List Cond := .code yX5_segment cX5_segment 2 (some .int) :: ([.fieldLink RX5 10 "RingProtection" "current" "LRingProtection$Simulation;", .methodLink RX5 124 yX2_hasNode, .instanceMethod yX2_hasNode, .selects RX2 yX2_hasNode yX2_hasNode, .initialized RX2, .code yX2_hasNode cX2_hasNode 2 (some .boolean), .fieldLink RX2 9 "RingProtection$Shape" "nodes" "I", .methodLink RX5 154 yX1_segmentOf, .instanceMethod yX1_segmentOf, .selects RX1 yX1_segmentOf yX1_segmentOf, .initialized RX1, .code yX1_segmentOf cX1_segmentOf 2 (some .int), .fieldLink RX1 12 "RingProtection$Controller" "shape" "LRingProtection$Shape;", .fieldLink RX1 35 "RingProtection$Controller" "segments" "[I", .methodLink RX1 42 yX2_hasNode] ++ wsX50 ++ wsX30 ++ wsX20 ++ wsX10)
def wsX5_state_r1 : List Cond := [Cond.fieldLink RX5 10 "RingProtection" "current" "LRingProtection$Simulation;", Cond.methodLink RX5 80 yX0_has, Cond.instanceMethod yX0_has, Cond.selects RX0 yX0_has yX0_has, Cond.initialized RX0, Cond.code yX0_has cX0_has 2 (some .boolean), Cond.fieldLink RX0 18 "RingProtection$CircuitTable" "paths" "[I", Cond.methodLink RX5 157 yX3_stateOf, Cond.instanceMethod yX3_stateOf, Cond.selects RX3 yX3_stateOf yX3_stateOf, Cond.initialized RX3, Cond.code yX3_stateOf cX3_stateOf 2 (some .int), Cond.fieldLink RX3 12 "RingProtection$Simulation" "circuits" "LRingProtection$CircuitTable;", Cond.methodLink RX3 54 yX0_isExtra, Cond.instanceMethod yX0_isExtra, Cond.selects RX0 yX0_isExtra yX0_isExtra, Cond.code yX0_isExtra cX0_isExtra 2 (some .boolean), Cond.fieldLink RX0 28 "RingProtection$CircuitTable" "extras" "I", Cond.static yX5_contains, Cond.initialized RX5, Cond.code yX5_contains cX5_contains 2 (some .boolean), Cond.methodLink RX3 58 yX3_stateOfExtra, Cond.instanceMethod yX3_stateOfExtra, Cond.selects RX3 yX3_stateOfExtra yX3_stateOfExtra]
def wsX5_state_r2 : List Cond := [Cond.code yX3_stateOfExtra cX3_stateOfExtra 3 (some .int), Cond.fieldLink RX3 21 "RingProtection$Simulation" "controller" "LRingProtection$Controller;", Cond.methodLink RX3 65 yX0_pathOf, Cond.instanceMethod yX0_pathOf, Cond.selects RX0 yX0_pathOf yX0_pathOf, Cond.code yX0_pathOf cX0_pathOf 2 (some .int), Cond.methodLink RX0 24 yX0_has, Cond.methodLink RX3 62 yX3_stateOfNormal, Cond.instanceMethod yX3_stateOfNormal, Cond.selects RX3 yX3_stateOfNormal yX3_stateOfNormal, Cond.code yX3_stateOfNormal cX3_stateOfNormal 7 (some .int), Cond.methodLink RX3 77 yX0_firstEndOf, Cond.instanceMethod yX0_firstEndOf, Cond.selects RX0 yX0_firstEndOf yX0_firstEndOf, Cond.code yX0_firstEndOf cX0_firstEndOf 2 (some .int), Cond.fieldLink RX0 9 "RingProtection$CircuitTable" "firstEnds" "[I", Cond.methodLink RX3 80 yX1_segmentOf, Cond.instanceMethod yX1_segmentOf, Cond.selects RX1 yX1_segmentOf yX1_segmentOf, Cond.initialized RX1, Cond.code yX1_segmentOf cX1_segmentOf 2 (some .int), Cond.fieldLink RX1 12 "RingProtection$Controller" "shape" "LRingProtection$Shape;", Cond.fieldLink RX1 35 "RingProtection$Controller" "segments" "[I", Cond.methodLink RX1 42 yX2_hasNode]
def wsX5_state_r3 : List Cond := [Cond.instanceMethod yX2_hasNode, Cond.selects RX2 yX2_hasNode yX2_hasNode, Cond.initialized RX2, Cond.code yX2_hasNode cX2_hasNode 2 (some .boolean), Cond.fieldLink RX2 9 "RingProtection$Shape" "nodes" "I", Cond.methodLink RX3 83 yX0_secondEndOf, Cond.instanceMethod yX0_secondEndOf, Cond.selects RX0 yX0_secondEndOf yX0_secondEndOf, Cond.code yX0_secondEndOf cX0_secondEndOf 2 (some .int), Cond.fieldLink RX0 15 "RingProtection$CircuitTable" "secondEnds" "[I", Cond.methodLink RX3 89 yX1_spansInside, Cond.instanceMethod yX1_spansInside, Cond.selects RX1 yX1_spansInside yX1_spansInside, Cond.code yX1_spansInside cX1_spansInside 5 (some .int), Cond.methodLink RX1 58 yX2_nodeAfter, Cond.instanceMethod yX2_nodeAfter, Cond.selects RX2 yX2_nodeAfter yX2_nodeAfter, Cond.code yX2_nodeAfter cX2_nodeAfter 2 (some .int)]
def wsX5_state : List Cond := .code yX5_state cX5_state 2 (some .int) :: ((wsX5_state_r1 ++ (wsX5_state_r2 ++ wsX5_state_r3)) ++ wsX50 ++ wsX30 ++ wsX00 ++ wsX10 ++ wsX20)
def wsX5_circuitsIn_r1 : List Cond := [Cond.fieldLink RX5 10 "RingProtection" "current" "LRingProtection$Simulation;", Cond.methodLink RX5 160 yX3_allInState, Cond.instanceMethod yX3_allInState, Cond.selects RX3 yX3_allInState yX3_allInState, Cond.initialized RX3, Cond.code yX3_allInState cX3_allInState 4 (some .int), Cond.fieldLink RX3 12 "RingProtection$Simulation" "circuits" "LRingProtection$CircuitTable;", Cond.methodLink RX3 92 yX0_has, Cond.instanceMethod yX0_has, Cond.selects RX0 yX0_has yX0_has, Cond.initialized RX0, Cond.code yX0_has cX0_has 2 (some .boolean), Cond.fieldLink RX0 18 "RingProtection$CircuitTable" "paths" "[I", Cond.methodLink RX3 95 yX3_stateOf, Cond.instanceMethod yX3_stateOf, Cond.selects RX3 yX3_stateOf yX3_stateOf, Cond.code yX3_stateOf cX3_stateOf 2 (some .int), Cond.methodLink RX3 54 yX0_isExtra, Cond.instanceMethod yX0_isExtra, Cond.selects RX0 yX0_isExtra yX0_isExtra, Cond.code yX0_isExtra cX0_isExtra 2 (some .boolean), Cond.fieldLink RX0 28 "RingProtection$CircuitTable" "extras" "I", Cond.static yX5_contains, Cond.initialized RX5]
def wsX5_circuitsIn_r2 : List Cond := [Cond.code yX5_contains cX5_contains 2 (some .boolean), Cond.methodLink RX3 58 yX3_stateOfExtra, Cond.instanceMethod yX3_stateOfExtra, Cond.selects RX3 yX3_stateOfExtra yX3_stateOfExtra, Cond.code yX3_stateOfExtra cX3_stateOfExtra 3 (some .int), Cond.fieldLink RX3 21 "RingProtection$Simulation" "controller" "LRingProtection$Controller;", Cond.methodLink RX3 65 yX0_pathOf, Cond.instanceMethod yX0_pathOf, Cond.selects RX0 yX0_pathOf yX0_pathOf, Cond.code yX0_pathOf cX0_pathOf 2 (some .int), Cond.methodLink RX0 24 yX0_has, Cond.methodLink RX3 62 yX3_stateOfNormal, Cond.instanceMethod yX3_stateOfNormal, Cond.selects RX3 yX3_stateOfNormal yX3_stateOfNormal, Cond.code yX3_stateOfNormal cX3_stateOfNormal 7 (some .int), Cond.methodLink RX3 77 yX0_firstEndOf, Cond.instanceMethod yX0_firstEndOf, Cond.selects RX0 yX0_firstEndOf yX0_firstEndOf, Cond.code yX0_firstEndOf cX0_firstEndOf 2 (some .int), Cond.fieldLink RX0 9 "RingProtection$CircuitTable" "firstEnds" "[I", Cond.methodLink RX3 80 yX1_segmentOf, Cond.instanceMethod yX1_segmentOf, Cond.selects RX1 yX1_segmentOf yX1_segmentOf, Cond.initialized RX1]
def wsX5_circuitsIn_r3 : List Cond := [Cond.code yX1_segmentOf cX1_segmentOf 2 (some .int), Cond.fieldLink RX1 12 "RingProtection$Controller" "shape" "LRingProtection$Shape;", Cond.fieldLink RX1 35 "RingProtection$Controller" "segments" "[I", Cond.methodLink RX1 42 yX2_hasNode, Cond.instanceMethod yX2_hasNode, Cond.selects RX2 yX2_hasNode yX2_hasNode, Cond.initialized RX2, Cond.code yX2_hasNode cX2_hasNode 2 (some .boolean), Cond.fieldLink RX2 9 "RingProtection$Shape" "nodes" "I", Cond.methodLink RX3 83 yX0_secondEndOf, Cond.instanceMethod yX0_secondEndOf, Cond.selects RX0 yX0_secondEndOf yX0_secondEndOf, Cond.code yX0_secondEndOf cX0_secondEndOf 2 (some .int), Cond.fieldLink RX0 15 "RingProtection$CircuitTable" "secondEnds" "[I", Cond.methodLink RX3 89 yX1_spansInside, Cond.instanceMethod yX1_spansInside, Cond.selects RX1 yX1_spansInside yX1_spansInside, Cond.code yX1_spansInside cX1_spansInside 5 (some .int), Cond.methodLink RX1 58 yX2_nodeAfter, Cond.instanceMethod yX2_nodeAfter, Cond.selects RX2 yX2_nodeAfter yX2_nodeAfter, Cond.code yX2_nodeAfter cX2_nodeAfter 2 (some .int)]
def wsX5_circuitsIn : List Cond := .code yX5_circuitsIn cX5_circuitsIn 2 (some .int) :: ((wsX5_circuitsIn_r1 ++ (wsX5_circuitsIn_r2 ++ wsX5_circuitsIn_r3)) ++ wsX50 ++ wsX30 ++ wsX00 ++ wsX10 ++ wsX20)
def wsX5_deliveredCount_r1 : List Cond := [Cond.fieldLink RX5 10 "RingProtection" "current" "LRingProtection$Simulation;", Cond.methodLink RX5 163 yX3_countDelivered, Cond.instanceMethod yX3_countDelivered, Cond.selects RX3 yX3_countDelivered yX3_countDelivered, Cond.initialized RX3, Cond.code yX3_countDelivered cX3_countDelivered 3 (some .int), Cond.fieldLink RX3 12 "RingProtection$Simulation" "circuits" "LRingProtection$CircuitTable;", Cond.methodLink RX3 92 yX0_has, Cond.instanceMethod yX0_has, Cond.selects RX0 yX0_has yX0_has, Cond.initialized RX0, Cond.code yX0_has cX0_has 2 (some .boolean), Cond.fieldLink RX0 18 "RingProtection$CircuitTable" "paths" "[I", Cond.methodLink RX3 95 yX3_stateOf, Cond.instanceMethod yX3_stateOf, Cond.selects RX3 yX3_stateOf yX3_stateOf, Cond.code yX3_stateOf cX3_stateOf 2 (some .int), Cond.methodLink RX3 54 yX0_isExtra, Cond.instanceMethod yX0_isExtra, Cond.selects RX0 yX0_isExtra yX0_isExtra, Cond.code yX0_isExtra cX0_isExtra 2 (some .boolean), Cond.fieldLink RX0 28 "RingProtection$CircuitTable" "extras" "I", Cond.static yX5_contains, Cond.initialized RX5]
def wsX5_deliveredCount_r2 : List Cond := [Cond.code yX5_contains cX5_contains 2 (some .boolean), Cond.methodLink RX3 58 yX3_stateOfExtra, Cond.instanceMethod yX3_stateOfExtra, Cond.selects RX3 yX3_stateOfExtra yX3_stateOfExtra, Cond.code yX3_stateOfExtra cX3_stateOfExtra 3 (some .int), Cond.fieldLink RX3 21 "RingProtection$Simulation" "controller" "LRingProtection$Controller;", Cond.methodLink RX3 65 yX0_pathOf, Cond.instanceMethod yX0_pathOf, Cond.selects RX0 yX0_pathOf yX0_pathOf, Cond.code yX0_pathOf cX0_pathOf 2 (some .int), Cond.methodLink RX0 24 yX0_has, Cond.methodLink RX3 62 yX3_stateOfNormal, Cond.instanceMethod yX3_stateOfNormal, Cond.selects RX3 yX3_stateOfNormal yX3_stateOfNormal, Cond.code yX3_stateOfNormal cX3_stateOfNormal 7 (some .int), Cond.methodLink RX3 77 yX0_firstEndOf, Cond.instanceMethod yX0_firstEndOf, Cond.selects RX0 yX0_firstEndOf yX0_firstEndOf, Cond.code yX0_firstEndOf cX0_firstEndOf 2 (some .int), Cond.fieldLink RX0 9 "RingProtection$CircuitTable" "firstEnds" "[I", Cond.methodLink RX3 80 yX1_segmentOf, Cond.instanceMethod yX1_segmentOf, Cond.selects RX1 yX1_segmentOf yX1_segmentOf, Cond.initialized RX1]
def wsX5_deliveredCount_r3 : List Cond := [Cond.code yX1_segmentOf cX1_segmentOf 2 (some .int), Cond.fieldLink RX1 12 "RingProtection$Controller" "shape" "LRingProtection$Shape;", Cond.fieldLink RX1 35 "RingProtection$Controller" "segments" "[I", Cond.methodLink RX1 42 yX2_hasNode, Cond.instanceMethod yX2_hasNode, Cond.selects RX2 yX2_hasNode yX2_hasNode, Cond.initialized RX2, Cond.code yX2_hasNode cX2_hasNode 2 (some .boolean), Cond.fieldLink RX2 9 "RingProtection$Shape" "nodes" "I", Cond.methodLink RX3 83 yX0_secondEndOf, Cond.instanceMethod yX0_secondEndOf, Cond.selects RX0 yX0_secondEndOf yX0_secondEndOf, Cond.code yX0_secondEndOf cX0_secondEndOf 2 (some .int), Cond.fieldLink RX0 15 "RingProtection$CircuitTable" "secondEnds" "[I", Cond.methodLink RX3 89 yX1_spansInside, Cond.instanceMethod yX1_spansInside, Cond.selects RX1 yX1_spansInside yX1_spansInside, Cond.code yX1_spansInside cX1_spansInside 5 (some .int), Cond.methodLink RX1 58 yX2_nodeAfter, Cond.instanceMethod yX2_nodeAfter, Cond.selects RX2 yX2_nodeAfter yX2_nodeAfter, Cond.code yX2_nodeAfter cX2_nodeAfter 2 (some .int), Cond.static yX5_isDelivery, Cond.code yX5_isDelivery cX5_isDelivery 1 (some .boolean)]
def wsX5_deliveredCount : List Cond := .code yX5_deliveredCount cX5_deliveredCount 1 (some .int) :: ((wsX5_deliveredCount_r1 ++ (wsX5_deliveredCount_r2 ++ wsX5_deliveredCount_r3)) ++ wsX50 ++ wsX30 ++ wsX00 ++ wsX10 ++ wsX20)
def wsX5_hops_r1 : List Cond := [Cond.fieldLink RX5 10 "RingProtection" "current" "LRingProtection$Simulation;", Cond.methodLink RX5 80 yX0_has, Cond.instanceMethod yX0_has, Cond.selects RX0 yX0_has yX0_has, Cond.initialized RX0, Cond.code yX0_has cX0_has 2 (some .boolean), Cond.fieldLink RX0 18 "RingProtection$CircuitTable" "paths" "[I", Cond.methodLink RX5 166 yX3_hopsOf, Cond.instanceMethod yX3_hopsOf, Cond.selects RX3 yX3_hopsOf yX3_hopsOf, Cond.initialized RX3, Cond.code yX3_hopsOf cX3_hopsOf 6 (some .int), Cond.fieldLink RX3 12 "RingProtection$Simulation" "circuits" "LRingProtection$CircuitTable;", Cond.fieldLink RX3 21 "RingProtection$Simulation" "controller" "LRingProtection$Controller;", Cond.methodLink RX3 95 yX3_stateOf, Cond.instanceMethod yX3_stateOf, Cond.selects RX3 yX3_stateOf yX3_stateOf, Cond.code yX3_stateOf cX3_stateOf 2 (some .int), Cond.methodLink RX3 54 yX0_isExtra, Cond.instanceMethod yX0_isExtra, Cond.selects RX0 yX0_isExtra yX0_isExtra, Cond.code yX0_isExtra cX0_isExtra 2 (some .boolean), Cond.fieldLink RX0 28 "RingProtection$CircuitTable" "extras" "I", Cond.static yX5_contains]
def wsX5_hops_r2 : List Cond := [Cond.initialized RX5, Cond.code yX5_contains cX5_contains 2 (some .boolean), Cond.methodLink RX3 58 yX3_stateOfExtra, Cond.instanceMethod yX3_stateOfExtra, Cond.selects RX3 yX3_stateOfExtra yX3_stateOfExtra, Cond.code yX3_stateOfExtra cX3_stateOfExtra 3 (some .int), Cond.methodLink RX3 65 yX0_pathOf, Cond.instanceMethod yX0_pathOf, Cond.selects RX0 yX0_pathOf yX0_pathOf, Cond.code yX0_pathOf cX0_pathOf 2 (some .int), Cond.methodLink RX0 24 yX0_has, Cond.methodLink RX3 62 yX3_stateOfNormal, Cond.instanceMethod yX3_stateOfNormal, Cond.selects RX3 yX3_stateOfNormal yX3_stateOfNormal, Cond.code yX3_stateOfNormal cX3_stateOfNormal 7 (some .int), Cond.methodLink RX3 77 yX0_firstEndOf, Cond.instanceMethod yX0_firstEndOf, Cond.selects RX0 yX0_firstEndOf yX0_firstEndOf, Cond.code yX0_firstEndOf cX0_firstEndOf 2 (some .int), Cond.fieldLink RX0 9 "RingProtection$CircuitTable" "firstEnds" "[I", Cond.methodLink RX3 80 yX1_segmentOf, Cond.instanceMethod yX1_segmentOf, Cond.selects RX1 yX1_segmentOf yX1_segmentOf, Cond.initialized RX1]
def wsX5_hops_r3 : List Cond := [Cond.code yX1_segmentOf cX1_segmentOf 2 (some .int), Cond.fieldLink RX1 12 "RingProtection$Controller" "shape" "LRingProtection$Shape;", Cond.fieldLink RX1 35 "RingProtection$Controller" "segments" "[I", Cond.methodLink RX1 42 yX2_hasNode, Cond.instanceMethod yX2_hasNode, Cond.selects RX2 yX2_hasNode yX2_hasNode, Cond.initialized RX2, Cond.code yX2_hasNode cX2_hasNode 2 (some .boolean), Cond.fieldLink RX2 9 "RingProtection$Shape" "nodes" "I", Cond.methodLink RX3 83 yX0_secondEndOf, Cond.instanceMethod yX0_secondEndOf, Cond.selects RX0 yX0_secondEndOf yX0_secondEndOf, Cond.code yX0_secondEndOf cX0_secondEndOf 2 (some .int), Cond.fieldLink RX0 15 "RingProtection$CircuitTable" "secondEnds" "[I", Cond.methodLink RX3 89 yX1_spansInside, Cond.instanceMethod yX1_spansInside, Cond.selects RX1 yX1_spansInside yX1_spansInside, Cond.code yX1_spansInside cX1_spansInside 5 (some .int), Cond.methodLink RX1 58 yX2_nodeAfter, Cond.instanceMethod yX2_nodeAfter, Cond.selects RX2 yX2_nodeAfter yX2_nodeAfter, Cond.code yX2_nodeAfter cX2_nodeAfter 2 (some .int), Cond.static yX5_isDelivery, Cond.code yX5_isDelivery cX5_isDelivery 1 (some .boolean)]
def wsX5_hops_r4 : List Cond := [Cond.methodLink RX3 101 yJ6_bitCount_0f7a4, Cond.static yJ6_bitCount_0f7a4, Cond.initialized RJ6, Cond.code yJ6_bitCount_0f7a4 cJ6_bitCount_0f7a4 1 (some .int), Cond.constant RJ6 265 (1431655765), Cond.constant RJ6 266 (858993459), Cond.constant RJ6 267 (252645135)]
def wsX5_hops : List Cond := .code yX5_hops cX5_hops 2 (some .int) :: ((wsX5_hops_r1 ++ (wsX5_hops_r2 ++ (wsX5_hops_r3 ++ wsX5_hops_r4))) ++ wsX50 ++ wsX30 ++ wsX00 ++ wsX10 ++ wsX20)
def wsX5_averageHops_r1 : List Cond := [Cond.fieldLink RX5 10 "RingProtection" "current" "LRingProtection$Simulation;", Cond.methodLink RX5 163 yX3_countDelivered, Cond.instanceMethod yX3_countDelivered, Cond.selects RX3 yX3_countDelivered yX3_countDelivered, Cond.initialized RX3, Cond.code yX3_countDelivered cX3_countDelivered 3 (some .int), Cond.fieldLink RX3 12 "RingProtection$Simulation" "circuits" "LRingProtection$CircuitTable;", Cond.methodLink RX3 92 yX0_has, Cond.instanceMethod yX0_has, Cond.selects RX0 yX0_has yX0_has, Cond.initialized RX0, Cond.code yX0_has cX0_has 2 (some .boolean), Cond.fieldLink RX0 18 "RingProtection$CircuitTable" "paths" "[I", Cond.methodLink RX3 95 yX3_stateOf, Cond.instanceMethod yX3_stateOf, Cond.selects RX3 yX3_stateOf yX3_stateOf, Cond.code yX3_stateOf cX3_stateOf 2 (some .int), Cond.methodLink RX3 54 yX0_isExtra, Cond.instanceMethod yX0_isExtra, Cond.selects RX0 yX0_isExtra yX0_isExtra, Cond.code yX0_isExtra cX0_isExtra 2 (some .boolean), Cond.fieldLink RX0 28 "RingProtection$CircuitTable" "extras" "I", Cond.static yX5_contains, Cond.initialized RX5]
def wsX5_averageHops_r2 : List Cond := [Cond.code yX5_contains cX5_contains 2 (some .boolean), Cond.methodLink RX3 58 yX3_stateOfExtra, Cond.instanceMethod yX3_stateOfExtra, Cond.selects RX3 yX3_stateOfExtra yX3_stateOfExtra, Cond.code yX3_stateOfExtra cX3_stateOfExtra 3 (some .int), Cond.fieldLink RX3 21 "RingProtection$Simulation" "controller" "LRingProtection$Controller;", Cond.methodLink RX3 65 yX0_pathOf, Cond.instanceMethod yX0_pathOf, Cond.selects RX0 yX0_pathOf yX0_pathOf, Cond.code yX0_pathOf cX0_pathOf 2 (some .int), Cond.methodLink RX0 24 yX0_has, Cond.methodLink RX3 62 yX3_stateOfNormal, Cond.instanceMethod yX3_stateOfNormal, Cond.selects RX3 yX3_stateOfNormal yX3_stateOfNormal, Cond.code yX3_stateOfNormal cX3_stateOfNormal 7 (some .int), Cond.methodLink RX3 77 yX0_firstEndOf, Cond.instanceMethod yX0_firstEndOf, Cond.selects RX0 yX0_firstEndOf yX0_firstEndOf, Cond.code yX0_firstEndOf cX0_firstEndOf 2 (some .int), Cond.fieldLink RX0 9 "RingProtection$CircuitTable" "firstEnds" "[I", Cond.methodLink RX3 80 yX1_segmentOf, Cond.instanceMethod yX1_segmentOf, Cond.selects RX1 yX1_segmentOf yX1_segmentOf, Cond.initialized RX1]
def wsX5_averageHops_r3 : List Cond := [Cond.code yX1_segmentOf cX1_segmentOf 2 (some .int), Cond.fieldLink RX1 12 "RingProtection$Controller" "shape" "LRingProtection$Shape;", Cond.fieldLink RX1 35 "RingProtection$Controller" "segments" "[I", Cond.methodLink RX1 42 yX2_hasNode, Cond.instanceMethod yX2_hasNode, Cond.selects RX2 yX2_hasNode yX2_hasNode, Cond.initialized RX2, Cond.code yX2_hasNode cX2_hasNode 2 (some .boolean), Cond.fieldLink RX2 9 "RingProtection$Shape" "nodes" "I", Cond.methodLink RX3 83 yX0_secondEndOf, Cond.instanceMethod yX0_secondEndOf, Cond.selects RX0 yX0_secondEndOf yX0_secondEndOf, Cond.code yX0_secondEndOf cX0_secondEndOf 2 (some .int), Cond.fieldLink RX0 15 "RingProtection$CircuitTable" "secondEnds" "[I", Cond.methodLink RX3 89 yX1_spansInside, Cond.instanceMethod yX1_spansInside, Cond.selects RX1 yX1_spansInside yX1_spansInside, Cond.code yX1_spansInside cX1_spansInside 5 (some .int), Cond.methodLink RX1 58 yX2_nodeAfter, Cond.instanceMethod yX2_nodeAfter, Cond.selects RX2 yX2_nodeAfter yX2_nodeAfter, Cond.code yX2_nodeAfter cX2_nodeAfter 2 (some .int), Cond.static yX5_isDelivery, Cond.code yX5_isDelivery cX5_isDelivery 1 (some .boolean)]
def wsX5_averageHops_r4 : List Cond := [Cond.methodLink RX5 169 yX3_sumOfHops, Cond.instanceMethod yX3_sumOfHops, Cond.selects RX3 yX3_sumOfHops yX3_sumOfHops, Cond.code yX3_sumOfHops cX3_sumOfHops 4 (some .int), Cond.methodLink RX3 106 yX3_hopsOf, Cond.instanceMethod yX3_hopsOf, Cond.selects RX3 yX3_hopsOf yX3_hopsOf, Cond.code yX3_hopsOf cX3_hopsOf 6 (some .int), Cond.methodLink RX3 101 yJ6_bitCount_0f7a4, Cond.static yJ6_bitCount_0f7a4, Cond.initialized RJ6, Cond.code yJ6_bitCount_0f7a4 cJ6_bitCount_0f7a4 1 (some .int), Cond.constant RJ6 265 (1431655765), Cond.constant RJ6 266 (858993459), Cond.constant RJ6 267 (252645135)]
def wsX5_averageHops : List Cond := .code yX5_averageHops cX5_averageHops 2 (some .int) :: ((wsX5_averageHops_r1 ++ (wsX5_averageHops_r2 ++ (wsX5_averageHops_r3 ++ wsX5_averageHops_r4))) ++ wsX50 ++ wsX30 ++ wsX00 ++ wsX10 ++ wsX20)
def wsX5_squelchedAt_r1 : List Cond := [Cond.fieldLink RX5 10 "RingProtection" "current" "LRingProtection$Simulation;", Cond.methodLink RX5 124 yX2_hasNode, Cond.instanceMethod yX2_hasNode, Cond.selects RX2 yX2_hasNode yX2_hasNode, Cond.initialized RX2, Cond.code yX2_hasNode cX2_hasNode 2 (some .boolean), Cond.fieldLink RX2 9 "RingProtection$Shape" "nodes" "I", Cond.methodLink RX5 172 yX2_spansAt, Cond.instanceMethod yX2_spansAt, Cond.selects RX2 yX2_spansAt yX2_spansAt, Cond.code yX2_spansAt cX2_spansAt 3 (some .int), Cond.methodLink RX5 160 yX3_allInState, Cond.instanceMethod yX3_allInState, Cond.selects RX3 yX3_allInState yX3_allInState, Cond.initialized RX3, Cond.code yX3_allInState cX3_allInState 4 (some .int), Cond.fieldLink RX3 12 "RingProtection$Simulation" "circuits" "LRingProtection$CircuitTable;", Cond.methodLink RX3 92 yX0_has, Cond.instanceMethod yX0_has, Cond.selects RX0 yX0_has yX0_has, Cond.initialized RX0, Cond.code yX0_has cX0_has 2 (some .boolean), Cond.fieldLink RX0 18 "RingProtection$CircuitTable" "paths" "[I", Cond.methodLink RX3 95 yX3_stateOf]
def wsX5_squelchedAt_r2 : List Cond := [Cond.instanceMethod yX3_stateOf, Cond.selects RX3 yX3_stateOf yX3_stateOf, Cond.code yX3_stateOf cX3_stateOf 2 (some .int), Cond.methodLink RX3 54 yX0_isExtra, Cond.instanceMethod yX0_isExtra, Cond.selects RX0 yX0_isExtra yX0_isExtra, Cond.code yX0_isExtra cX0_isExtra 2 (some .boolean), Cond.fieldLink RX0 28 "RingProtection$CircuitTable" "extras" "I", Cond.static yX5_contains, Cond.initialized RX5, Cond.code yX5_contains cX5_contains 2 (some .boolean), Cond.methodLink RX3 58 yX3_stateOfExtra, Cond.instanceMethod yX3_stateOfExtra, Cond.selects RX3 yX3_stateOfExtra yX3_stateOfExtra, Cond.code yX3_stateOfExtra cX3_stateOfExtra 3 (some .int), Cond.fieldLink RX3 21 "RingProtection$Simulation" "controller" "LRingProtection$Controller;", Cond.methodLink RX3 65 yX0_pathOf, Cond.instanceMethod yX0_pathOf, Cond.selects RX0 yX0_pathOf yX0_pathOf, Cond.code yX0_pathOf cX0_pathOf 2 (some .int), Cond.methodLink RX0 24 yX0_has, Cond.methodLink RX3 62 yX3_stateOfNormal, Cond.instanceMethod yX3_stateOfNormal, Cond.selects RX3 yX3_stateOfNormal yX3_stateOfNormal]
def wsX5_squelchedAt_r3 : List Cond := [Cond.code yX3_stateOfNormal cX3_stateOfNormal 7 (some .int), Cond.methodLink RX3 77 yX0_firstEndOf, Cond.instanceMethod yX0_firstEndOf, Cond.selects RX0 yX0_firstEndOf yX0_firstEndOf, Cond.code yX0_firstEndOf cX0_firstEndOf 2 (some .int), Cond.fieldLink RX0 9 "RingProtection$CircuitTable" "firstEnds" "[I", Cond.methodLink RX3 80 yX1_segmentOf, Cond.instanceMethod yX1_segmentOf, Cond.selects RX1 yX1_segmentOf yX1_segmentOf, Cond.initialized RX1, Cond.code yX1_segmentOf cX1_segmentOf 2 (some .int), Cond.fieldLink RX1 12 "RingProtection$Controller" "shape" "LRingProtection$Shape;", Cond.fieldLink RX1 35 "RingProtection$Controller" "segments" "[I", Cond.methodLink RX1 42 yX2_hasNode, Cond.methodLink RX3 83 yX0_secondEndOf, Cond.instanceMethod yX0_secondEndOf, Cond.selects RX0 yX0_secondEndOf yX0_secondEndOf, Cond.code yX0_secondEndOf cX0_secondEndOf 2 (some .int), Cond.fieldLink RX0 15 "RingProtection$CircuitTable" "secondEnds" "[I", Cond.methodLink RX3 89 yX1_spansInside, Cond.instanceMethod yX1_spansInside, Cond.selects RX1 yX1_spansInside yX1_spansInside, Cond.code yX1_spansInside cX1_spansInside 5 (some .int), Cond.methodLink RX1 58 yX2_nodeAfter]
def wsX5_squelchedAt_r4 : List Cond := [Cond.instanceMethod yX2_nodeAfter, Cond.selects RX2 yX2_nodeAfter yX2_nodeAfter, Cond.code yX2_nodeAfter cX2_nodeAfter 2 (some .int), Cond.methodLink RX5 94 yX0_crossing, Cond.instanceMethod yX0_crossing, Cond.selects RX0 yX0_crossing yX0_crossing, Cond.code yX0_crossing cX0_crossing 4 (some .int)]
def wsX5_squelchedAt : List Cond := .code yX5_squelchedAt cX5_squelchedAt 3 (some .int) :: ((wsX5_squelchedAt_r1 ++ (wsX5_squelchedAt_r2 ++ (wsX5_squelchedAt_r3 ++ wsX5_squelchedAt_r4))) ++ wsX50 ++ wsX30 ++ wsX10 ++ wsX20 ++ wsX00)
def wsX5_deliveredAfterCut_r1 : List Cond := [Cond.fieldLink RX5 16 "RingProtection" "trial" "LRingProtection$Simulation;", Cond.fieldLink RX5 10 "RingProtection" "current" "LRingProtection$Simulation;", Cond.methodLink RX5 181 yX3_copyFrom, Cond.instanceMethod yX3_copyFrom, Cond.selects RX3 yX3_copyFrom yX3_copyFrom, Cond.initialized RX3, Cond.code yX3_copyFrom cX3_copyFrom 2 none, Cond.fieldLink RX3 12 "RingProtection$Simulation" "circuits" "LRingProtection$CircuitTable;", Cond.fieldLink RX3 21 "RingProtection$Simulation" "controller" "LRingProtection$Controller;", Cond.fieldLink RX3 37 "RingProtection$Simulation" "time" "I", Cond.methodLink RX3 41 yX0_copyFrom, Cond.instanceMethod yX0_copyFrom, Cond.selects RX0 yX0_copyFrom yX0_copyFrom, Cond.initialized RX0, Cond.code yX0_copyFrom cX0_copyFrom 2 none, Cond.fieldLink RX0 9 "RingProtection$CircuitTable" "firstEnds" "[I", Cond.fieldLink RX0 15 "RingProtection$CircuitTable" "secondEnds" "[I", Cond.fieldLink RX0 18 "RingProtection$CircuitTable" "paths" "[I", Cond.fieldLink RX0 21 "RingProtection$CircuitTable" "slots" "[I", Cond.fieldLink RX0 28 "RingProtection$CircuitTable" "extras" "I", Cond.static yX5_copyRow, Cond.initialized RX5, Cond.code yX5_copyRow cX5_copyRow 3 none, Cond.methodLink RX3 45 yX1_copyFrom]
def wsX5_deliveredAfterCut_r2 : List Cond := [Cond.instanceMethod yX1_copyFrom, Cond.selects RX1 yX1_copyFrom yX1_copyFrom, Cond.initialized RX1, Cond.code yX1_copyFrom cX1_copyFrom 2 none, Cond.fieldLink RX1 12 "RingProtection$Controller" "shape" "LRingProtection$Shape;", Cond.fieldLink RX1 84 "RingProtection$Controller" "failedWorking" "I", Cond.fieldLink RX1 90 "RingProtection$Controller" "failedProtection" "I", Cond.fieldLink RX1 78 "RingProtection$Controller" "failedNodes" "I", Cond.fieldLink RX1 28 "RingProtection$Controller" "restoreTime" "I", Cond.fieldLink RX1 87 "RingProtection$Controller" "workingDown" "I", Cond.fieldLink RX1 93 "RingProtection$Controller" "protectionDown" "I", Cond.fieldLink RX1 52 "RingProtection$Controller" "spanSwitched" "I", Cond.fieldLink RX1 45 "RingProtection$Controller" "ringSwitched" "I", Cond.fieldLink RX1 18 "RingProtection$Controller" "commands" "[I", Cond.fieldLink RX1 22 "RingProtection$Controller" "timers" "[I", Cond.fieldLink RX1 25 "RingProtection$Controller" "heldRequests" "[I", Cond.fieldLink RX1 32 "RingProtection$Controller" "directRequests" "[I", Cond.fieldLink RX1 35 "RingProtection$Controller" "segments" "[I", Cond.methodLink RX5 118 yX1_run, Cond.instanceMethod yX1_run, Cond.selects RX1 yX1_run yX1_run, Cond.code yX1_run cX1_run 2 none, Cond.methodLink RX1 62 yX1_findCapacitiesDown, Cond.instanceMethod yX1_findCapacitiesDown]
def wsX5_deliveredAfterCut_r3 : List Cond := [Cond.selects RX1 yX1_findCapacitiesDown yX1_findCapacitiesDown, Cond.code yX1_findCapacitiesDown cX1_findCapacitiesDown 3 none, Cond.static yX5_contains, Cond.code yX5_contains cX5_contains 2 (some .boolean), Cond.methodLink RX1 81 yX2_spansAt, Cond.instanceMethod yX2_spansAt, Cond.selects RX2 yX2_spansAt yX2_spansAt, Cond.initialized RX2, Cond.code yX2_spansAt cX2_spansAt 3 (some .int), Cond.fieldLink RX2 9 "RingProtection$Shape" "nodes" "I", Cond.methodLink RX1 65 yX1_takeDirectRequest, Cond.instanceMethod yX1_takeDirectRequest, Cond.selects RX1 yX1_takeDirectRequest yX1_takeDirectRequest, Cond.code yX1_takeDirectRequest cX1_takeDirectRequest 4 none, Cond.methodLink RX1 102 Lib.Math.max.name, Cond.static Lib.Math.max.name, Cond.initialized "java/lang/Math", Cond.code Lib.Math.max.name Lib.Math.max.code 2 (some .int), Cond.methodLink RX1 96 yX1_requestOfFailures, Cond.instanceMethod yX1_requestOfFailures, Cond.selects RX1 yX1_requestOfFailures yX1_requestOfFailures, Cond.code yX1_requestOfFailures cX1_requestOfFailures 3 (some .int), Cond.methodLink RX1 99 yX1_requestOfCommand, Cond.instanceMethod yX1_requestOfCommand]
def wsX5_deliveredAfterCut_r4 : List Cond := [Cond.selects RX1 yX1_requestOfCommand yX1_requestOfCommand, Cond.code yX1_requestOfCommand cX1_requestOfCommand 4 (some .int), Cond.methodLink RX1 108 yX1_startWaiting, Cond.instanceMethod yX1_startWaiting, Cond.selects RX1 yX1_startWaiting yX1_startWaiting, Cond.code yX1_startWaiting cX1_startWaiting 3 none, Cond.methodLink RX1 111 yX1_switchAt, Cond.instanceMethod yX1_switchAt, Cond.selects RX1 yX1_switchAt yX1_switchAt, Cond.code yX1_switchAt cX1_switchAt 2 (some .int), Cond.methodLink RX1 69 yX1_grantSwitches, Cond.instanceMethod yX1_grantSwitches, Cond.selects RX1 yX1_grantSwitches yX1_grantSwitches, Cond.code yX1_grantSwitches cX1_grantSwitches 4 none, Cond.methodLink RX1 114 yX1_isLockedOut, Cond.instanceMethod yX1_isLockedOut, Cond.selects RX1 yX1_isLockedOut yX1_isLockedOut, Cond.code yX1_isLockedOut cX1_isLockedOut 2 (some .boolean), Cond.methodLink RX1 118 yX1_requestAt, Cond.instanceMethod yX1_requestAt, Cond.selects RX1 yX1_requestAt yX1_requestAt, Cond.code yX1_requestAt cX1_requestAt 3 (some .int), Cond.methodLink RX1 38 yX2_hasSpan, Cond.instanceMethod yX2_hasSpan]
def wsX5_deliveredAfterCut_r5 : List Cond := [Cond.selects RX2 yX2_hasSpan yX2_hasSpan, Cond.code yX2_hasSpan cX2_hasSpan 2 (some .boolean), Cond.methodLink RX1 121 yX1_grant, Cond.instanceMethod yX1_grant, Cond.selects RX1 yX1_grant yX1_grant, Cond.code yX1_grant cX1_grant 4 none, Cond.methodLink RX1 72 yX1_dropWaitsWithoutSwitch, Cond.instanceMethod yX1_dropWaitsWithoutSwitch, Cond.selects RX1 yX1_dropWaitsWithoutSwitch yX1_dropWaitsWithoutSwitch, Cond.code yX1_dropWaitsWithoutSwitch cX1_dropWaitsWithoutSwitch 4 none, Cond.methodLink RX1 75 yX1_findSegments, Cond.instanceMethod yX1_findSegments, Cond.selects RX1 yX1_findSegments yX1_findSegments, Cond.code yX1_findSegments cX1_findSegments 3 none, Cond.methodLink RX5 163 yX3_countDelivered, Cond.instanceMethod yX3_countDelivered, Cond.selects RX3 yX3_countDelivered yX3_countDelivered, Cond.code yX3_countDelivered cX3_countDelivered 3 (some .int), Cond.methodLink RX3 92 yX0_has, Cond.instanceMethod yX0_has, Cond.selects RX0 yX0_has yX0_has, Cond.code yX0_has cX0_has 2 (some .boolean), Cond.methodLink RX3 95 yX3_stateOf, Cond.instanceMethod yX3_stateOf]
def wsX5_deliveredAfterCut_r6 : List Cond := [Cond.selects RX3 yX3_stateOf yX3_stateOf, Cond.code yX3_stateOf cX3_stateOf 2 (some .int), Cond.methodLink RX3 54 yX0_isExtra, Cond.instanceMethod yX0_isExtra, Cond.selects RX0 yX0_isExtra yX0_isExtra, Cond.code yX0_isExtra cX0_isExtra 2 (some .boolean), Cond.methodLink RX3 58 yX3_stateOfExtra, Cond.instanceMethod yX3_stateOfExtra, Cond.selects RX3 yX3_stateOfExtra yX3_stateOfExtra, Cond.code yX3_stateOfExtra cX3_stateOfExtra 3 (some .int), Cond.methodLink RX3 65 yX0_pathOf, Cond.instanceMethod yX0_pathOf, Cond.selects RX0 yX0_pathOf yX0_pathOf, Cond.code yX0_pathOf cX0_pathOf 2 (some .int), Cond.methodLink RX0 24 yX0_has, Cond.methodLink RX3 62 yX3_stateOfNormal, Cond.instanceMethod yX3_stateOfNormal, Cond.selects RX3 yX3_stateOfNormal yX3_stateOfNormal, Cond.code yX3_stateOfNormal cX3_stateOfNormal 7 (some .int), Cond.methodLink RX3 77 yX0_firstEndOf, Cond.instanceMethod yX0_firstEndOf, Cond.selects RX0 yX0_firstEndOf yX0_firstEndOf, Cond.code yX0_firstEndOf cX0_firstEndOf 2 (some .int), Cond.methodLink RX3 80 yX1_segmentOf]
def wsX5_deliveredAfterCut_r7 : List Cond := [Cond.instanceMethod yX1_segmentOf, Cond.selects RX1 yX1_segmentOf yX1_segmentOf, Cond.code yX1_segmentOf cX1_segmentOf 2 (some .int), Cond.methodLink RX1 42 yX2_hasNode, Cond.instanceMethod yX2_hasNode, Cond.selects RX2 yX2_hasNode yX2_hasNode, Cond.code yX2_hasNode cX2_hasNode 2 (some .boolean), Cond.methodLink RX3 83 yX0_secondEndOf, Cond.instanceMethod yX0_secondEndOf, Cond.selects RX0 yX0_secondEndOf yX0_secondEndOf, Cond.code yX0_secondEndOf cX0_secondEndOf 2 (some .int), Cond.methodLink RX3 89 yX1_spansInside, Cond.instanceMethod yX1_spansInside, Cond.selects RX1 yX1_spansInside yX1_spansInside, Cond.code yX1_spansInside cX1_spansInside 5 (some .int), Cond.methodLink RX1 58 yX2_nodeAfter, Cond.instanceMethod yX2_nodeAfter, Cond.selects RX2 yX2_nodeAfter yX2_nodeAfter, Cond.code yX2_nodeAfter cX2_nodeAfter 2 (some .int), Cond.static yX5_isDelivery, Cond.code yX5_isDelivery cX5_isDelivery 1 (some .boolean)]
def wsX5_deliveredAfterCut : List Cond := .code yX5_deliveredAfterCut cX5_deliveredAfterCut 2 (some .int) :: ((wsX5_deliveredAfterCut_r1 ++ (wsX5_deliveredAfterCut_r2 ++ (wsX5_deliveredAfterCut_r3 ++ (wsX5_deliveredAfterCut_r4 ++ (wsX5_deliveredAfterCut_r5 ++ (wsX5_deliveredAfterCut_r6 ++ wsX5_deliveredAfterCut_r7)))))) ++ wsX50 ++ wsX30 ++ wsX10 ++ wsX00 ++ wsX20)
def wsX5_deliveredIfCut_r1 : List Cond := [Cond.fieldLink RX5 10 "RingProtection" "current" "LRingProtection$Simulation;", Cond.methodLink RX5 91 yX2_hasSpan, Cond.instanceMethod yX2_hasSpan, Cond.selects RX2 yX2_hasSpan yX2_hasSpan, Cond.initialized RX2, Cond.code yX2_hasSpan cX2_hasSpan 2 (some .boolean), Cond.fieldLink RX2 9 "RingProtection$Shape" "nodes" "I", Cond.methodLink RX5 178 yX5_deliveredAfterCut, Cond.instanceMethod yX5_deliveredAfterCut, Cond.selects RX5 yX5_deliveredAfterCut yX5_deliveredAfterCut, Cond.initialized RX5, Cond.code yX5_deliveredAfterCut cX5_deliveredAfterCut 2 (some .int), Cond.fieldLink RX5 16 "RingProtection" "trial" "LRingProtection$Simulation;", Cond.methodLink RX5 181 yX3_copyFrom, Cond.instanceMethod yX3_copyFrom, Cond.selects RX3 yX3_copyFrom yX3_copyFrom, Cond.initialized RX3, Cond.code yX3_copyFrom cX3_copyFrom 2 none, Cond.fieldLink RX3 12 "RingProtection$Simulation" "circuits" "LRingProtection$CircuitTable;", Cond.fieldLink RX3 21 "RingProtection$Simulation" "controller" "LRingProtection$Controller;", Cond.fieldLink RX3 37 "RingProtection$Simulation" "time" "I", Cond.methodLink RX3 41 yX0_copyFrom, Cond.instanceMethod yX0_copyFrom, Cond.selects RX0 yX0_copyFrom yX0_copyFrom]
def wsX5_deliveredIfCut_r2 : List Cond := [Cond.initialized RX0, Cond.code yX0_copyFrom cX0_copyFrom 2 none, Cond.fieldLink RX0 9 "RingProtection$CircuitTable" "firstEnds" "[I", Cond.fieldLink RX0 15 "RingProtection$CircuitTable" "secondEnds" "[I", Cond.fieldLink RX0 18 "RingProtection$CircuitTable" "paths" "[I", Cond.fieldLink RX0 21 "RingProtection$CircuitTable" "slots" "[I", Cond.fieldLink RX0 28 "RingProtection$CircuitTable" "extras" "I", Cond.static yX5_copyRow, Cond.code yX5_copyRow cX5_copyRow 3 none, Cond.methodLink RX3 45 yX1_copyFrom, Cond.instanceMethod yX1_copyFrom, Cond.selects RX1 yX1_copyFrom yX1_copyFrom, Cond.initialized RX1, Cond.code yX1_copyFrom cX1_copyFrom 2 none, Cond.fieldLink RX1 12 "RingProtection$Controller" "shape" "LRingProtection$Shape;", Cond.fieldLink RX1 84 "RingProtection$Controller" "failedWorking" "I", Cond.fieldLink RX1 90 "RingProtection$Controller" "failedProtection" "I", Cond.fieldLink RX1 78 "RingProtection$Controller" "failedNodes" "I", Cond.fieldLink RX1 28 "RingProtection$Controller" "restoreTime" "I", Cond.fieldLink RX1 87 "RingProtection$Controller" "workingDown" "I", Cond.fieldLink RX1 93 "RingProtection$Controller" "protectionDown" "I", Cond.fieldLink RX1 52 "RingProtection$Controller" "spanSwitched" "I", Cond.fieldLink RX1 45 "RingProtection$Controller" "ringSwitched" "I", Cond.fieldLink RX1 18 "RingProtection$Controller" "commands" "[I"]
def wsX5_deliveredIfCut_r3 : List Cond := [Cond.fieldLink RX1 22 "RingProtection$Controller" "timers" "[I", Cond.fieldLink RX1 25 "RingProtection$Controller" "heldRequests" "[I", Cond.fieldLink RX1 32 "RingProtection$Controller" "directRequests" "[I", Cond.fieldLink RX1 35 "RingProtection$Controller" "segments" "[I", Cond.methodLink RX5 118 yX1_run, Cond.instanceMethod yX1_run, Cond.selects RX1 yX1_run yX1_run, Cond.code yX1_run cX1_run 2 none, Cond.methodLink RX1 62 yX1_findCapacitiesDown, Cond.instanceMethod yX1_findCapacitiesDown, Cond.selects RX1 yX1_findCapacitiesDown yX1_findCapacitiesDown, Cond.code yX1_findCapacitiesDown cX1_findCapacitiesDown 3 none, Cond.static yX5_contains, Cond.code yX5_contains cX5_contains 2 (some .boolean), Cond.methodLink RX1 81 yX2_spansAt, Cond.instanceMethod yX2_spansAt, Cond.selects RX2 yX2_spansAt yX2_spansAt, Cond.code yX2_spansAt cX2_spansAt 3 (some .int), Cond.methodLink RX1 65 yX1_takeDirectRequest, Cond.instanceMethod yX1_takeDirectRequest, Cond.selects RX1 yX1_takeDirectRequest yX1_takeDirectRequest, Cond.code yX1_takeDirectRequest cX1_takeDirectRequest 4 none, Cond.methodLink RX1 102 Lib.Math.max.name, Cond.static Lib.Math.max.name]
def wsX5_deliveredIfCut_r4 : List Cond := [Cond.initialized "java/lang/Math", Cond.code Lib.Math.max.name Lib.Math.max.code 2 (some .int), Cond.methodLink RX1 96 yX1_requestOfFailures, Cond.instanceMethod yX1_requestOfFailures, Cond.selects RX1 yX1_requestOfFailures yX1_requestOfFailures, Cond.code yX1_requestOfFailures cX1_requestOfFailures 3 (some .int), Cond.methodLink RX1 99 yX1_requestOfCommand, Cond.instanceMethod yX1_requestOfCommand, Cond.selects RX1 yX1_requestOfCommand yX1_requestOfCommand, Cond.code yX1_requestOfCommand cX1_requestOfCommand 4 (some .int), Cond.methodLink RX1 108 yX1_startWaiting, Cond.instanceMethod yX1_startWaiting, Cond.selects RX1 yX1_startWaiting yX1_startWaiting, Cond.code yX1_startWaiting cX1_startWaiting 3 none, Cond.methodLink RX1 111 yX1_switchAt, Cond.instanceMethod yX1_switchAt, Cond.selects RX1 yX1_switchAt yX1_switchAt, Cond.code yX1_switchAt cX1_switchAt 2 (some .int), Cond.methodLink RX1 69 yX1_grantSwitches, Cond.instanceMethod yX1_grantSwitches, Cond.selects RX1 yX1_grantSwitches yX1_grantSwitches, Cond.code yX1_grantSwitches cX1_grantSwitches 4 none, Cond.methodLink RX1 114 yX1_isLockedOut, Cond.instanceMethod yX1_isLockedOut]
def wsX5_deliveredIfCut_r5 : List Cond := [Cond.selects RX1 yX1_isLockedOut yX1_isLockedOut, Cond.code yX1_isLockedOut cX1_isLockedOut 2 (some .boolean), Cond.methodLink RX1 118 yX1_requestAt, Cond.instanceMethod yX1_requestAt, Cond.selects RX1 yX1_requestAt yX1_requestAt, Cond.code yX1_requestAt cX1_requestAt 3 (some .int), Cond.methodLink RX1 38 yX2_hasSpan, Cond.methodLink RX1 121 yX1_grant, Cond.instanceMethod yX1_grant, Cond.selects RX1 yX1_grant yX1_grant, Cond.code yX1_grant cX1_grant 4 none, Cond.methodLink RX1 72 yX1_dropWaitsWithoutSwitch, Cond.instanceMethod yX1_dropWaitsWithoutSwitch, Cond.selects RX1 yX1_dropWaitsWithoutSwitch yX1_dropWaitsWithoutSwitch, Cond.code yX1_dropWaitsWithoutSwitch cX1_dropWaitsWithoutSwitch 4 none, Cond.methodLink RX1 75 yX1_findSegments, Cond.instanceMethod yX1_findSegments, Cond.selects RX1 yX1_findSegments yX1_findSegments, Cond.code yX1_findSegments cX1_findSegments 3 none, Cond.methodLink RX5 163 yX3_countDelivered, Cond.instanceMethod yX3_countDelivered, Cond.selects RX3 yX3_countDelivered yX3_countDelivered, Cond.code yX3_countDelivered cX3_countDelivered 3 (some .int), Cond.methodLink RX3 92 yX0_has]
def wsX5_deliveredIfCut_r6 : List Cond := [Cond.instanceMethod yX0_has, Cond.selects RX0 yX0_has yX0_has, Cond.code yX0_has cX0_has 2 (some .boolean), Cond.methodLink RX3 95 yX3_stateOf, Cond.instanceMethod yX3_stateOf, Cond.selects RX3 yX3_stateOf yX3_stateOf, Cond.code yX3_stateOf cX3_stateOf 2 (some .int), Cond.methodLink RX3 54 yX0_isExtra, Cond.instanceMethod yX0_isExtra, Cond.selects RX0 yX0_isExtra yX0_isExtra, Cond.code yX0_isExtra cX0_isExtra 2 (some .boolean), Cond.methodLink RX3 58 yX3_stateOfExtra, Cond.instanceMethod yX3_stateOfExtra, Cond.selects RX3 yX3_stateOfExtra yX3_stateOfExtra, Cond.code yX3_stateOfExtra cX3_stateOfExtra 3 (some .int), Cond.methodLink RX3 65 yX0_pathOf, Cond.instanceMethod yX0_pathOf, Cond.selects RX0 yX0_pathOf yX0_pathOf, Cond.code yX0_pathOf cX0_pathOf 2 (some .int), Cond.methodLink RX0 24 yX0_has, Cond.methodLink RX3 62 yX3_stateOfNormal, Cond.instanceMethod yX3_stateOfNormal, Cond.selects RX3 yX3_stateOfNormal yX3_stateOfNormal, Cond.code yX3_stateOfNormal cX3_stateOfNormal 7 (some .int)]
def wsX5_deliveredIfCut_r7 : List Cond := [Cond.methodLink RX3 77 yX0_firstEndOf, Cond.instanceMethod yX0_firstEndOf, Cond.selects RX0 yX0_firstEndOf yX0_firstEndOf, Cond.code yX0_firstEndOf cX0_firstEndOf 2 (some .int), Cond.methodLink RX3 80 yX1_segmentOf, Cond.instanceMethod yX1_segmentOf, Cond.selects RX1 yX1_segmentOf yX1_segmentOf, Cond.code yX1_segmentOf cX1_segmentOf 2 (some .int), Cond.methodLink RX1 42 yX2_hasNode, Cond.instanceMethod yX2_hasNode, Cond.selects RX2 yX2_hasNode yX2_hasNode, Cond.code yX2_hasNode cX2_hasNode 2 (some .boolean), Cond.methodLink RX3 83 yX0_secondEndOf, Cond.instanceMethod yX0_secondEndOf, Cond.selects RX0 yX0_secondEndOf yX0_secondEndOf, Cond.code yX0_secondEndOf cX0_secondEndOf 2 (some .int), Cond.methodLink RX3 89 yX1_spansInside, Cond.instanceMethod yX1_spansInside, Cond.selects RX1 yX1_spansInside yX1_spansInside, Cond.code yX1_spansInside cX1_spansInside 5 (some .int), Cond.methodLink RX1 58 yX2_nodeAfter, Cond.instanceMethod yX2_nodeAfter, Cond.selects RX2 yX2_nodeAfter yX2_nodeAfter, Cond.code yX2_nodeAfter cX2_nodeAfter 2 (some .int)]
def wsX5_deliveredIfCut_r8 : List Cond := [Cond.static yX5_isDelivery, Cond.code yX5_isDelivery cX5_isDelivery 1 (some .boolean)]
def wsX5_deliveredIfCut : List Cond := .code yX5_deliveredIfCut cX5_deliveredIfCut 2 (some .int) :: ((wsX5_deliveredIfCut_r1 ++ (wsX5_deliveredIfCut_r2 ++ (wsX5_deliveredIfCut_r3 ++ (wsX5_deliveredIfCut_r4 ++ (wsX5_deliveredIfCut_r5 ++ (wsX5_deliveredIfCut_r6 ++ (wsX5_deliveredIfCut_r7 ++ wsX5_deliveredIfCut_r8))))))) ++ wsX50 ++ wsX30 ++ wsX20 ++ wsX10 ++ wsX00)
def wsX5_deliveredIfNodeFails_r1 : List Cond := [Cond.fieldLink RX5 10 "RingProtection" "current" "LRingProtection$Simulation;", Cond.fieldLink RX5 16 "RingProtection" "trial" "LRingProtection$Simulation;", Cond.methodLink RX5 124 yX2_hasNode, Cond.instanceMethod yX2_hasNode, Cond.selects RX2 yX2_hasNode yX2_hasNode, Cond.initialized RX2, Cond.code yX2_hasNode cX2_hasNode 2 (some .boolean), Cond.fieldLink RX2 9 "RingProtection$Shape" "nodes" "I", Cond.methodLink RX5 181 yX3_copyFrom, Cond.instanceMethod yX3_copyFrom, Cond.selects RX3 yX3_copyFrom yX3_copyFrom, Cond.initialized RX3, Cond.code yX3_copyFrom cX3_copyFrom 2 none, Cond.fieldLink RX3 12 "RingProtection$Simulation" "circuits" "LRingProtection$CircuitTable;", Cond.fieldLink RX3 21 "RingProtection$Simulation" "controller" "LRingProtection$Controller;", Cond.fieldLink RX3 37 "RingProtection$Simulation" "time" "I", Cond.methodLink RX3 41 yX0_copyFrom, Cond.instanceMethod yX0_copyFrom, Cond.selects RX0 yX0_copyFrom yX0_copyFrom, Cond.initialized RX0, Cond.code yX0_copyFrom cX0_copyFrom 2 none, Cond.fieldLink RX0 9 "RingProtection$CircuitTable" "firstEnds" "[I", Cond.fieldLink RX0 15 "RingProtection$CircuitTable" "secondEnds" "[I", Cond.fieldLink RX0 18 "RingProtection$CircuitTable" "paths" "[I"]
def wsX5_deliveredIfNodeFails_r2 : List Cond := [Cond.fieldLink RX0 21 "RingProtection$CircuitTable" "slots" "[I", Cond.fieldLink RX0 28 "RingProtection$CircuitTable" "extras" "I", Cond.static yX5_copyRow, Cond.initialized RX5, Cond.code yX5_copyRow cX5_copyRow 3 none, Cond.methodLink RX3 45 yX1_copyFrom, Cond.instanceMethod yX1_copyFrom, Cond.selects RX1 yX1_copyFrom yX1_copyFrom, Cond.initialized RX1, Cond.code yX1_copyFrom cX1_copyFrom 2 none, Cond.fieldLink RX1 12 "RingProtection$Controller" "shape" "LRingProtection$Shape;", Cond.fieldLink RX1 84 "RingProtection$Controller" "failedWorking" "I", Cond.fieldLink RX1 90 "RingProtection$Controller" "failedProtection" "I", Cond.fieldLink RX1 78 "RingProtection$Controller" "failedNodes" "I", Cond.fieldLink RX1 28 "RingProtection$Controller" "restoreTime" "I", Cond.fieldLink RX1 87 "RingProtection$Controller" "workingDown" "I", Cond.fieldLink RX1 93 "RingProtection$Controller" "protectionDown" "I", Cond.fieldLink RX1 52 "RingProtection$Controller" "spanSwitched" "I", Cond.fieldLink RX1 45 "RingProtection$Controller" "ringSwitched" "I", Cond.fieldLink RX1 18 "RingProtection$Controller" "commands" "[I", Cond.fieldLink RX1 22 "RingProtection$Controller" "timers" "[I", Cond.fieldLink RX1 25 "RingProtection$Controller" "heldRequests" "[I", Cond.fieldLink RX1 32 "RingProtection$Controller" "directRequests" "[I", Cond.fieldLink RX1 35 "RingProtection$Controller" "segments" "[I"]
def wsX5_deliveredIfNodeFails_r3 : List Cond := [Cond.methodLink RX5 118 yX1_run, Cond.instanceMethod yX1_run, Cond.selects RX1 yX1_run yX1_run, Cond.code yX1_run cX1_run 2 none, Cond.methodLink RX1 62 yX1_findCapacitiesDown, Cond.instanceMethod yX1_findCapacitiesDown, Cond.selects RX1 yX1_findCapacitiesDown yX1_findCapacitiesDown, Cond.code yX1_findCapacitiesDown cX1_findCapacitiesDown 3 none, Cond.static yX5_contains, Cond.code yX5_contains cX5_contains 2 (some .boolean), Cond.methodLink RX1 81 yX2_spansAt, Cond.instanceMethod yX2_spansAt, Cond.selects RX2 yX2_spansAt yX2_spansAt, Cond.code yX2_spansAt cX2_spansAt 3 (some .int), Cond.methodLink RX1 65 yX1_takeDirectRequest, Cond.instanceMethod yX1_takeDirectRequest, Cond.selects RX1 yX1_takeDirectRequest yX1_takeDirectRequest, Cond.code yX1_takeDirectRequest cX1_takeDirectRequest 4 none, Cond.methodLink RX1 102 Lib.Math.max.name, Cond.static Lib.Math.max.name, Cond.initialized "java/lang/Math", Cond.code Lib.Math.max.name Lib.Math.max.code 2 (some .int), Cond.methodLink RX1 96 yX1_requestOfFailures, Cond.instanceMethod yX1_requestOfFailures]
def wsX5_deliveredIfNodeFails_r4 : List Cond := [Cond.selects RX1 yX1_requestOfFailures yX1_requestOfFailures, Cond.code yX1_requestOfFailures cX1_requestOfFailures 3 (some .int), Cond.methodLink RX1 99 yX1_requestOfCommand, Cond.instanceMethod yX1_requestOfCommand, Cond.selects RX1 yX1_requestOfCommand yX1_requestOfCommand, Cond.code yX1_requestOfCommand cX1_requestOfCommand 4 (some .int), Cond.methodLink RX1 108 yX1_startWaiting, Cond.instanceMethod yX1_startWaiting, Cond.selects RX1 yX1_startWaiting yX1_startWaiting, Cond.code yX1_startWaiting cX1_startWaiting 3 none, Cond.methodLink RX1 111 yX1_switchAt, Cond.instanceMethod yX1_switchAt, Cond.selects RX1 yX1_switchAt yX1_switchAt, Cond.code yX1_switchAt cX1_switchAt 2 (some .int), Cond.methodLink RX1 69 yX1_grantSwitches, Cond.instanceMethod yX1_grantSwitches, Cond.selects RX1 yX1_grantSwitches yX1_grantSwitches, Cond.code yX1_grantSwitches cX1_grantSwitches 4 none, Cond.methodLink RX1 114 yX1_isLockedOut, Cond.instanceMethod yX1_isLockedOut, Cond.selects RX1 yX1_isLockedOut yX1_isLockedOut, Cond.code yX1_isLockedOut cX1_isLockedOut 2 (some .boolean), Cond.methodLink RX1 118 yX1_requestAt, Cond.instanceMethod yX1_requestAt]
def wsX5_deliveredIfNodeFails_r5 : List Cond := [Cond.selects RX1 yX1_requestAt yX1_requestAt, Cond.code yX1_requestAt cX1_requestAt 3 (some .int), Cond.methodLink RX1 38 yX2_hasSpan, Cond.instanceMethod yX2_hasSpan, Cond.selects RX2 yX2_hasSpan yX2_hasSpan, Cond.code yX2_hasSpan cX2_hasSpan 2 (some .boolean), Cond.methodLink RX1 121 yX1_grant, Cond.instanceMethod yX1_grant, Cond.selects RX1 yX1_grant yX1_grant, Cond.code yX1_grant cX1_grant 4 none, Cond.methodLink RX1 72 yX1_dropWaitsWithoutSwitch, Cond.instanceMethod yX1_dropWaitsWithoutSwitch, Cond.selects RX1 yX1_dropWaitsWithoutSwitch yX1_dropWaitsWithoutSwitch, Cond.code yX1_dropWaitsWithoutSwitch cX1_dropWaitsWithoutSwitch 4 none, Cond.methodLink RX1 75 yX1_findSegments, Cond.instanceMethod yX1_findSegments, Cond.selects RX1 yX1_findSegments yX1_findSegments, Cond.code yX1_findSegments cX1_findSegments 3 none, Cond.methodLink RX5 163 yX3_countDelivered, Cond.instanceMethod yX3_countDelivered, Cond.selects RX3 yX3_countDelivered yX3_countDelivered, Cond.code yX3_countDelivered cX3_countDelivered 3 (some .int), Cond.methodLink RX3 92 yX0_has, Cond.instanceMethod yX0_has]
def wsX5_deliveredIfNodeFails_r6 : List Cond := [Cond.selects RX0 yX0_has yX0_has, Cond.code yX0_has cX0_has 2 (some .boolean), Cond.methodLink RX3 95 yX3_stateOf, Cond.instanceMethod yX3_stateOf, Cond.selects RX3 yX3_stateOf yX3_stateOf, Cond.code yX3_stateOf cX3_stateOf 2 (some .int), Cond.methodLink RX3 54 yX0_isExtra, Cond.instanceMethod yX0_isExtra, Cond.selects RX0 yX0_isExtra yX0_isExtra, Cond.code yX0_isExtra cX0_isExtra 2 (some .boolean), Cond.methodLink RX3 58 yX3_stateOfExtra, Cond.instanceMethod yX3_stateOfExtra, Cond.selects RX3 yX3_stateOfExtra yX3_stateOfExtra, Cond.code yX3_stateOfExtra cX3_stateOfExtra 3 (some .int), Cond.methodLink RX3 65 yX0_pathOf, Cond.instanceMethod yX0_pathOf, Cond.selects RX0 yX0_pathOf yX0_pathOf, Cond.code yX0_pathOf cX0_pathOf 2 (some .int), Cond.methodLink RX0 24 yX0_has, Cond.methodLink RX3 62 yX3_stateOfNormal, Cond.instanceMethod yX3_stateOfNormal, Cond.selects RX3 yX3_stateOfNormal yX3_stateOfNormal, Cond.code yX3_stateOfNormal cX3_stateOfNormal 7 (some .int), Cond.methodLink RX3 77 yX0_firstEndOf]
def wsX5_deliveredIfNodeFails_r7 : List Cond := [Cond.instanceMethod yX0_firstEndOf, Cond.selects RX0 yX0_firstEndOf yX0_firstEndOf, Cond.code yX0_firstEndOf cX0_firstEndOf 2 (some .int), Cond.methodLink RX3 80 yX1_segmentOf, Cond.instanceMethod yX1_segmentOf, Cond.selects RX1 yX1_segmentOf yX1_segmentOf, Cond.code yX1_segmentOf cX1_segmentOf 2 (some .int), Cond.methodLink RX1 42 yX2_hasNode, Cond.methodLink RX3 83 yX0_secondEndOf, Cond.instanceMethod yX0_secondEndOf, Cond.selects RX0 yX0_secondEndOf yX0_secondEndOf, Cond.code yX0_secondEndOf cX0_secondEndOf 2 (some .int), Cond.methodLink RX3 89 yX1_spansInside, Cond.instanceMethod yX1_spansInside, Cond.selects RX1 yX1_spansInside yX1_spansInside, Cond.code yX1_spansInside cX1_spansInside 5 (some .int), Cond.methodLink RX1 58 yX2_nodeAfter, Cond.instanceMethod yX2_nodeAfter, Cond.selects RX2 yX2_nodeAfter yX2_nodeAfter, Cond.code yX2_nodeAfter cX2_nodeAfter 2 (some .int), Cond.static yX5_isDelivery, Cond.code yX5_isDelivery cX5_isDelivery 1 (some .boolean)]
def wsX5_deliveredIfNodeFails : List Cond := .code yX5_deliveredIfNodeFails cX5_deliveredIfNodeFails 2 (some .int) :: ((wsX5_deliveredIfNodeFails_r1 ++ (wsX5_deliveredIfNodeFails_r2 ++ (wsX5_deliveredIfNodeFails_r3 ++ (wsX5_deliveredIfNodeFails_r4 ++ (wsX5_deliveredIfNodeFails_r5 ++ (wsX5_deliveredIfNodeFails_r6 ++ wsX5_deliveredIfNodeFails_r7)))))) ++ wsX50 ++ wsX30 ++ wsX10 ++ wsX20 ++ wsX00)
def wsX5_worstCut_r1 : List Cond := [Cond.fieldLink RX5 10 "RingProtection" "current" "LRingProtection$Simulation;", Cond.methodLink RX5 178 yX5_deliveredAfterCut, Cond.instanceMethod yX5_deliveredAfterCut, Cond.selects RX5 yX5_deliveredAfterCut yX5_deliveredAfterCut, Cond.initialized RX5, Cond.code yX5_deliveredAfterCut cX5_deliveredAfterCut 2 (some .int), Cond.fieldLink RX5 16 "RingProtection" "trial" "LRingProtection$Simulation;", Cond.methodLink RX5 181 yX3_copyFrom, Cond.instanceMethod yX3_copyFrom, Cond.selects RX3 yX3_copyFrom yX3_copyFrom, Cond.initialized RX3, Cond.code yX3_copyFrom cX3_copyFrom 2 none, Cond.fieldLink RX3 12 "RingProtection$Simulation" "circuits" "LRingProtection$CircuitTable;", Cond.fieldLink RX3 21 "RingProtection$Simulation" "controller" "LRingProtection$Controller;", Cond.fieldLink RX3 37 "RingProtection$Simulation" "time" "I", Cond.methodLink RX3 41 yX0_copyFrom, Cond.instanceMethod yX0_copyFrom, Cond.selects RX0 yX0_copyFrom yX0_copyFrom, Cond.initialized RX0, Cond.code yX0_copyFrom cX0_copyFrom 2 none, Cond.fieldLink RX0 9 "RingProtection$CircuitTable" "firstEnds" "[I", Cond.fieldLink RX0 15 "RingProtection$CircuitTable" "secondEnds" "[I", Cond.fieldLink RX0 18 "RingProtection$CircuitTable" "paths" "[I", Cond.fieldLink RX0 21 "RingProtection$CircuitTable" "slots" "[I"]
def wsX5_worstCut_r2 : List Cond := [Cond.fieldLink RX0 28 "RingProtection$CircuitTable" "extras" "I", Cond.static yX5_copyRow, Cond.code yX5_copyRow cX5_copyRow 3 none, Cond.methodLink RX3 45 yX1_copyFrom, Cond.instanceMethod yX1_copyFrom, Cond.selects RX1 yX1_copyFrom yX1_copyFrom, Cond.initialized RX1, Cond.code yX1_copyFrom cX1_copyFrom 2 none, Cond.fieldLink RX1 12 "RingProtection$Controller" "shape" "LRingProtection$Shape;", Cond.fieldLink RX1 84 "RingProtection$Controller" "failedWorking" "I", Cond.fieldLink RX1 90 "RingProtection$Controller" "failedProtection" "I", Cond.fieldLink RX1 78 "RingProtection$Controller" "failedNodes" "I", Cond.fieldLink RX1 28 "RingProtection$Controller" "restoreTime" "I", Cond.fieldLink RX1 87 "RingProtection$Controller" "workingDown" "I", Cond.fieldLink RX1 93 "RingProtection$Controller" "protectionDown" "I", Cond.fieldLink RX1 52 "RingProtection$Controller" "spanSwitched" "I", Cond.fieldLink RX1 45 "RingProtection$Controller" "ringSwitched" "I", Cond.fieldLink RX1 18 "RingProtection$Controller" "commands" "[I", Cond.fieldLink RX1 22 "RingProtection$Controller" "timers" "[I", Cond.fieldLink RX1 25 "RingProtection$Controller" "heldRequests" "[I", Cond.fieldLink RX1 32 "RingProtection$Controller" "directRequests" "[I", Cond.fieldLink RX1 35 "RingProtection$Controller" "segments" "[I", Cond.methodLink RX5 118 yX1_run, Cond.instanceMethod yX1_run]
def wsX5_worstCut_r3 : List Cond := [Cond.selects RX1 yX1_run yX1_run, Cond.code yX1_run cX1_run 2 none, Cond.methodLink RX1 62 yX1_findCapacitiesDown, Cond.instanceMethod yX1_findCapacitiesDown, Cond.selects RX1 yX1_findCapacitiesDown yX1_findCapacitiesDown, Cond.code yX1_findCapacitiesDown cX1_findCapacitiesDown 3 none, Cond.static yX5_contains, Cond.code yX5_contains cX5_contains 2 (some .boolean), Cond.methodLink RX1 81 yX2_spansAt, Cond.instanceMethod yX2_spansAt, Cond.selects RX2 yX2_spansAt yX2_spansAt, Cond.initialized RX2, Cond.code yX2_spansAt cX2_spansAt 3 (some .int), Cond.fieldLink RX2 9 "RingProtection$Shape" "nodes" "I", Cond.methodLink RX1 65 yX1_takeDirectRequest, Cond.instanceMethod yX1_takeDirectRequest, Cond.selects RX1 yX1_takeDirectRequest yX1_takeDirectRequest, Cond.code yX1_takeDirectRequest cX1_takeDirectRequest 4 none, Cond.methodLink RX1 102 Lib.Math.max.name, Cond.static Lib.Math.max.name, Cond.initialized "java/lang/Math", Cond.code Lib.Math.max.name Lib.Math.max.code 2 (some .int), Cond.methodLink RX1 96 yX1_requestOfFailures, Cond.instanceMethod yX1_requestOfFailures]
def wsX5_worstCut_r4 : List Cond := [Cond.selects RX1 yX1_requestOfFailures yX1_requestOfFailures, Cond.code yX1_requestOfFailures cX1_requestOfFailures 3 (some .int), Cond.methodLink RX1 99 yX1_requestOfCommand, Cond.instanceMethod yX1_requestOfCommand, Cond.selects RX1 yX1_requestOfCommand yX1_requestOfCommand, Cond.code yX1_requestOfCommand cX1_requestOfCommand 4 (some .int), Cond.methodLink RX1 108 yX1_startWaiting, Cond.instanceMethod yX1_startWaiting, Cond.selects RX1 yX1_startWaiting yX1_startWaiting, Cond.code yX1_startWaiting cX1_startWaiting 3 none, Cond.methodLink RX1 111 yX1_switchAt, Cond.instanceMethod yX1_switchAt, Cond.selects RX1 yX1_switchAt yX1_switchAt, Cond.code yX1_switchAt cX1_switchAt 2 (some .int), Cond.methodLink RX1 69 yX1_grantSwitches, Cond.instanceMethod yX1_grantSwitches, Cond.selects RX1 yX1_grantSwitches yX1_grantSwitches, Cond.code yX1_grantSwitches cX1_grantSwitches 4 none, Cond.methodLink RX1 114 yX1_isLockedOut, Cond.instanceMethod yX1_isLockedOut, Cond.selects RX1 yX1_isLockedOut yX1_isLockedOut, Cond.code yX1_isLockedOut cX1_isLockedOut 2 (some .boolean), Cond.methodLink RX1 118 yX1_requestAt, Cond.instanceMethod yX1_requestAt]
def wsX5_worstCut_r5 : List Cond := [Cond.selects RX1 yX1_requestAt yX1_requestAt, Cond.code yX1_requestAt cX1_requestAt 3 (some .int), Cond.methodLink RX1 38 yX2_hasSpan, Cond.instanceMethod yX2_hasSpan, Cond.selects RX2 yX2_hasSpan yX2_hasSpan, Cond.code yX2_hasSpan cX2_hasSpan 2 (some .boolean), Cond.methodLink RX1 121 yX1_grant, Cond.instanceMethod yX1_grant, Cond.selects RX1 yX1_grant yX1_grant, Cond.code yX1_grant cX1_grant 4 none, Cond.methodLink RX1 72 yX1_dropWaitsWithoutSwitch, Cond.instanceMethod yX1_dropWaitsWithoutSwitch, Cond.selects RX1 yX1_dropWaitsWithoutSwitch yX1_dropWaitsWithoutSwitch, Cond.code yX1_dropWaitsWithoutSwitch cX1_dropWaitsWithoutSwitch 4 none, Cond.methodLink RX1 75 yX1_findSegments, Cond.instanceMethod yX1_findSegments, Cond.selects RX1 yX1_findSegments yX1_findSegments, Cond.code yX1_findSegments cX1_findSegments 3 none, Cond.methodLink RX5 163 yX3_countDelivered, Cond.instanceMethod yX3_countDelivered, Cond.selects RX3 yX3_countDelivered yX3_countDelivered, Cond.code yX3_countDelivered cX3_countDelivered 3 (some .int), Cond.methodLink RX3 92 yX0_has, Cond.instanceMethod yX0_has]
def wsX5_worstCut_r6 : List Cond := [Cond.selects RX0 yX0_has yX0_has, Cond.code yX0_has cX0_has 2 (some .boolean), Cond.methodLink RX3 95 yX3_stateOf, Cond.instanceMethod yX3_stateOf, Cond.selects RX3 yX3_stateOf yX3_stateOf, Cond.code yX3_stateOf cX3_stateOf 2 (some .int), Cond.methodLink RX3 54 yX0_isExtra, Cond.instanceMethod yX0_isExtra, Cond.selects RX0 yX0_isExtra yX0_isExtra, Cond.code yX0_isExtra cX0_isExtra 2 (some .boolean), Cond.methodLink RX3 58 yX3_stateOfExtra, Cond.instanceMethod yX3_stateOfExtra, Cond.selects RX3 yX3_stateOfExtra yX3_stateOfExtra, Cond.code yX3_stateOfExtra cX3_stateOfExtra 3 (some .int), Cond.methodLink RX3 65 yX0_pathOf, Cond.instanceMethod yX0_pathOf, Cond.selects RX0 yX0_pathOf yX0_pathOf, Cond.code yX0_pathOf cX0_pathOf 2 (some .int), Cond.methodLink RX0 24 yX0_has, Cond.methodLink RX3 62 yX3_stateOfNormal, Cond.instanceMethod yX3_stateOfNormal, Cond.selects RX3 yX3_stateOfNormal yX3_stateOfNormal, Cond.code yX3_stateOfNormal cX3_stateOfNormal 7 (some .int), Cond.methodLink RX3 77 yX0_firstEndOf]
def wsX5_worstCut_r7 : List Cond := [Cond.instanceMethod yX0_firstEndOf, Cond.selects RX0 yX0_firstEndOf yX0_firstEndOf, Cond.code yX0_firstEndOf cX0_firstEndOf 2 (some .int), Cond.methodLink RX3 80 yX1_segmentOf, Cond.instanceMethod yX1_segmentOf, Cond.selects RX1 yX1_segmentOf yX1_segmentOf, Cond.code yX1_segmentOf cX1_segmentOf 2 (some .int), Cond.methodLink RX1 42 yX2_hasNode, Cond.instanceMethod yX2_hasNode, Cond.selects RX2 yX2_hasNode yX2_hasNode, Cond.code yX2_hasNode cX2_hasNode 2 (some .boolean), Cond.methodLink RX3 83 yX0_secondEndOf, Cond.instanceMethod yX0_secondEndOf, Cond.selects RX0 yX0_secondEndOf yX0_secondEndOf, Cond.code yX0_secondEndOf cX0_secondEndOf 2 (some .int), Cond.methodLink RX3 89 yX1_spansInside, Cond.instanceMethod yX1_spansInside, Cond.selects RX1 yX1_spansInside yX1_spansInside, Cond.code yX1_spansInside cX1_spansInside 5 (some .int), Cond.methodLink RX1 58 yX2_nodeAfter, Cond.instanceMethod yX2_nodeAfter, Cond.selects RX2 yX2_nodeAfter yX2_nodeAfter, Cond.code yX2_nodeAfter cX2_nodeAfter 2 (some .int), Cond.static yX5_isDelivery]
def wsX5_worstCut_r8 : List Cond := [Cond.code yX5_isDelivery cX5_isDelivery 1 (some .boolean)]
def wsX5_worstCut : List Cond := .code yX5_worstCut cX5_worstCut 5 (some .int) :: ((wsX5_worstCut_r1 ++ (wsX5_worstCut_r2 ++ (wsX5_worstCut_r3 ++ (wsX5_worstCut_r4 ++ (wsX5_worstCut_r5 ++ (wsX5_worstCut_r6 ++ (wsX5_worstCut_r7 ++ wsX5_worstCut_r8))))))) ++ wsX50 ++ wsX30 ++ wsX20 ++ wsX10 ++ wsX00)
def wsX5_save_r1 : List Cond := [Cond.fieldLink RX5 22 "RingProtection" "snapshot0" "LRingProtection$Snapshot;", Cond.fieldLink RX5 26 "RingProtection" "snapshot1" "LRingProtection$Snapshot;", Cond.fieldLink RX5 10 "RingProtection" "current" "LRingProtection$Simulation;", Cond.methodLink RX5 181 yX3_copyFrom, Cond.instanceMethod yX3_copyFrom, Cond.selects RX3 yX3_copyFrom yX3_copyFrom, Cond.initialized RX3, Cond.code yX3_copyFrom cX3_copyFrom 2 none, Cond.fieldLink RX3 12 "RingProtection$Simulation" "circuits" "LRingProtection$CircuitTable;", Cond.fieldLink RX3 21 "RingProtection$Simulation" "controller" "LRingProtection$Controller;", Cond.fieldLink RX3 37 "RingProtection$Simulation" "time" "I", Cond.methodLink RX3 41 yX0_copyFrom, Cond.instanceMethod yX0_copyFrom, Cond.selects RX0 yX0_copyFrom yX0_copyFrom, Cond.initialized RX0, Cond.code yX0_copyFrom cX0_copyFrom 2 none, Cond.fieldLink RX0 9 "RingProtection$CircuitTable" "firstEnds" "[I", Cond.fieldLink RX0 15 "RingProtection$CircuitTable" "secondEnds" "[I", Cond.fieldLink RX0 18 "RingProtection$CircuitTable" "paths" "[I", Cond.fieldLink RX0 21 "RingProtection$CircuitTable" "slots" "[I", Cond.fieldLink RX0 28 "RingProtection$CircuitTable" "extras" "I", Cond.static yX5_copyRow, Cond.initialized RX5, Cond.code yX5_copyRow cX5_copyRow 3 none]
def wsX5_save_r2 : List Cond := [Cond.methodLink RX3 45 yX1_copyFrom, Cond.instanceMethod yX1_copyFrom, Cond.selects RX1 yX1_copyFrom yX1_copyFrom, Cond.initialized RX1, Cond.code yX1_copyFrom cX1_copyFrom 2 none, Cond.fieldLink RX1 12 "RingProtection$Controller" "shape" "LRingProtection$Shape;", Cond.fieldLink RX1 84 "RingProtection$Controller" "failedWorking" "I", Cond.fieldLink RX1 90 "RingProtection$Controller" "failedProtection" "I", Cond.fieldLink RX1 78 "RingProtection$Controller" "failedNodes" "I", Cond.fieldLink RX1 28 "RingProtection$Controller" "restoreTime" "I", Cond.fieldLink RX1 87 "RingProtection$Controller" "workingDown" "I", Cond.fieldLink RX1 93 "RingProtection$Controller" "protectionDown" "I", Cond.fieldLink RX1 52 "RingProtection$Controller" "spanSwitched" "I", Cond.fieldLink RX1 45 "RingProtection$Controller" "ringSwitched" "I", Cond.fieldLink RX1 18 "RingProtection$Controller" "commands" "[I", Cond.fieldLink RX1 22 "RingProtection$Controller" "timers" "[I", Cond.fieldLink RX1 25 "RingProtection$Controller" "heldRequests" "[I", Cond.fieldLink RX1 32 "RingProtection$Controller" "directRequests" "[I", Cond.fieldLink RX1 35 "RingProtection$Controller" "segments" "[I"]
def wsX5_save : List Cond := .code yX5_save cX5_save 3 (some .int) :: ((wsX5_save_r1 ++ wsX5_save_r2) ++ wsX50 ++ wsX40 ++ wsX30 ++ wsX00 ++ wsX10 ++ wsX20)
def wsX5_restore_r1 : List Cond := [Cond.fieldLink RX5 22 "RingProtection" "snapshot0" "LRingProtection$Snapshot;", Cond.fieldLink RX5 26 "RingProtection" "snapshot1" "LRingProtection$Snapshot;", Cond.fieldLink RX5 10 "RingProtection" "current" "LRingProtection$Simulation;", Cond.methodLink RX5 181 yX3_copyFrom, Cond.instanceMethod yX3_copyFrom, Cond.selects RX3 yX3_copyFrom yX3_copyFrom, Cond.initialized RX3, Cond.code yX3_copyFrom cX3_copyFrom 2 none, Cond.fieldLink RX3 12 "RingProtection$Simulation" "circuits" "LRingProtection$CircuitTable;", Cond.fieldLink RX3 21 "RingProtection$Simulation" "controller" "LRingProtection$Controller;", Cond.fieldLink RX3 37 "RingProtection$Simulation" "time" "I", Cond.methodLink RX3 41 yX0_copyFrom, Cond.instanceMethod yX0_copyFrom, Cond.selects RX0 yX0_copyFrom yX0_copyFrom, Cond.initialized RX0, Cond.code yX0_copyFrom cX0_copyFrom 2 none, Cond.fieldLink RX0 9 "RingProtection$CircuitTable" "firstEnds" "[I", Cond.fieldLink RX0 15 "RingProtection$CircuitTable" "secondEnds" "[I", Cond.fieldLink RX0 18 "RingProtection$CircuitTable" "paths" "[I", Cond.fieldLink RX0 21 "RingProtection$CircuitTable" "slots" "[I", Cond.fieldLink RX0 28 "RingProtection$CircuitTable" "extras" "I", Cond.static yX5_copyRow, Cond.initialized RX5, Cond.code yX5_copyRow cX5_copyRow 3 none]
def wsX5_restore_r2 : List Cond := [Cond.methodLink RX3 45 yX1_copyFrom, Cond.instanceMethod yX1_copyFrom, Cond.selects RX1 yX1_copyFrom yX1_copyFrom, Cond.initialized RX1, Cond.code yX1_copyFrom cX1_copyFrom 2 none, Cond.fieldLink RX1 12 "RingProtection$Controller" "shape" "LRingProtection$Shape;", Cond.fieldLink RX1 84 "RingProtection$Controller" "failedWorking" "I", Cond.fieldLink RX1 90 "RingProtection$Controller" "failedProtection" "I", Cond.fieldLink RX1 78 "RingProtection$Controller" "failedNodes" "I", Cond.fieldLink RX1 28 "RingProtection$Controller" "restoreTime" "I", Cond.fieldLink RX1 87 "RingProtection$Controller" "workingDown" "I", Cond.fieldLink RX1 93 "RingProtection$Controller" "protectionDown" "I", Cond.fieldLink RX1 52 "RingProtection$Controller" "spanSwitched" "I", Cond.fieldLink RX1 45 "RingProtection$Controller" "ringSwitched" "I", Cond.fieldLink RX1 18 "RingProtection$Controller" "commands" "[I", Cond.fieldLink RX1 22 "RingProtection$Controller" "timers" "[I", Cond.fieldLink RX1 25 "RingProtection$Controller" "heldRequests" "[I", Cond.fieldLink RX1 32 "RingProtection$Controller" "directRequests" "[I", Cond.fieldLink RX1 35 "RingProtection$Controller" "segments" "[I"]
def wsX5_restore : List Cond := .code yX5_restore cX5_restore 3 (some .int) :: ((wsX5_restore_r1 ++ wsX5_restore_r2) ++ wsX50 ++ wsX40 ++ wsX30 ++ wsX00 ++ wsX10 ++ wsX20)
def wsX6_init : List Cond := .code yX6_init cX6_init 1 none :: ([.methodLink RX6 1 objectInit, .instanceMethod objectInit, .code objectInit ⟨#[0xb1]⟩ 1 none, .arrayClass .int, .fieldLink RX6 7 "RingProtectionModel" "state" "[I", .fieldLink RX6 13 "RingProtectionModel" "before" "[I", .fieldLink RX6 16 "RingProtectionModel" "slots" "[I", .arrayClass .boolean, .fieldLink RX6 19 "RingProtectionModel" "isSaved" "[Z"] ++ wsX60)
def wsX6_in : List Cond := .code yX6_in cX6_in 3 (some .boolean) :: ([])
def wsX6_isNode : List Cond := .code yX6_isNode cX6_isNode 2 (some .boolean) :: ([.fieldLink RX6 7 "RingProtectionModel" "state" "[I", .methodLink RX6 23 yX6_in, .static yX6_in, .initialized RX6, .code yX6_in cX6_in 3 (some .boolean)] ++ wsX60)
def wsX6_isSpan : List Cond := .code yX6_isSpan cX6_isSpan 2 (some .boolean) :: ([.fieldLink RX6 7 "RingProtectionModel" "state" "[I", .methodLink RX6 23 yX6_in, .static yX6_in, .initialized RX6, .code yX6_in cX6_in 3 (some .boolean)] ++ wsX60)
def wsX6_next : List Cond := .code yX6_next cX6_next 2 (some .int) :: ([.fieldLink RX6 7 "RingProtectionModel" "state" "[I"] ++ wsX60)
def wsX6_at : List Cond := .code yX6_at cX6_at 2 (some .int) :: ([])
def wsX6_of : List Cond := .code yX6_of cX6_of 3 (some .int) :: ([.fieldLink RX6 7 "RingProtectionModel" "state" "[I", .methodLink RX6 27 yX6_at, .static yX6_at, .initialized RX6, .code yX6_at cX6_at 2 (some .int)] ++ wsX60)
def wsX6_ofCircuit : List Cond := .code yX6_ofCircuit cX6_ofCircuit 3 (some .int) :: ([.fieldLink RX6 7 "RingProtectionModel" "state" "[I"] ++ wsX60)
def wsX6_isCircuit : List Cond := .code yX6_isCircuit cX6_isCircuit 2 (some .boolean) :: ([.methodLink RX6 23 yX6_in, .static yX6_in, .initialized RX6, .code yX6_in cX6_in 3 (some .boolean), .methodLink RX6 31 yX6_ofCircuit, .instanceMethod yX6_ofCircuit, .selects RX6 yX6_ofCircuit yX6_ofCircuit, .code yX6_ofCircuit cX6_ofCircuit 3 (some .int), .fieldLink RX6 7 "RingProtectionModel" "state" "[I"] ++ wsX60)
def wsX6_set : List Cond := .code yX6_set cX6_set 4 (some .int) :: ([.fieldLink RX6 7 "RingProtectionModel" "state" "[I"] ++ wsX60)
def wsX6_reset : List Cond := .code yX6_reset cX6_reset 6 (some .int) :: ([.fieldLink RX6 7 "RingProtectionModel" "state" "[I", .methodLink RX6 23 yX6_in, .static yX6_in, .initialized RX6, .code yX6_in cX6_in 3 (some .boolean)] ++ wsX60)
def wsX6_passes : List Cond := .code yX6_passes cX6_passes 8 (some .boolean) :: ([.fieldLink RX6 7 "RingProtectionModel" "state" "[I"] ++ wsX60)
def wsX6_isOn : List Cond := .code yX6_isOn cX6_isOn 3 (some .boolean) :: ([.methodLink RX6 31 yX6_ofCircuit, .instanceMethod yX6_ofCircuit, .selects RX6 yX6_ofCircuit yX6_ofCircuit, .initialized RX6, .code yX6_ofCircuit cX6_ofCircuit 3 (some .int), .fieldLink RX6 7 "RingProtectionModel" "state" "[I", .methodLink RX6 34 yX6_passes, .instanceMethod yX6_passes, .selects RX6 yX6_passes yX6_passes, .code yX6_passes cX6_passes 8 (some .boolean)] ++ wsX60)
def wsX6_isSlotFree : List Cond := .code yX6_isSlotFree cX6_isSlotFree 9 (some .boolean) :: ([.fieldLink RX6 7 "RingProtectionModel" "state" "[I", .methodLink RX6 38 yX6_isCircuit, .instanceMethod yX6_isCircuit, .selects RX6 yX6_isCircuit yX6_isCircuit, .initialized RX6, .code yX6_isCircuit cX6_isCircuit 2 (some .boolean), .methodLink RX6 23 yX6_in, .static yX6_in, .code yX6_in cX6_in 3 (some .boolean), .methodLink RX6 31 yX6_ofCircuit, .instanceMethod yX6_ofCircuit, .selects RX6 yX6_ofCircuit yX6_ofCircuit, .code yX6_ofCircuit cX6_ofCircuit 3 (some .int), .methodLink RX6 42 yX6_isOn, .instanceMethod yX6_isOn, .selects RX6 yX6_isOn yX6_isOn, .code yX6_isOn cX6_isOn 3 (some .boolean), .methodLink RX6 34 yX6_passes, .instanceMethod yX6_passes, .selects RX6 yX6_passes yX6_passes, .code yX6_passes cX6_passes 8 (some .boolean)] ++ wsX60)
def wsX6_freeNumber : List Cond := .code yX6_freeNumber cX6_freeNumber 2 (some .int) :: ([.methodLink RX6 38 yX6_isCircuit, .instanceMethod yX6_isCircuit, .selects RX6 yX6_isCircuit yX6_isCircuit, .initialized RX6, .code yX6_isCircuit cX6_isCircuit 2 (some .boolean), .methodLink RX6 23 yX6_in, .static yX6_in, .code yX6_in cX6_in 3 (some .boolean), .methodLink RX6 31 yX6_ofCircuit, .instanceMethod yX6_ofCircuit, .selects RX6 yX6_ofCircuit yX6_ofCircuit, .code yX6_ofCircuit cX6_ofCircuit 3 (some .int), .fieldLink RX6 7 "RingProtectionModel" "state" "[I"] ++ wsX60)
def wsX6_addCircuit_r1 : List Cond := [Cond.fieldLink RX6 7 "RingProtectionModel" "state" "[I", Cond.methodLink RX6 46 yX6_isNode, Cond.instanceMethod yX6_isNode, Cond.selects RX6 yX6_isNode yX6_isNode, Cond.initialized RX6, Cond.code yX6_isNode cX6_isNode 2 (some .boolean), Cond.methodLink RX6 23 yX6_in, Cond.static yX6_in, Cond.code yX6_in cX6_in 3 (some .boolean), Cond.methodLink RX6 49 yX6_freeNumber, Cond.instanceMethod yX6_freeNumber, Cond.selects RX6 yX6_freeNumber yX6_freeNumber, Cond.code yX6_freeNumber cX6_freeNumber 2 (some .int), Cond.methodLink RX6 38 yX6_isCircuit, Cond.instanceMethod yX6_isCircuit, Cond.selects RX6 yX6_isCircuit yX6_isCircuit, Cond.code yX6_isCircuit cX6_isCircuit 2 (some .boolean), Cond.methodLink RX6 31 yX6_ofCircuit, Cond.instanceMethod yX6_ofCircuit, Cond.selects RX6 yX6_ofCircuit yX6_ofCircuit, Cond.code yX6_ofCircuit cX6_ofCircuit 3 (some .int), Cond.methodLink RX6 53 yX6_isSlotFree, Cond.instanceMethod yX6_isSlotFree, Cond.selects RX6 yX6_isSlotFree yX6_isSlotFree]
def wsX6_addCircuit_r2 : List Cond := [Cond.code yX6_isSlotFree cX6_isSlotFree 9 (some .boolean), Cond.methodLink RX6 42 yX6_isOn, Cond.instanceMethod yX6_isOn, Cond.selects RX6 yX6_isOn yX6_isOn, Cond.code yX6_isOn cX6_isOn 3 (some .boolean), Cond.methodLink RX6 34 yX6_passes, Cond.instanceMethod yX6_passes, Cond.selects RX6 yX6_passes yX6_passes, Cond.code yX6_passes cX6_passes 8 (some .boolean)]
def wsX6_addCircuit : List Cond := .code yX6_addCircuit cX6_addCircuit 8 (some .int) :: ((wsX6_addCircuit_r1 ++ wsX6_addCircuit_r2) ++ wsX60)
def wsX6_circuitCount : List Cond := .code yX6_circuitCount cX6_circuitCount 3 (some .int) :: ([.methodLink RX6 31 yX6_ofCircuit, .instanceMethod yX6_ofCircuit, .selects RX6 yX6_ofCircuit yX6_ofCircuit, .initialized RX6, .code yX6_ofCircuit cX6_ofCircuit 3 (some .int), .fieldLink RX6 7 "RingProtectionModel" "state" "[I"] ++ wsX60)
def wsX6_removeCircuit : List Cond := .code yX6_removeCircuit cX6_removeCircuit 3 (some .int) :: ([.fieldLink RX6 7 "RingProtectionModel" "state" "[I", .methodLink RX6 38 yX6_isCircuit, .instanceMethod yX6_isCircuit, .selects RX6 yX6_isCircuit yX6_isCircuit, .initialized RX6, .code yX6_isCircuit cX6_isCircuit 2 (some .boolean), .methodLink RX6 23 yX6_in, .static yX6_in, .code yX6_in cX6_in 3 (some .boolean), .methodLink RX6 31 yX6_ofCircuit, .instanceMethod yX6_ofCircuit, .selects RX6 yX6_ofCircuit yX6_ofCircuit, .code yX6_ofCircuit cX6_ofCircuit 3 (some .int), .methodLink RX6 57 yX6_circuitCount, .instanceMethod yX6_circuitCount, .selects RX6 yX6_circuitCount yX6_circuitCount, .code yX6_circuitCount cX6_circuitCount 3 (some .int)] ++ wsX60)
def wsX6_freeSlot_r1 : List Cond := [Cond.fieldLink RX6 7 "RingProtectionModel" "state" "[I", Cond.methodLink RX6 46 yX6_isNode, Cond.instanceMethod yX6_isNode, Cond.selects RX6 yX6_isNode yX6_isNode, Cond.initialized RX6, Cond.code yX6_isNode cX6_isNode 2 (some .boolean), Cond.methodLink RX6 23 yX6_in, Cond.static yX6_in, Cond.code yX6_in cX6_in 3 (some .boolean), Cond.methodLink RX6 53 yX6_isSlotFree, Cond.instanceMethod yX6_isSlotFree, Cond.selects RX6 yX6_isSlotFree yX6_isSlotFree, Cond.code yX6_isSlotFree cX6_isSlotFree 9 (some .boolean), Cond.methodLink RX6 38 yX6_isCircuit, Cond.instanceMethod yX6_isCircuit, Cond.selects RX6 yX6_isCircuit yX6_isCircuit, Cond.code yX6_isCircuit cX6_isCircuit 2 (some .boolean), Cond.methodLink RX6 31 yX6_ofCircuit, Cond.instanceMethod yX6_ofCircuit, Cond.selects RX6 yX6_ofCircuit yX6_ofCircuit, Cond.code yX6_ofCircuit cX6_ofCircuit 3 (some .int), Cond.methodLink RX6 42 yX6_isOn, Cond.instanceMethod yX6_isOn, Cond.selects RX6 yX6_isOn yX6_isOn]
def wsX6_freeSlot_r2 : List Cond := [Cond.code yX6_isOn cX6_isOn 3 (some .boolean), Cond.methodLink RX6 34 yX6_passes, Cond.instanceMethod yX6_passes, Cond.selects RX6 yX6_passes yX6_passes, Cond.code yX6_passes cX6_passes 8 (some .boolean)]
def wsX6_freeSlot : List Cond := .code yX6_freeSlot cX6_freeSlot 6 (some .int) :: ((wsX6_freeSlot_r1 ++ wsX6_freeSlot_r2) ++ wsX60)
def wsX6_circuitsOn_r1 : List Cond := [Cond.methodLink RX6 60 yX6_isSpan, Cond.instanceMethod yX6_isSpan, Cond.selects RX6 yX6_isSpan yX6_isSpan, Cond.initialized RX6, Cond.code yX6_isSpan cX6_isSpan 2 (some .boolean), Cond.fieldLink RX6 7 "RingProtectionModel" "state" "[I", Cond.methodLink RX6 23 yX6_in, Cond.static yX6_in, Cond.code yX6_in cX6_in 3 (some .boolean), Cond.methodLink RX6 38 yX6_isCircuit, Cond.instanceMethod yX6_isCircuit, Cond.selects RX6 yX6_isCircuit yX6_isCircuit, Cond.code yX6_isCircuit cX6_isCircuit 2 (some .boolean), Cond.methodLink RX6 31 yX6_ofCircuit, Cond.instanceMethod yX6_ofCircuit, Cond.selects RX6 yX6_ofCircuit yX6_ofCircuit, Cond.code yX6_ofCircuit cX6_ofCircuit 3 (some .int), Cond.methodLink RX6 42 yX6_isOn, Cond.instanceMethod yX6_isOn, Cond.selects RX6 yX6_isOn yX6_isOn, Cond.code yX6_isOn cX6_isOn 3 (some .boolean), Cond.methodLink RX6 34 yX6_passes, Cond.instanceMethod yX6_passes, Cond.selects RX6 yX6_passes yX6_passes]
def wsX6_circuitsOn_r2 : List Cond := [Cond.code yX6_passes cX6_passes 8 (some .boolean)]
def wsX6_circuitsOn : List Cond := .code yX6_circuitsOn cX6_circuitsOn 4 (some .int) :: ((wsX6_circuitsOn_r1 ++ wsX6_circuitsOn_r2) ++ wsX60)
def wsX6_lengthOf : List Cond := .code yX6_lengthOf cX6_lengthOf 4 (some .int) :: ([.fieldLink RX6 7 "RingProtectionModel" "state" "[I", .methodLink RX6 42 yX6_isOn, .instanceMethod yX6_isOn, .selects RX6 yX6_isOn yX6_isOn, .initialized RX6, .code yX6_isOn cX6_isOn 3 (some .boolean), .methodLink RX6 31 yX6_ofCircuit, .instanceMethod yX6_ofCircuit, .selects RX6 yX6_ofCircuit yX6_ofCircuit, .code yX6_ofCircuit cX6_ofCircuit 3 (some .int), .methodLink RX6 34 yX6_passes, .instanceMethod yX6_passes, .selects RX6 yX6_passes yX6_passes, .code yX6_passes cX6_passes 8 (some .boolean)] ++ wsX60)
def wsX6_pathLength_r1 : List Cond := [Cond.methodLink RX6 38 yX6_isCircuit, Cond.instanceMethod yX6_isCircuit, Cond.selects RX6 yX6_isCircuit yX6_isCircuit, Cond.initialized RX6, Cond.code yX6_isCircuit cX6_isCircuit 2 (some .boolean), Cond.methodLink RX6 23 yX6_in, Cond.static yX6_in, Cond.code yX6_in cX6_in 3 (some .boolean), Cond.methodLink RX6 31 yX6_ofCircuit, Cond.instanceMethod yX6_ofCircuit, Cond.selects RX6 yX6_ofCircuit yX6_ofCircuit, Cond.code yX6_ofCircuit cX6_ofCircuit 3 (some .int), Cond.fieldLink RX6 7 "RingProtectionModel" "state" "[I", Cond.methodLink RX6 63 yX6_lengthOf, Cond.instanceMethod yX6_lengthOf, Cond.selects RX6 yX6_lengthOf yX6_lengthOf, Cond.code yX6_lengthOf cX6_lengthOf 4 (some .int), Cond.methodLink RX6 42 yX6_isOn, Cond.instanceMethod yX6_isOn, Cond.selects RX6 yX6_isOn yX6_isOn, Cond.code yX6_isOn cX6_isOn 3 (some .boolean), Cond.methodLink RX6 34 yX6_passes, Cond.instanceMethod yX6_passes, Cond.selects RX6 yX6_passes yX6_passes]
def wsX6_pathLength_r2 : List Cond := [Cond.code yX6_passes cX6_passes 8 (some .boolean)]
def wsX6_pathLength : List Cond := .code yX6_pathLength cX6_pathLength 2 (some .int) :: ((wsX6_pathLength_r1 ++ wsX6_pathLength_r2) ++ wsX60)
def wsX6_isDown : List Cond := .code yX6_isDown cX6_isDown 3 (some .boolean) :: ([.fieldLink RX6 7 "RingProtectionModel" "state" "[I", .methodLink RX6 67 yX6_of, .instanceMethod yX6_of, .selects RX6 yX6_of yX6_of, .initialized RX6, .code yX6_of cX6_of 3 (some .int), .methodLink RX6 27 yX6_at, .static yX6_at, .code yX6_at cX6_at 2 (some .int), .methodLink RX6 70 yX6_next, .instanceMethod yX6_next, .selects RX6 yX6_next yX6_next, .code yX6_next cX6_next 2 (some .int)] ++ wsX60)
def wsX6_directOf : List Cond := .code yX6_directOf cX6_directOf 8 (some .int) :: ([.methodLink RX6 73 yX6_isDown, .instanceMethod yX6_isDown, .selects RX6 yX6_isDown yX6_isDown, .initialized RX6, .code yX6_isDown cX6_isDown 3 (some .boolean), .fieldLink RX6 7 "RingProtectionModel" "state" "[I", .methodLink RX6 67 yX6_of, .instanceMethod yX6_of, .selects RX6 yX6_of yX6_of, .code yX6_of cX6_of 3 (some .int), .methodLink RX6 27 yX6_at, .static yX6_at, .code yX6_at cX6_at 2 (some .int), .methodLink RX6 70 yX6_next, .instanceMethod yX6_next, .selects RX6 yX6_next yX6_next, .code yX6_next cX6_next 2 (some .int)] ++ wsX60)
def wsX6_requestOf : List Cond := .code yX6_requestOf cX6_requestOf 3 (some .int) :: ([.methodLink RX6 76 yX6_directOf, .instanceMethod yX6_directOf, .selects RX6 yX6_directOf yX6_directOf, .initialized RX6, .code yX6_directOf cX6_directOf 8 (some .int), .methodLink RX6 73 yX6_isDown, .instanceMethod yX6_isDown, .selects RX6 yX6_isDown yX6_isDown, .code yX6_isDown cX6_isDown 3 (some .boolean), .fieldLink RX6 7 "RingProtectionModel" "state" "[I", .methodLink RX6 67 yX6_of, .instanceMethod yX6_of, .selects RX6 yX6_of yX6_of, .code yX6_of cX6_of 3 (some .int), .methodLink RX6 27 yX6_at, .static yX6_at, .code yX6_at cX6_at 2 (some .int), .methodLink RX6 70 yX6_next, .instanceMethod yX6_next, .selects RX6 yX6_next yX6_next, .code yX6_next cX6_next 2 (some .int)] ++ wsX60)
def wsX6_compare : List Cond := .code yX6_compare cX6_compare 5 none :: ([.fieldLink RX6 7 "RingProtectionModel" "state" "[I", .methodLink RX6 67 yX6_of, .instanceMethod yX6_of, .selects RX6 yX6_of yX6_of, .initialized RX6, .code yX6_of cX6_of 3 (some .int), .methodLink RX6 27 yX6_at, .static yX6_at, .code yX6_at cX6_at 2 (some .int), .methodLink RX6 76 yX6_directOf, .instanceMethod yX6_directOf, .selects RX6 yX6_directOf yX6_directOf, .code yX6_directOf cX6_directOf 8 (some .int), .methodLink RX6 73 yX6_isDown, .instanceMethod yX6_isDown, .selects RX6 yX6_isDown yX6_isDown, .code yX6_isDown cX6_isDown 3 (some .boolean), .methodLink RX6 70 yX6_next, .instanceMethod yX6_next, .selects RX6 yX6_next yX6_next, .code yX6_next cX6_next 2 (some .int)] ++ wsX60)
def wsX6_someRequest_r1 : List Cond := [Cond.fieldLink RX6 7 "RingProtectionModel" "state" "[I", Cond.methodLink RX6 79 yX6_requestOf, Cond.instanceMethod yX6_requestOf, Cond.selects RX6 yX6_requestOf yX6_requestOf, Cond.initialized RX6, Cond.code yX6_requestOf cX6_requestOf 3 (some .int), Cond.methodLink RX6 76 yX6_directOf, Cond.instanceMethod yX6_directOf, Cond.selects RX6 yX6_directOf yX6_directOf, Cond.code yX6_directOf cX6_directOf 8 (some .int), Cond.methodLink RX6 73 yX6_isDown, Cond.instanceMethod yX6_isDown, Cond.selects RX6 yX6_isDown yX6_isDown, Cond.code yX6_isDown cX6_isDown 3 (some .boolean), Cond.methodLink RX6 67 yX6_of, Cond.instanceMethod yX6_of, Cond.selects RX6 yX6_of yX6_of, Cond.code yX6_of cX6_of 3 (some .int), Cond.methodLink RX6 27 yX6_at, Cond.static yX6_at, Cond.code yX6_at cX6_at 2 (some .int), Cond.methodLink RX6 70 yX6_next, Cond.instanceMethod yX6_next, Cond.selects RX6 yX6_next yX6_next]
def wsX6_someRequest_r2 : List Cond := [Cond.code yX6_next cX6_next 2 (some .int)]
def wsX6_someRequest : List Cond := .code yX6_someRequest cX6_someRequest 4 (some .boolean) :: ((wsX6_someRequest_r1 ++ wsX6_someRequest_r2) ++ wsX60)
def wsX6_someSwitch : List Cond := .code yX6_someSwitch cX6_someSwitch 4 (some .boolean) :: ([.fieldLink RX6 7 "RingProtectionModel" "state" "[I", .methodLink RX6 67 yX6_of, .instanceMethod yX6_of, .selects RX6 yX6_of yX6_of, .initialized RX6, .code yX6_of cX6_of 3 (some .int), .methodLink RX6 27 yX6_at, .static yX6_at, .code yX6_at cX6_at 2 (some .int)] ++ wsX60)
def wsX6_grantFor_r1 : List Cond := [Cond.methodLink RX6 82 yX6_someRequest, Cond.instanceMethod yX6_someRequest, Cond.selects RX6 yX6_someRequest yX6_someRequest, Cond.initialized RX6, Cond.code yX6_someRequest cX6_someRequest 4 (some .boolean), Cond.fieldLink RX6 7 "RingProtectionModel" "state" "[I", Cond.methodLink RX6 79 yX6_requestOf, Cond.instanceMethod yX6_requestOf, Cond.selects RX6 yX6_requestOf yX6_requestOf, Cond.code yX6_requestOf cX6_requestOf 3 (some .int), Cond.methodLink RX6 76 yX6_directOf, Cond.instanceMethod yX6_directOf, Cond.selects RX6 yX6_directOf yX6_directOf, Cond.code yX6_directOf cX6_directOf 8 (some .int), Cond.methodLink RX6 73 yX6_isDown, Cond.instanceMethod yX6_isDown, Cond.selects RX6 yX6_isDown yX6_isDown, Cond.code yX6_isDown cX6_isDown 3 (some .boolean), Cond.methodLink RX6 67 yX6_of, Cond.instanceMethod yX6_of, Cond.selects RX6 yX6_of yX6_of, Cond.code yX6_of cX6_of 3 (some .int), Cond.methodLink RX6 27 yX6_at, Cond.static yX6_at]
def wsX6_grantFor_r2 : List Cond := [Cond.code yX6_at cX6_at 2 (some .int), Cond.methodLink RX6 70 yX6_next, Cond.instanceMethod yX6_next, Cond.selects RX6 yX6_next yX6_next, Cond.code yX6_next cX6_next 2 (some .int), Cond.methodLink RX6 85 yX6_someSwitch, Cond.instanceMethod yX6_someSwitch, Cond.selects RX6 yX6_someSwitch yX6_someSwitch, Cond.code yX6_someSwitch cX6_someSwitch 4 (some .boolean)]
def wsX6_grantFor : List Cond := .code yX6_grantFor cX6_grantFor 5 (some .int) :: ((wsX6_grantFor_r1 ++ wsX6_grantFor_r2) ++ wsX60)
def wsX6_control_r1 : List Cond := [Cond.fieldLink RX6 7 "RingProtectionModel" "state" "[I", Cond.methodLink RX6 88 yX6_compare, Cond.instanceMethod yX6_compare, Cond.selects RX6 yX6_compare yX6_compare, Cond.initialized RX6, Cond.code yX6_compare cX6_compare 5 none, Cond.methodLink RX6 67 yX6_of, Cond.instanceMethod yX6_of, Cond.selects RX6 yX6_of yX6_of, Cond.code yX6_of cX6_of 3 (some .int), Cond.methodLink RX6 27 yX6_at, Cond.static yX6_at, Cond.code yX6_at cX6_at 2 (some .int), Cond.methodLink RX6 76 yX6_directOf, Cond.instanceMethod yX6_directOf, Cond.selects RX6 yX6_directOf yX6_directOf, Cond.code yX6_directOf cX6_directOf 8 (some .int), Cond.methodLink RX6 73 yX6_isDown, Cond.instanceMethod yX6_isDown, Cond.selects RX6 yX6_isDown yX6_isDown, Cond.code yX6_isDown cX6_isDown 3 (some .boolean), Cond.methodLink RX6 70 yX6_next, Cond.instanceMethod yX6_next, Cond.selects RX6 yX6_next yX6_next]
def wsX6_control_r2 : List Cond := [Cond.code yX6_next cX6_next 2 (some .int), Cond.methodLink RX6 79 yX6_requestOf, Cond.instanceMethod yX6_requestOf, Cond.selects RX6 yX6_requestOf yX6_requestOf, Cond.code yX6_requestOf cX6_requestOf 3 (some .int), Cond.methodLink RX6 92 yX6_grantFor, Cond.instanceMethod yX6_grantFor, Cond.selects RX6 yX6_grantFor yX6_grantFor, Cond.code yX6_grantFor cX6_grantFor 5 (some .int), Cond.methodLink RX6 82 yX6_someRequest, Cond.instanceMethod yX6_someRequest, Cond.selects RX6 yX6_someRequest yX6_someRequest, Cond.code yX6_someRequest cX6_someRequest 4 (some .boolean), Cond.methodLink RX6 85 yX6_someSwitch, Cond.instanceMethod yX6_someSwitch, Cond.selects RX6 yX6_someSwitch yX6_someSwitch, Cond.code yX6_someSwitch cX6_someSwitch 4 (some .boolean)]
def wsX6_control : List Cond := .code yX6_control cX6_control 3 none :: ((wsX6_control_r1 ++ wsX6_control_r2) ++ wsX60)
def wsX6_mark_r1 : List Cond := [Cond.methodLink RX6 95 yX6_set, Cond.instanceMethod yX6_set, Cond.selects RX6 yX6_set yX6_set, Cond.initialized RX6, Cond.code yX6_set cX6_set 4 (some .int), Cond.fieldLink RX6 7 "RingProtectionModel" "state" "[I", Cond.methodLink RX6 98 yX6_control, Cond.instanceMethod yX6_control, Cond.selects RX6 yX6_control yX6_control, Cond.code yX6_control cX6_control 3 none, Cond.methodLink RX6 88 yX6_compare, Cond.instanceMethod yX6_compare, Cond.selects RX6 yX6_compare yX6_compare, Cond.code yX6_compare cX6_compare 5 none, Cond.methodLink RX6 67 yX6_of, Cond.instanceMethod yX6_of, Cond.selects RX6 yX6_of yX6_of, Cond.code yX6_of cX6_of 3 (some .int), Cond.methodLink RX6 27 yX6_at, Cond.static yX6_at, Cond.code yX6_at cX6_at 2 (some .int), Cond.methodLink RX6 76 yX6_directOf, Cond.instanceMethod yX6_directOf, Cond.selects RX6 yX6_directOf yX6_directOf]
def wsX6_mark_r2 : List Cond := [Cond.code yX6_directOf cX6_directOf 8 (some .int), Cond.methodLink RX6 73 yX6_isDown, Cond.instanceMethod yX6_isDown, Cond.selects RX6 yX6_isDown yX6_isDown, Cond.code yX6_isDown cX6_isDown 3 (some .boolean), Cond.methodLink RX6 70 yX6_next, Cond.instanceMethod yX6_next, Cond.selects RX6 yX6_next yX6_next, Cond.code yX6_next cX6_next 2 (some .int), Cond.methodLink RX6 79 yX6_requestOf, Cond.instanceMethod yX6_requestOf, Cond.selects RX6 yX6_requestOf yX6_requestOf, Cond.code yX6_requestOf cX6_requestOf 3 (some .int), Cond.methodLink RX6 92 yX6_grantFor, Cond.instanceMethod yX6_grantFor, Cond.selects RX6 yX6_grantFor yX6_grantFor, Cond.code yX6_grantFor cX6_grantFor 5 (some .int), Cond.methodLink RX6 82 yX6_someRequest, Cond.instanceMethod yX6_someRequest, Cond.selects RX6 yX6_someRequest yX6_someRequest, Cond.code yX6_someRequest cX6_someRequest 4 (some .boolean), Cond.methodLink RX6 85 yX6_someSwitch, Cond.instanceMethod yX6_someSwitch, Cond.selects RX6 yX6_someSwitch yX6_someSwitch]
def wsX6_mark_r3 : List Cond := [Cond.code yX6_someSwitch cX6_someSwitch 4 (some .boolean)]
def wsX6_mark : List Cond := .code yX6_mark cX6_mark 4 (some .int) :: ((wsX6_mark_r1 ++ (wsX6_mark_r2 ++ wsX6_mark_r3)) ++ wsX60)
def wsX6_failWorking_r1 : List Cond := [Cond.methodLink RX6 60 yX6_isSpan, Cond.instanceMethod yX6_isSpan, Cond.selects RX6 yX6_isSpan yX6_isSpan, Cond.initialized RX6, Cond.code yX6_isSpan cX6_isSpan 2 (some .boolean), Cond.fieldLink RX6 7 "RingProtectionModel" "state" "[I", Cond.methodLink RX6 23 yX6_in, Cond.static yX6_in, Cond.code yX6_in cX6_in 3 (some .boolean), Cond.methodLink RX6 27 yX6_at, Cond.static yX6_at, Cond.code yX6_at cX6_at 2 (some .int), Cond.methodLink RX6 101 yX6_mark, Cond.instanceMethod yX6_mark, Cond.selects RX6 yX6_mark yX6_mark, Cond.code yX6_mark cX6_mark 4 (some .int), Cond.methodLink RX6 95 yX6_set, Cond.instanceMethod yX6_set, Cond.selects RX6 yX6_set yX6_set, Cond.code yX6_set cX6_set 4 (some .int), Cond.methodLink RX6 98 yX6_control, Cond.instanceMethod yX6_control, Cond.selects RX6 yX6_control yX6_control, Cond.code yX6_control cX6_control 3 none]
def wsX6_failWorking_r2 : List Cond := [Cond.methodLink RX6 88 yX6_compare, Cond.instanceMethod yX6_compare, Cond.selects RX6 yX6_compare yX6_compare, Cond.code yX6_compare cX6_compare 5 none, Cond.methodLink RX6 67 yX6_of, Cond.instanceMethod yX6_of, Cond.selects RX6 yX6_of yX6_of, Cond.code yX6_of cX6_of 3 (some .int), Cond.methodLink RX6 76 yX6_directOf, Cond.instanceMethod yX6_directOf, Cond.selects RX6 yX6_directOf yX6_directOf, Cond.code yX6_directOf cX6_directOf 8 (some .int), Cond.methodLink RX6 73 yX6_isDown, Cond.instanceMethod yX6_isDown, Cond.selects RX6 yX6_isDown yX6_isDown, Cond.code yX6_isDown cX6_isDown 3 (some .boolean), Cond.methodLink RX6 70 yX6_next, Cond.instanceMethod yX6_next, Cond.selects RX6 yX6_next yX6_next, Cond.code yX6_next cX6_next 2 (some .int), Cond.methodLink RX6 79 yX6_requestOf, Cond.instanceMethod yX6_requestOf, Cond.selects RX6 yX6_requestOf yX6_requestOf, Cond.code yX6_requestOf cX6_requestOf 3 (some .int)]
def wsX6_failWorking_r3 : List Cond := [Cond.methodLink RX6 92 yX6_grantFor, Cond.instanceMethod yX6_grantFor, Cond.selects RX6 yX6_grantFor yX6_grantFor, Cond.code yX6_grantFor cX6_grantFor 5 (some .int), Cond.methodLink RX6 82 yX6_someRequest, Cond.instanceMethod yX6_someRequest, Cond.selects RX6 yX6_someRequest yX6_someRequest, Cond.code yX6_someRequest cX6_someRequest 4 (some .boolean), Cond.methodLink RX6 85 yX6_someSwitch, Cond.instanceMethod yX6_someSwitch, Cond.selects RX6 yX6_someSwitch yX6_someSwitch, Cond.code yX6_someSwitch cX6_someSwitch 4 (some .boolean)]
def wsX6_failWorking : List Cond := .code yX6_failWorking cX6_failWorking 3 (some .int) :: ((wsX6_failWorking_r1 ++ (wsX6_failWorking_r2 ++ wsX6_failWorking_r3)) ++ wsX60)
def wsX6_failProtection_r1 : List Cond := [Cond.methodLink RX6 60 yX6_isSpan, Cond.instanceMethod yX6_isSpan, Cond.selects RX6 yX6_isSpan yX6_isSpan, Cond.initialized RX6, Cond.code yX6_isSpan cX6_isSpan 2 (some .boolean), Cond.fieldLink RX6 7 "RingProtectionModel" "state" "[I", Cond.methodLink RX6 23 yX6_in, Cond.static yX6_in, Cond.code yX6_in cX6_in 3 (some .boolean), Cond.methodLink RX6 27 yX6_at, Cond.static yX6_at, Cond.code yX6_at cX6_at 2 (some .int), Cond.methodLink RX6 101 yX6_mark, Cond.instanceMethod yX6_mark, Cond.selects RX6 yX6_mark yX6_mark, Cond.code yX6_mark cX6_mark 4 (some .int), Cond.methodLink RX6 95 yX6_set, Cond.instanceMethod yX6_set, Cond.selects RX6 yX6_set yX6_set, Cond.code yX6_set cX6_set 4 (some .int), Cond.methodLink RX6 98 yX6_control, Cond.instanceMethod yX6_control, Cond.selects RX6 yX6_control yX6_control, Cond.code yX6_control cX6_control 3 none]
def wsX6_failProtection_r2 : List Cond := [Cond.methodLink RX6 88 yX6_compare, Cond.instanceMethod yX6_compare, Cond.selects RX6 yX6_compare yX6_compare, Cond.code yX6_compare cX6_compare 5 none, Cond.methodLink RX6 67 yX6_of, Cond.instanceMethod yX6_of, Cond.selects RX6 yX6_of yX6_of, Cond.code yX6_of cX6_of 3 (some .int), Cond.methodLink RX6 76 yX6_directOf, Cond.instanceMethod yX6_directOf, Cond.selects RX6 yX6_directOf yX6_directOf, Cond.code yX6_directOf cX6_directOf 8 (some .int), Cond.methodLink RX6 73 yX6_isDown, Cond.instanceMethod yX6_isDown, Cond.selects RX6 yX6_isDown yX6_isDown, Cond.code yX6_isDown cX6_isDown 3 (some .boolean), Cond.methodLink RX6 70 yX6_next, Cond.instanceMethod yX6_next, Cond.selects RX6 yX6_next yX6_next, Cond.code yX6_next cX6_next 2 (some .int), Cond.methodLink RX6 79 yX6_requestOf, Cond.instanceMethod yX6_requestOf, Cond.selects RX6 yX6_requestOf yX6_requestOf, Cond.code yX6_requestOf cX6_requestOf 3 (some .int)]
def wsX6_failProtection_r3 : List Cond := [Cond.methodLink RX6 92 yX6_grantFor, Cond.instanceMethod yX6_grantFor, Cond.selects RX6 yX6_grantFor yX6_grantFor, Cond.code yX6_grantFor cX6_grantFor 5 (some .int), Cond.methodLink RX6 82 yX6_someRequest, Cond.instanceMethod yX6_someRequest, Cond.selects RX6 yX6_someRequest yX6_someRequest, Cond.code yX6_someRequest cX6_someRequest 4 (some .boolean), Cond.methodLink RX6 85 yX6_someSwitch, Cond.instanceMethod yX6_someSwitch, Cond.selects RX6 yX6_someSwitch yX6_someSwitch, Cond.code yX6_someSwitch cX6_someSwitch 4 (some .boolean)]
def wsX6_failProtection : List Cond := .code yX6_failProtection cX6_failProtection 3 (some .int) :: ((wsX6_failProtection_r1 ++ (wsX6_failProtection_r2 ++ wsX6_failProtection_r3)) ++ wsX60)
def wsX6_failNode_r1 : List Cond := [Cond.methodLink RX6 46 yX6_isNode, Cond.instanceMethod yX6_isNode, Cond.selects RX6 yX6_isNode yX6_isNode, Cond.initialized RX6, Cond.code yX6_isNode cX6_isNode 2 (some .boolean), Cond.fieldLink RX6 7 "RingProtectionModel" "state" "[I", Cond.methodLink RX6 23 yX6_in, Cond.static yX6_in, Cond.code yX6_in cX6_in 3 (some .boolean), Cond.methodLink RX6 101 yX6_mark, Cond.instanceMethod yX6_mark, Cond.selects RX6 yX6_mark yX6_mark, Cond.code yX6_mark cX6_mark 4 (some .int), Cond.methodLink RX6 95 yX6_set, Cond.instanceMethod yX6_set, Cond.selects RX6 yX6_set yX6_set, Cond.code yX6_set cX6_set 4 (some .int), Cond.methodLink RX6 98 yX6_control, Cond.instanceMethod yX6_control, Cond.selects RX6 yX6_control yX6_control, Cond.code yX6_control cX6_control 3 none, Cond.methodLink RX6 88 yX6_compare, Cond.instanceMethod yX6_compare, Cond.selects RX6 yX6_compare yX6_compare]
def wsX6_failNode_r2 : List Cond := [Cond.code yX6_compare cX6_compare 5 none, Cond.methodLink RX6 67 yX6_of, Cond.instanceMethod yX6_of, Cond.selects RX6 yX6_of yX6_of, Cond.code yX6_of cX6_of 3 (some .int), Cond.methodLink RX6 27 yX6_at, Cond.static yX6_at, Cond.code yX6_at cX6_at 2 (some .int), Cond.methodLink RX6 76 yX6_directOf, Cond.instanceMethod yX6_directOf, Cond.selects RX6 yX6_directOf yX6_directOf, Cond.code yX6_directOf cX6_directOf 8 (some .int), Cond.methodLink RX6 73 yX6_isDown, Cond.instanceMethod yX6_isDown, Cond.selects RX6 yX6_isDown yX6_isDown, Cond.code yX6_isDown cX6_isDown 3 (some .boolean), Cond.methodLink RX6 70 yX6_next, Cond.instanceMethod yX6_next, Cond.selects RX6 yX6_next yX6_next, Cond.code yX6_next cX6_next 2 (some .int), Cond.methodLink RX6 79 yX6_requestOf, Cond.instanceMethod yX6_requestOf, Cond.selects RX6 yX6_requestOf yX6_requestOf, Cond.code yX6_requestOf cX6_requestOf 3 (some .int)]
def wsX6_failNode_r3 : List Cond := [Cond.methodLink RX6 92 yX6_grantFor, Cond.instanceMethod yX6_grantFor, Cond.selects RX6 yX6_grantFor yX6_grantFor, Cond.code yX6_grantFor cX6_grantFor 5 (some .int), Cond.methodLink RX6 82 yX6_someRequest, Cond.instanceMethod yX6_someRequest, Cond.selects RX6 yX6_someRequest yX6_someRequest, Cond.code yX6_someRequest cX6_someRequest 4 (some .boolean), Cond.methodLink RX6 85 yX6_someSwitch, Cond.instanceMethod yX6_someSwitch, Cond.selects RX6 yX6_someSwitch yX6_someSwitch, Cond.code yX6_someSwitch cX6_someSwitch 4 (some .boolean)]
def wsX6_failNode : List Cond := .code yX6_failNode cX6_failNode 3 (some .int) :: ((wsX6_failNode_r1 ++ (wsX6_failNode_r2 ++ wsX6_failNode_r3)) ++ wsX60)
def wsX6_isCommand : List Cond := .code yX6_isCommand cX6_isCommand 1 (some .boolean) :: ([])
def wsX6_command_r1 : List Cond := [Cond.methodLink RX6 60 yX6_isSpan, Cond.instanceMethod yX6_isSpan, Cond.selects RX6 yX6_isSpan yX6_isSpan, Cond.initialized RX6, Cond.code yX6_isSpan cX6_isSpan 2 (some .boolean), Cond.fieldLink RX6 7 "RingProtectionModel" "state" "[I", Cond.methodLink RX6 23 yX6_in, Cond.static yX6_in, Cond.code yX6_in cX6_in 3 (some .boolean), Cond.methodLink RX6 105 yX6_isCommand, Cond.static yX6_isCommand, Cond.code yX6_isCommand cX6_isCommand 1 (some .boolean), Cond.methodLink RX6 27 yX6_at, Cond.static yX6_at, Cond.code yX6_at cX6_at 2 (some .int), Cond.methodLink RX6 95 yX6_set, Cond.instanceMethod yX6_set, Cond.selects RX6 yX6_set yX6_set, Cond.code yX6_set cX6_set 4 (some .int), Cond.methodLink RX6 98 yX6_control, Cond.instanceMethod yX6_control, Cond.selects RX6 yX6_control yX6_control, Cond.code yX6_control cX6_control 3 none, Cond.methodLink RX6 88 yX6_compare]
def wsX6_command_r2 : List Cond := [Cond.instanceMethod yX6_compare, Cond.selects RX6 yX6_compare yX6_compare, Cond.code yX6_compare cX6_compare 5 none, Cond.methodLink RX6 67 yX6_of, Cond.instanceMethod yX6_of, Cond.selects RX6 yX6_of yX6_of, Cond.code yX6_of cX6_of 3 (some .int), Cond.methodLink RX6 76 yX6_directOf, Cond.instanceMethod yX6_directOf, Cond.selects RX6 yX6_directOf yX6_directOf, Cond.code yX6_directOf cX6_directOf 8 (some .int), Cond.methodLink RX6 73 yX6_isDown, Cond.instanceMethod yX6_isDown, Cond.selects RX6 yX6_isDown yX6_isDown, Cond.code yX6_isDown cX6_isDown 3 (some .boolean), Cond.methodLink RX6 70 yX6_next, Cond.instanceMethod yX6_next, Cond.selects RX6 yX6_next yX6_next, Cond.code yX6_next cX6_next 2 (some .int), Cond.methodLink RX6 79 yX6_requestOf, Cond.instanceMethod yX6_requestOf, Cond.selects RX6 yX6_requestOf yX6_requestOf, Cond.code yX6_requestOf cX6_requestOf 3 (some .int), Cond.methodLink RX6 92 yX6_grantFor]
def wsX6_command_r3 : List Cond := [Cond.instanceMethod yX6_grantFor, Cond.selects RX6 yX6_grantFor yX6_grantFor, Cond.code yX6_grantFor cX6_grantFor 5 (some .int), Cond.methodLink RX6 82 yX6_someRequest, Cond.instanceMethod yX6_someRequest, Cond.selects RX6 yX6_someRequest yX6_someRequest, Cond.code yX6_someRequest cX6_someRequest 4 (some .boolean), Cond.methodLink RX6 85 yX6_someSwitch, Cond.instanceMethod yX6_someSwitch, Cond.selects RX6 yX6_someSwitch yX6_someSwitch, Cond.code yX6_someSwitch cX6_someSwitch 4 (some .boolean)]
def wsX6_command : List Cond := .code yX6_command cX6_command 4 (some .int) :: ((wsX6_command_r1 ++ (wsX6_command_r2 ++ wsX6_command_r3)) ++ wsX60)
def wsX6_setRestoreTime : List Cond := .code yX6_setRestoreTime cX6_setRestoreTime 2 (some .int) :: ([.methodLink RX6 23 yX6_in, .static yX6_in, .initialized RX6, .code yX6_in cX6_in 3 (some .boolean), .methodLink RX6 95 yX6_set, .instanceMethod yX6_set, .selects RX6 yX6_set yX6_set, .code yX6_set cX6_set 4 (some .int), .fieldLink RX6 7 "RingProtectionModel" "state" "[I"] ++ wsX60)
def wsX6_advance_r1 : List Cond := [Cond.fieldLink RX6 7 "RingProtectionModel" "state" "[I", Cond.methodLink RX6 23 yX6_in, Cond.static yX6_in, Cond.initialized RX6, Cond.code yX6_in cX6_in 3 (some .boolean), Cond.methodLink RX6 27 yX6_at, Cond.static yX6_at, Cond.code yX6_at cX6_at 2 (some .int), Cond.methodLink RX6 67 yX6_of, Cond.instanceMethod yX6_of, Cond.selects RX6 yX6_of yX6_of, Cond.code yX6_of cX6_of 3 (some .int), Cond.methodLink RX6 98 yX6_control, Cond.instanceMethod yX6_control, Cond.selects RX6 yX6_control yX6_control, Cond.code yX6_control cX6_control 3 none, Cond.methodLink RX6 88 yX6_compare, Cond.instanceMethod yX6_compare, Cond.selects RX6 yX6_compare yX6_compare, Cond.code yX6_compare cX6_compare 5 none, Cond.methodLink RX6 76 yX6_directOf, Cond.instanceMethod yX6_directOf, Cond.selects RX6 yX6_directOf yX6_directOf, Cond.code yX6_directOf cX6_directOf 8 (some .int)]
def wsX6_advance_r2 : List Cond := [Cond.methodLink RX6 73 yX6_isDown, Cond.instanceMethod yX6_isDown, Cond.selects RX6 yX6_isDown yX6_isDown, Cond.code yX6_isDown cX6_isDown 3 (some .boolean), Cond.methodLink RX6 70 yX6_next, Cond.instanceMethod yX6_next, Cond.selects RX6 yX6_next yX6_next, Cond.code yX6_next cX6_next 2 (some .int), Cond.methodLink RX6 79 yX6_requestOf, Cond.instanceMethod yX6_requestOf, Cond.selects RX6 yX6_requestOf yX6_requestOf, Cond.code yX6_requestOf cX6_requestOf 3 (some .int), Cond.methodLink RX6 92 yX6_grantFor, Cond.instanceMethod yX6_grantFor, Cond.selects RX6 yX6_grantFor yX6_grantFor, Cond.code yX6_grantFor cX6_grantFor 5 (some .int), Cond.methodLink RX6 82 yX6_someRequest, Cond.instanceMethod yX6_someRequest, Cond.selects RX6 yX6_someRequest yX6_someRequest, Cond.code yX6_someRequest cX6_someRequest 4 (some .boolean), Cond.methodLink RX6 85 yX6_someSwitch, Cond.instanceMethod yX6_someSwitch, Cond.selects RX6 yX6_someSwitch yX6_someSwitch, Cond.code yX6_someSwitch cX6_someSwitch 4 (some .boolean)]
def wsX6_advance : List Cond := .code yX6_advance cX6_advance 4 (some .int) :: ((wsX6_advance_r1 ++ wsX6_advance_r2) ++ wsX60)
def wsX6_clock : List Cond := .code yX6_clock cX6_clock 1 (some .int) :: ([.fieldLink RX6 7 "RingProtectionModel" "state" "[I"] ++ wsX60)
def wsX6_request_r1 : List Cond := [Cond.methodLink RX6 60 yX6_isSpan, Cond.instanceMethod yX6_isSpan, Cond.selects RX6 yX6_isSpan yX6_isSpan, Cond.initialized RX6, Cond.code yX6_isSpan cX6_isSpan 2 (some .boolean), Cond.fieldLink RX6 7 "RingProtectionModel" "state" "[I", Cond.methodLink RX6 23 yX6_in, Cond.static yX6_in, Cond.code yX6_in cX6_in 3 (some .boolean), Cond.methodLink RX6 79 yX6_requestOf, Cond.instanceMethod yX6_requestOf, Cond.selects RX6 yX6_requestOf yX6_requestOf, Cond.code yX6_requestOf cX6_requestOf 3 (some .int), Cond.methodLink RX6 76 yX6_directOf, Cond.instanceMethod yX6_directOf, Cond.selects RX6 yX6_directOf yX6_directOf, Cond.code yX6_directOf cX6_directOf 8 (some .int), Cond.methodLink RX6 73 yX6_isDown, Cond.instanceMethod yX6_isDown, Cond.selects RX6 yX6_isDown yX6_isDown, Cond.code yX6_isDown cX6_isDown 3 (some .boolean), Cond.methodLink RX6 67 yX6_of, Cond.instanceMethod yX6_of, Cond.selects RX6 yX6_of yX6_of]
def wsX6_request_r2 : List Cond := [Cond.code yX6_of cX6_of 3 (some .int), Cond.methodLink RX6 27 yX6_at, Cond.static yX6_at, Cond.code yX6_at cX6_at 2 (some .int), Cond.methodLink RX6 70 yX6_next, Cond.instanceMethod yX6_next, Cond.selects RX6 yX6_next yX6_next, Cond.code yX6_next cX6_next 2 (some .int)]
def wsX6_request : List Cond := .code yX6_request cX6_request 2 (some .int) :: ((wsX6_request_r1 ++ wsX6_request_r2) ++ wsX60)
def wsX6_switchOf : List Cond := .code yX6_switchOf cX6_switchOf 2 (some .int) :: ([.methodLink RX6 60 yX6_isSpan, .instanceMethod yX6_isSpan, .selects RX6 yX6_isSpan yX6_isSpan, .initialized RX6, .code yX6_isSpan cX6_isSpan 2 (some .boolean), .fieldLink RX6 7 "RingProtectionModel" "state" "[I", .methodLink RX6 23 yX6_in, .static yX6_in, .code yX6_in cX6_in 3 (some .boolean), .methodLink RX6 67 yX6_of, .instanceMethod yX6_of, .selects RX6 yX6_of yX6_of, .code yX6_of cX6_of 3 (some .int), .methodLink RX6 27 yX6_at, .static yX6_at, .code yX6_at cX6_at 2 (some .int)] ++ wsX60)
def wsX6_restoreTimer : List Cond := .code yX6_restoreTimer cX6_restoreTimer 2 (some .int) :: ([.methodLink RX6 60 yX6_isSpan, .instanceMethod yX6_isSpan, .selects RX6 yX6_isSpan yX6_isSpan, .initialized RX6, .code yX6_isSpan cX6_isSpan 2 (some .boolean), .fieldLink RX6 7 "RingProtectionModel" "state" "[I", .methodLink RX6 23 yX6_in, .static yX6_in, .code yX6_in cX6_in 3 (some .boolean), .methodLink RX6 67 yX6_of, .instanceMethod yX6_of, .selects RX6 yX6_of yX6_of, .code yX6_of cX6_of 3 (some .int), .methodLink RX6 27 yX6_at, .static yX6_at, .code yX6_at cX6_at 2 (some .int)] ++ wsX60)
def wsX6_segmentOf : List Cond := .code yX6_segmentOf cX6_segmentOf 6 (some .int) :: ([.fieldLink RX6 7 "RingProtectionModel" "state" "[I", .methodLink RX6 67 yX6_of, .instanceMethod yX6_of, .selects RX6 yX6_of yX6_of, .initialized RX6, .code yX6_of cX6_of 3 (some .int), .methodLink RX6 27 yX6_at, .static yX6_at, .code yX6_at cX6_at 2 (some .int), .methodLink RX6 70 yX6_next, .instanceMethod yX6_next, .selects RX6 yX6_next yX6_next, .code yX6_next cX6_next 2 (some .int)] ++ wsX60)
def wsX6_segment : List Cond := .code yX6_segment cX6_segment 2 (some .int) :: ([.methodLink RX6 46 yX6_isNode, .instanceMethod yX6_isNode, .selects RX6 yX6_isNode yX6_isNode, .initialized RX6, .code yX6_isNode cX6_isNode 2 (some .boolean), .fieldLink RX6 7 "RingProtectionModel" "state" "[I", .methodLink RX6 23 yX6_in, .static yX6_in, .code yX6_in cX6_in 3 (some .boolean), .methodLink RX6 108 yX6_segmentOf, .instanceMethod yX6_segmentOf, .selects RX6 yX6_segmentOf yX6_segmentOf, .code yX6_segmentOf cX6_segmentOf 6 (some .int), .methodLink RX6 67 yX6_of, .instanceMethod yX6_of, .selects RX6 yX6_of yX6_of, .code yX6_of cX6_of 3 (some .int), .methodLink RX6 27 yX6_at, .static yX6_at, .code yX6_at cX6_at 2 (some .int), .methodLink RX6 70 yX6_next, .instanceMethod yX6_next, .selects RX6 yX6_next yX6_next, .code yX6_next cX6_next 2 (some .int)] ++ wsX60)
def wsX6_hasSwitch : List Cond := .code yX6_hasSwitch cX6_hasSwitch 5 (some .boolean) :: ([.fieldLink RX6 7 "RingProtectionModel" "state" "[I", .methodLink RX6 42 yX6_isOn, .instanceMethod yX6_isOn, .selects RX6 yX6_isOn yX6_isOn, .initialized RX6, .code yX6_isOn cX6_isOn 3 (some .boolean), .methodLink RX6 31 yX6_ofCircuit, .instanceMethod yX6_ofCircuit, .selects RX6 yX6_ofCircuit yX6_ofCircuit, .code yX6_ofCircuit cX6_ofCircuit 3 (some .int), .methodLink RX6 34 yX6_passes, .instanceMethod yX6_passes, .selects RX6 yX6_passes yX6_passes, .code yX6_passes cX6_passes 8 (some .boolean), .methodLink RX6 67 yX6_of, .instanceMethod yX6_of, .selects RX6 yX6_of yX6_of, .code yX6_of cX6_of 3 (some .int), .methodLink RX6 27 yX6_at, .static yX6_at, .code yX6_at cX6_at 2 (some .int)] ++ wsX60)
def wsX6_isInside : List Cond := .code yX6_isInside cX6_isInside 3 (some .boolean) :: ([.methodLink RX6 108 yX6_segmentOf, .instanceMethod yX6_segmentOf, .selects RX6 yX6_segmentOf yX6_segmentOf, .initialized RX6, .code yX6_segmentOf cX6_segmentOf 6 (some .int), .fieldLink RX6 7 "RingProtectionModel" "state" "[I", .methodLink RX6 67 yX6_of, .instanceMethod yX6_of, .selects RX6 yX6_of yX6_of, .code yX6_of cX6_of 3 (some .int), .methodLink RX6 27 yX6_at, .static yX6_at, .code yX6_at cX6_at 2 (some .int), .methodLink RX6 70 yX6_next, .instanceMethod yX6_next, .selects RX6 yX6_next yX6_next, .code yX6_next cX6_next 2 (some .int)] ++ wsX60)
def wsX6_isLost_r1 : List Cond := [Cond.fieldLink RX6 7 "RingProtectionModel" "state" "[I", Cond.methodLink RX6 111 yX6_hasSwitch, Cond.instanceMethod yX6_hasSwitch, Cond.selects RX6 yX6_hasSwitch yX6_hasSwitch, Cond.initialized RX6, Cond.code yX6_hasSwitch cX6_hasSwitch 5 (some .boolean), Cond.methodLink RX6 42 yX6_isOn, Cond.instanceMethod yX6_isOn, Cond.selects RX6 yX6_isOn yX6_isOn, Cond.code yX6_isOn cX6_isOn 3 (some .boolean), Cond.methodLink RX6 31 yX6_ofCircuit, Cond.instanceMethod yX6_ofCircuit, Cond.selects RX6 yX6_ofCircuit yX6_ofCircuit, Cond.code yX6_ofCircuit cX6_ofCircuit 3 (some .int), Cond.methodLink RX6 34 yX6_passes, Cond.instanceMethod yX6_passes, Cond.selects RX6 yX6_passes yX6_passes, Cond.code yX6_passes cX6_passes 8 (some .boolean), Cond.methodLink RX6 67 yX6_of, Cond.instanceMethod yX6_of, Cond.selects RX6 yX6_of yX6_of, Cond.code yX6_of cX6_of 3 (some .int), Cond.methodLink RX6 27 yX6_at, Cond.static yX6_at]
def wsX6_isLost_r2 : List Cond := [Cond.code yX6_at cX6_at 2 (some .int), Cond.methodLink RX6 108 yX6_segmentOf, Cond.instanceMethod yX6_segmentOf, Cond.selects RX6 yX6_segmentOf yX6_segmentOf, Cond.code yX6_segmentOf cX6_segmentOf 6 (some .int), Cond.methodLink RX6 70 yX6_next, Cond.instanceMethod yX6_next, Cond.selects RX6 yX6_next yX6_next, Cond.code yX6_next cX6_next 2 (some .int), Cond.methodLink RX6 73 yX6_isDown, Cond.instanceMethod yX6_isDown, Cond.selects RX6 yX6_isDown yX6_isDown, Cond.code yX6_isDown cX6_isDown 3 (some .boolean), Cond.methodLink RX6 114 yX6_isInside, Cond.instanceMethod yX6_isInside, Cond.selects RX6 yX6_isInside yX6_isInside, Cond.code yX6_isInside cX6_isInside 3 (some .boolean)]
def wsX6_isLost : List Cond := .code yX6_isLost cX6_isLost 6 (some .boolean) :: ((wsX6_isLost_r1 ++ wsX6_isLost_r2) ++ wsX60)
def wsX6_normalState_r1 : List Cond := [Cond.methodLink RX6 111 yX6_hasSwitch, Cond.instanceMethod yX6_hasSwitch, Cond.selects RX6 yX6_hasSwitch yX6_hasSwitch, Cond.initialized RX6, Cond.code yX6_hasSwitch cX6_hasSwitch 5 (some .boolean), Cond.fieldLink RX6 7 "RingProtectionModel" "state" "[I", Cond.methodLink RX6 42 yX6_isOn, Cond.instanceMethod yX6_isOn, Cond.selects RX6 yX6_isOn yX6_isOn, Cond.code yX6_isOn cX6_isOn 3 (some .boolean), Cond.methodLink RX6 31 yX6_ofCircuit, Cond.instanceMethod yX6_ofCircuit, Cond.selects RX6 yX6_ofCircuit yX6_ofCircuit, Cond.code yX6_ofCircuit cX6_ofCircuit 3 (some .int), Cond.methodLink RX6 34 yX6_passes, Cond.instanceMethod yX6_passes, Cond.selects RX6 yX6_passes yX6_passes, Cond.code yX6_passes cX6_passes 8 (some .boolean), Cond.methodLink RX6 67 yX6_of, Cond.instanceMethod yX6_of, Cond.selects RX6 yX6_of yX6_of, Cond.code yX6_of cX6_of 3 (some .int), Cond.methodLink RX6 27 yX6_at, Cond.static yX6_at]
def wsX6_normalState_r2 : List Cond := [Cond.code yX6_at cX6_at 2 (some .int), Cond.methodLink RX6 108 yX6_segmentOf, Cond.instanceMethod yX6_segmentOf, Cond.selects RX6 yX6_segmentOf yX6_segmentOf, Cond.code yX6_segmentOf cX6_segmentOf 6 (some .int), Cond.methodLink RX6 70 yX6_next, Cond.instanceMethod yX6_next, Cond.selects RX6 yX6_next yX6_next, Cond.code yX6_next cX6_next 2 (some .int), Cond.methodLink RX6 117 yX6_isLost, Cond.instanceMethod yX6_isLost, Cond.selects RX6 yX6_isLost yX6_isLost, Cond.code yX6_isLost cX6_isLost 6 (some .boolean), Cond.methodLink RX6 73 yX6_isDown, Cond.instanceMethod yX6_isDown, Cond.selects RX6 yX6_isDown yX6_isDown, Cond.code yX6_isDown cX6_isDown 3 (some .boolean), Cond.methodLink RX6 114 yX6_isInside, Cond.instanceMethod yX6_isInside, Cond.selects RX6 yX6_isInside yX6_isInside, Cond.code yX6_isInside cX6_isInside 3 (some .boolean)]
def wsX6_normalState : List Cond := .code yX6_normalState cX6_normalState 3 (some .int) :: ((wsX6_normalState_r1 ++ wsX6_normalState_r2) ++ wsX60)
def wsX6_extraState_r1 : List Cond := [Cond.fieldLink RX6 7 "RingProtectionModel" "state" "[I", Cond.methodLink RX6 85 yX6_someSwitch, Cond.instanceMethod yX6_someSwitch, Cond.selects RX6 yX6_someSwitch yX6_someSwitch, Cond.initialized RX6, Cond.code yX6_someSwitch cX6_someSwitch 4 (some .boolean), Cond.methodLink RX6 67 yX6_of, Cond.instanceMethod yX6_of, Cond.selects RX6 yX6_of yX6_of, Cond.code yX6_of cX6_of 3 (some .int), Cond.methodLink RX6 27 yX6_at, Cond.static yX6_at, Cond.code yX6_at cX6_at 2 (some .int), Cond.methodLink RX6 111 yX6_hasSwitch, Cond.instanceMethod yX6_hasSwitch, Cond.selects RX6 yX6_hasSwitch yX6_hasSwitch, Cond.code yX6_hasSwitch cX6_hasSwitch 5 (some .boolean), Cond.methodLink RX6 42 yX6_isOn, Cond.instanceMethod yX6_isOn, Cond.selects RX6 yX6_isOn yX6_isOn, Cond.code yX6_isOn cX6_isOn 3 (some .boolean), Cond.methodLink RX6 31 yX6_ofCircuit, Cond.instanceMethod yX6_ofCircuit, Cond.selects RX6 yX6_ofCircuit yX6_ofCircuit]
def wsX6_extraState_r2 : List Cond := [Cond.code yX6_ofCircuit cX6_ofCircuit 3 (some .int), Cond.methodLink RX6 34 yX6_passes, Cond.instanceMethod yX6_passes, Cond.selects RX6 yX6_passes yX6_passes, Cond.code yX6_passes cX6_passes 8 (some .boolean), Cond.methodLink RX6 73 yX6_isDown, Cond.instanceMethod yX6_isDown, Cond.selects RX6 yX6_isDown yX6_isDown, Cond.code yX6_isDown cX6_isDown 3 (some .boolean), Cond.methodLink RX6 70 yX6_next, Cond.instanceMethod yX6_next, Cond.selects RX6 yX6_next yX6_next, Cond.code yX6_next cX6_next 2 (some .int)]
def wsX6_extraState : List Cond := .code yX6_extraState cX6_extraState 3 (some .int) :: ((wsX6_extraState_r1 ++ wsX6_extraState_r2) ++ wsX60)
def wsX6_stateOf_r1 : List Cond := [Cond.methodLink RX6 31 yX6_ofCircuit, Cond.instanceMethod yX6_ofCircuit, Cond.selects RX6 yX6_ofCircuit yX6_ofCircuit, Cond.initialized RX6, Cond.code yX6_ofCircuit cX6_ofCircuit 3 (some .int), Cond.fieldLink RX6 7 "RingProtectionModel" "state" "[I", Cond.methodLink RX6 120 yX6_extraState, Cond.instanceMethod yX6_extraState, Cond.selects RX6 yX6_extraState yX6_extraState, Cond.code yX6_extraState cX6_extraState 3 (some .int), Cond.methodLink RX6 85 yX6_someSwitch, Cond.instanceMethod yX6_someSwitch, Cond.selects RX6 yX6_someSwitch yX6_someSwitch, Cond.code yX6_someSwitch cX6_someSwitch 4 (some .boolean), Cond.methodLink RX6 67 yX6_of, Cond.instanceMethod yX6_of, Cond.selects RX6 yX6_of yX6_of, Cond.code yX6_of cX6_of 3 (some .int), Cond.methodLink RX6 27 yX6_at, Cond.static yX6_at, Cond.code yX6_at cX6_at 2 (some .int), Cond.methodLink RX6 111 yX6_hasSwitch, Cond.instanceMethod yX6_hasSwitch, Cond.selects RX6 yX6_hasSwitch yX6_hasSwitch]
def wsX6_stateOf_r2 : List Cond := [Cond.code yX6_hasSwitch cX6_hasSwitch 5 (some .boolean), Cond.methodLink RX6 42 yX6_isOn, Cond.instanceMethod yX6_isOn, Cond.selects RX6 yX6_isOn yX6_isOn, Cond.code yX6_isOn cX6_isOn 3 (some .boolean), Cond.methodLink RX6 34 yX6_passes, Cond.instanceMethod yX6_passes, Cond.selects RX6 yX6_passes yX6_passes, Cond.code yX6_passes cX6_passes 8 (some .boolean), Cond.methodLink RX6 73 yX6_isDown, Cond.instanceMethod yX6_isDown, Cond.selects RX6 yX6_isDown yX6_isDown, Cond.code yX6_isDown cX6_isDown 3 (some .boolean), Cond.methodLink RX6 70 yX6_next, Cond.instanceMethod yX6_next, Cond.selects RX6 yX6_next yX6_next, Cond.code yX6_next cX6_next 2 (some .int), Cond.methodLink RX6 123 yX6_normalState, Cond.instanceMethod yX6_normalState, Cond.selects RX6 yX6_normalState yX6_normalState, Cond.code yX6_normalState cX6_normalState 3 (some .int), Cond.methodLink RX6 108 yX6_segmentOf, Cond.instanceMethod yX6_segmentOf, Cond.selects RX6 yX6_segmentOf yX6_segmentOf]
def wsX6_stateOf_r3 : List Cond := [Cond.code yX6_segmentOf cX6_segmentOf 6 (some .int), Cond.methodLink RX6 117 yX6_isLost, Cond.instanceMethod yX6_isLost, Cond.selects RX6 yX6_isLost yX6_isLost, Cond.code yX6_isLost cX6_isLost 6 (some .boolean), Cond.methodLink RX6 114 yX6_isInside, Cond.instanceMethod yX6_isInside, Cond.selects RX6 yX6_isInside yX6_isInside, Cond.code yX6_isInside cX6_isInside 3 (some .boolean)]
def wsX6_stateOf : List Cond := .code yX6_stateOf cX6_stateOf 2 (some .int) :: ((wsX6_stateOf_r1 ++ (wsX6_stateOf_r2 ++ wsX6_stateOf_r3)) ++ wsX60)
def wsX6_state_r1 : List Cond := [Cond.methodLink RX6 38 yX6_isCircuit, Cond.instanceMethod yX6_isCircuit, Cond.selects RX6 yX6_isCircuit yX6_isCircuit, Cond.initialized RX6, Cond.code yX6_isCircuit cX6_isCircuit 2 (some .boolean), Cond.methodLink RX6 23 yX6_in, Cond.static yX6_in, Cond.code yX6_in cX6_in 3 (some .boolean), Cond.methodLink RX6 31 yX6_ofCircuit, Cond.instanceMethod yX6_ofCircuit, Cond.selects RX6 yX6_ofCircuit yX6_ofCircuit, Cond.code yX6_ofCircuit cX6_ofCircuit 3 (some .int), Cond.fieldLink RX6 7 "RingProtectionModel" "state" "[I", Cond.methodLink RX6 126 yX6_stateOf, Cond.instanceMethod yX6_stateOf, Cond.selects RX6 yX6_stateOf yX6_stateOf, Cond.code yX6_stateOf cX6_stateOf 2 (some .int), Cond.methodLink RX6 120 yX6_extraState, Cond.instanceMethod yX6_extraState, Cond.selects RX6 yX6_extraState yX6_extraState, Cond.code yX6_extraState cX6_extraState 3 (some .int), Cond.methodLink RX6 85 yX6_someSwitch, Cond.instanceMethod yX6_someSwitch, Cond.selects RX6 yX6_someSwitch yX6_someSwitch]
def wsX6_state_r2 : List Cond := [Cond.code yX6_someSwitch cX6_someSwitch 4 (some .boolean), Cond.methodLink RX6 67 yX6_of, Cond.instanceMethod yX6_of, Cond.selects RX6 yX6_of yX6_of, Cond.code yX6_of cX6_of 3 (some .int), Cond.methodLink RX6 27 yX6_at, Cond.static yX6_at, Cond.code yX6_at cX6_at 2 (some .int), Cond.methodLink RX6 111 yX6_hasSwitch, Cond.instanceMethod yX6_hasSwitch, Cond.selects RX6 yX6_hasSwitch yX6_hasSwitch, Cond.code yX6_hasSwitch cX6_hasSwitch 5 (some .boolean), Cond.methodLink RX6 42 yX6_isOn, Cond.instanceMethod yX6_isOn, Cond.selects RX6 yX6_isOn yX6_isOn, Cond.code yX6_isOn cX6_isOn 3 (some .boolean), Cond.methodLink RX6 34 yX6_passes, Cond.instanceMethod yX6_passes, Cond.selects RX6 yX6_passes yX6_passes, Cond.code yX6_passes cX6_passes 8 (some .boolean), Cond.methodLink RX6 73 yX6_isDown, Cond.instanceMethod yX6_isDown, Cond.selects RX6 yX6_isDown yX6_isDown, Cond.code yX6_isDown cX6_isDown 3 (some .boolean)]
def wsX6_state_r3 : List Cond := [Cond.methodLink RX6 70 yX6_next, Cond.instanceMethod yX6_next, Cond.selects RX6 yX6_next yX6_next, Cond.code yX6_next cX6_next 2 (some .int), Cond.methodLink RX6 123 yX6_normalState, Cond.instanceMethod yX6_normalState, Cond.selects RX6 yX6_normalState yX6_normalState, Cond.code yX6_normalState cX6_normalState 3 (some .int), Cond.methodLink RX6 108 yX6_segmentOf, Cond.instanceMethod yX6_segmentOf, Cond.selects RX6 yX6_segmentOf yX6_segmentOf, Cond.code yX6_segmentOf cX6_segmentOf 6 (some .int), Cond.methodLink RX6 117 yX6_isLost, Cond.instanceMethod yX6_isLost, Cond.selects RX6 yX6_isLost yX6_isLost, Cond.code yX6_isLost cX6_isLost 6 (some .boolean), Cond.methodLink RX6 114 yX6_isInside, Cond.instanceMethod yX6_isInside, Cond.selects RX6 yX6_isInside yX6_isInside, Cond.code yX6_isInside cX6_isInside 3 (some .boolean)]
def wsX6_state : List Cond := .code yX6_state cX6_state 2 (some .int) :: ((wsX6_state_r1 ++ (wsX6_state_r2 ++ wsX6_state_r3)) ++ wsX60)
def wsX6_circuitsIn_r1 : List Cond := [Cond.methodLink RX6 23 yX6_in, Cond.static yX6_in, Cond.initialized RX6, Cond.code yX6_in cX6_in 3 (some .boolean), Cond.methodLink RX6 38 yX6_isCircuit, Cond.instanceMethod yX6_isCircuit, Cond.selects RX6 yX6_isCircuit yX6_isCircuit, Cond.code yX6_isCircuit cX6_isCircuit 2 (some .boolean), Cond.methodLink RX6 31 yX6_ofCircuit, Cond.instanceMethod yX6_ofCircuit, Cond.selects RX6 yX6_ofCircuit yX6_ofCircuit, Cond.code yX6_ofCircuit cX6_ofCircuit 3 (some .int), Cond.fieldLink RX6 7 "RingProtectionModel" "state" "[I", Cond.methodLink RX6 126 yX6_stateOf, Cond.instanceMethod yX6_stateOf, Cond.selects RX6 yX6_stateOf yX6_stateOf, Cond.code yX6_stateOf cX6_stateOf 2 (some .int), Cond.methodLink RX6 120 yX6_extraState, Cond.instanceMethod yX6_extraState, Cond.selects RX6 yX6_extraState yX6_extraState, Cond.code yX6_extraState cX6_extraState 3 (some .int), Cond.methodLink RX6 85 yX6_someSwitch, Cond.instanceMethod yX6_someSwitch, Cond.selects RX6 yX6_someSwitch yX6_someSwitch]
def wsX6_circuitsIn_r2 : List Cond := [Cond.code yX6_someSwitch cX6_someSwitch 4 (some .boolean), Cond.methodLink RX6 67 yX6_of, Cond.instanceMethod yX6_of, Cond.selects RX6 yX6_of yX6_of, Cond.code yX6_of cX6_of 3 (some .int), Cond.methodLink RX6 27 yX6_at, Cond.static yX6_at, Cond.code yX6_at cX6_at 2 (some .int), Cond.methodLink RX6 111 yX6_hasSwitch, Cond.instanceMethod yX6_hasSwitch, Cond.selects RX6 yX6_hasSwitch yX6_hasSwitch, Cond.code yX6_hasSwitch cX6_hasSwitch 5 (some .boolean), Cond.methodLink RX6 42 yX6_isOn, Cond.instanceMethod yX6_isOn, Cond.selects RX6 yX6_isOn yX6_isOn, Cond.code yX6_isOn cX6_isOn 3 (some .boolean), Cond.methodLink RX6 34 yX6_passes, Cond.instanceMethod yX6_passes, Cond.selects RX6 yX6_passes yX6_passes, Cond.code yX6_passes cX6_passes 8 (some .boolean), Cond.methodLink RX6 73 yX6_isDown, Cond.instanceMethod yX6_isDown, Cond.selects RX6 yX6_isDown yX6_isDown, Cond.code yX6_isDown cX6_isDown 3 (some .boolean)]
def wsX6_circuitsIn_r3 : List Cond := [Cond.methodLink RX6 70 yX6_next, Cond.instanceMethod yX6_next, Cond.selects RX6 yX6_next yX6_next, Cond.code yX6_next cX6_next 2 (some .int), Cond.methodLink RX6 123 yX6_normalState, Cond.instanceMethod yX6_normalState, Cond.selects RX6 yX6_normalState yX6_normalState, Cond.code yX6_normalState cX6_normalState 3 (some .int), Cond.methodLink RX6 108 yX6_segmentOf, Cond.instanceMethod yX6_segmentOf, Cond.selects RX6 yX6_segmentOf yX6_segmentOf, Cond.code yX6_segmentOf cX6_segmentOf 6 (some .int), Cond.methodLink RX6 117 yX6_isLost, Cond.instanceMethod yX6_isLost, Cond.selects RX6 yX6_isLost yX6_isLost, Cond.code yX6_isLost cX6_isLost 6 (some .boolean), Cond.methodLink RX6 114 yX6_isInside, Cond.instanceMethod yX6_isInside, Cond.selects RX6 yX6_isInside yX6_isInside, Cond.code yX6_isInside cX6_isInside 3 (some .boolean)]
def wsX6_circuitsIn : List Cond := .code yX6_circuitsIn cX6_circuitsIn 4 (some .int) :: ((wsX6_circuitsIn_r1 ++ (wsX6_circuitsIn_r2 ++ wsX6_circuitsIn_r3)) ++ wsX60)
def wsX6_isDelivered_r1 : List Cond := [Cond.methodLink RX6 38 yX6_isCircuit, Cond.instanceMethod yX6_isCircuit, Cond.selects RX6 yX6_isCircuit yX6_isCircuit, Cond.initialized RX6, Cond.code yX6_isCircuit cX6_isCircuit 2 (some .boolean), Cond.methodLink RX6 23 yX6_in, Cond.static yX6_in, Cond.code yX6_in cX6_in 3 (some .boolean), Cond.methodLink RX6 31 yX6_ofCircuit, Cond.instanceMethod yX6_ofCircuit, Cond.selects RX6 yX6_ofCircuit yX6_ofCircuit, Cond.code yX6_ofCircuit cX6_ofCircuit 3 (some .int), Cond.fieldLink RX6 7 "RingProtectionModel" "state" "[I", Cond.methodLink RX6 126 yX6_stateOf, Cond.instanceMethod yX6_stateOf, Cond.selects RX6 yX6_stateOf yX6_stateOf, Cond.code yX6_stateOf cX6_stateOf 2 (some .int), Cond.methodLink RX6 120 yX6_extraState, Cond.instanceMethod yX6_extraState, Cond.selects RX6 yX6_extraState yX6_extraState, Cond.code yX6_extraState cX6_extraState 3 (some .int), Cond.methodLink RX6 85 yX6_someSwitch, Cond.instanceMethod yX6_someSwitch, Cond.selects RX6 yX6_someSwitch yX6_someSwitch]
def wsX6_isDelivered_r2 : List Cond := [Cond.code yX6_someSwitch cX6_someSwitch 4 (some .boolean), Cond.methodLink RX6 67 yX6_of, Cond.instanceMethod yX6_of, Cond.selects RX6 yX6_of yX6_of, Cond.code yX6_of cX6_of 3 (some .int), Cond.methodLink RX6 27 yX6_at, Cond.static yX6_at, Cond.code yX6_at cX6_at 2 (some .int), Cond.methodLink RX6 111 yX6_hasSwitch, Cond.instanceMethod yX6_hasSwitch, Cond.selects RX6 yX6_hasSwitch yX6_hasSwitch, Cond.code yX6_hasSwitch cX6_hasSwitch 5 (some .boolean), Cond.methodLink RX6 42 yX6_isOn, Cond.instanceMethod yX6_isOn, Cond.selects RX6 yX6_isOn yX6_isOn, Cond.code yX6_isOn cX6_isOn 3 (some .boolean), Cond.methodLink RX6 34 yX6_passes, Cond.instanceMethod yX6_passes, Cond.selects RX6 yX6_passes yX6_passes, Cond.code yX6_passes cX6_passes 8 (some .boolean), Cond.methodLink RX6 73 yX6_isDown, Cond.instanceMethod yX6_isDown, Cond.selects RX6 yX6_isDown yX6_isDown, Cond.code yX6_isDown cX6_isDown 3 (some .boolean)]
def wsX6_isDelivered_r3 : List Cond := [Cond.methodLink RX6 70 yX6_next, Cond.instanceMethod yX6_next, Cond.selects RX6 yX6_next yX6_next, Cond.code yX6_next cX6_next 2 (some .int), Cond.methodLink RX6 123 yX6_normalState, Cond.instanceMethod yX6_normalState, Cond.selects RX6 yX6_normalState yX6_normalState, Cond.code yX6_normalState cX6_normalState 3 (some .int), Cond.methodLink RX6 108 yX6_segmentOf, Cond.instanceMethod yX6_segmentOf, Cond.selects RX6 yX6_segmentOf yX6_segmentOf, Cond.code yX6_segmentOf cX6_segmentOf 6 (some .int), Cond.methodLink RX6 117 yX6_isLost, Cond.instanceMethod yX6_isLost, Cond.selects RX6 yX6_isLost yX6_isLost, Cond.code yX6_isLost cX6_isLost 6 (some .boolean), Cond.methodLink RX6 114 yX6_isInside, Cond.instanceMethod yX6_isInside, Cond.selects RX6 yX6_isInside yX6_isInside, Cond.code yX6_isInside cX6_isInside 3 (some .boolean)]
def wsX6_isDelivered : List Cond := .code yX6_isDelivered cX6_isDelivered 2 (some .boolean) :: ((wsX6_isDelivered_r1 ++ (wsX6_isDelivered_r2 ++ wsX6_isDelivered_r3)) ++ wsX60)
def wsX6_deliveredCount_r1 : List Cond := [Cond.methodLink RX6 129 yX6_isDelivered, Cond.instanceMethod yX6_isDelivered, Cond.selects RX6 yX6_isDelivered yX6_isDelivered, Cond.initialized RX6, Cond.code yX6_isDelivered cX6_isDelivered 2 (some .boolean), Cond.methodLink RX6 38 yX6_isCircuit, Cond.instanceMethod yX6_isCircuit, Cond.selects RX6 yX6_isCircuit yX6_isCircuit, Cond.code yX6_isCircuit cX6_isCircuit 2 (some .boolean), Cond.methodLink RX6 23 yX6_in, Cond.static yX6_in, Cond.code yX6_in cX6_in 3 (some .boolean), Cond.methodLink RX6 31 yX6_ofCircuit, Cond.instanceMethod yX6_ofCircuit, Cond.selects RX6 yX6_ofCircuit yX6_ofCircuit, Cond.code yX6_ofCircuit cX6_ofCircuit 3 (some .int), Cond.fieldLink RX6 7 "RingProtectionModel" "state" "[I", Cond.methodLink RX6 126 yX6_stateOf, Cond.instanceMethod yX6_stateOf, Cond.selects RX6 yX6_stateOf yX6_stateOf, Cond.code yX6_stateOf cX6_stateOf 2 (some .int), Cond.methodLink RX6 120 yX6_extraState, Cond.instanceMethod yX6_extraState, Cond.selects RX6 yX6_extraState yX6_extraState]
def wsX6_deliveredCount_r2 : List Cond := [Cond.code yX6_extraState cX6_extraState 3 (some .int), Cond.methodLink RX6 85 yX6_someSwitch, Cond.instanceMethod yX6_someSwitch, Cond.selects RX6 yX6_someSwitch yX6_someSwitch, Cond.code yX6_someSwitch cX6_someSwitch 4 (some .boolean), Cond.methodLink RX6 67 yX6_of, Cond.instanceMethod yX6_of, Cond.selects RX6 yX6_of yX6_of, Cond.code yX6_of cX6_of 3 (some .int), Cond.methodLink RX6 27 yX6_at, Cond.static yX6_at, Cond.code yX6_at cX6_at 2 (some .int), Cond.methodLink RX6 111 yX6_hasSwitch, Cond.instanceMethod yX6_hasSwitch, Cond.selects RX6 yX6_hasSwitch yX6_hasSwitch, Cond.code yX6_hasSwitch cX6_hasSwitch 5 (some .boolean), Cond.methodLink RX6 42 yX6_isOn, Cond.instanceMethod yX6_isOn, Cond.selects RX6 yX6_isOn yX6_isOn, Cond.code yX6_isOn cX6_isOn 3 (some .boolean), Cond.methodLink RX6 34 yX6_passes, Cond.instanceMethod yX6_passes, Cond.selects RX6 yX6_passes yX6_passes, Cond.code yX6_passes cX6_passes 8 (some .boolean)]
def wsX6_deliveredCount_r3 : List Cond := [Cond.methodLink RX6 73 yX6_isDown, Cond.instanceMethod yX6_isDown, Cond.selects RX6 yX6_isDown yX6_isDown, Cond.code yX6_isDown cX6_isDown 3 (some .boolean), Cond.methodLink RX6 70 yX6_next, Cond.instanceMethod yX6_next, Cond.selects RX6 yX6_next yX6_next, Cond.code yX6_next cX6_next 2 (some .int), Cond.methodLink RX6 123 yX6_normalState, Cond.instanceMethod yX6_normalState, Cond.selects RX6 yX6_normalState yX6_normalState, Cond.code yX6_normalState cX6_normalState 3 (some .int), Cond.methodLink RX6 108 yX6_segmentOf, Cond.instanceMethod yX6_segmentOf, Cond.selects RX6 yX6_segmentOf yX6_segmentOf, Cond.code yX6_segmentOf cX6_segmentOf 6 (some .int), Cond.methodLink RX6 117 yX6_isLost, Cond.instanceMethod yX6_isLost, Cond.selects RX6 yX6_isLost yX6_isLost, Cond.code yX6_isLost cX6_isLost 6 (some .boolean), Cond.methodLink RX6 114 yX6_isInside, Cond.instanceMethod yX6_isInside, Cond.selects RX6 yX6_isInside yX6_isInside, Cond.code yX6_isInside cX6_isInside 3 (some .boolean)]
def wsX6_deliveredCount : List Cond := .code yX6_deliveredCount cX6_deliveredCount 3 (some .int) :: ((wsX6_deliveredCount_r1 ++ (wsX6_deliveredCount_r2 ++ wsX6_deliveredCount_r3)) ++ wsX60)
def wsX6_hopsOf_r1 : List Cond := [Cond.fieldLink RX6 7 "RingProtectionModel" "state" "[I", Cond.methodLink RX6 126 yX6_stateOf, Cond.instanceMethod yX6_stateOf, Cond.selects RX6 yX6_stateOf yX6_stateOf, Cond.initialized RX6, Cond.code yX6_stateOf cX6_stateOf 2 (some .int), Cond.methodLink RX6 31 yX6_ofCircuit, Cond.instanceMethod yX6_ofCircuit, Cond.selects RX6 yX6_ofCircuit yX6_ofCircuit, Cond.code yX6_ofCircuit cX6_ofCircuit 3 (some .int), Cond.methodLink RX6 120 yX6_extraState, Cond.instanceMethod yX6_extraState, Cond.selects RX6 yX6_extraState yX6_extraState, Cond.code yX6_extraState cX6_extraState 3 (some .int), Cond.methodLink RX6 85 yX6_someSwitch, Cond.instanceMethod yX6_someSwitch, Cond.selects RX6 yX6_someSwitch yX6_someSwitch, Cond.code yX6_someSwitch cX6_someSwitch 4 (some .boolean), Cond.methodLink RX6 67 yX6_of, Cond.instanceMethod yX6_of, Cond.selects RX6 yX6_of yX6_of, Cond.code yX6_of cX6_of 3 (some .int), Cond.methodLink RX6 27 yX6_at, Cond.static yX6_at]
def wsX6_hopsOf_r2 : List Cond := [Cond.code yX6_at cX6_at 2 (some .int), Cond.methodLink RX6 111 yX6_hasSwitch, Cond.instanceMethod yX6_hasSwitch, Cond.selects RX6 yX6_hasSwitch yX6_hasSwitch, Cond.code yX6_hasSwitch cX6_hasSwitch 5 (some .boolean), Cond.methodLink RX6 42 yX6_isOn, Cond.instanceMethod yX6_isOn, Cond.selects RX6 yX6_isOn yX6_isOn, Cond.code yX6_isOn cX6_isOn 3 (some .boolean), Cond.methodLink RX6 34 yX6_passes, Cond.instanceMethod yX6_passes, Cond.selects RX6 yX6_passes yX6_passes, Cond.code yX6_passes cX6_passes 8 (some .boolean), Cond.methodLink RX6 73 yX6_isDown, Cond.instanceMethod yX6_isDown, Cond.selects RX6 yX6_isDown yX6_isDown, Cond.code yX6_isDown cX6_isDown 3 (some .boolean), Cond.methodLink RX6 70 yX6_next, Cond.instanceMethod yX6_next, Cond.selects RX6 yX6_next yX6_next, Cond.code yX6_next cX6_next 2 (some .int), Cond.methodLink RX6 123 yX6_normalState, Cond.instanceMethod yX6_normalState, Cond.selects RX6 yX6_normalState yX6_normalState]
def wsX6_hopsOf_r3 : List Cond := [Cond.code yX6_normalState cX6_normalState 3 (some .int), Cond.methodLink RX6 108 yX6_segmentOf, Cond.instanceMethod yX6_segmentOf, Cond.selects RX6 yX6_segmentOf yX6_segmentOf, Cond.code yX6_segmentOf cX6_segmentOf 6 (some .int), Cond.methodLink RX6 117 yX6_isLost, Cond.instanceMethod yX6_isLost, Cond.selects RX6 yX6_isLost yX6_isLost, Cond.code yX6_isLost cX6_isLost 6 (some .boolean), Cond.methodLink RX6 114 yX6_isInside, Cond.instanceMethod yX6_isInside, Cond.selects RX6 yX6_isInside yX6_isInside, Cond.code yX6_isInside cX6_isInside 3 (some .boolean), Cond.methodLink RX6 63 yX6_lengthOf, Cond.instanceMethod yX6_lengthOf, Cond.selects RX6 yX6_lengthOf yX6_lengthOf, Cond.code yX6_lengthOf cX6_lengthOf 4 (some .int)]
def wsX6_hopsOf : List Cond := .code yX6_hopsOf cX6_hopsOf 5 (some .int) :: ((wsX6_hopsOf_r1 ++ (wsX6_hopsOf_r2 ++ wsX6_hopsOf_r3)) ++ wsX60)
def wsX6_hops_r1 : List Cond := [Cond.methodLink RX6 38 yX6_isCircuit, Cond.instanceMethod yX6_isCircuit, Cond.selects RX6 yX6_isCircuit yX6_isCircuit, Cond.initialized RX6, Cond.code yX6_isCircuit cX6_isCircuit 2 (some .boolean), Cond.methodLink RX6 23 yX6_in, Cond.static yX6_in, Cond.code yX6_in cX6_in 3 (some .boolean), Cond.methodLink RX6 31 yX6_ofCircuit, Cond.instanceMethod yX6_ofCircuit, Cond.selects RX6 yX6_ofCircuit yX6_ofCircuit, Cond.code yX6_ofCircuit cX6_ofCircuit 3 (some .int), Cond.fieldLink RX6 7 "RingProtectionModel" "state" "[I", Cond.methodLink RX6 129 yX6_isDelivered, Cond.instanceMethod yX6_isDelivered, Cond.selects RX6 yX6_isDelivered yX6_isDelivered, Cond.code yX6_isDelivered cX6_isDelivered 2 (some .boolean), Cond.methodLink RX6 126 yX6_stateOf, Cond.instanceMethod yX6_stateOf, Cond.selects RX6 yX6_stateOf yX6_stateOf, Cond.code yX6_stateOf cX6_stateOf 2 (some .int), Cond.methodLink RX6 120 yX6_extraState, Cond.instanceMethod yX6_extraState, Cond.selects RX6 yX6_extraState yX6_extraState]
def wsX6_hops_r2 : List Cond := [Cond.code yX6_extraState cX6_extraState 3 (some .int), Cond.methodLink RX6 85 yX6_someSwitch, Cond.instanceMethod yX6_someSwitch, Cond.selects RX6 yX6_someSwitch yX6_someSwitch, Cond.code yX6_someSwitch cX6_someSwitch 4 (some .boolean), Cond.methodLink RX6 67 yX6_of, Cond.instanceMethod yX6_of, Cond.selects RX6 yX6_of yX6_of, Cond.code yX6_of cX6_of 3 (some .int), Cond.methodLink RX6 27 yX6_at, Cond.static yX6_at, Cond.code yX6_at cX6_at 2 (some .int), Cond.methodLink RX6 111 yX6_hasSwitch, Cond.instanceMethod yX6_hasSwitch, Cond.selects RX6 yX6_hasSwitch yX6_hasSwitch, Cond.code yX6_hasSwitch cX6_hasSwitch 5 (some .boolean), Cond.methodLink RX6 42 yX6_isOn, Cond.instanceMethod yX6_isOn, Cond.selects RX6 yX6_isOn yX6_isOn, Cond.code yX6_isOn cX6_isOn 3 (some .boolean), Cond.methodLink RX6 34 yX6_passes, Cond.instanceMethod yX6_passes, Cond.selects RX6 yX6_passes yX6_passes, Cond.code yX6_passes cX6_passes 8 (some .boolean)]
def wsX6_hops_r3 : List Cond := [Cond.methodLink RX6 73 yX6_isDown, Cond.instanceMethod yX6_isDown, Cond.selects RX6 yX6_isDown yX6_isDown, Cond.code yX6_isDown cX6_isDown 3 (some .boolean), Cond.methodLink RX6 70 yX6_next, Cond.instanceMethod yX6_next, Cond.selects RX6 yX6_next yX6_next, Cond.code yX6_next cX6_next 2 (some .int), Cond.methodLink RX6 123 yX6_normalState, Cond.instanceMethod yX6_normalState, Cond.selects RX6 yX6_normalState yX6_normalState, Cond.code yX6_normalState cX6_normalState 3 (some .int), Cond.methodLink RX6 108 yX6_segmentOf, Cond.instanceMethod yX6_segmentOf, Cond.selects RX6 yX6_segmentOf yX6_segmentOf, Cond.code yX6_segmentOf cX6_segmentOf 6 (some .int), Cond.methodLink RX6 117 yX6_isLost, Cond.instanceMethod yX6_isLost, Cond.selects RX6 yX6_isLost yX6_isLost, Cond.code yX6_isLost cX6_isLost 6 (some .boolean), Cond.methodLink RX6 114 yX6_isInside, Cond.instanceMethod yX6_isInside, Cond.selects RX6 yX6_isInside yX6_isInside, Cond.code yX6_isInside cX6_isInside 3 (some .boolean)]
def wsX6_hops_r4 : List Cond := [Cond.methodLink RX6 132 yX6_hopsOf, Cond.instanceMethod yX6_hopsOf, Cond.selects RX6 yX6_hopsOf yX6_hopsOf, Cond.code yX6_hopsOf cX6_hopsOf 5 (some .int), Cond.methodLink RX6 63 yX6_lengthOf, Cond.instanceMethod yX6_lengthOf, Cond.selects RX6 yX6_lengthOf yX6_lengthOf, Cond.code yX6_lengthOf cX6_lengthOf 4 (some .int)]
def wsX6_hops : List Cond := .code yX6_hops cX6_hops 2 (some .int) :: ((wsX6_hops_r1 ++ (wsX6_hops_r2 ++ (wsX6_hops_r3 ++ wsX6_hops_r4))) ++ wsX60)
def wsX6_averageHops_r1 : List Cond := [Cond.methodLink RX6 129 yX6_isDelivered, Cond.instanceMethod yX6_isDelivered, Cond.selects RX6 yX6_isDelivered yX6_isDelivered, Cond.initialized RX6, Cond.code yX6_isDelivered cX6_isDelivered 2 (some .boolean), Cond.methodLink RX6 38 yX6_isCircuit, Cond.instanceMethod yX6_isCircuit, Cond.selects RX6 yX6_isCircuit yX6_isCircuit, Cond.code yX6_isCircuit cX6_isCircuit 2 (some .boolean), Cond.methodLink RX6 23 yX6_in, Cond.static yX6_in, Cond.code yX6_in cX6_in 3 (some .boolean), Cond.methodLink RX6 31 yX6_ofCircuit, Cond.instanceMethod yX6_ofCircuit, Cond.selects RX6 yX6_ofCircuit yX6_ofCircuit, Cond.code yX6_ofCircuit cX6_ofCircuit 3 (some .int), Cond.fieldLink RX6 7 "RingProtectionModel" "state" "[I", Cond.methodLink RX6 126 yX6_stateOf, Cond.instanceMethod yX6_stateOf, Cond.selects RX6 yX6_stateOf yX6_stateOf, Cond.code yX6_stateOf cX6_stateOf 2 (some .int), Cond.methodLink RX6 120 yX6_extraState, Cond.instanceMethod yX6_extraState, Cond.selects RX6 yX6_extraState yX6_extraState]
def wsX6_averageHops_r2 : List Cond := [Cond.code yX6_extraState cX6_extraState 3 (some .int), Cond.methodLink RX6 85 yX6_someSwitch, Cond.instanceMethod yX6_someSwitch, Cond.selects RX6 yX6_someSwitch yX6_someSwitch, Cond.code yX6_someSwitch cX6_someSwitch 4 (some .boolean), Cond.methodLink RX6 67 yX6_of, Cond.instanceMethod yX6_of, Cond.selects RX6 yX6_of yX6_of, Cond.code yX6_of cX6_of 3 (some .int), Cond.methodLink RX6 27 yX6_at, Cond.static yX6_at, Cond.code yX6_at cX6_at 2 (some .int), Cond.methodLink RX6 111 yX6_hasSwitch, Cond.instanceMethod yX6_hasSwitch, Cond.selects RX6 yX6_hasSwitch yX6_hasSwitch, Cond.code yX6_hasSwitch cX6_hasSwitch 5 (some .boolean), Cond.methodLink RX6 42 yX6_isOn, Cond.instanceMethod yX6_isOn, Cond.selects RX6 yX6_isOn yX6_isOn, Cond.code yX6_isOn cX6_isOn 3 (some .boolean), Cond.methodLink RX6 34 yX6_passes, Cond.instanceMethod yX6_passes, Cond.selects RX6 yX6_passes yX6_passes, Cond.code yX6_passes cX6_passes 8 (some .boolean)]
def wsX6_averageHops_r3 : List Cond := [Cond.methodLink RX6 73 yX6_isDown, Cond.instanceMethod yX6_isDown, Cond.selects RX6 yX6_isDown yX6_isDown, Cond.code yX6_isDown cX6_isDown 3 (some .boolean), Cond.methodLink RX6 70 yX6_next, Cond.instanceMethod yX6_next, Cond.selects RX6 yX6_next yX6_next, Cond.code yX6_next cX6_next 2 (some .int), Cond.methodLink RX6 123 yX6_normalState, Cond.instanceMethod yX6_normalState, Cond.selects RX6 yX6_normalState yX6_normalState, Cond.code yX6_normalState cX6_normalState 3 (some .int), Cond.methodLink RX6 108 yX6_segmentOf, Cond.instanceMethod yX6_segmentOf, Cond.selects RX6 yX6_segmentOf yX6_segmentOf, Cond.code yX6_segmentOf cX6_segmentOf 6 (some .int), Cond.methodLink RX6 117 yX6_isLost, Cond.instanceMethod yX6_isLost, Cond.selects RX6 yX6_isLost yX6_isLost, Cond.code yX6_isLost cX6_isLost 6 (some .boolean), Cond.methodLink RX6 114 yX6_isInside, Cond.instanceMethod yX6_isInside, Cond.selects RX6 yX6_isInside yX6_isInside, Cond.code yX6_isInside cX6_isInside 3 (some .boolean)]
def wsX6_averageHops_r4 : List Cond := [Cond.methodLink RX6 132 yX6_hopsOf, Cond.instanceMethod yX6_hopsOf, Cond.selects RX6 yX6_hopsOf yX6_hopsOf, Cond.code yX6_hopsOf cX6_hopsOf 5 (some .int), Cond.methodLink RX6 63 yX6_lengthOf, Cond.instanceMethod yX6_lengthOf, Cond.selects RX6 yX6_lengthOf yX6_lengthOf, Cond.code yX6_lengthOf cX6_lengthOf 4 (some .int)]
def wsX6_averageHops : List Cond := .code yX6_averageHops cX6_averageHops 4 (some .int) :: ((wsX6_averageHops_r1 ++ (wsX6_averageHops_r2 ++ (wsX6_averageHops_r3 ++ wsX6_averageHops_r4))) ++ wsX60)
def wsX6_switchesAt : List Cond := .code yX6_switchesAt cX6_switchesAt 3 (some .boolean) :: ([.methodLink RX6 42 yX6_isOn, .instanceMethod yX6_isOn, .selects RX6 yX6_isOn yX6_isOn, .initialized RX6, .code yX6_isOn cX6_isOn 3 (some .boolean), .methodLink RX6 31 yX6_ofCircuit, .instanceMethod yX6_ofCircuit, .selects RX6 yX6_ofCircuit yX6_ofCircuit, .code yX6_ofCircuit cX6_ofCircuit 3 (some .int), .fieldLink RX6 7 "RingProtectionModel" "state" "[I", .methodLink RX6 34 yX6_passes, .instanceMethod yX6_passes, .selects RX6 yX6_passes yX6_passes, .code yX6_passes cX6_passes 8 (some .boolean), .methodLink RX6 67 yX6_of, .instanceMethod yX6_of, .selects RX6 yX6_of yX6_of, .code yX6_of cX6_of 3 (some .int), .methodLink RX6 27 yX6_at, .static yX6_at, .code yX6_at cX6_at 2 (some .int)] ++ wsX60)
def wsX6_squelchedAt_r1 : List Cond := [Cond.fieldLink RX6 7 "RingProtectionModel" "state" "[I", Cond.methodLink RX6 46 yX6_isNode, Cond.instanceMethod yX6_isNode, Cond.selects RX6 yX6_isNode yX6_isNode, Cond.initialized RX6, Cond.code yX6_isNode cX6_isNode 2 (some .boolean), Cond.methodLink RX6 23 yX6_in, Cond.static yX6_in, Cond.code yX6_in cX6_in 3 (some .boolean), Cond.methodLink RX6 38 yX6_isCircuit, Cond.instanceMethod yX6_isCircuit, Cond.selects RX6 yX6_isCircuit yX6_isCircuit, Cond.code yX6_isCircuit cX6_isCircuit 2 (some .boolean), Cond.methodLink RX6 31 yX6_ofCircuit, Cond.instanceMethod yX6_ofCircuit, Cond.selects RX6 yX6_ofCircuit yX6_ofCircuit, Cond.code yX6_ofCircuit cX6_ofCircuit 3 (some .int), Cond.methodLink RX6 126 yX6_stateOf, Cond.instanceMethod yX6_stateOf, Cond.selects RX6 yX6_stateOf yX6_stateOf, Cond.code yX6_stateOf cX6_stateOf 2 (some .int), Cond.methodLink RX6 120 yX6_extraState, Cond.instanceMethod yX6_extraState, Cond.selects RX6 yX6_extraState yX6_extraState]
def wsX6_squelchedAt_r2 : List Cond := [Cond.code yX6_extraState cX6_extraState 3 (some .int), Cond.methodLink RX6 85 yX6_someSwitch, Cond.instanceMethod yX6_someSwitch, Cond.selects RX6 yX6_someSwitch yX6_someSwitch, Cond.code yX6_someSwitch cX6_someSwitch 4 (some .boolean), Cond.methodLink RX6 67 yX6_of, Cond.instanceMethod yX6_of, Cond.selects RX6 yX6_of yX6_of, Cond.code yX6_of cX6_of 3 (some .int), Cond.methodLink RX6 27 yX6_at, Cond.static yX6_at, Cond.code yX6_at cX6_at 2 (some .int), Cond.methodLink RX6 111 yX6_hasSwitch, Cond.instanceMethod yX6_hasSwitch, Cond.selects RX6 yX6_hasSwitch yX6_hasSwitch, Cond.code yX6_hasSwitch cX6_hasSwitch 5 (some .boolean), Cond.methodLink RX6 42 yX6_isOn, Cond.instanceMethod yX6_isOn, Cond.selects RX6 yX6_isOn yX6_isOn, Cond.code yX6_isOn cX6_isOn 3 (some .boolean), Cond.methodLink RX6 34 yX6_passes, Cond.instanceMethod yX6_passes, Cond.selects RX6 yX6_passes yX6_passes, Cond.code yX6_passes cX6_passes 8 (some .boolean)]
def wsX6_squelchedAt_r3 : List Cond := [Cond.methodLink RX6 73 yX6_isDown, Cond.instanceMethod yX6_isDown, Cond.selects RX6 yX6_isDown yX6_isDown, Cond.code yX6_isDown cX6_isDown 3 (some .boolean), Cond.methodLink RX6 70 yX6_next, Cond.instanceMethod yX6_next, Cond.selects RX6 yX6_next yX6_next, Cond.code yX6_next cX6_next 2 (some .int), Cond.methodLink RX6 123 yX6_normalState, Cond.instanceMethod yX6_normalState, Cond.selects RX6 yX6_normalState yX6_normalState, Cond.code yX6_normalState cX6_normalState 3 (some .int), Cond.methodLink RX6 108 yX6_segmentOf, Cond.instanceMethod yX6_segmentOf, Cond.selects RX6 yX6_segmentOf yX6_segmentOf, Cond.code yX6_segmentOf cX6_segmentOf 6 (some .int), Cond.methodLink RX6 117 yX6_isLost, Cond.instanceMethod yX6_isLost, Cond.selects RX6 yX6_isLost yX6_isLost, Cond.code yX6_isLost cX6_isLost 6 (some .boolean), Cond.methodLink RX6 114 yX6_isInside, Cond.instanceMethod yX6_isInside, Cond.selects RX6 yX6_isInside yX6_isInside, Cond.code yX6_isInside cX6_isInside 3 (some .boolean)]
def wsX6_squelchedAt_r4 : List Cond := [Cond.methodLink RX6 135 yX6_switchesAt, Cond.instanceMethod yX6_switchesAt, Cond.selects RX6 yX6_switchesAt yX6_switchesAt, Cond.code yX6_switchesAt cX6_switchesAt 3 (some .boolean)]
def wsX6_squelchedAt : List Cond := .code yX6_squelchedAt cX6_squelchedAt 6 (some .int) :: ((wsX6_squelchedAt_r1 ++ (wsX6_squelchedAt_r2 ++ (wsX6_squelchedAt_r3 ++ wsX6_squelchedAt_r4))) ++ wsX60)
def wsX6_keep : List Cond := .code yX6_keep cX6_keep 2 none :: ([.fieldLink RX6 13 "RingProtectionModel" "before" "[I", .fieldLink RX6 7 "RingProtectionModel" "state" "[I"] ++ wsX60)
def wsX6_deliveredAndBack_r1 : List Cond := [Cond.fieldLink RX6 7 "RingProtectionModel" "state" "[I", Cond.fieldLink RX6 13 "RingProtectionModel" "before" "[I", Cond.methodLink RX6 98 yX6_control, Cond.instanceMethod yX6_control, Cond.selects RX6 yX6_control yX6_control, Cond.initialized RX6, Cond.code yX6_control cX6_control 3 none, Cond.methodLink RX6 88 yX6_compare, Cond.instanceMethod yX6_compare, Cond.selects RX6 yX6_compare yX6_compare, Cond.code yX6_compare cX6_compare 5 none, Cond.methodLink RX6 67 yX6_of, Cond.instanceMethod yX6_of, Cond.selects RX6 yX6_of yX6_of, Cond.code yX6_of cX6_of 3 (some .int), Cond.methodLink RX6 27 yX6_at, Cond.static yX6_at, Cond.code yX6_at cX6_at 2 (some .int), Cond.methodLink RX6 76 yX6_directOf, Cond.instanceMethod yX6_directOf, Cond.selects RX6 yX6_directOf yX6_directOf, Cond.code yX6_directOf cX6_directOf 8 (some .int), Cond.methodLink RX6 73 yX6_isDown, Cond.instanceMethod yX6_isDown]
def wsX6_deliveredAndBack_r2 : List Cond := [Cond.selects RX6 yX6_isDown yX6_isDown, Cond.code yX6_isDown cX6_isDown 3 (some .boolean), Cond.methodLink RX6 70 yX6_next, Cond.instanceMethod yX6_next, Cond.selects RX6 yX6_next yX6_next, Cond.code yX6_next cX6_next 2 (some .int), Cond.methodLink RX6 79 yX6_requestOf, Cond.instanceMethod yX6_requestOf, Cond.selects RX6 yX6_requestOf yX6_requestOf, Cond.code yX6_requestOf cX6_requestOf 3 (some .int), Cond.methodLink RX6 92 yX6_grantFor, Cond.instanceMethod yX6_grantFor, Cond.selects RX6 yX6_grantFor yX6_grantFor, Cond.code yX6_grantFor cX6_grantFor 5 (some .int), Cond.methodLink RX6 82 yX6_someRequest, Cond.instanceMethod yX6_someRequest, Cond.selects RX6 yX6_someRequest yX6_someRequest, Cond.code yX6_someRequest cX6_someRequest 4 (some .boolean), Cond.methodLink RX6 85 yX6_someSwitch, Cond.instanceMethod yX6_someSwitch, Cond.selects RX6 yX6_someSwitch yX6_someSwitch, Cond.code yX6_someSwitch cX6_someSwitch 4 (some .boolean), Cond.methodLink RX6 138 yX6_deliveredCount, Cond.instanceMethod yX6_deliveredCount]
def wsX6_deliveredAndBack_r3 : List Cond := [Cond.selects RX6 yX6_deliveredCount yX6_deliveredCount, Cond.code yX6_deliveredCount cX6_deliveredCount 3 (some .int), Cond.methodLink RX6 129 yX6_isDelivered, Cond.instanceMethod yX6_isDelivered, Cond.selects RX6 yX6_isDelivered yX6_isDelivered, Cond.code yX6_isDelivered cX6_isDelivered 2 (some .boolean), Cond.methodLink RX6 38 yX6_isCircuit, Cond.instanceMethod yX6_isCircuit, Cond.selects RX6 yX6_isCircuit yX6_isCircuit, Cond.code yX6_isCircuit cX6_isCircuit 2 (some .boolean), Cond.methodLink RX6 23 yX6_in, Cond.static yX6_in, Cond.code yX6_in cX6_in 3 (some .boolean), Cond.methodLink RX6 31 yX6_ofCircuit, Cond.instanceMethod yX6_ofCircuit, Cond.selects RX6 yX6_ofCircuit yX6_ofCircuit, Cond.code yX6_ofCircuit cX6_ofCircuit 3 (some .int), Cond.methodLink RX6 126 yX6_stateOf, Cond.instanceMethod yX6_stateOf, Cond.selects RX6 yX6_stateOf yX6_stateOf, Cond.code yX6_stateOf cX6_stateOf 2 (some .int), Cond.methodLink RX6 120 yX6_extraState, Cond.instanceMethod yX6_extraState, Cond.selects RX6 yX6_extraState yX6_extraState]
def wsX6_deliveredAndBack_r4 : List Cond := [Cond.code yX6_extraState cX6_extraState 3 (some .int), Cond.methodLink RX6 111 yX6_hasSwitch, Cond.instanceMethod yX6_hasSwitch, Cond.selects RX6 yX6_hasSwitch yX6_hasSwitch, Cond.code yX6_hasSwitch cX6_hasSwitch 5 (some .boolean), Cond.methodLink RX6 42 yX6_isOn, Cond.instanceMethod yX6_isOn, Cond.selects RX6 yX6_isOn yX6_isOn, Cond.code yX6_isOn cX6_isOn 3 (some .boolean), Cond.methodLink RX6 34 yX6_passes, Cond.instanceMethod yX6_passes, Cond.selects RX6 yX6_passes yX6_passes, Cond.code yX6_passes cX6_passes 8 (some .boolean), Cond.methodLink RX6 123 yX6_normalState, Cond.instanceMethod yX6_normalState, Cond.selects RX6 yX6_normalState yX6_normalState, Cond.code yX6_normalState cX6_normalState 3 (some .int), Cond.methodLink RX6 108 yX6_segmentOf, Cond.instanceMethod yX6_segmentOf, Cond.selects RX6 yX6_segmentOf yX6_segmentOf, Cond.code yX6_segmentOf cX6_segmentOf 6 (some .int), Cond.methodLink RX6 117 yX6_isLost, Cond.instanceMethod yX6_isLost, Cond.selects RX6 yX6_isLost yX6_isLost]
def wsX6_deliveredAndBack_r5 : List Cond := [Cond.code yX6_isLost cX6_isLost 6 (some .boolean), Cond.methodLink RX6 114 yX6_isInside, Cond.instanceMethod yX6_isInside, Cond.selects RX6 yX6_isInside yX6_isInside, Cond.code yX6_isInside cX6_isInside 3 (some .boolean)]
def wsX6_deliveredAndBack : List Cond := .code yX6_deliveredAndBack cX6_deliveredAndBack 3 (some .int) :: ((wsX6_deliveredAndBack_r1 ++ (wsX6_deliveredAndBack_r2 ++ (wsX6_deliveredAndBack_r3 ++ (wsX6_deliveredAndBack_r4 ++ wsX6_deliveredAndBack_r5)))) ++ wsX60)
def wsX6_ifCut_r1 : List Cond := [Cond.fieldLink RX6 7 "RingProtectionModel" "state" "[I", Cond.methodLink RX6 141 yX6_keep, Cond.instanceMethod yX6_keep, Cond.selects RX6 yX6_keep yX6_keep, Cond.initialized RX6, Cond.code yX6_keep cX6_keep 2 none, Cond.fieldLink RX6 13 "RingProtectionModel" "before" "[I", Cond.methodLink RX6 27 yX6_at, Cond.static yX6_at, Cond.code yX6_at cX6_at 2 (some .int), Cond.methodLink RX6 144 yX6_deliveredAndBack, Cond.instanceMethod yX6_deliveredAndBack, Cond.selects RX6 yX6_deliveredAndBack yX6_deliveredAndBack, Cond.code yX6_deliveredAndBack cX6_deliveredAndBack 3 (some .int), Cond.methodLink RX6 98 yX6_control, Cond.instanceMethod yX6_control, Cond.selects RX6 yX6_control yX6_control, Cond.code yX6_control cX6_control 3 none, Cond.methodLink RX6 88 yX6_compare, Cond.instanceMethod yX6_compare, Cond.selects RX6 yX6_compare yX6_compare, Cond.code yX6_compare cX6_compare 5 none, Cond.methodLink RX6 67 yX6_of, Cond.instanceMethod yX6_of]
def wsX6_ifCut_r2 : List Cond := [Cond.selects RX6 yX6_of yX6_of, Cond.code yX6_of cX6_of 3 (some .int), Cond.methodLink RX6 76 yX6_directOf, Cond.instanceMethod yX6_directOf, Cond.selects RX6 yX6_directOf yX6_directOf, Cond.code yX6_directOf cX6_directOf 8 (some .int), Cond.methodLink RX6 73 yX6_isDown, Cond.instanceMethod yX6_isDown, Cond.selects RX6 yX6_isDown yX6_isDown, Cond.code yX6_isDown cX6_isDown 3 (some .boolean), Cond.methodLink RX6 70 yX6_next, Cond.instanceMethod yX6_next, Cond.selects RX6 yX6_next yX6_next, Cond.code yX6_next cX6_next 2 (some .int), Cond.methodLink RX6 79 yX6_requestOf, Cond.instanceMethod yX6_requestOf, Cond.selects RX6 yX6_requestOf yX6_requestOf, Cond.code yX6_requestOf cX6_requestOf 3 (some .int), Cond.methodLink RX6 92 yX6_grantFor, Cond.instanceMethod yX6_grantFor, Cond.selects RX6 yX6_grantFor yX6_grantFor, Cond.code yX6_grantFor cX6_grantFor 5 (some .int), Cond.methodLink RX6 82 yX6_someRequest, Cond.instanceMethod yX6_someRequest]
def wsX6_ifCut_r3 : List Cond := [Cond.selects RX6 yX6_someRequest yX6_someRequest, Cond.code yX6_someRequest cX6_someRequest 4 (some .boolean), Cond.methodLink RX6 85 yX6_someSwitch, Cond.instanceMethod yX6_someSwitch, Cond.selects RX6 yX6_someSwitch yX6_someSwitch, Cond.code yX6_someSwitch cX6_someSwitch 4 (some .boolean), Cond.methodLink RX6 138 yX6_deliveredCount, Cond.instanceMethod yX6_deliveredCount, Cond.selects RX6 yX6_deliveredCount yX6_deliveredCount, Cond.code yX6_deliveredCount cX6_deliveredCount 3 (some .int), Cond.methodLink RX6 129 yX6_isDelivered, Cond.instanceMethod yX6_isDelivered, Cond.selects RX6 yX6_isDelivered yX6_isDelivered, Cond.code yX6_isDelivered cX6_isDelivered 2 (some .boolean), Cond.methodLink RX6 38 yX6_isCircuit, Cond.instanceMethod yX6_isCircuit, Cond.selects RX6 yX6_isCircuit yX6_isCircuit, Cond.code yX6_isCircuit cX6_isCircuit 2 (some .boolean), Cond.methodLink RX6 23 yX6_in, Cond.static yX6_in, Cond.code yX6_in cX6_in 3 (some .boolean), Cond.methodLink RX6 31 yX6_ofCircuit, Cond.instanceMethod yX6_ofCircuit, Cond.selects RX6 yX6_ofCircuit yX6_ofCircuit]
def wsX6_ifCut_r4 : List Cond := [Cond.code yX6_ofCircuit cX6_ofCircuit 3 (some .int), Cond.methodLink RX6 126 yX6_stateOf, Cond.instanceMethod yX6_stateOf, Cond.selects RX6 yX6_stateOf yX6_stateOf, Cond.code yX6_stateOf cX6_stateOf 2 (some .int), Cond.methodLink RX6 120 yX6_extraState, Cond.instanceMethod yX6_extraState, Cond.selects RX6 yX6_extraState yX6_extraState, Cond.code yX6_extraState cX6_extraState 3 (some .int), Cond.methodLink RX6 111 yX6_hasSwitch, Cond.instanceMethod yX6_hasSwitch, Cond.selects RX6 yX6_hasSwitch yX6_hasSwitch, Cond.code yX6_hasSwitch cX6_hasSwitch 5 (some .boolean), Cond.methodLink RX6 42 yX6_isOn, Cond.instanceMethod yX6_isOn, Cond.selects RX6 yX6_isOn yX6_isOn, Cond.code yX6_isOn cX6_isOn 3 (some .boolean), Cond.methodLink RX6 34 yX6_passes, Cond.instanceMethod yX6_passes, Cond.selects RX6 yX6_passes yX6_passes, Cond.code yX6_passes cX6_passes 8 (some .boolean), Cond.methodLink RX6 123 yX6_normalState, Cond.instanceMethod yX6_normalState, Cond.selects RX6 yX6_normalState yX6_normalState]
def wsX6_ifCut_r5 : List Cond := [Cond.code yX6_normalState cX6_normalState 3 (some .int), Cond.methodLink RX6 108 yX6_segmentOf, Cond.instanceMethod yX6_segmentOf, Cond.selects RX6 yX6_segmentOf yX6_segmentOf, Cond.code yX6_segmentOf cX6_segmentOf 6 (some .int), Cond.methodLink RX6 117 yX6_isLost, Cond.instanceMethod yX6_isLost, Cond.selects RX6 yX6_isLost yX6_isLost, Cond.code yX6_isLost cX6_isLost 6 (some .boolean), Cond.methodLink RX6 114 yX6_isInside, Cond.instanceMethod yX6_isInside, Cond.selects RX6 yX6_isInside yX6_isInside, Cond.code yX6_isInside cX6_isInside 3 (some .boolean)]
def wsX6_ifCut : List Cond := .code yX6_ifCut cX6_ifCut 2 (some .int) :: ((wsX6_ifCut_r1 ++ (wsX6_ifCut_r2 ++ (wsX6_ifCut_r3 ++ (wsX6_ifCut_r4 ++ wsX6_ifCut_r5)))) ++ wsX60)
def wsX6_deliveredIfCut_r1 : List Cond := [Cond.methodLink RX6 60 yX6_isSpan, Cond.instanceMethod yX6_isSpan, Cond.selects RX6 yX6_isSpan yX6_isSpan, Cond.initialized RX6, Cond.code yX6_isSpan cX6_isSpan 2 (some .boolean), Cond.fieldLink RX6 7 "RingProtectionModel" "state" "[I", Cond.methodLink RX6 23 yX6_in, Cond.static yX6_in, Cond.code yX6_in cX6_in 3 (some .boolean), Cond.methodLink RX6 147 yX6_ifCut, Cond.instanceMethod yX6_ifCut, Cond.selects RX6 yX6_ifCut yX6_ifCut, Cond.code yX6_ifCut cX6_ifCut 2 (some .int), Cond.methodLink RX6 141 yX6_keep, Cond.instanceMethod yX6_keep, Cond.selects RX6 yX6_keep yX6_keep, Cond.code yX6_keep cX6_keep 2 none, Cond.fieldLink RX6 13 "RingProtectionModel" "before" "[I", Cond.methodLink RX6 27 yX6_at, Cond.static yX6_at, Cond.code yX6_at cX6_at 2 (some .int), Cond.methodLink RX6 144 yX6_deliveredAndBack, Cond.instanceMethod yX6_deliveredAndBack, Cond.selects RX6 yX6_deliveredAndBack yX6_deliveredAndBack]
def wsX6_deliveredIfCut_r2 : List Cond := [Cond.code yX6_deliveredAndBack cX6_deliveredAndBack 3 (some .int), Cond.methodLink RX6 98 yX6_control, Cond.instanceMethod yX6_control, Cond.selects RX6 yX6_control yX6_control, Cond.code yX6_control cX6_control 3 none, Cond.methodLink RX6 88 yX6_compare, Cond.instanceMethod yX6_compare, Cond.selects RX6 yX6_compare yX6_compare, Cond.code yX6_compare cX6_compare 5 none, Cond.methodLink RX6 67 yX6_of, Cond.instanceMethod yX6_of, Cond.selects RX6 yX6_of yX6_of, Cond.code yX6_of cX6_of 3 (some .int), Cond.methodLink RX6 76 yX6_directOf, Cond.instanceMethod yX6_directOf, Cond.selects RX6 yX6_directOf yX6_directOf, Cond.code yX6_directOf cX6_directOf 8 (some .int), Cond.methodLink RX6 73 yX6_isDown, Cond.instanceMethod yX6_isDown, Cond.selects RX6 yX6_isDown yX6_isDown, Cond.code yX6_isDown cX6_isDown 3 (some .boolean), Cond.methodLink RX6 70 yX6_next, Cond.instanceMethod yX6_next, Cond.selects RX6 yX6_next yX6_next]
def wsX6_deliveredIfCut_r3 : List Cond := [Cond.code yX6_next cX6_next 2 (some .int), Cond.methodLink RX6 79 yX6_requestOf, Cond.instanceMethod yX6_requestOf, Cond.selects RX6 yX6_requestOf yX6_requestOf, Cond.code yX6_requestOf cX6_requestOf 3 (some .int), Cond.methodLink RX6 92 yX6_grantFor, Cond.instanceMethod yX6_grantFor, Cond.selects RX6 yX6_grantFor yX6_grantFor, Cond.code yX6_grantFor cX6_grantFor 5 (some .int), Cond.methodLink RX6 82 yX6_someRequest, Cond.instanceMethod yX6_someRequest, Cond.selects RX6 yX6_someRequest yX6_someRequest, Cond.code yX6_someRequest cX6_someRequest 4 (some .boolean), Cond.methodLink RX6 85 yX6_someSwitch, Cond.instanceMethod yX6_someSwitch, Cond.selects RX6 yX6_someSwitch yX6_someSwitch, Cond.code yX6_someSwitch cX6_someSwitch 4 (some .boolean), Cond.methodLink RX6 138 yX6_deliveredCount, Cond.instanceMethod yX6_deliveredCount, Cond.selects RX6 yX6_deliveredCount yX6_deliveredCount, Cond.code yX6_deliveredCount cX6_deliveredCount 3 (some .int), Cond.methodLink RX6 129 yX6_isDelivered, Cond.instanceMethod yX6_isDelivered, Cond.selects RX6 yX6_isDelivered yX6_isDelivered]
def wsX6_deliveredIfCut_r4 : List Cond := [Cond.code yX6_isDelivered cX6_isDelivered 2 (some .boolean), Cond.methodLink RX6 38 yX6_isCircuit, Cond.instanceMethod yX6_isCircuit, Cond.selects RX6 yX6_isCircuit yX6_isCircuit, Cond.code yX6_isCircuit cX6_isCircuit 2 (some .boolean), Cond.methodLink RX6 31 yX6_ofCircuit, Cond.instanceMethod yX6_ofCircuit, Cond.selects RX6 yX6_ofCircuit yX6_ofCircuit, Cond.code yX6_ofCircuit cX6_ofCircuit 3 (some .int), Cond.methodLink RX6 126 yX6_stateOf, Cond.instanceMethod yX6_stateOf, Cond.selects RX6 yX6_stateOf yX6_stateOf, Cond.code yX6_stateOf cX6_stateOf 2 (some .int), Cond.methodLink RX6 120 yX6_extraState, Cond.instanceMethod yX6_extraState, Cond.selects RX6 yX6_extraState yX6_extraState, Cond.code yX6_extraState cX6_extraState 3 (some .int), Cond.methodLink RX6 111 yX6_hasSwitch, Cond.instanceMethod yX6_hasSwitch, Cond.selects RX6 yX6_hasSwitch yX6_hasSwitch, Cond.code yX6_hasSwitch cX6_hasSwitch 5 (some .boolean), Cond.methodLink RX6 42 yX6_isOn, Cond.instanceMethod yX6_isOn, Cond.selects RX6 yX6_isOn yX6_isOn]
def wsX6_deliveredIfCut_r5 : List Cond := [Cond.code yX6_isOn cX6_isOn 3 (some .boolean), Cond.methodLink RX6 34 yX6_passes, Cond.instanceMethod yX6_passes, Cond.selects RX6 yX6_passes yX6_passes, Cond.code yX6_passes cX6_passes 8 (some .boolean), Cond.methodLink RX6 123 yX6_normalState, Cond.instanceMethod yX6_normalState, Cond.selects RX6 yX6_normalState yX6_normalState, Cond.code yX6_normalState cX6_normalState 3 (some .int), Cond.methodLink RX6 108 yX6_segmentOf, Cond.instanceMethod yX6_segmentOf, Cond.selects RX6 yX6_segmentOf yX6_segmentOf, Cond.code yX6_segmentOf cX6_segmentOf 6 (some .int), Cond.methodLink RX6 117 yX6_isLost, Cond.instanceMethod yX6_isLost, Cond.selects RX6 yX6_isLost yX6_isLost, Cond.code yX6_isLost cX6_isLost 6 (some .boolean), Cond.methodLink RX6 114 yX6_isInside, Cond.instanceMethod yX6_isInside, Cond.selects RX6 yX6_isInside yX6_isInside, Cond.code yX6_isInside cX6_isInside 3 (some .boolean)]
def wsX6_deliveredIfCut : List Cond := .code yX6_deliveredIfCut cX6_deliveredIfCut 2 (some .int) :: ((wsX6_deliveredIfCut_r1 ++ (wsX6_deliveredIfCut_r2 ++ (wsX6_deliveredIfCut_r3 ++ (wsX6_deliveredIfCut_r4 ++ wsX6_deliveredIfCut_r5)))) ++ wsX60)
def wsX6_deliveredIfNodeFails_r1 : List Cond := [Cond.fieldLink RX6 7 "RingProtectionModel" "state" "[I", Cond.methodLink RX6 46 yX6_isNode, Cond.instanceMethod yX6_isNode, Cond.selects RX6 yX6_isNode yX6_isNode, Cond.initialized RX6, Cond.code yX6_isNode cX6_isNode 2 (some .boolean), Cond.methodLink RX6 23 yX6_in, Cond.static yX6_in, Cond.code yX6_in cX6_in 3 (some .boolean), Cond.methodLink RX6 141 yX6_keep, Cond.instanceMethod yX6_keep, Cond.selects RX6 yX6_keep yX6_keep, Cond.code yX6_keep cX6_keep 2 none, Cond.fieldLink RX6 13 "RingProtectionModel" "before" "[I", Cond.methodLink RX6 144 yX6_deliveredAndBack, Cond.instanceMethod yX6_deliveredAndBack, Cond.selects RX6 yX6_deliveredAndBack yX6_deliveredAndBack, Cond.code yX6_deliveredAndBack cX6_deliveredAndBack 3 (some .int), Cond.methodLink RX6 98 yX6_control, Cond.instanceMethod yX6_control, Cond.selects RX6 yX6_control yX6_control, Cond.code yX6_control cX6_control 3 none, Cond.methodLink RX6 88 yX6_compare, Cond.instanceMethod yX6_compare]
def wsX6_deliveredIfNodeFails_r2 : List Cond := [Cond.selects RX6 yX6_compare yX6_compare, Cond.code yX6_compare cX6_compare 5 none, Cond.methodLink RX6 67 yX6_of, Cond.instanceMethod yX6_of, Cond.selects RX6 yX6_of yX6_of, Cond.code yX6_of cX6_of 3 (some .int), Cond.methodLink RX6 27 yX6_at, Cond.static yX6_at, Cond.code yX6_at cX6_at 2 (some .int), Cond.methodLink RX6 76 yX6_directOf, Cond.instanceMethod yX6_directOf, Cond.selects RX6 yX6_directOf yX6_directOf, Cond.code yX6_directOf cX6_directOf 8 (some .int), Cond.methodLink RX6 73 yX6_isDown, Cond.instanceMethod yX6_isDown, Cond.selects RX6 yX6_isDown yX6_isDown, Cond.code yX6_isDown cX6_isDown 3 (some .boolean), Cond.methodLink RX6 70 yX6_next, Cond.instanceMethod yX6_next, Cond.selects RX6 yX6_next yX6_next, Cond.code yX6_next cX6_next 2 (some .int), Cond.methodLink RX6 79 yX6_requestOf, Cond.instanceMethod yX6_requestOf, Cond.selects RX6 yX6_requestOf yX6_requestOf]
def wsX6_deliveredIfNodeFails_r3 : List Cond := [Cond.code yX6_requestOf cX6_requestOf 3 (some .int), Cond.methodLink RX6 92 yX6_grantFor, Cond.instanceMethod yX6_grantFor, Cond.selects RX6 yX6_grantFor yX6_grantFor, Cond.code yX6_grantFor cX6_grantFor 5 (some .int), Cond.methodLink RX6 82 yX6_someRequest, Cond.instanceMethod yX6_someRequest, Cond.selects RX6 yX6_someRequest yX6_someRequest, Cond.code yX6_someRequest cX6_someRequest 4 (some .boolean), Cond.methodLink RX6 85 yX6_someSwitch, Cond.instanceMethod yX6_someSwitch, Cond.selects RX6 yX6_someSwitch yX6_someSwitch, Cond.code yX6_someSwitch cX6_someSwitch 4 (some .boolean), Cond.methodLink RX6 138 yX6_deliveredCount, Cond.instanceMethod yX6_deliveredCount, Cond.selects RX6 yX6_deliveredCount yX6_deliveredCount, Cond.code yX6_deliveredCount cX6_deliveredCount 3 (some .int), Cond.methodLink RX6 129 yX6_isDelivered, Cond.instanceMethod yX6_isDelivered, Cond.selects RX6 yX6_isDelivered yX6_isDelivered, Cond.code yX6_isDelivered cX6_isDelivered 2 (some .boolean), Cond.methodLink RX6 38 yX6_isCircuit, Cond.instanceMethod yX6_isCircuit, Cond.selects RX6 yX6_isCircuit yX6_isCircuit]
def wsX6_deliveredIfNodeFails_r4 : List Cond := [Cond.code yX6_isCircuit cX6_isCircuit 2 (some .boolean), Cond.methodLink RX6 31 yX6_ofCircuit, Cond.instanceMethod yX6_ofCircuit, Cond.selects RX6 yX6_ofCircuit yX6_ofCircuit, Cond.code yX6_ofCircuit cX6_ofCircuit 3 (some .int), Cond.methodLink RX6 126 yX6_stateOf, Cond.instanceMethod yX6_stateOf, Cond.selects RX6 yX6_stateOf yX6_stateOf, Cond.code yX6_stateOf cX6_stateOf 2 (some .int), Cond.methodLink RX6 120 yX6_extraState, Cond.instanceMethod yX6_extraState, Cond.selects RX6 yX6_extraState yX6_extraState, Cond.code yX6_extraState cX6_extraState 3 (some .int), Cond.methodLink RX6 111 yX6_hasSwitch, Cond.instanceMethod yX6_hasSwitch, Cond.selects RX6 yX6_hasSwitch yX6_hasSwitch, Cond.code yX6_hasSwitch cX6_hasSwitch 5 (some .boolean), Cond.methodLink RX6 42 yX6_isOn, Cond.instanceMethod yX6_isOn, Cond.selects RX6 yX6_isOn yX6_isOn, Cond.code yX6_isOn cX6_isOn 3 (some .boolean), Cond.methodLink RX6 34 yX6_passes, Cond.instanceMethod yX6_passes, Cond.selects RX6 yX6_passes yX6_passes]
def wsX6_deliveredIfNodeFails_r5 : List Cond := [Cond.code yX6_passes cX6_passes 8 (some .boolean), Cond.methodLink RX6 123 yX6_normalState, Cond.instanceMethod yX6_normalState, Cond.selects RX6 yX6_normalState yX6_normalState, Cond.code yX6_normalState cX6_normalState 3 (some .int), Cond.methodLink RX6 108 yX6_segmentOf, Cond.instanceMethod yX6_segmentOf, Cond.selects RX6 yX6_segmentOf yX6_segmentOf, Cond.code yX6_segmentOf cX6_segmentOf 6 (some .int), Cond.methodLink RX6 117 yX6_isLost, Cond.instanceMethod yX6_isLost, Cond.selects RX6 yX6_isLost yX6_isLost, Cond.code yX6_isLost cX6_isLost 6 (some .boolean), Cond.methodLink RX6 114 yX6_isInside, Cond.instanceMethod yX6_isInside, Cond.selects RX6 yX6_isInside yX6_isInside, Cond.code yX6_isInside cX6_isInside 3 (some .boolean)]
def wsX6_deliveredIfNodeFails : List Cond := .code yX6_deliveredIfNodeFails cX6_deliveredIfNodeFails 2 (some .int) :: ((wsX6_deliveredIfNodeFails_r1 ++ (wsX6_deliveredIfNodeFails_r2 ++ (wsX6_deliveredIfNodeFails_r3 ++ (wsX6_deliveredIfNodeFails_r4 ++ wsX6_deliveredIfNodeFails_r5)))) ++ wsX60)
def wsX6_worstCut_r1 : List Cond := [Cond.fieldLink RX6 7 "RingProtectionModel" "state" "[I", Cond.methodLink RX6 147 yX6_ifCut, Cond.instanceMethod yX6_ifCut, Cond.selects RX6 yX6_ifCut yX6_ifCut, Cond.initialized RX6, Cond.code yX6_ifCut cX6_ifCut 2 (some .int), Cond.methodLink RX6 141 yX6_keep, Cond.instanceMethod yX6_keep, Cond.selects RX6 yX6_keep yX6_keep, Cond.code yX6_keep cX6_keep 2 none, Cond.fieldLink RX6 13 "RingProtectionModel" "before" "[I", Cond.methodLink RX6 27 yX6_at, Cond.static yX6_at, Cond.code yX6_at cX6_at 2 (some .int), Cond.methodLink RX6 144 yX6_deliveredAndBack, Cond.instanceMethod yX6_deliveredAndBack, Cond.selects RX6 yX6_deliveredAndBack yX6_deliveredAndBack, Cond.code yX6_deliveredAndBack cX6_deliveredAndBack 3 (some .int), Cond.methodLink RX6 98 yX6_control, Cond.instanceMethod yX6_control, Cond.selects RX6 yX6_control yX6_control, Cond.code yX6_control cX6_control 3 none, Cond.methodLink RX6 88 yX6_compare, Cond.instanceMethod yX6_compare]
def wsX6_worstCut_r2 : List Cond := [Cond.selects RX6 yX6_compare yX6_compare, Cond.code yX6_compare cX6_compare 5 none, Cond.methodLink RX6 67 yX6_of, Cond.instanceMethod yX6_of, Cond.selects RX6 yX6_of yX6_of, Cond.code yX6_of cX6_of 3 (some .int), Cond.methodLink RX6 76 yX6_directOf, Cond.instanceMethod yX6_directOf, Cond.selects RX6 yX6_directOf yX6_directOf, Cond.code yX6_directOf cX6_directOf 8 (some .int), Cond.methodLink RX6 73 yX6_isDown, Cond.instanceMethod yX6_isDown, Cond.selects RX6 yX6_isDown yX6_isDown, Cond.code yX6_isDown cX6_isDown 3 (some .boolean), Cond.methodLink RX6 70 yX6_next, Cond.instanceMethod yX6_next, Cond.selects RX6 yX6_next yX6_next, Cond.code yX6_next cX6_next 2 (some .int), Cond.methodLink RX6 79 yX6_requestOf, Cond.instanceMethod yX6_requestOf, Cond.selects RX6 yX6_requestOf yX6_requestOf, Cond.code yX6_requestOf cX6_requestOf 3 (some .int), Cond.methodLink RX6 92 yX6_grantFor, Cond.instanceMethod yX6_grantFor]
def wsX6_worstCut_r3 : List Cond := [Cond.selects RX6 yX6_grantFor yX6_grantFor, Cond.code yX6_grantFor cX6_grantFor 5 (some .int), Cond.methodLink RX6 82 yX6_someRequest, Cond.instanceMethod yX6_someRequest, Cond.selects RX6 yX6_someRequest yX6_someRequest, Cond.code yX6_someRequest cX6_someRequest 4 (some .boolean), Cond.methodLink RX6 85 yX6_someSwitch, Cond.instanceMethod yX6_someSwitch, Cond.selects RX6 yX6_someSwitch yX6_someSwitch, Cond.code yX6_someSwitch cX6_someSwitch 4 (some .boolean), Cond.methodLink RX6 138 yX6_deliveredCount, Cond.instanceMethod yX6_deliveredCount, Cond.selects RX6 yX6_deliveredCount yX6_deliveredCount, Cond.code yX6_deliveredCount cX6_deliveredCount 3 (some .int), Cond.methodLink RX6 129 yX6_isDelivered, Cond.instanceMethod yX6_isDelivered, Cond.selects RX6 yX6_isDelivered yX6_isDelivered, Cond.code yX6_isDelivered cX6_isDelivered 2 (some .boolean), Cond.methodLink RX6 38 yX6_isCircuit, Cond.instanceMethod yX6_isCircuit, Cond.selects RX6 yX6_isCircuit yX6_isCircuit, Cond.code yX6_isCircuit cX6_isCircuit 2 (some .boolean), Cond.methodLink RX6 23 yX6_in, Cond.static yX6_in]
def wsX6_worstCut_r4 : List Cond := [Cond.code yX6_in cX6_in 3 (some .boolean), Cond.methodLink RX6 31 yX6_ofCircuit, Cond.instanceMethod yX6_ofCircuit, Cond.selects RX6 yX6_ofCircuit yX6_ofCircuit, Cond.code yX6_ofCircuit cX6_ofCircuit 3 (some .int), Cond.methodLink RX6 126 yX6_stateOf, Cond.instanceMethod yX6_stateOf, Cond.selects RX6 yX6_stateOf yX6_stateOf, Cond.code yX6_stateOf cX6_stateOf 2 (some .int), Cond.methodLink RX6 120 yX6_extraState, Cond.instanceMethod yX6_extraState, Cond.selects RX6 yX6_extraState yX6_extraState, Cond.code yX6_extraState cX6_extraState 3 (some .int), Cond.methodLink RX6 111 yX6_hasSwitch, Cond.instanceMethod yX6_hasSwitch, Cond.selects RX6 yX6_hasSwitch yX6_hasSwitch, Cond.code yX6_hasSwitch cX6_hasSwitch 5 (some .boolean), Cond.methodLink RX6 42 yX6_isOn, Cond.instanceMethod yX6_isOn, Cond.selects RX6 yX6_isOn yX6_isOn, Cond.code yX6_isOn cX6_isOn 3 (some .boolean), Cond.methodLink RX6 34 yX6_passes, Cond.instanceMethod yX6_passes, Cond.selects RX6 yX6_passes yX6_passes]
def wsX6_worstCut_r5 : List Cond := [Cond.code yX6_passes cX6_passes 8 (some .boolean), Cond.methodLink RX6 123 yX6_normalState, Cond.instanceMethod yX6_normalState, Cond.selects RX6 yX6_normalState yX6_normalState, Cond.code yX6_normalState cX6_normalState 3 (some .int), Cond.methodLink RX6 108 yX6_segmentOf, Cond.instanceMethod yX6_segmentOf, Cond.selects RX6 yX6_segmentOf yX6_segmentOf, Cond.code yX6_segmentOf cX6_segmentOf 6 (some .int), Cond.methodLink RX6 117 yX6_isLost, Cond.instanceMethod yX6_isLost, Cond.selects RX6 yX6_isLost yX6_isLost, Cond.code yX6_isLost cX6_isLost 6 (some .boolean), Cond.methodLink RX6 114 yX6_isInside, Cond.instanceMethod yX6_isInside, Cond.selects RX6 yX6_isInside yX6_isInside, Cond.code yX6_isInside cX6_isInside 3 (some .boolean)]
def wsX6_worstCut : List Cond := .code yX6_worstCut cX6_worstCut 5 (some .int) :: ((wsX6_worstCut_r1 ++ (wsX6_worstCut_r2 ++ (wsX6_worstCut_r3 ++ (wsX6_worstCut_r4 ++ wsX6_worstCut_r5)))) ++ wsX60)
def wsX6_save : List Cond := .code yX6_save cX6_save 3 (some .int) :: ([.fieldLink RX6 16 "RingProtectionModel" "slots" "[I", .fieldLink RX6 7 "RingProtectionModel" "state" "[I", .fieldLink RX6 19 "RingProtectionModel" "isSaved" "[Z", .methodLink RX6 23 yX6_in, .static yX6_in, .initialized RX6, .code yX6_in cX6_in 3 (some .boolean)] ++ wsX60)
def wsX6_restore : List Cond := .code yX6_restore cX6_restore 3 (some .int) :: ([.fieldLink RX6 19 "RingProtectionModel" "isSaved" "[Z", .fieldLink RX6 7 "RingProtectionModel" "state" "[I", .fieldLink RX6 16 "RingProtectionModel" "slots" "[I", .methodLink RX6 23 yX6_in, .static yX6_in, .initialized RX6, .code yX6_in cX6_in 3 (some .boolean)] ++ wsX60)
def wsJ9_max_7cf53 : List Cond := .code yJ9_max_7cf53 cJ9_max_7cf53 2 (some .int) :: ([])
def wsL_law_r1 : List Cond := [Cond.classLink RL 7 RX5, Cond.instantiable RX5 4, Cond.initialized RX5, Cond.classLink RL 10 RX6, Cond.instantiable RX6 4, Cond.initialized RX6, Cond.methodLink RL 9 yX5_init, Cond.instanceMethod yX5_init, Cond.code yX5_init cX5_init 1 none, Cond.methodLink RX5 1 objectInit, Cond.instanceMethod objectInit, Cond.code objectInit ⟨#[0xb1]⟩ 1 none, Cond.classLink RX5 7 RX3, Cond.instantiable RX3 4, Cond.initialized RX3, Cond.fieldLink RX5 10 "RingProtection" "current" "LRingProtection$Simulation;", Cond.fieldLink RX5 16 "RingProtection" "trial" "LRingProtection$Simulation;", Cond.classLink RX5 19 RX4, Cond.instantiable RX4 2, Cond.initialized RX4, Cond.fieldLink RX5 22 "RingProtection" "snapshot0" "LRingProtection$Snapshot;", Cond.fieldLink RX5 26 "RingProtection" "snapshot1" "LRingProtection$Snapshot;", Cond.instanceMethod yX3_init, Cond.code yX3_init cX3_init 1 none]
def wsL_law_r2 : List Cond := [Cond.methodLink RX3 3 objectInit, Cond.classLink RX3 9 RX0, Cond.instantiable RX0 5, Cond.initialized RX0, Cond.fieldLink RX3 12 "RingProtection$Simulation" "circuits" "LRingProtection$CircuitTable;", Cond.classLink RX3 18 RX1, Cond.instantiable RX1 14, Cond.initialized RX1, Cond.fieldLink RX3 21 "RingProtection$Simulation" "controller" "LRingProtection$Controller;", Cond.fieldLink RX3 29 "RingProtection$Simulation" "shape" "LRingProtection$Shape;", Cond.instanceMethod yX0_init, Cond.code yX0_init cX0_init 1 none, Cond.methodLink RX0 3 objectInit, Cond.arrayClass .int, Cond.fieldLink RX0 9 "RingProtection$CircuitTable" "firstEnds" "[I", Cond.fieldLink RX0 15 "RingProtection$CircuitTable" "secondEnds" "[I", Cond.fieldLink RX0 18 "RingProtection$CircuitTable" "paths" "[I", Cond.fieldLink RX0 21 "RingProtection$CircuitTable" "slots" "[I", Cond.instanceMethod yX1_init, Cond.code yX1_init cX1_init 1 none, Cond.methodLink RX1 3 objectInit, Cond.classLink RX1 9 RX2, Cond.instantiable RX2 2, Cond.initialized RX2]
def wsL_law_r3 : List Cond := [Cond.fieldLink RX1 12 "RingProtection$Controller" "shape" "LRingProtection$Shape;", Cond.fieldLink RX1 18 "RingProtection$Controller" "commands" "[I", Cond.fieldLink RX1 22 "RingProtection$Controller" "timers" "[I", Cond.fieldLink RX1 25 "RingProtection$Controller" "heldRequests" "[I", Cond.fieldLink RX1 28 "RingProtection$Controller" "restoreTime" "I", Cond.fieldLink RX1 32 "RingProtection$Controller" "directRequests" "[I", Cond.fieldLink RX1 35 "RingProtection$Controller" "segments" "[I", Cond.instanceMethod yX2_init, Cond.code yX2_init cX2_init 1 none, Cond.methodLink RX2 3 objectInit, Cond.fieldLink RX2 9 "RingProtection$Shape" "nodes" "I", Cond.fieldLink RX2 15 "RingProtection$Shape" "slots" "I", Cond.instanceMethod yX4_init, Cond.code yX4_init cX4_init 1 none, Cond.methodLink RX4 1 objectInit, Cond.classLink RX4 7 RX3, Cond.fieldLink RX4 10 "RingProtection$Snapshot" "kept" "LRingProtection$Simulation;", Cond.methodLink RL 12 yX6_init, Cond.instanceMethod yX6_init, Cond.code yX6_init cX6_init 1 none, Cond.methodLink RX6 1 objectInit, Cond.fieldLink RX6 7 "RingProtectionModel" "state" "[I", Cond.fieldLink RX6 13 "RingProtectionModel" "before" "[I", Cond.fieldLink RX6 16 "RingProtectionModel" "slots" "[I"]
def wsL_law_r4 : List Cond := [Cond.arrayClass .boolean, Cond.fieldLink RX6 19 "RingProtectionModel" "isSaved" "[Z", Cond.methodLink RL 13 yX5_reset, Cond.instanceMethod yX5_reset, Cond.selects RX5 yX5_reset yX5_reset, Cond.code yX5_reset cX5_reset 4 (some .int), Cond.methodLink RX5 39 yX3_startAnew, Cond.instanceMethod yX3_startAnew, Cond.selects RX3 yX3_startAnew yX3_startAnew, Cond.code yX3_startAnew cX3_startAnew 3 none, Cond.fieldLink RX3 37 "RingProtection$Simulation" "time" "I", Cond.methodLink RX3 30 yX0_takeAllAway, Cond.instanceMethod yX0_takeAllAway, Cond.selects RX0 yX0_takeAllAway yX0_takeAllAway, Cond.code yX0_takeAllAway cX0_takeAllAway 1 none, Cond.fieldLink RX0 28 "RingProtection$CircuitTable" "extras" "I", Cond.static yX5_clearRow, Cond.code yX5_clearRow cX5_clearRow 2 none, Cond.methodLink RX3 33 yX1_startAnew, Cond.instanceMethod yX1_startAnew, Cond.selects RX1 yX1_startAnew yX1_startAnew, Cond.code yX1_startAnew cX1_startAnew 3 none, Cond.fieldLink RX1 84 "RingProtection$Controller" "failedWorking" "I", Cond.fieldLink RX1 90 "RingProtection$Controller" "failedProtection" "I"]
def wsL_law_r5 : List Cond := [Cond.fieldLink RX1 78 "RingProtection$Controller" "failedNodes" "I", Cond.fieldLink RX1 87 "RingProtection$Controller" "workingDown" "I", Cond.fieldLink RX1 93 "RingProtection$Controller" "protectionDown" "I", Cond.fieldLink RX1 52 "RingProtection$Controller" "spanSwitched" "I", Cond.fieldLink RX1 45 "RingProtection$Controller" "ringSwitched" "I", Cond.methodLink RL 17 yX6_reset, Cond.instanceMethod yX6_reset, Cond.selects RX6 yX6_reset yX6_reset, Cond.code yX6_reset cX6_reset 6 (some .int), Cond.methodLink RX6 23 yX6_in, Cond.static yX6_in, Cond.code yX6_in cX6_in 3 (some .boolean), Cond.methodLink RL 18 yX5_addCircuit, Cond.instanceMethod yX5_addCircuit, Cond.selects RX5 yX5_addCircuit yX5_addCircuit, Cond.code yX5_addCircuit cX5_addCircuit 9 (some .int), Cond.methodLink RX5 43 yX5_faultOfEnds, Cond.instanceMethod yX5_faultOfEnds, Cond.selects RX5 yX5_faultOfEnds yX5_faultOfEnds, Cond.code yX5_faultOfEnds cX5_faultOfEnds 3 (some .int), Cond.methodLink RX5 124 yX2_hasNode, Cond.instanceMethod yX2_hasNode, Cond.selects RX2 yX2_hasNode yX2_hasNode, Cond.code yX2_hasNode cX2_hasNode 2 (some .boolean)]
def wsL_law_r6 : List Cond := [Cond.methodLink RX5 54 yX0_smallestFreeNumber, Cond.instanceMethod yX0_smallestFreeNumber, Cond.selects RX0 yX0_smallestFreeNumber yX0_smallestFreeNumber, Cond.code yX0_smallestFreeNumber cX0_smallestFreeNumber 2 (some .int), Cond.methodLink RX0 24 yX0_has, Cond.instanceMethod yX0_has, Cond.selects RX0 yX0_has yX0_has, Cond.code yX0_has cX0_has 2 (some .boolean), Cond.methodLink RX5 60 yX2_route, Cond.instanceMethod yX2_route, Cond.selects RX2 yX2_route yX2_route, Cond.code yX2_route cX2_route 7 (some .int), Cond.methodLink RX2 18 yX2_nodeAfter, Cond.instanceMethod yX2_nodeAfter, Cond.selects RX2 yX2_nodeAfter yX2_nodeAfter, Cond.code yX2_nodeAfter cX2_nodeAfter 2 (some .int), Cond.methodLink RX5 64 yX0_slotsUsed, Cond.instanceMethod yX0_slotsUsed, Cond.selects RX0 yX0_slotsUsed yX0_slotsUsed, Cond.code yX0_slotsUsed cX0_slotsUsed 5 (some .int), Cond.methodLink RX0 36 yX0_isExtra, Cond.instanceMethod yX0_isExtra, Cond.selects RX0 yX0_isExtra yX0_isExtra, Cond.code yX0_isExtra cX0_isExtra 2 (some .boolean)]
def wsL_law_r7 : List Cond := [Cond.static yX5_contains, Cond.code yX5_contains cX5_contains 2 (some .boolean), Cond.methodLink RX5 68 yX5_contains, Cond.methodLink RX5 72 yX0_putEnds, Cond.instanceMethod yX0_putEnds, Cond.selects RX0 yX0_putEnds yX0_putEnds, Cond.code yX0_putEnds cX0_putEnds 4 none, Cond.methodLink RX5 76 yX0_putRoute, Cond.instanceMethod yX0_putRoute, Cond.selects RX0 yX0_putRoute yX0_putRoute, Cond.code yX0_putRoute cX0_putRoute 5 none, Cond.static yX5_marked, Cond.code yX5_marked cX5_marked 3 (some .int), Cond.methodLink RL 22 yX6_addCircuit, Cond.instanceMethod yX6_addCircuit, Cond.selects RX6 yX6_addCircuit yX6_addCircuit, Cond.code yX6_addCircuit cX6_addCircuit 8 (some .int), Cond.methodLink RX6 46 yX6_isNode, Cond.instanceMethod yX6_isNode, Cond.selects RX6 yX6_isNode yX6_isNode, Cond.code yX6_isNode cX6_isNode 2 (some .boolean), Cond.methodLink RX6 49 yX6_freeNumber, Cond.instanceMethod yX6_freeNumber, Cond.selects RX6 yX6_freeNumber yX6_freeNumber]
def wsL_law_r8 : List Cond := [Cond.code yX6_freeNumber cX6_freeNumber 2 (some .int), Cond.methodLink RX6 38 yX6_isCircuit, Cond.instanceMethod yX6_isCircuit, Cond.selects RX6 yX6_isCircuit yX6_isCircuit, Cond.code yX6_isCircuit cX6_isCircuit 2 (some .boolean), Cond.methodLink RX6 31 yX6_ofCircuit, Cond.instanceMethod yX6_ofCircuit, Cond.selects RX6 yX6_ofCircuit yX6_ofCircuit, Cond.code yX6_ofCircuit cX6_ofCircuit 3 (some .int), Cond.methodLink RX6 53 yX6_isSlotFree, Cond.instanceMethod yX6_isSlotFree, Cond.selects RX6 yX6_isSlotFree yX6_isSlotFree, Cond.code yX6_isSlotFree cX6_isSlotFree 9 (some .boolean), Cond.methodLink RX6 42 yX6_isOn, Cond.instanceMethod yX6_isOn, Cond.selects RX6 yX6_isOn yX6_isOn, Cond.code yX6_isOn cX6_isOn 3 (some .boolean), Cond.methodLink RX6 34 yX6_passes, Cond.instanceMethod yX6_passes, Cond.selects RX6 yX6_passes yX6_passes, Cond.code yX6_passes cX6_passes 8 (some .boolean), Cond.methodLink RL 23 yX5_removeCircuit, Cond.instanceMethod yX5_removeCircuit, Cond.selects RX5 yX5_removeCircuit yX5_removeCircuit]
def wsL_law_r9 : List Cond := [Cond.code yX5_removeCircuit cX5_removeCircuit 2 (some .int), Cond.methodLink RX5 80 yX0_has, Cond.methodLink RX5 84 yX0_takeAway, Cond.instanceMethod yX0_takeAway, Cond.selects RX0 yX0_takeAway yX0_takeAway, Cond.code yX0_takeAway cX0_takeAway 2 none, Cond.methodLink RX0 43 yX0_putRoute, Cond.methodLink RX5 88 yX0_count, Cond.instanceMethod yX0_count, Cond.selects RX0 yX0_count yX0_count, Cond.code yX0_count cX0_count 3 (some .int), Cond.methodLink RL 27 yX6_removeCircuit, Cond.instanceMethod yX6_removeCircuit, Cond.selects RX6 yX6_removeCircuit yX6_removeCircuit, Cond.code yX6_removeCircuit cX6_removeCircuit 3 (some .int), Cond.methodLink RX6 57 yX6_circuitCount, Cond.instanceMethod yX6_circuitCount, Cond.selects RX6 yX6_circuitCount yX6_circuitCount, Cond.code yX6_circuitCount cX6_circuitCount 3 (some .int), Cond.methodLink RL 28 yX5_circuitCount, Cond.instanceMethod yX5_circuitCount, Cond.selects RX5 yX5_circuitCount yX5_circuitCount, Cond.code yX5_circuitCount cX5_circuitCount 1 (some .int), Cond.methodLink RL 32 yX6_circuitCount]
def wsL_law_r10 : List Cond := [Cond.methodLink RL 33 yX5_freeSlot, Cond.instanceMethod yX5_freeSlot, Cond.selects RX5 yX5_freeSlot yX5_freeSlot, Cond.code yX5_freeSlot cX5_freeSlot 9 (some .int), Cond.methodLink RL 37 yX6_freeSlot, Cond.instanceMethod yX6_freeSlot, Cond.selects RX6 yX6_freeSlot yX6_freeSlot, Cond.code yX6_freeSlot cX6_freeSlot 6 (some .int), Cond.methodLink RL 38 yX5_circuitsOn, Cond.instanceMethod yX5_circuitsOn, Cond.selects RX5 yX5_circuitsOn yX5_circuitsOn, Cond.code yX5_circuitsOn cX5_circuitsOn 2 (some .int), Cond.methodLink RX5 91 yX2_hasSpan, Cond.instanceMethod yX2_hasSpan, Cond.selects RX2 yX2_hasSpan yX2_hasSpan, Cond.code yX2_hasSpan cX2_hasSpan 2 (some .boolean), Cond.methodLink RX5 94 yX0_crossing, Cond.instanceMethod yX0_crossing, Cond.selects RX0 yX0_crossing yX0_crossing, Cond.code yX0_crossing cX0_crossing 4 (some .int), Cond.methodLink RL 41 yX6_circuitsOn, Cond.instanceMethod yX6_circuitsOn, Cond.selects RX6 yX6_circuitsOn yX6_circuitsOn, Cond.code yX6_circuitsOn cX6_circuitsOn 4 (some .int)]
def wsL_law_r11 : List Cond := [Cond.methodLink RX6 60 yX6_isSpan, Cond.instanceMethod yX6_isSpan, Cond.selects RX6 yX6_isSpan yX6_isSpan, Cond.code yX6_isSpan cX6_isSpan 2 (some .boolean), Cond.methodLink RL 42 yX5_pathLength, Cond.instanceMethod yX5_pathLength, Cond.selects RX5 yX5_pathLength yX5_pathLength, Cond.code yX5_pathLength cX5_pathLength 2 (some .int), Cond.methodLink RX5 98 yX0_pathOf, Cond.instanceMethod yX0_pathOf, Cond.selects RX0 yX0_pathOf yX0_pathOf, Cond.code yX0_pathOf cX0_pathOf 2 (some .int), Cond.methodLink RX5 101 yJ6_bitCount_0f7a4, Cond.static yJ6_bitCount_0f7a4, Cond.initialized RJ6, Cond.code yJ6_bitCount_0f7a4 cJ6_bitCount_0f7a4 1 (some .int), Cond.constant RJ6 265 (1431655765), Cond.constant RJ6 266 (858993459), Cond.constant RJ6 267 (252645135), Cond.methodLink RL 45 yX6_pathLength, Cond.instanceMethod yX6_pathLength, Cond.selects RX6 yX6_pathLength yX6_pathLength, Cond.code yX6_pathLength cX6_pathLength 2 (some .int), Cond.methodLink RX6 63 yX6_lengthOf]
def wsL_law_r12 : List Cond := [Cond.instanceMethod yX6_lengthOf, Cond.selects RX6 yX6_lengthOf yX6_lengthOf, Cond.code yX6_lengthOf cX6_lengthOf 4 (some .int), Cond.methodLink RL 46 yX5_failWorking, Cond.instanceMethod yX5_failWorking, Cond.selects RX5 yX5_failWorking yX5_failWorking, Cond.code yX5_failWorking cX5_failWorking 4 (some .int), Cond.methodLink RX5 115 yX5_marked, Cond.methodLink RX5 118 yX1_run, Cond.instanceMethod yX1_run, Cond.selects RX1 yX1_run yX1_run, Cond.code yX1_run cX1_run 2 none, Cond.methodLink RX1 62 yX1_findCapacitiesDown, Cond.instanceMethod yX1_findCapacitiesDown, Cond.selects RX1 yX1_findCapacitiesDown yX1_findCapacitiesDown, Cond.code yX1_findCapacitiesDown cX1_findCapacitiesDown 3 none, Cond.methodLink RX1 81 yX2_spansAt, Cond.instanceMethod yX2_spansAt, Cond.selects RX2 yX2_spansAt yX2_spansAt, Cond.code yX2_spansAt cX2_spansAt 3 (some .int), Cond.methodLink RX1 65 yX1_takeDirectRequest, Cond.instanceMethod yX1_takeDirectRequest, Cond.selects RX1 yX1_takeDirectRequest yX1_takeDirectRequest, Cond.code yX1_takeDirectRequest cX1_takeDirectRequest 4 none]
def wsL_law_r13 : List Cond := [Cond.methodLink RX1 102 Lib.Math.max.name, Cond.static Lib.Math.max.name, Cond.initialized "java/lang/Math", Cond.code Lib.Math.max.name Lib.Math.max.code 2 (some .int), Cond.methodLink RX1 96 yX1_requestOfFailures, Cond.instanceMethod yX1_requestOfFailures, Cond.selects RX1 yX1_requestOfFailures yX1_requestOfFailures, Cond.code yX1_requestOfFailures cX1_requestOfFailures 3 (some .int), Cond.methodLink RX1 99 yX1_requestOfCommand, Cond.instanceMethod yX1_requestOfCommand, Cond.selects RX1 yX1_requestOfCommand yX1_requestOfCommand, Cond.code yX1_requestOfCommand cX1_requestOfCommand 4 (some .int), Cond.methodLink RX1 108 yX1_startWaiting, Cond.instanceMethod yX1_startWaiting, Cond.selects RX1 yX1_startWaiting yX1_startWaiting, Cond.code yX1_startWaiting cX1_startWaiting 3 none, Cond.methodLink RX1 111 yX1_switchAt, Cond.instanceMethod yX1_switchAt, Cond.selects RX1 yX1_switchAt yX1_switchAt, Cond.code yX1_switchAt cX1_switchAt 2 (some .int), Cond.methodLink RX1 69 yX1_grantSwitches, Cond.instanceMethod yX1_grantSwitches, Cond.selects RX1 yX1_grantSwitches yX1_grantSwitches, Cond.code yX1_grantSwitches cX1_grantSwitches 4 none]
def wsL_law_r14 : List Cond := [Cond.methodLink RX1 114 yX1_isLockedOut, Cond.instanceMethod yX1_isLockedOut, Cond.selects RX1 yX1_isLockedOut yX1_isLockedOut, Cond.code yX1_isLockedOut cX1_isLockedOut 2 (some .boolean), Cond.methodLink RX1 118 yX1_requestAt, Cond.instanceMethod yX1_requestAt, Cond.selects RX1 yX1_requestAt yX1_requestAt, Cond.code yX1_requestAt cX1_requestAt 3 (some .int), Cond.methodLink RX1 38 yX2_hasSpan, Cond.methodLink RX1 121 yX1_grant, Cond.instanceMethod yX1_grant, Cond.selects RX1 yX1_grant yX1_grant, Cond.code yX1_grant cX1_grant 4 none, Cond.methodLink RX1 72 yX1_dropWaitsWithoutSwitch, Cond.instanceMethod yX1_dropWaitsWithoutSwitch, Cond.selects RX1 yX1_dropWaitsWithoutSwitch yX1_dropWaitsWithoutSwitch, Cond.code yX1_dropWaitsWithoutSwitch cX1_dropWaitsWithoutSwitch 4 none, Cond.methodLink RX1 75 yX1_findSegments, Cond.instanceMethod yX1_findSegments, Cond.selects RX1 yX1_findSegments yX1_findSegments, Cond.code yX1_findSegments cX1_findSegments 3 none, Cond.methodLink RL 50 yX6_failWorking, Cond.instanceMethod yX6_failWorking, Cond.selects RX6 yX6_failWorking yX6_failWorking]
def wsL_law_r15 : List Cond := [Cond.code yX6_failWorking cX6_failWorking 3 (some .int), Cond.methodLink RX6 27 yX6_at, Cond.static yX6_at, Cond.code yX6_at cX6_at 2 (some .int), Cond.methodLink RX6 101 yX6_mark, Cond.instanceMethod yX6_mark, Cond.selects RX6 yX6_mark yX6_mark, Cond.code yX6_mark cX6_mark 4 (some .int), Cond.methodLink RX6 95 yX6_set, Cond.instanceMethod yX6_set, Cond.selects RX6 yX6_set yX6_set, Cond.code yX6_set cX6_set 4 (some .int), Cond.methodLink RX6 98 yX6_control, Cond.instanceMethod yX6_control, Cond.selects RX6 yX6_control yX6_control, Cond.code yX6_control cX6_control 3 none, Cond.methodLink RX6 88 yX6_compare, Cond.instanceMethod yX6_compare, Cond.selects RX6 yX6_compare yX6_compare, Cond.code yX6_compare cX6_compare 5 none, Cond.methodLink RX6 67 yX6_of, Cond.instanceMethod yX6_of, Cond.selects RX6 yX6_of yX6_of, Cond.code yX6_of cX6_of 3 (some .int)]
def wsL_law_r16 : List Cond := [Cond.methodLink RX6 76 yX6_directOf, Cond.instanceMethod yX6_directOf, Cond.selects RX6 yX6_directOf yX6_directOf, Cond.code yX6_directOf cX6_directOf 8 (some .int), Cond.methodLink RX6 73 yX6_isDown, Cond.instanceMethod yX6_isDown, Cond.selects RX6 yX6_isDown yX6_isDown, Cond.code yX6_isDown cX6_isDown 3 (some .boolean), Cond.methodLink RX6 70 yX6_next, Cond.instanceMethod yX6_next, Cond.selects RX6 yX6_next yX6_next, Cond.code yX6_next cX6_next 2 (some .int), Cond.methodLink RX6 79 yX6_requestOf, Cond.instanceMethod yX6_requestOf, Cond.selects RX6 yX6_requestOf yX6_requestOf, Cond.code yX6_requestOf cX6_requestOf 3 (some .int), Cond.methodLink RX6 92 yX6_grantFor, Cond.instanceMethod yX6_grantFor, Cond.selects RX6 yX6_grantFor yX6_grantFor, Cond.code yX6_grantFor cX6_grantFor 5 (some .int), Cond.methodLink RX6 82 yX6_someRequest, Cond.instanceMethod yX6_someRequest, Cond.selects RX6 yX6_someRequest yX6_someRequest, Cond.code yX6_someRequest cX6_someRequest 4 (some .boolean)]
def wsL_law_r17 : List Cond := [Cond.methodLink RX6 85 yX6_someSwitch, Cond.instanceMethod yX6_someSwitch, Cond.selects RX6 yX6_someSwitch yX6_someSwitch, Cond.code yX6_someSwitch cX6_someSwitch 4 (some .boolean), Cond.methodLink RL 51 yX5_failProtection, Cond.instanceMethod yX5_failProtection, Cond.selects RX5 yX5_failProtection yX5_failProtection, Cond.code yX5_failProtection cX5_failProtection 4 (some .int), Cond.methodLink RL 54 yX6_failProtection, Cond.instanceMethod yX6_failProtection, Cond.selects RX6 yX6_failProtection yX6_failProtection, Cond.code yX6_failProtection cX6_failProtection 3 (some .int), Cond.methodLink RL 55 yX5_failNode, Cond.instanceMethod yX5_failNode, Cond.selects RX5 yX5_failNode yX5_failNode, Cond.code yX5_failNode cX5_failNode 4 (some .int), Cond.methodLink RL 58 yX6_failNode, Cond.instanceMethod yX6_failNode, Cond.selects RX6 yX6_failNode yX6_failNode, Cond.code yX6_failNode cX6_failNode 3 (some .int), Cond.methodLink RL 59 yX5_command, Cond.instanceMethod yX5_command, Cond.selects RX5 yX5_command yX5_command, Cond.code yX5_command cX5_command 4 (some .int)]
def wsL_law_r18 : List Cond := [Cond.methodLink RX5 130 yX5_isCommand, Cond.static yX5_isCommand, Cond.code yX5_isCommand cX5_isCommand 1 (some .boolean), Cond.methodLink RX5 133 yX1_replaceCommand, Cond.instanceMethod yX1_replaceCommand, Cond.selects RX1 yX1_replaceCommand yX1_replaceCommand, Cond.code yX1_replaceCommand cX1_replaceCommand 4 (some .int), Cond.methodLink RL 62 yX6_command, Cond.instanceMethod yX6_command, Cond.selects RX6 yX6_command yX6_command, Cond.code yX6_command cX6_command 4 (some .int), Cond.methodLink RX6 105 yX6_isCommand, Cond.static yX6_isCommand, Cond.code yX6_isCommand cX6_isCommand 1 (some .boolean), Cond.methodLink RL 63 yX5_setRestoreTime, Cond.instanceMethod yX5_setRestoreTime, Cond.selects RX5 yX5_setRestoreTime yX5_setRestoreTime, Cond.code yX5_setRestoreTime cX5_setRestoreTime 3 (some .int), Cond.methodLink RL 66 yX6_setRestoreTime, Cond.instanceMethod yX6_setRestoreTime, Cond.selects RX6 yX6_setRestoreTime yX6_setRestoreTime, Cond.code yX6_setRestoreTime cX6_setRestoreTime 2 (some .int), Cond.methodLink RL 67 yX5_advance, Cond.instanceMethod yX5_advance]
def wsL_law_r19 : List Cond := [Cond.selects RX5 yX5_advance yX5_advance, Cond.code yX5_advance cX5_advance 3 (some .int), Cond.methodLink RX5 139 yX3_passSecond, Cond.instanceMethod yX3_passSecond, Cond.selects RX3 yX3_passSecond yX3_passSecond, Cond.code yX3_passSecond cX3_passSecond 1 none, Cond.methodLink RX3 48 yX1_countTimersDown, Cond.instanceMethod yX1_countTimersDown, Cond.selects RX1 yX1_countTimersDown yX1_countTimersDown, Cond.code yX1_countTimersDown cX1_countTimersDown 2 none, Cond.methodLink RX3 51 yX1_run, Cond.methodLink RL 70 yX6_advance, Cond.instanceMethod yX6_advance, Cond.selects RX6 yX6_advance yX6_advance, Cond.code yX6_advance cX6_advance 4 (some .int), Cond.methodLink RL 71 yX5_clock, Cond.instanceMethod yX5_clock, Cond.selects RX5 yX5_clock yX5_clock, Cond.code yX5_clock cX5_clock 1 (some .int), Cond.methodLink RL 74 yX6_clock, Cond.instanceMethod yX6_clock, Cond.selects RX6 yX6_clock yX6_clock, Cond.code yX6_clock cX6_clock 1 (some .int), Cond.methodLink RL 75 yX5_request]
def wsL_law_r20 : List Cond := [Cond.instanceMethod yX5_request, Cond.selects RX5 yX5_request yX5_request, Cond.code yX5_request cX5_request 2 (some .int), Cond.methodLink RX5 145 yX1_requestAt, Cond.methodLink RL 78 yX6_request, Cond.instanceMethod yX6_request, Cond.selects RX6 yX6_request yX6_request, Cond.code yX6_request cX6_request 2 (some .int), Cond.methodLink RL 79 yX5_switchOf, Cond.instanceMethod yX5_switchOf, Cond.selects RX5 yX5_switchOf yX5_switchOf, Cond.code yX5_switchOf cX5_switchOf 2 (some .int), Cond.methodLink RX5 148 yX1_switchAt, Cond.methodLink RL 82 yX6_switchOf, Cond.instanceMethod yX6_switchOf, Cond.selects RX6 yX6_switchOf yX6_switchOf, Cond.code yX6_switchOf cX6_switchOf 2 (some .int), Cond.methodLink RL 83 yX5_restoreTimer, Cond.instanceMethod yX5_restoreTimer, Cond.selects RX5 yX5_restoreTimer yX5_restoreTimer, Cond.code yX5_restoreTimer cX5_restoreTimer 2 (some .int), Cond.methodLink RX5 151 yX1_timerAt, Cond.instanceMethod yX1_timerAt, Cond.selects RX1 yX1_timerAt yX1_timerAt]
def wsL_law_r21 : List Cond := [Cond.code yX1_timerAt cX1_timerAt 2 (some .int), Cond.methodLink RL 86 yX6_restoreTimer, Cond.instanceMethod yX6_restoreTimer, Cond.selects RX6 yX6_restoreTimer yX6_restoreTimer, Cond.code yX6_restoreTimer cX6_restoreTimer 2 (some .int), Cond.methodLink RL 87 yX5_segment, Cond.instanceMethod yX5_segment, Cond.selects RX5 yX5_segment yX5_segment, Cond.code yX5_segment cX5_segment 2 (some .int), Cond.methodLink RX5 154 yX1_segmentOf, Cond.instanceMethod yX1_segmentOf, Cond.selects RX1 yX1_segmentOf yX1_segmentOf, Cond.code yX1_segmentOf cX1_segmentOf 2 (some .int), Cond.methodLink RX1 42 yX2_hasNode, Cond.methodLink RL 90 yX6_segment, Cond.instanceMethod yX6_segment, Cond.selects RX6 yX6_segment yX6_segment, Cond.code yX6_segment cX6_segment 2 (some .int), Cond.methodLink RX6 108 yX6_segmentOf, Cond.instanceMethod yX6_segmentOf, Cond.selects RX6 yX6_segmentOf yX6_segmentOf, Cond.code yX6_segmentOf cX6_segmentOf 6 (some .int), Cond.methodLink RL 91 yX5_state, Cond.instanceMethod yX5_state]
def wsL_law_r22 : List Cond := [Cond.selects RX5 yX5_state yX5_state, Cond.code yX5_state cX5_state 2 (some .int), Cond.methodLink RX5 157 yX3_stateOf, Cond.instanceMethod yX3_stateOf, Cond.selects RX3 yX3_stateOf yX3_stateOf, Cond.code yX3_stateOf cX3_stateOf 2 (some .int), Cond.methodLink RX3 54 yX0_isExtra, Cond.methodLink RX3 58 yX3_stateOfExtra, Cond.instanceMethod yX3_stateOfExtra, Cond.selects RX3 yX3_stateOfExtra yX3_stateOfExtra, Cond.code yX3_stateOfExtra cX3_stateOfExtra 3 (some .int), Cond.methodLink RX3 65 yX0_pathOf, Cond.methodLink RX3 62 yX3_stateOfNormal, Cond.instanceMethod yX3_stateOfNormal, Cond.selects RX3 yX3_stateOfNormal yX3_stateOfNormal, Cond.code yX3_stateOfNormal cX3_stateOfNormal 7 (some .int), Cond.methodLink RX3 77 yX0_firstEndOf, Cond.instanceMethod yX0_firstEndOf, Cond.selects RX0 yX0_firstEndOf yX0_firstEndOf, Cond.code yX0_firstEndOf cX0_firstEndOf 2 (some .int), Cond.methodLink RX3 80 yX1_segmentOf, Cond.methodLink RX3 83 yX0_secondEndOf, Cond.instanceMethod yX0_secondEndOf, Cond.selects RX0 yX0_secondEndOf yX0_secondEndOf]
def wsL_law_r23 : List Cond := [Cond.code yX0_secondEndOf cX0_secondEndOf 2 (some .int), Cond.methodLink RX3 89 yX1_spansInside, Cond.instanceMethod yX1_spansInside, Cond.selects RX1 yX1_spansInside yX1_spansInside, Cond.code yX1_spansInside cX1_spansInside 5 (some .int), Cond.methodLink RX1 58 yX2_nodeAfter, Cond.methodLink RL 94 yX6_state, Cond.instanceMethod yX6_state, Cond.selects RX6 yX6_state yX6_state, Cond.code yX6_state cX6_state 2 (some .int), Cond.methodLink RX6 126 yX6_stateOf, Cond.instanceMethod yX6_stateOf, Cond.selects RX6 yX6_stateOf yX6_stateOf, Cond.code yX6_stateOf cX6_stateOf 2 (some .int), Cond.methodLink RX6 120 yX6_extraState, Cond.instanceMethod yX6_extraState, Cond.selects RX6 yX6_extraState yX6_extraState, Cond.code yX6_extraState cX6_extraState 3 (some .int), Cond.methodLink RX6 111 yX6_hasSwitch, Cond.instanceMethod yX6_hasSwitch, Cond.selects RX6 yX6_hasSwitch yX6_hasSwitch, Cond.code yX6_hasSwitch cX6_hasSwitch 5 (some .boolean), Cond.methodLink RX6 123 yX6_normalState, Cond.instanceMethod yX6_normalState]
def wsL_law_r24 : List Cond := [Cond.selects RX6 yX6_normalState yX6_normalState, Cond.code yX6_normalState cX6_normalState 3 (some .int), Cond.methodLink RX6 117 yX6_isLost, Cond.instanceMethod yX6_isLost, Cond.selects RX6 yX6_isLost yX6_isLost, Cond.code yX6_isLost cX6_isLost 6 (some .boolean), Cond.methodLink RX6 114 yX6_isInside, Cond.instanceMethod yX6_isInside, Cond.selects RX6 yX6_isInside yX6_isInside, Cond.code yX6_isInside cX6_isInside 3 (some .boolean), Cond.methodLink RL 95 yX5_circuitsIn, Cond.instanceMethod yX5_circuitsIn, Cond.selects RX5 yX5_circuitsIn yX5_circuitsIn, Cond.code yX5_circuitsIn cX5_circuitsIn 2 (some .int), Cond.methodLink RX5 160 yX3_allInState, Cond.instanceMethod yX3_allInState, Cond.selects RX3 yX3_allInState yX3_allInState, Cond.code yX3_allInState cX3_allInState 4 (some .int), Cond.methodLink RX3 92 yX0_has, Cond.methodLink RX3 95 yX3_stateOf, Cond.methodLink RL 98 yX6_circuitsIn, Cond.instanceMethod yX6_circuitsIn, Cond.selects RX6 yX6_circuitsIn yX6_circuitsIn, Cond.code yX6_circuitsIn cX6_circuitsIn 4 (some .int)]
def wsL_law_r25 : List Cond := [Cond.methodLink RL 99 yX5_deliveredCount, Cond.instanceMethod yX5_deliveredCount, Cond.selects RX5 yX5_deliveredCount yX5_deliveredCount, Cond.code yX5_deliveredCount cX5_deliveredCount 1 (some .int), Cond.methodLink RX5 163 yX3_countDelivered, Cond.instanceMethod yX3_countDelivered, Cond.selects RX3 yX3_countDelivered yX3_countDelivered, Cond.code yX3_countDelivered cX3_countDelivered 3 (some .int), Cond.static yX5_isDelivery, Cond.code yX5_isDelivery cX5_isDelivery 1 (some .boolean), Cond.methodLink RL 102 yX6_deliveredCount, Cond.instanceMethod yX6_deliveredCount, Cond.selects RX6 yX6_deliveredCount yX6_deliveredCount, Cond.code yX6_deliveredCount cX6_deliveredCount 3 (some .int), Cond.methodLink RX6 129 yX6_isDelivered, Cond.instanceMethod yX6_isDelivered, Cond.selects RX6 yX6_isDelivered yX6_isDelivered, Cond.code yX6_isDelivered cX6_isDelivered 2 (some .boolean), Cond.methodLink RL 103 yX5_hops, Cond.instanceMethod yX5_hops, Cond.selects RX5 yX5_hops yX5_hops, Cond.code yX5_hops cX5_hops 2 (some .int), Cond.methodLink RX5 166 yX3_hopsOf, Cond.instanceMethod yX3_hopsOf]
def wsL_law_r26 : List Cond := [Cond.selects RX3 yX3_hopsOf yX3_hopsOf, Cond.code yX3_hopsOf cX3_hopsOf 6 (some .int), Cond.methodLink RX3 101 yJ6_bitCount_0f7a4, Cond.methodLink RL 106 yX6_hops, Cond.instanceMethod yX6_hops, Cond.selects RX6 yX6_hops yX6_hops, Cond.code yX6_hops cX6_hops 2 (some .int), Cond.methodLink RX6 132 yX6_hopsOf, Cond.instanceMethod yX6_hopsOf, Cond.selects RX6 yX6_hopsOf yX6_hopsOf, Cond.code yX6_hopsOf cX6_hopsOf 5 (some .int), Cond.methodLink RL 107 yX5_averageHops, Cond.instanceMethod yX5_averageHops, Cond.selects RX5 yX5_averageHops yX5_averageHops, Cond.code yX5_averageHops cX5_averageHops 2 (some .int), Cond.methodLink RX5 169 yX3_sumOfHops, Cond.instanceMethod yX3_sumOfHops, Cond.selects RX3 yX3_sumOfHops yX3_sumOfHops, Cond.code yX3_sumOfHops cX3_sumOfHops 4 (some .int), Cond.methodLink RX3 106 yX3_hopsOf, Cond.methodLink RL 110 yX6_averageHops, Cond.instanceMethod yX6_averageHops, Cond.selects RX6 yX6_averageHops yX6_averageHops, Cond.code yX6_averageHops cX6_averageHops 4 (some .int)]
def wsL_law_r27 : List Cond := [Cond.methodLink RL 111 yX5_squelchedAt, Cond.instanceMethod yX5_squelchedAt, Cond.selects RX5 yX5_squelchedAt yX5_squelchedAt, Cond.code yX5_squelchedAt cX5_squelchedAt 3 (some .int), Cond.methodLink RX5 172 yX2_spansAt, Cond.methodLink RL 114 yX6_squelchedAt, Cond.instanceMethod yX6_squelchedAt, Cond.selects RX6 yX6_squelchedAt yX6_squelchedAt, Cond.code yX6_squelchedAt cX6_squelchedAt 6 (some .int), Cond.methodLink RX6 135 yX6_switchesAt, Cond.instanceMethod yX6_switchesAt, Cond.selects RX6 yX6_switchesAt yX6_switchesAt, Cond.code yX6_switchesAt cX6_switchesAt 3 (some .boolean), Cond.methodLink RL 115 yX5_deliveredIfCut, Cond.instanceMethod yX5_deliveredIfCut, Cond.selects RX5 yX5_deliveredIfCut yX5_deliveredIfCut, Cond.code yX5_deliveredIfCut cX5_deliveredIfCut 2 (some .int), Cond.methodLink RX5 178 yX5_deliveredAfterCut, Cond.instanceMethod yX5_deliveredAfterCut, Cond.selects RX5 yX5_deliveredAfterCut yX5_deliveredAfterCut, Cond.code yX5_deliveredAfterCut cX5_deliveredAfterCut 2 (some .int), Cond.methodLink RX5 181 yX3_copyFrom, Cond.instanceMethod yX3_copyFrom, Cond.selects RX3 yX3_copyFrom yX3_copyFrom]
def wsL_law_r28 : List Cond := [Cond.code yX3_copyFrom cX3_copyFrom 2 none, Cond.methodLink RX3 41 yX0_copyFrom, Cond.instanceMethod yX0_copyFrom, Cond.selects RX0 yX0_copyFrom yX0_copyFrom, Cond.code yX0_copyFrom cX0_copyFrom 2 none, Cond.static yX5_copyRow, Cond.code yX5_copyRow cX5_copyRow 3 none, Cond.methodLink RX3 45 yX1_copyFrom, Cond.instanceMethod yX1_copyFrom, Cond.selects RX1 yX1_copyFrom yX1_copyFrom, Cond.code yX1_copyFrom cX1_copyFrom 2 none, Cond.methodLink RL 118 yX6_deliveredIfCut, Cond.instanceMethod yX6_deliveredIfCut, Cond.selects RX6 yX6_deliveredIfCut yX6_deliveredIfCut, Cond.code yX6_deliveredIfCut cX6_deliveredIfCut 2 (some .int), Cond.methodLink RX6 147 yX6_ifCut, Cond.instanceMethod yX6_ifCut, Cond.selects RX6 yX6_ifCut yX6_ifCut, Cond.code yX6_ifCut cX6_ifCut 2 (some .int), Cond.methodLink RX6 141 yX6_keep, Cond.instanceMethod yX6_keep, Cond.selects RX6 yX6_keep yX6_keep, Cond.code yX6_keep cX6_keep 2 none, Cond.methodLink RX6 144 yX6_deliveredAndBack]
def wsL_law_r29 : List Cond := [Cond.instanceMethod yX6_deliveredAndBack, Cond.selects RX6 yX6_deliveredAndBack yX6_deliveredAndBack, Cond.code yX6_deliveredAndBack cX6_deliveredAndBack 3 (some .int), Cond.methodLink RX6 138 yX6_deliveredCount, Cond.methodLink RL 119 yX5_deliveredIfNodeFails, Cond.instanceMethod yX5_deliveredIfNodeFails, Cond.selects RX5 yX5_deliveredIfNodeFails yX5_deliveredIfNodeFails, Cond.code yX5_deliveredIfNodeFails cX5_deliveredIfNodeFails 2 (some .int), Cond.methodLink RL 122 yX6_deliveredIfNodeFails, Cond.instanceMethod yX6_deliveredIfNodeFails, Cond.selects RX6 yX6_deliveredIfNodeFails yX6_deliveredIfNodeFails, Cond.code yX6_deliveredIfNodeFails cX6_deliveredIfNodeFails 2 (some .int), Cond.methodLink RL 123 yX5_worstCut, Cond.instanceMethod yX5_worstCut, Cond.selects RX5 yX5_worstCut yX5_worstCut, Cond.code yX5_worstCut cX5_worstCut 5 (some .int), Cond.methodLink RL 126 yX6_worstCut, Cond.instanceMethod yX6_worstCut, Cond.selects RX6 yX6_worstCut yX6_worstCut, Cond.code yX6_worstCut cX6_worstCut 5 (some .int), Cond.methodLink RL 127 yX5_save, Cond.instanceMethod yX5_save, Cond.selects RX5 yX5_save yX5_save, Cond.code yX5_save cX5_save 3 (some .int)]
def wsL_law_r30 : List Cond := [Cond.methodLink RL 130 yX6_save, Cond.instanceMethod yX6_save, Cond.selects RX6 yX6_save yX6_save, Cond.code yX6_save cX6_save 3 (some .int), Cond.methodLink RL 131 yX5_restore, Cond.instanceMethod yX5_restore, Cond.selects RX5 yX5_restore yX5_restore, Cond.code yX5_restore cX5_restore 3 (some .int), Cond.methodLink RL 134 yX6_restore, Cond.instanceMethod yX6_restore, Cond.selects RX6 yX6_restore yX6_restore, Cond.code yX6_restore cX6_restore 3 (some .int)]
def wsL_law : List Cond := (wsL_law_r1 ++ (wsL_law_r2 ++ (wsL_law_r3 ++ (wsL_law_r4 ++ (wsL_law_r5 ++ (wsL_law_r6 ++ (wsL_law_r7 ++ (wsL_law_r8 ++ (wsL_law_r9 ++ (wsL_law_r10 ++ (wsL_law_r11 ++ (wsL_law_r12 ++ (wsL_law_r13 ++ (wsL_law_r14 ++ (wsL_law_r15 ++ (wsL_law_r16 ++ (wsL_law_r17 ++ (wsL_law_r18 ++ (wsL_law_r19 ++ (wsL_law_r20 ++ (wsL_law_r21 ++ (wsL_law_r22 ++ (wsL_law_r23 ++ (wsL_law_r24 ++ (wsL_law_r25 ++ (wsL_law_r26 ++ (wsL_law_r27 ++ (wsL_law_r28 ++ (wsL_law_r29 ++ wsL_law_r30))))))))))))))))))))))))))))) ++ wsX50 ++ wsX60 ++ wsX30 ++ wsX40 ++ wsX00 ++ wsX10 ++ wsX20 ++ ([] : List Cond)
set_option maxRecDepth 20000 in
theorem inJ6 : ∀ w ∈ wsJ60, w ∈ lw_tbl := by decide +kernel
theorem inJ9 : ∀ w ∈ wsJ90, w ∈ lw_tbl := by decide +kernel
abbrev vwCl : List vw_C := [(RX0, TX0, 5), (RX1, TX1, 14), (RX2, TX2, 2), (RX3, TX3, 4), (RX4, TX4, 2), (RX5, TX5, 4), (RX6, TX6, 4)]
end
section
theorem dX0_init_0 : decode cX0_init 0 = .ok (.aload_n 0, 1) := by decide +kernel
theorem dX0_init_1 : decode cX0_init 1 = .ok (.invokespecial 3, 3) := by decide +kernel
theorem dX0_init_4 : decode cX0_init 4 = .ok (.aload_n 0, 1) := by decide +kernel
theorem dX0_init_5 : decode cX0_init 5 = .ok (.bipush 16, 2) := by decide +kernel
theorem dX0_init_7 : decode cX0_init 7 = .ok (.newarray .int, 2) := by decide +kernel
theorem dX0_init_9 : decode cX0_init 9 = .ok (.putfield 9, 3) := by decide +kernel
theorem dX0_init_12 : decode cX0_init 12 = .ok (.aload_n 0, 1) := by decide +kernel
theorem dX0_init_13 : decode cX0_init 13 = .ok (.bipush 16, 2) := by decide +kernel
theorem dX0_init_15 : decode cX0_init 15 = .ok (.newarray .int, 2) := by decide +kernel
theorem dX0_init_17 : decode cX0_init 17 = .ok (.putfield 15, 3) := by decide +kernel
theorem dX0_init_20 : decode cX0_init 20 = .ok (.aload_n 0, 1) := by decide +kernel
theorem dX0_init_21 : decode cX0_init 21 = .ok (.bipush 16, 2) := by decide +kernel
theorem dX0_init_23 : decode cX0_init 23 = .ok (.newarray .int, 2) := by decide +kernel
theorem dX0_init_25 : decode cX0_init 25 = .ok (.putfield 18, 3) := by decide +kernel
theorem dX0_init_28 : decode cX0_init 28 = .ok (.aload_n 0, 1) := by decide +kernel
theorem dX0_init_29 : decode cX0_init 29 = .ok (.bipush 16, 2) := by decide +kernel
theorem dX0_init_31 : decode cX0_init 31 = .ok (.newarray .int, 2) := by decide +kernel
theorem dX0_init_33 : decode cX0_init 33 = .ok (.putfield 21, 3) := by decide +kernel
theorem dX0_init_36 : decode cX0_init 36 = .ok (.return_, 1) := by decide +kernel
theorem dX0_has_0 : decode cX0_has 0 = .ok (.iload_n 1, 1) := by decide +kernel
theorem dX0_has_1 : decode cX0_has 1 = .ok (.ifCond .lt 22, 3) := by decide +kernel
theorem dX0_has_4 : decode cX0_has 4 = .ok (.iload_n 1, 1) := by decide +kernel
theorem dX0_has_5 : decode cX0_has 5 = .ok (.bipush 16, 2) := by decide +kernel
theorem dX0_has_7 : decode cX0_has 7 = .ok (.if_icmp .ge 16, 3) := by decide +kernel
theorem dX0_has_10 : decode cX0_has 10 = .ok (.aload_n 0, 1) := by decide +kernel
theorem dX0_has_11 : decode cX0_has 11 = .ok (.getfield 18, 3) := by decide +kernel
theorem dX0_has_14 : decode cX0_has 14 = .ok (.iload_n 1, 1) := by decide +kernel
theorem dX0_has_15 : decode cX0_has 15 = .ok (.iaload, 1) := by decide +kernel
theorem dX0_has_16 : decode cX0_has 16 = .ok (.ifCond .eq 7, 3) := by decide +kernel
theorem dX0_has_19 : decode cX0_has 19 = .ok (.iconst 1, 1) := by decide +kernel
theorem dX0_has_20 : decode cX0_has 20 = .ok (.goto 4, 3) := by decide +kernel
theorem dX0_has_23 : decode cX0_has 23 = .ok (.iconst 0, 1) := by decide +kernel
theorem dX0_has_24 : decode cX0_has 24 = .ok (.ireturn, 1) := by decide +kernel
set_option maxRecDepth 20000 in
theorem ggX0_firstEndOf_X0_has : GoodIn wsX0_firstEndOf wsX0_has := goodIn_r _ [6, 7, 8, 9, 10, 11, 12] (by decide +kernel) (by decide +kernel)
set_option maxRecDepth 20000 in
theorem gX0_firstEndOf_X0_has : GoodIn wsX0_firstEndOf (wsV RX0 24 RX0 yX0_has wsX0_has) := goodIn_app (goodIn_of _ (by decide +kernel)) ggX0_firstEndOf_X0_has
theorem dX0_firstEndOf_0 : decode cX0_firstEndOf 0 = .ok (.aload_n 0, 1) := by decide +kernel
theorem dX0_firstEndOf_1 : decode cX0_firstEndOf 1 = .ok (.iload_n 1, 1) := by decide +kernel
theorem dX0_firstEndOf_2 : decode cX0_firstEndOf 2 = .ok (.invokevirtual 24, 3) := by decide +kernel
theorem dX0_firstEndOf_5 : decode cX0_firstEndOf 5 = .ok (.ifCond .eq 12, 3) := by decide +kernel
theorem dX0_firstEndOf_8 : decode cX0_firstEndOf 8 = .ok (.aload_n 0, 1) := by decide +kernel
theorem dX0_firstEndOf_9 : decode cX0_firstEndOf 9 = .ok (.getfield 9, 3) := by decide +kernel
theorem dX0_firstEndOf_12 : decode cX0_firstEndOf 12 = .ok (.iload_n 1, 1) := by decide +kernel
theorem dX0_firstEndOf_13 : decode cX0_firstEndOf 13 = .ok (.iaload, 1) := by decide +kernel
theorem dX0_firstEndOf_14 : decode cX0_firstEndOf 14 = .ok (.goto 4, 3) := by decide +kernel
theorem dX0_firstEndOf_17 : decode cX0_firstEndOf 17 = .ok (.iconst 0, 1) := by decide +kernel
theorem dX0_firstEndOf_18 : decode cX0_firstEndOf 18 = .ok (.ireturn, 1) := by decide +kernel
set_option maxRecDepth 20000 in
theorem ggX0_secondEndOf_X0_has : GoodIn wsX0_secondEndOf wsX0_has := goodIn_r _ [6, 7, 8, 9, 10, 11, 12] (by decide +kernel) (by decide +kernel)
set_option maxRecDepth 20000 in
theorem gX0_secondEndOf_X0_has : GoodIn wsX0_secondEndOf (wsV RX0 24 RX0 yX0_has wsX0_has) := goodIn_app (goodIn_of _ (by decide +kernel)) ggX0_secondEndOf_X0_has
theorem dX0_secondEndOf_0 : decode cX0_secondEndOf 0 = .ok (.aload_n 0, 1) := by decide +kernel
theorem dX0_secondEndOf_1 : decode cX0_secondEndOf 1 = .ok (.iload_n 1, 1) := by decide +kernel
theorem dX0_secondEndOf_2 : decode cX0_secondEndOf 2 = .ok (.invokevirtual 24, 3) := by decide +kernel
theorem dX0_secondEndOf_5 : decode cX0_secondEndOf 5 = .ok (.ifCond .eq 12, 3) := by decide +kernel
theorem dX0_secondEndOf_8 : decode cX0_secondEndOf 8 = .ok (.aload_n 0, 1) := by decide +kernel
theorem dX0_secondEndOf_9 : decode cX0_secondEndOf 9 = .ok (.getfield 15, 3) := by decide +kernel
theorem dX0_secondEndOf_12 : decode cX0_secondEndOf 12 = .ok (.iload_n 1, 1) := by decide +kernel
theorem dX0_secondEndOf_13 : decode cX0_secondEndOf 13 = .ok (.iaload, 1) := by decide +kernel
theorem dX0_secondEndOf_14 : decode cX0_secondEndOf 14 = .ok (.goto 4, 3) := by decide +kernel
theorem dX0_secondEndOf_17 : decode cX0_secondEndOf 17 = .ok (.iconst 0, 1) := by decide +kernel
theorem dX0_secondEndOf_18 : decode cX0_secondEndOf 18 = .ok (.ireturn, 1) := by decide +kernel
set_option maxRecDepth 20000 in
theorem ggX0_pathOf_X0_has : GoodIn wsX0_pathOf wsX0_has := goodIn_r _ [6, 1, 7, 8, 9, 10, 11] (by decide +kernel) (by decide +kernel)
set_option maxRecDepth 20000 in
theorem gX0_pathOf_X0_has : GoodIn wsX0_pathOf (wsV RX0 24 RX0 yX0_has wsX0_has) := goodIn_app (goodIn_of _ (by decide +kernel)) ggX0_pathOf_X0_has
theorem dX0_pathOf_0 : decode cX0_pathOf 0 = .ok (.aload_n 0, 1) := by decide +kernel
theorem dX0_pathOf_1 : decode cX0_pathOf 1 = .ok (.iload_n 1, 1) := by decide +kernel
theorem dX0_pathOf_2 : decode cX0_pathOf 2 = .ok (.invokevirtual 24, 3) := by decide +kernel
theorem dX0_pathOf_5 : decode cX0_pathOf 5 = .ok (.ifCond .eq 12, 3) := by decide +kernel
theorem dX0_pathOf_8 : decode cX0_pathOf 8 = .ok (.aload_n 0, 1) := by decide +kernel
theorem dX0_pathOf_9 : decode cX0_pathOf 9 = .ok (.getfield 18, 3) := by decide +kernel
theorem dX0_pathOf_12 : decode cX0_pathOf 12 = .ok (.iload_n 1, 1) := by decide +kernel
theorem dX0_pathOf_13 : decode cX0_pathOf 13 = .ok (.iaload, 1) := by decide +kernel
theorem dX0_pathOf_14 : decode cX0_pathOf 14 = .ok (.goto 4, 3) := by decide +kernel
theorem dX0_pathOf_17 : decode cX0_pathOf 17 = .ok (.iconst 0, 1) := by decide +kernel
theorem dX0_pathOf_18 : decode cX0_pathOf 18 = .ok (.ireturn, 1) := by decide +kernel
set_option maxRecDepth 20000 in
theorem ggX0_isExtra_X5_contains : GoodIn wsX0_isExtra wsX5_contains := goodIn_r _ [4] (by decide +kernel) (by decide +kernel)
set_option maxRecDepth 20000 in
theorem gX0_isExtra_X5_contains_n32 : GoodIn wsX0_isExtra (wsX5_contains) := ggX0_isExtra_X5_contains
theorem dX0_isExtra_0 : decode cX0_isExtra 0 = .ok (.aload_n 0, 1) := by decide +kernel
theorem dX0_isExtra_1 : decode cX0_isExtra 1 = .ok (.getfield 28, 3) := by decide +kernel
theorem dX0_isExtra_4 : decode cX0_isExtra 4 = .ok (.iload_n 1, 1) := by decide +kernel
theorem dX0_isExtra_5 : decode cX0_isExtra 5 = .ok (.invokestatic 32, 3) := by decide +kernel
theorem dX0_isExtra_8 : decode cX0_isExtra 8 = .ok (.ireturn, 1) := by decide +kernel
set_option maxRecDepth 20000 in
theorem ggX0_count_X0_has : GoodIn wsX0_count wsX0_has := goodIn_r _ [5, 6, 7, 8, 9, 10, 11] (by decide +kernel) (by decide +kernel)
set_option maxRecDepth 20000 in
theorem gX0_count_X0_has : GoodIn wsX0_count (wsV RX0 24 RX0 yX0_has wsX0_has) := goodIn_app (goodIn_of _ (by decide +kernel)) ggX0_count_X0_has
theorem dX0_count_0 : decode cX0_count 0 = .ok (.iconst 0, 1) := by decide +kernel
theorem dX0_count_1 : decode cX0_count 1 = .ok (.istore_n 1, 1) := by decide +kernel
theorem dX0_count_2 : decode cX0_count 2 = .ok (.iconst 0, 1) := by decide +kernel
theorem dX0_count_3 : decode cX0_count 3 = .ok (.istore_n 2, 1) := by decide +kernel
theorem dX0_count_4 : decode cX0_count 4 = .ok (.iload_n 2, 1) := by decide +kernel
theorem dX0_count_5 : decode cX0_count 5 = .ok (.bipush 16, 2) := by decide +kernel
theorem dX0_count_7 : decode cX0_count 7 = .ok (.if_icmp .ge 20, 3) := by decide +kernel
theorem dX0_count_10 : decode cX0_count 10 = .ok (.aload_n 0, 1) := by decide +kernel
theorem dX0_count_11 : decode cX0_count 11 = .ok (.iload_n 2, 1) := by decide +kernel
theorem dX0_count_12 : decode cX0_count 12 = .ok (.invokevirtual 24, 3) := by decide +kernel
theorem dX0_count_15 : decode cX0_count 15 = .ok (.ifCond .eq 6, 3) := by decide +kernel
theorem dX0_count_18 : decode cX0_count 18 = .ok (.iinc 1 1, 3) := by decide +kernel
theorem dX0_count_21 : decode cX0_count 21 = .ok (.iinc 2 1, 3) := by decide +kernel
theorem dX0_count_24 : decode cX0_count 24 = .ok (.goto (-20), 3) := by decide +kernel
theorem dX0_count_27 : decode cX0_count 27 = .ok (.iload_n 1, 1) := by decide +kernel
theorem dX0_count_28 : decode cX0_count 28 = .ok (.ireturn, 1) := by decide +kernel
set_option maxRecDepth 20000 in
theorem ggX0_smallestFreeNumber_X0_has : GoodIn wsX0_smallestFreeNumber wsX0_has := goodIn_r _ [5, 6, 7, 8, 9, 10, 11] (by decide +kernel) (by decide +kernel)
set_option maxRecDepth 20000 in
theorem gX0_smallestFreeNumber_X0_has : GoodIn wsX0_smallestFreeNumber (wsV RX0 24 RX0 yX0_has wsX0_has) := goodIn_app (goodIn_of _ (by decide +kernel)) ggX0_smallestFreeNumber_X0_has
theorem dX0_smallestFreeNumber_0 : decode cX0_smallestFreeNumber 0 = .ok (.iconst 0, 1) := by decide +kernel
theorem dX0_smallestFreeNumber_1 : decode cX0_smallestFreeNumber 1 = .ok (.istore_n 1, 1) := by decide +kernel
theorem dX0_smallestFreeNumber_2 : decode cX0_smallestFreeNumber 2 = .ok (.iload_n 1, 1) := by decide +kernel
theorem dX0_smallestFreeNumber_3 : decode cX0_smallestFreeNumber 3 = .ok (.bipush 16, 2) := by decide +kernel
theorem dX0_smallestFreeNumber_5 : decode cX0_smallestFreeNumber 5 = .ok (.if_icmp .ge 19, 3) := by decide +kernel
theorem dX0_smallestFreeNumber_8 : decode cX0_smallestFreeNumber 8 = .ok (.aload_n 0, 1) := by decide +kernel
theorem dX0_smallestFreeNumber_9 : decode cX0_smallestFreeNumber 9 = .ok (.iload_n 1, 1) := by decide +kernel
theorem dX0_smallestFreeNumber_10 : decode cX0_smallestFreeNumber 10 = .ok (.invokevirtual 24, 3) := by decide +kernel
theorem dX0_smallestFreeNumber_13 : decode cX0_smallestFreeNumber 13 = .ok (.ifCond .ne 5, 3) := by decide +kernel
theorem dX0_smallestFreeNumber_16 : decode cX0_smallestFreeNumber 16 = .ok (.iload_n 1, 1) := by decide +kernel
theorem dX0_smallestFreeNumber_17 : decode cX0_smallestFreeNumber 17 = .ok (.ireturn, 1) := by decide +kernel
theorem dX0_smallestFreeNumber_18 : decode cX0_smallestFreeNumber 18 = .ok (.iinc 1 1, 3) := by decide +kernel
theorem dX0_smallestFreeNumber_21 : decode cX0_smallestFreeNumber 21 = .ok (.goto (-19), 3) := by decide +kernel
theorem dX0_smallestFreeNumber_24 : decode cX0_smallestFreeNumber 24 = .ok (.bipush (-9), 2) := by decide +kernel
theorem dX0_smallestFreeNumber_26 : decode cX0_smallestFreeNumber 26 = .ok (.ireturn, 1) := by decide +kernel
theorem dX0_crossing_0 : decode cX0_crossing 0 = .ok (.iconst 0, 1) := by decide +kernel
theorem dX0_crossing_1 : decode cX0_crossing 1 = .ok (.istore_n 2, 1) := by decide +kernel
theorem dX0_crossing_2 : decode cX0_crossing 2 = .ok (.iconst 0, 1) := by decide +kernel
theorem dX0_crossing_3 : decode cX0_crossing 3 = .ok (.istore_n 3, 1) := by decide +kernel
theorem dX0_crossing_4 : decode cX0_crossing 4 = .ok (.iload_n 3, 1) := by decide +kernel
theorem dX0_crossing_5 : decode cX0_crossing 5 = .ok (.bipush 16, 2) := by decide +kernel
theorem dX0_crossing_7 : decode cX0_crossing 7 = .ok (.if_icmp .ge 26, 3) := by decide +kernel
theorem dX0_crossing_10 : decode cX0_crossing 10 = .ok (.aload_n 0, 1) := by decide +kernel
theorem dX0_crossing_11 : decode cX0_crossing 11 = .ok (.getfield 18, 3) := by decide +kernel
theorem dX0_crossing_14 : decode cX0_crossing 14 = .ok (.iload_n 3, 1) := by decide +kernel
theorem dX0_crossing_15 : decode cX0_crossing 15 = .ok (.iaload, 1) := by decide +kernel
theorem dX0_crossing_16 : decode cX0_crossing 16 = .ok (.iload_n 1, 1) := by decide +kernel
theorem dX0_crossing_17 : decode cX0_crossing 17 = .ok (.iand, 1) := by decide +kernel
theorem dX0_crossing_18 : decode cX0_crossing 18 = .ok (.ifCond .eq 9, 3) := by decide +kernel
theorem dX0_crossing_21 : decode cX0_crossing 21 = .ok (.iload_n 2, 1) := by decide +kernel
theorem dX0_crossing_22 : decode cX0_crossing 22 = .ok (.iconst 1, 1) := by decide +kernel
theorem dX0_crossing_23 : decode cX0_crossing 23 = .ok (.iload_n 3, 1) := by decide +kernel
theorem dX0_crossing_24 : decode cX0_crossing 24 = .ok (.ishl, 1) := by decide +kernel
theorem dX0_crossing_25 : decode cX0_crossing 25 = .ok (.ior, 1) := by decide +kernel
theorem dX0_crossing_26 : decode cX0_crossing 26 = .ok (.istore_n 2, 1) := by decide +kernel
theorem dX0_crossing_27 : decode cX0_crossing 27 = .ok (.iinc 3 1, 3) := by decide +kernel
theorem dX0_crossing_30 : decode cX0_crossing 30 = .ok (.goto (-26), 3) := by decide +kernel
theorem dX0_crossing_33 : decode cX0_crossing 33 = .ok (.iload_n 2, 1) := by decide +kernel
theorem dX0_crossing_34 : decode cX0_crossing 34 = .ok (.ireturn, 1) := by decide +kernel
set_option maxRecDepth 20000 in
theorem ggX0_slotsUsed_X0_isExtra : GoodIn wsX0_slotsUsed wsX0_isExtra := goodIn_r _ [7, 8, 9, 10, 11, 12, 13, 14, 15, 16] (by decide +kernel) (by decide +kernel)
set_option maxRecDepth 20000 in
theorem gX0_slotsUsed_X0_isExtra : GoodIn wsX0_slotsUsed (wsV RX0 36 RX0 yX0_isExtra wsX0_isExtra) := goodIn_app (goodIn_of _ (by decide +kernel)) ggX0_slotsUsed_X0_isExtra
theorem dX0_slotsUsed_0 : decode cX0_slotsUsed 0 = .ok (.iconst 0, 1) := by decide +kernel
theorem dX0_slotsUsed_1 : decode cX0_slotsUsed 1 = .ok (.istore_n 3, 1) := by decide +kernel
theorem dX0_slotsUsed_2 : decode cX0_slotsUsed 2 = .ok (.iconst 0, 1) := by decide +kernel
theorem dX0_slotsUsed_3 : decode cX0_slotsUsed 3 = .ok (.istore 4, 2) := by decide +kernel
theorem dX0_slotsUsed_5 : decode cX0_slotsUsed 5 = .ok (.iload 4, 2) := by decide +kernel
theorem dX0_slotsUsed_7 : decode cX0_slotsUsed 7 = .ok (.bipush 16, 2) := by decide +kernel
theorem dX0_slotsUsed_9 : decode cX0_slotsUsed 9 = .ok (.if_icmp .ge 43, 3) := by decide +kernel
theorem dX0_slotsUsed_12 : decode cX0_slotsUsed 12 = .ok (.aload_n 0, 1) := by decide +kernel
theorem dX0_slotsUsed_13 : decode cX0_slotsUsed 13 = .ok (.getfield 18, 3) := by decide +kernel
theorem dX0_slotsUsed_16 : decode cX0_slotsUsed 16 = .ok (.iload 4, 2) := by decide +kernel
theorem dX0_slotsUsed_18 : decode cX0_slotsUsed 18 = .ok (.iaload, 1) := by decide +kernel
theorem dX0_slotsUsed_19 : decode cX0_slotsUsed 19 = .ok (.iload_n 1, 1) := by decide +kernel
theorem dX0_slotsUsed_20 : decode cX0_slotsUsed 20 = .ok (.iand, 1) := by decide +kernel
theorem dX0_slotsUsed_21 : decode cX0_slotsUsed 21 = .ok (.ifCond .eq 25, 3) := by decide +kernel
theorem dX0_slotsUsed_24 : decode cX0_slotsUsed 24 = .ok (.aload_n 0, 1) := by decide +kernel
theorem dX0_slotsUsed_25 : decode cX0_slotsUsed 25 = .ok (.iload 4, 2) := by decide +kernel
theorem dX0_slotsUsed_27 : decode cX0_slotsUsed 27 = .ok (.invokevirtual 36, 3) := by decide +kernel
theorem dX0_slotsUsed_30 : decode cX0_slotsUsed 30 = .ok (.iload_n 2, 1) := by decide +kernel
theorem dX0_slotsUsed_31 : decode cX0_slotsUsed 31 = .ok (.if_icmp .ne 15, 3) := by decide +kernel
theorem dX0_slotsUsed_34 : decode cX0_slotsUsed 34 = .ok (.iload_n 3, 1) := by decide +kernel
theorem dX0_slotsUsed_35 : decode cX0_slotsUsed 35 = .ok (.iconst 1, 1) := by decide +kernel
theorem dX0_slotsUsed_36 : decode cX0_slotsUsed 36 = .ok (.aload_n 0, 1) := by decide +kernel
theorem dX0_slotsUsed_37 : decode cX0_slotsUsed 37 = .ok (.getfield 21, 3) := by decide +kernel
theorem dX0_slotsUsed_40 : decode cX0_slotsUsed 40 = .ok (.iload 4, 2) := by decide +kernel
theorem dX0_slotsUsed_42 : decode cX0_slotsUsed 42 = .ok (.iaload, 1) := by decide +kernel
theorem dX0_slotsUsed_43 : decode cX0_slotsUsed 43 = .ok (.ishl, 1) := by decide +kernel
theorem dX0_slotsUsed_44 : decode cX0_slotsUsed 44 = .ok (.ior, 1) := by decide +kernel
theorem dX0_slotsUsed_45 : decode cX0_slotsUsed 45 = .ok (.istore_n 3, 1) := by decide +kernel
theorem dX0_slotsUsed_46 : decode cX0_slotsUsed 46 = .ok (.iinc 4 1, 3) := by decide +kernel
theorem dX0_slotsUsed_49 : decode cX0_slotsUsed 49 = .ok (.goto (-44), 3) := by decide +kernel
theorem dX0_slotsUsed_52 : decode cX0_slotsUsed 52 = .ok (.iload_n 3, 1) := by decide +kernel
theorem dX0_slotsUsed_53 : decode cX0_slotsUsed 53 = .ok (.ireturn, 1) := by decide +kernel
theorem dX0_putEnds_0 : decode cX0_putEnds 0 = .ok (.iload_n 1, 1) := by decide +kernel
theorem dX0_putEnds_1 : decode cX0_putEnds 1 = .ok (.ifCond .lt 23, 3) := by decide +kernel
theorem dX0_putEnds_4 : decode cX0_putEnds 4 = .ok (.iload_n 1, 1) := by decide +kernel
theorem dX0_putEnds_5 : decode cX0_putEnds 5 = .ok (.bipush 16, 2) := by decide +kernel
theorem dX0_putEnds_7 : decode cX0_putEnds 7 = .ok (.if_icmp .ge 17, 3) := by decide +kernel
theorem dX0_putEnds_10 : decode cX0_putEnds 10 = .ok (.aload_n 0, 1) := by decide +kernel
theorem dX0_putEnds_11 : decode cX0_putEnds 11 = .ok (.getfield 9, 3) := by decide +kernel
theorem dX0_putEnds_14 : decode cX0_putEnds 14 = .ok (.iload_n 1, 1) := by decide +kernel
theorem dX0_putEnds_15 : decode cX0_putEnds 15 = .ok (.iload_n 2, 1) := by decide +kernel
theorem dX0_putEnds_16 : decode cX0_putEnds 16 = .ok (.iastore, 1) := by decide +kernel
theorem dX0_putEnds_17 : decode cX0_putEnds 17 = .ok (.aload_n 0, 1) := by decide +kernel
theorem dX0_putEnds_18 : decode cX0_putEnds 18 = .ok (.getfield 15, 3) := by decide +kernel
theorem dX0_putEnds_21 : decode cX0_putEnds 21 = .ok (.iload_n 1, 1) := by decide +kernel
theorem dX0_putEnds_22 : decode cX0_putEnds 22 = .ok (.iload_n 3, 1) := by decide +kernel
theorem dX0_putEnds_23 : decode cX0_putEnds 23 = .ok (.iastore, 1) := by decide +kernel
theorem dX0_putEnds_24 : decode cX0_putEnds 24 = .ok (.return_, 1) := by decide +kernel
set_option maxRecDepth 20000 in
theorem ggX0_putRoute_X5_marked : GoodIn wsX0_putRoute wsX5_marked := goodIn_r _ [6] (by decide +kernel) (by decide +kernel)
set_option maxRecDepth 20000 in
theorem gX0_putRoute_X5_marked_n39 : GoodIn wsX0_putRoute (wsX5_marked) := ggX0_putRoute_X5_marked
theorem dX0_putRoute_0 : decode cX0_putRoute 0 = .ok (.iload_n 1, 1) := by decide +kernel
theorem dX0_putRoute_1 : decode cX0_putRoute 1 = .ok (.ifCond .lt 37, 3) := by decide +kernel
theorem dX0_putRoute_4 : decode cX0_putRoute 4 = .ok (.iload_n 1, 1) := by decide +kernel
theorem dX0_putRoute_5 : decode cX0_putRoute 5 = .ok (.bipush 16, 2) := by decide +kernel
theorem dX0_putRoute_7 : decode cX0_putRoute 7 = .ok (.if_icmp .ge 31, 3) := by decide +kernel
theorem dX0_putRoute_10 : decode cX0_putRoute 10 = .ok (.aload_n 0, 1) := by decide +kernel
theorem dX0_putRoute_11 : decode cX0_putRoute 11 = .ok (.getfield 18, 3) := by decide +kernel
theorem dX0_putRoute_14 : decode cX0_putRoute 14 = .ok (.iload_n 1, 1) := by decide +kernel
theorem dX0_putRoute_15 : decode cX0_putRoute 15 = .ok (.iload_n 2, 1) := by decide +kernel
theorem dX0_putRoute_16 : decode cX0_putRoute 16 = .ok (.iastore, 1) := by decide +kernel
theorem dX0_putRoute_17 : decode cX0_putRoute 17 = .ok (.aload_n 0, 1) := by decide +kernel
theorem dX0_putRoute_18 : decode cX0_putRoute 18 = .ok (.getfield 21, 3) := by decide +kernel
theorem dX0_putRoute_21 : decode cX0_putRoute 21 = .ok (.iload_n 1, 1) := by decide +kernel
theorem dX0_putRoute_22 : decode cX0_putRoute 22 = .ok (.iload_n 3, 1) := by decide +kernel
theorem dX0_putRoute_23 : decode cX0_putRoute 23 = .ok (.iastore, 1) := by decide +kernel
theorem dX0_putRoute_24 : decode cX0_putRoute 24 = .ok (.aload_n 0, 1) := by decide +kernel
theorem dX0_putRoute_25 : decode cX0_putRoute 25 = .ok (.aload_n 0, 1) := by decide +kernel
theorem dX0_putRoute_26 : decode cX0_putRoute 26 = .ok (.getfield 28, 3) := by decide +kernel
theorem dX0_putRoute_29 : decode cX0_putRoute 29 = .ok (.iload_n 1, 1) := by decide +kernel
theorem dX0_putRoute_30 : decode cX0_putRoute 30 = .ok (.iload 4, 2) := by decide +kernel
theorem dX0_putRoute_32 : decode cX0_putRoute 32 = .ok (.invokestatic 39, 3) := by decide +kernel
theorem dX0_putRoute_35 : decode cX0_putRoute 35 = .ok (.putfield 28, 3) := by decide +kernel
theorem dX0_putRoute_38 : decode cX0_putRoute 38 = .ok (.return_, 1) := by decide +kernel
set_option maxRecDepth 20000 in
theorem ggX0_takeAway_X0_putRoute : GoodIn wsX0_takeAway wsX0_putRoute := goodIn_r _ [5, 6, 7, 8, 9, 10, 11, 12, 13, 14, 15, 16] (by decide +kernel) (by decide +kernel)
set_option maxRecDepth 20000 in
theorem gX0_takeAway_X0_putRoute : GoodIn wsX0_takeAway (wsV RX0 43 RX0 yX0_putRoute wsX0_putRoute) := goodIn_app (goodIn_of _ (by decide +kernel)) ggX0_takeAway_X0_putRoute
theorem dX0_takeAway_0 : decode cX0_takeAway 0 = .ok (.aload_n 0, 1) := by decide +kernel
theorem dX0_takeAway_1 : decode cX0_takeAway 1 = .ok (.iload_n 1, 1) := by decide +kernel
theorem dX0_takeAway_2 : decode cX0_takeAway 2 = .ok (.iconst 0, 1) := by decide +kernel
theorem dX0_takeAway_3 : decode cX0_takeAway 3 = .ok (.iconst 0, 1) := by decide +kernel
theorem dX0_takeAway_4 : decode cX0_takeAway 4 = .ok (.iconst 0, 1) := by decide +kernel
theorem dX0_takeAway_5 : decode cX0_takeAway 5 = .ok (.invokevirtual 43, 3) := by decide +kernel
theorem dX0_takeAway_8 : decode cX0_takeAway 8 = .ok (.return_, 1) := by decide +kernel
set_option maxRecDepth 20000 in
theorem ggX0_takeAllAway_X5_clearRow : GoodIn wsX0_takeAllAway wsX5_clearRow := goodIn_r _ [5] (by decide +kernel) (by decide +kernel)
set_option maxRecDepth 20000 in
theorem gX0_takeAllAway_X5_clearRow_n47 : GoodIn wsX0_takeAllAway (wsX5_clearRow) := ggX0_takeAllAway_X5_clearRow
theorem dX0_takeAllAway_0 : decode cX0_takeAllAway 0 = .ok (.aload_n 0, 1) := by decide +kernel
theorem dX0_takeAllAway_1 : decode cX0_takeAllAway 1 = .ok (.getfield 18, 3) := by decide +kernel
theorem dX0_takeAllAway_4 : decode cX0_takeAllAway 4 = .ok (.invokestatic 47, 3) := by decide +kernel
theorem dX0_takeAllAway_7 : decode cX0_takeAllAway 7 = .ok (.aload_n 0, 1) := by decide +kernel
theorem dX0_takeAllAway_8 : decode cX0_takeAllAway 8 = .ok (.iconst 0, 1) := by decide +kernel
theorem dX0_takeAllAway_9 : decode cX0_takeAllAway 9 = .ok (.putfield 28, 3) := by decide +kernel
theorem dX0_takeAllAway_12 : decode cX0_takeAllAway 12 = .ok (.return_, 1) := by decide +kernel
set_option maxRecDepth 20000 in
theorem ggX0_copyFrom_X5_copyRow : GoodIn wsX0_copyFrom wsX5_copyRow := goodIn_r _ [8] (by decide +kernel) (by decide +kernel)
set_option maxRecDepth 20000 in
theorem gX0_copyFrom_X5_copyRow_n51 : GoodIn wsX0_copyFrom (wsX5_copyRow) := ggX0_copyFrom_X5_copyRow
theorem dX0_copyFrom_0 : decode cX0_copyFrom 0 = .ok (.aload_n 1, 1) := by decide +kernel
theorem dX0_copyFrom_1 : decode cX0_copyFrom 1 = .ok (.getfield 9, 3) := by decide +kernel
theorem dX0_copyFrom_4 : decode cX0_copyFrom 4 = .ok (.aload_n 0, 1) := by decide +kernel
theorem dX0_copyFrom_5 : decode cX0_copyFrom 5 = .ok (.getfield 9, 3) := by decide +kernel
theorem dX0_copyFrom_8 : decode cX0_copyFrom 8 = .ok (.invokestatic 51, 3) := by decide +kernel
theorem dX0_copyFrom_11 : decode cX0_copyFrom 11 = .ok (.aload_n 1, 1) := by decide +kernel
theorem dX0_copyFrom_12 : decode cX0_copyFrom 12 = .ok (.getfield 15, 3) := by decide +kernel
theorem dX0_copyFrom_15 : decode cX0_copyFrom 15 = .ok (.aload_n 0, 1) := by decide +kernel
theorem dX0_copyFrom_16 : decode cX0_copyFrom 16 = .ok (.getfield 15, 3) := by decide +kernel
theorem dX0_copyFrom_19 : decode cX0_copyFrom 19 = .ok (.invokestatic 51, 3) := by decide +kernel
theorem dX0_copyFrom_22 : decode cX0_copyFrom 22 = .ok (.aload_n 1, 1) := by decide +kernel
theorem dX0_copyFrom_23 : decode cX0_copyFrom 23 = .ok (.getfield 18, 3) := by decide +kernel
theorem dX0_copyFrom_26 : decode cX0_copyFrom 26 = .ok (.aload_n 0, 1) := by decide +kernel
theorem dX0_copyFrom_27 : decode cX0_copyFrom 27 = .ok (.getfield 18, 3) := by decide +kernel
theorem dX0_copyFrom_30 : decode cX0_copyFrom 30 = .ok (.invokestatic 51, 3) := by decide +kernel
theorem dX0_copyFrom_33 : decode cX0_copyFrom 33 = .ok (.aload_n 1, 1) := by decide +kernel
theorem dX0_copyFrom_34 : decode cX0_copyFrom 34 = .ok (.getfield 21, 3) := by decide +kernel
theorem dX0_copyFrom_37 : decode cX0_copyFrom 37 = .ok (.aload_n 0, 1) := by decide +kernel
theorem dX0_copyFrom_38 : decode cX0_copyFrom 38 = .ok (.getfield 21, 3) := by decide +kernel
theorem dX0_copyFrom_41 : decode cX0_copyFrom 41 = .ok (.invokestatic 51, 3) := by decide +kernel
theorem dX0_copyFrom_44 : decode cX0_copyFrom 44 = .ok (.aload_n 0, 1) := by decide +kernel
theorem dX0_copyFrom_45 : decode cX0_copyFrom 45 = .ok (.aload_n 1, 1) := by decide +kernel
theorem dX0_copyFrom_46 : decode cX0_copyFrom 46 = .ok (.getfield 28, 3) := by decide +kernel
theorem dX0_copyFrom_49 : decode cX0_copyFrom 49 = .ok (.putfield 28, 3) := by decide +kernel
theorem dX0_copyFrom_52 : decode cX0_copyFrom 52 = .ok (.return_, 1) := by decide +kernel
end
section
set_option maxRecDepth 20000 in
theorem ggX1_init_X2_init : GoodIn wsX1_init wsX2_init := goodIn_r _ [16, 17, 2, 3, 18, 19, 20, 21] (by decide +kernel) (by decide +kernel)
set_option maxRecDepth 20000 in
theorem gX1_init_X2_init_n11 : GoodIn wsX1_init (wsX2_init) := ggX1_init_X2_init
theorem dX1_init_0 : decode cX1_init 0 = .ok (.aload_n 0, 1) := by decide +kernel
theorem dX1_init_1 : decode cX1_init 1 = .ok (.invokespecial 3, 3) := by decide +kernel
theorem dX1_init_4 : decode cX1_init 4 = .ok (.aload_n 0, 1) := by decide +kernel
theorem dX1_init_5 : decode cX1_init 5 = .ok (.new 9, 3) := by decide +kernel
theorem dX1_init_8 : decode cX1_init 8 = .ok (.dup, 1) := by decide +kernel
theorem dX1_init_9 : decode cX1_init 9 = .ok (.invokespecial 11, 3) := by decide +kernel
theorem dX1_init_12 : decode cX1_init 12 = .ok (.putfield 12, 3) := by decide +kernel
theorem dX1_init_15 : decode cX1_init 15 = .ok (.aload_n 0, 1) := by decide +kernel
theorem dX1_init_16 : decode cX1_init 16 = .ok (.bipush 8, 2) := by decide +kernel
theorem dX1_init_18 : decode cX1_init 18 = .ok (.newarray .int, 2) := by decide +kernel
theorem dX1_init_20 : decode cX1_init 20 = .ok (.putfield 18, 3) := by decide +kernel
theorem dX1_init_23 : decode cX1_init 23 = .ok (.aload_n 0, 1) := by decide +kernel
theorem dX1_init_24 : decode cX1_init 24 = .ok (.bipush 8, 2) := by decide +kernel
theorem dX1_init_26 : decode cX1_init 26 = .ok (.newarray .int, 2) := by decide +kernel
theorem dX1_init_28 : decode cX1_init 28 = .ok (.putfield 22, 3) := by decide +kernel
theorem dX1_init_31 : decode cX1_init 31 = .ok (.aload_n 0, 1) := by decide +kernel
theorem dX1_init_32 : decode cX1_init 32 = .ok (.bipush 8, 2) := by decide +kernel
theorem dX1_init_34 : decode cX1_init 34 = .ok (.newarray .int, 2) := by decide +kernel
theorem dX1_init_36 : decode cX1_init 36 = .ok (.putfield 25, 3) := by decide +kernel
theorem dX1_init_39 : decode cX1_init 39 = .ok (.aload_n 0, 1) := by decide +kernel
theorem dX1_init_40 : decode cX1_init 40 = .ok (.iconst 5, 1) := by decide +kernel
theorem dX1_init_41 : decode cX1_init 41 = .ok (.putfield 28, 3) := by decide +kernel
theorem dX1_init_44 : decode cX1_init 44 = .ok (.aload_n 0, 1) := by decide +kernel
theorem dX1_init_45 : decode cX1_init 45 = .ok (.bipush 8, 2) := by decide +kernel
theorem dX1_init_47 : decode cX1_init 47 = .ok (.newarray .int, 2) := by decide +kernel
theorem dX1_init_49 : decode cX1_init 49 = .ok (.putfield 32, 3) := by decide +kernel
theorem dX1_init_52 : decode cX1_init 52 = .ok (.aload_n 0, 1) := by decide +kernel
theorem dX1_init_53 : decode cX1_init 53 = .ok (.bipush 8, 2) := by decide +kernel
theorem dX1_init_55 : decode cX1_init 55 = .ok (.newarray .int, 2) := by decide +kernel
theorem dX1_init_57 : decode cX1_init 57 = .ok (.putfield 35, 3) := by decide +kernel
theorem dX1_init_60 : decode cX1_init 60 = .ok (.return_, 1) := by decide +kernel
set_option maxRecDepth 20000 in
theorem ggX1_replaceCommand_X2_hasSpan : GoodIn wsX1_replaceCommand wsX2_hasSpan := goodIn_r _ [7, 8, 23, 24] (by decide +kernel) (by decide +kernel)
set_option maxRecDepth 20000 in
theorem gX1_replaceCommand_X2_hasSpan : GoodIn wsX1_replaceCommand (wsV RX1 38 RX2 yX2_hasSpan wsX2_hasSpan) := goodIn_app (goodIn_of _ (by decide +kernel)) ggX1_replaceCommand_X2_hasSpan
theorem dX1_replaceCommand_0 : decode cX1_replaceCommand 0 = .ok (.aload_n 0, 1) := by decide +kernel
theorem dX1_replaceCommand_1 : decode cX1_replaceCommand 1 = .ok (.getfield 12, 3) := by decide +kernel
theorem dX1_replaceCommand_4 : decode cX1_replaceCommand 4 = .ok (.iload_n 1, 1) := by decide +kernel
theorem dX1_replaceCommand_5 : decode cX1_replaceCommand 5 = .ok (.invokevirtual 38, 3) := by decide +kernel
theorem dX1_replaceCommand_8 : decode cX1_replaceCommand 8 = .ok (.ifCond .ne 6, 3) := by decide +kernel
theorem dX1_replaceCommand_11 : decode cX1_replaceCommand 11 = .ok (.bipush (-2), 2) := by decide +kernel
theorem dX1_replaceCommand_13 : decode cX1_replaceCommand 13 = .ok (.ireturn, 1) := by decide +kernel
theorem dX1_replaceCommand_14 : decode cX1_replaceCommand 14 = .ok (.aload_n 0, 1) := by decide +kernel
theorem dX1_replaceCommand_15 : decode cX1_replaceCommand 15 = .ok (.getfield 18, 3) := by decide +kernel
theorem dX1_replaceCommand_18 : decode cX1_replaceCommand 18 = .ok (.iload_n 1, 1) := by decide +kernel
theorem dX1_replaceCommand_19 : decode cX1_replaceCommand 19 = .ok (.iaload, 1) := by decide +kernel
theorem dX1_replaceCommand_20 : decode cX1_replaceCommand 20 = .ok (.istore_n 3, 1) := by decide +kernel
theorem dX1_replaceCommand_21 : decode cX1_replaceCommand 21 = .ok (.aload_n 0, 1) := by decide +kernel
theorem dX1_replaceCommand_22 : decode cX1_replaceCommand 22 = .ok (.getfield 18, 3) := by decide +kernel
theorem dX1_replaceCommand_25 : decode cX1_replaceCommand 25 = .ok (.iload_n 1, 1) := by decide +kernel
theorem dX1_replaceCommand_26 : decode cX1_replaceCommand 26 = .ok (.iload_n 2, 1) := by decide +kernel
theorem dX1_replaceCommand_27 : decode cX1_replaceCommand 27 = .ok (.iastore, 1) := by decide +kernel
theorem dX1_replaceCommand_28 : decode cX1_replaceCommand 28 = .ok (.iload_n 3, 1) := by decide +kernel
theorem dX1_replaceCommand_29 : decode cX1_replaceCommand 29 = .ok (.ireturn, 1) := by decide +kernel
set_option maxRecDepth 20000 in
theorem ggX1_timerAt_X2_hasSpan : GoodIn wsX1_timerAt wsX2_hasSpan := goodIn_r _ [7, 8, 23, 24] (by decide +kernel) (by decide +kernel)
set_option maxRecDepth 20000 in
theorem gX1_timerAt_X2_hasSpan : GoodIn wsX1_timerAt (wsV RX1 38 RX2 yX2_hasSpan wsX2_hasSpan) := goodIn_app (goodIn_of _ (by decide +kernel)) ggX1_timerAt_X2_hasSpan
theorem dX1_timerAt_0 : decode cX1_timerAt 0 = .ok (.aload_n 0, 1) := by decide +kernel
theorem dX1_timerAt_1 : decode cX1_timerAt 1 = .ok (.getfield 12, 3) := by decide +kernel
theorem dX1_timerAt_4 : decode cX1_timerAt 4 = .ok (.iload_n 1, 1) := by decide +kernel
theorem dX1_timerAt_5 : decode cX1_timerAt 5 = .ok (.invokevirtual 38, 3) := by decide +kernel
theorem dX1_timerAt_8 : decode cX1_timerAt 8 = .ok (.ifCond .eq 12, 3) := by decide +kernel
theorem dX1_timerAt_11 : decode cX1_timerAt 11 = .ok (.aload_n 0, 1) := by decide +kernel
theorem dX1_timerAt_12 : decode cX1_timerAt 12 = .ok (.getfield 22, 3) := by decide +kernel
theorem dX1_timerAt_15 : decode cX1_timerAt 15 = .ok (.iload_n 1, 1) := by decide +kernel
theorem dX1_timerAt_16 : decode cX1_timerAt 16 = .ok (.iaload, 1) := by decide +kernel
theorem dX1_timerAt_17 : decode cX1_timerAt 17 = .ok (.goto 4, 3) := by decide +kernel
theorem dX1_timerAt_20 : decode cX1_timerAt 20 = .ok (.iconst 0, 1) := by decide +kernel
theorem dX1_timerAt_21 : decode cX1_timerAt 21 = .ok (.ireturn, 1) := by decide +kernel
set_option maxRecDepth 20000 in
theorem ggX1_segmentOf_X2_hasNode : GoodIn wsX1_segmentOf wsX2_hasNode := goodIn_r _ [7, 8, 23, 24] (by decide +kernel) (by decide +kernel)
set_option maxRecDepth 20000 in
theorem gX1_segmentOf_X2_hasNode : GoodIn wsX1_segmentOf (wsV RX1 42 RX2 yX2_hasNode wsX2_hasNode) := goodIn_app (goodIn_of _ (by decide +kernel)) ggX1_segmentOf_X2_hasNode
theorem dX1_segmentOf_0 : decode cX1_segmentOf 0 = .ok (.aload_n 0, 1) := by decide +kernel
theorem dX1_segmentOf_1 : decode cX1_segmentOf 1 = .ok (.getfield 12, 3) := by decide +kernel
theorem dX1_segmentOf_4 : decode cX1_segmentOf 4 = .ok (.iload_n 1, 1) := by decide +kernel
theorem dX1_segmentOf_5 : decode cX1_segmentOf 5 = .ok (.invokevirtual 42, 3) := by decide +kernel
theorem dX1_segmentOf_8 : decode cX1_segmentOf 8 = .ok (.ifCond .eq 12, 3) := by decide +kernel
theorem dX1_segmentOf_11 : decode cX1_segmentOf 11 = .ok (.aload_n 0, 1) := by decide +kernel
theorem dX1_segmentOf_12 : decode cX1_segmentOf 12 = .ok (.getfield 35, 3) := by decide +kernel
theorem dX1_segmentOf_15 : decode cX1_segmentOf 15 = .ok (.iload_n 1, 1) := by decide +kernel
theorem dX1_segmentOf_16 : decode cX1_segmentOf 16 = .ok (.iaload, 1) := by decide +kernel
theorem dX1_segmentOf_17 : decode cX1_segmentOf 17 = .ok (.goto 4, 3) := by decide +kernel
theorem dX1_segmentOf_20 : decode cX1_segmentOf 20 = .ok (.iconst 0, 1) := by decide +kernel
theorem dX1_segmentOf_21 : decode cX1_segmentOf 21 = .ok (.ireturn, 1) := by decide +kernel
set_option maxRecDepth 20000 in
theorem ggX1_requestAt_X2_hasSpan : GoodIn wsX1_requestAt wsX2_hasSpan := goodIn_r _ [9, 10, 25, 26] (by decide +kernel) (by decide +kernel)
set_option maxRecDepth 20000 in
theorem gX1_requestAt_X2_hasSpan : GoodIn wsX1_requestAt (wsV RX1 38 RX2 yX2_hasSpan wsX2_hasSpan) := goodIn_app (goodIn_of _ (by decide +kernel)) ggX1_requestAt_X2_hasSpan
theorem dX1_requestAt_0 : decode cX1_requestAt 0 = .ok (.aload_n 0, 1) := by decide +kernel
theorem dX1_requestAt_1 : decode cX1_requestAt 1 = .ok (.getfield 12, 3) := by decide +kernel
theorem dX1_requestAt_4 : decode cX1_requestAt 4 = .ok (.iload_n 1, 1) := by decide +kernel
theorem dX1_requestAt_5 : decode cX1_requestAt 5 = .ok (.invokevirtual 38, 3) := by decide +kernel
theorem dX1_requestAt_8 : decode cX1_requestAt 8 = .ok (.ifCond .ne 5, 3) := by decide +kernel
theorem dX1_requestAt_11 : decode cX1_requestAt 11 = .ok (.iconst 0, 1) := by decide +kernel
theorem dX1_requestAt_12 : decode cX1_requestAt 12 = .ok (.ireturn, 1) := by decide +kernel
theorem dX1_requestAt_13 : decode cX1_requestAt 13 = .ok (.aload_n 0, 1) := by decide +kernel
theorem dX1_requestAt_14 : decode cX1_requestAt 14 = .ok (.getfield 32, 3) := by decide +kernel
theorem dX1_requestAt_17 : decode cX1_requestAt 17 = .ok (.iload_n 1, 1) := by decide +kernel
theorem dX1_requestAt_18 : decode cX1_requestAt 18 = .ok (.iaload, 1) := by decide +kernel
theorem dX1_requestAt_19 : decode cX1_requestAt 19 = .ok (.istore_n 2, 1) := by decide +kernel
theorem dX1_requestAt_20 : decode cX1_requestAt 20 = .ok (.iload_n 2, 1) := by decide +kernel
theorem dX1_requestAt_21 : decode cX1_requestAt 21 = .ok (.ifCond .ne 21, 3) := by decide +kernel
theorem dX1_requestAt_24 : decode cX1_requestAt 24 = .ok (.aload_n 0, 1) := by decide +kernel
theorem dX1_requestAt_25 : decode cX1_requestAt 25 = .ok (.getfield 22, 3) := by decide +kernel
theorem dX1_requestAt_28 : decode cX1_requestAt 28 = .ok (.iload_n 1, 1) := by decide +kernel
theorem dX1_requestAt_29 : decode cX1_requestAt 29 = .ok (.iaload, 1) := by decide +kernel
theorem dX1_requestAt_30 : decode cX1_requestAt 30 = .ok (.ifCond .le 12, 3) := by decide +kernel
theorem dX1_requestAt_33 : decode cX1_requestAt 33 = .ok (.aload_n 0, 1) := by decide +kernel
theorem dX1_requestAt_34 : decode cX1_requestAt 34 = .ok (.getfield 25, 3) := by decide +kernel
theorem dX1_requestAt_37 : decode cX1_requestAt 37 = .ok (.iload_n 1, 1) := by decide +kernel
theorem dX1_requestAt_38 : decode cX1_requestAt 38 = .ok (.iaload, 1) := by decide +kernel
theorem dX1_requestAt_39 : decode cX1_requestAt 39 = .ok (.goto 4, 3) := by decide +kernel
theorem dX1_requestAt_42 : decode cX1_requestAt 42 = .ok (.iload_n 2, 1) := by decide +kernel
theorem dX1_requestAt_43 : decode cX1_requestAt 43 = .ok (.ireturn, 1) := by decide +kernel
set_option maxRecDepth 20000 in
theorem ggX1_switchAt_X5_contains : GoodIn wsX1_switchAt wsX5_contains := goodIn_r _ [5] (by decide +kernel) (by decide +kernel)
set_option maxRecDepth 20000 in
theorem gX1_switchAt_X5_contains_n48 : GoodIn wsX1_switchAt (wsX5_contains) := ggX1_switchAt_X5_contains
theorem dX1_switchAt_0 : decode cX1_switchAt 0 = .ok (.aload_n 0, 1) := by decide +kernel
theorem dX1_switchAt_1 : decode cX1_switchAt 1 = .ok (.getfield 45, 3) := by decide +kernel
theorem dX1_switchAt_4 : decode cX1_switchAt 4 = .ok (.iload_n 1, 1) := by decide +kernel
theorem dX1_switchAt_5 : decode cX1_switchAt 5 = .ok (.invokestatic 48, 3) := by decide +kernel
theorem dX1_switchAt_8 : decode cX1_switchAt 8 = .ok (.ifCond .eq 5, 3) := by decide +kernel
theorem dX1_switchAt_11 : decode cX1_switchAt 11 = .ok (.iconst 2, 1) := by decide +kernel
theorem dX1_switchAt_12 : decode cX1_switchAt 12 = .ok (.ireturn, 1) := by decide +kernel
theorem dX1_switchAt_13 : decode cX1_switchAt 13 = .ok (.aload_n 0, 1) := by decide +kernel
theorem dX1_switchAt_14 : decode cX1_switchAt 14 = .ok (.getfield 52, 3) := by decide +kernel
theorem dX1_switchAt_17 : decode cX1_switchAt 17 = .ok (.iload_n 1, 1) := by decide +kernel
theorem dX1_switchAt_18 : decode cX1_switchAt 18 = .ok (.invokestatic 48, 3) := by decide +kernel
theorem dX1_switchAt_21 : decode cX1_switchAt 21 = .ok (.ifCond .eq 7, 3) := by decide +kernel
theorem dX1_switchAt_24 : decode cX1_switchAt 24 = .ok (.iconst 1, 1) := by decide +kernel
theorem dX1_switchAt_25 : decode cX1_switchAt 25 = .ok (.goto 4, 3) := by decide +kernel
theorem dX1_switchAt_28 : decode cX1_switchAt 28 = .ok (.iconst 0, 1) := by decide +kernel
theorem dX1_switchAt_29 : decode cX1_switchAt 29 = .ok (.ireturn, 1) := by decide +kernel
set_option maxRecDepth 20000 in
theorem ggX1_spansInside_X2_nodeAfter : GoodIn wsX1_spansInside wsX2_nodeAfter := goodIn_r _ [7, 8, 23, 24] (by decide +kernel) (by decide +kernel)
set_option maxRecDepth 20000 in
theorem gX1_spansInside_X2_nodeAfter : GoodIn wsX1_spansInside (wsV RX1 58 RX2 yX2_nodeAfter wsX2_nodeAfter) := goodIn_app (goodIn_of _ (by decide +kernel)) ggX1_spansInside_X2_nodeAfter
theorem dX1_spansInside_0 : decode cX1_spansInside 0 = .ok (.iconst 0, 1) := by decide +kernel
theorem dX1_spansInside_1 : decode cX1_spansInside 1 = .ok (.istore_n 2, 1) := by decide +kernel
theorem dX1_spansInside_2 : decode cX1_spansInside 2 = .ok (.iconst 0, 1) := by decide +kernel
theorem dX1_spansInside_3 : decode cX1_spansInside 3 = .ok (.istore_n 3, 1) := by decide +kernel
theorem dX1_spansInside_4 : decode cX1_spansInside 4 = .ok (.iload_n 3, 1) := by decide +kernel
theorem dX1_spansInside_5 : decode cX1_spansInside 5 = .ok (.aload_n 0, 1) := by decide +kernel
theorem dX1_spansInside_6 : decode cX1_spansInside 6 = .ok (.getfield 12, 3) := by decide +kernel
theorem dX1_spansInside_9 : decode cX1_spansInside 9 = .ok (.getfield 55, 3) := by decide +kernel
theorem dX1_spansInside_12 : decode cX1_spansInside 12 = .ok (.if_icmp .ge 46, 3) := by decide +kernel
theorem dX1_spansInside_15 : decode cX1_spansInside 15 = .ok (.aload_n 0, 1) := by decide +kernel
theorem dX1_spansInside_16 : decode cX1_spansInside 16 = .ok (.getfield 12, 3) := by decide +kernel
theorem dX1_spansInside_19 : decode cX1_spansInside 19 = .ok (.iload_n 3, 1) := by decide +kernel
theorem dX1_spansInside_20 : decode cX1_spansInside 20 = .ok (.invokevirtual 58, 3) := by decide +kernel
theorem dX1_spansInside_23 : decode cX1_spansInside 23 = .ok (.istore 4, 2) := by decide +kernel
theorem dX1_spansInside_25 : decode cX1_spansInside 25 = .ok (.aload_n 0, 1) := by decide +kernel
theorem dX1_spansInside_26 : decode cX1_spansInside 26 = .ok (.getfield 35, 3) := by decide +kernel
theorem dX1_spansInside_29 : decode cX1_spansInside 29 = .ok (.iload_n 3, 1) := by decide +kernel
theorem dX1_spansInside_30 : decode cX1_spansInside 30 = .ok (.iaload, 1) := by decide +kernel
theorem dX1_spansInside_31 : decode cX1_spansInside 31 = .ok (.iload_n 1, 1) := by decide +kernel
theorem dX1_spansInside_32 : decode cX1_spansInside 32 = .ok (.if_icmp .ne 20, 3) := by decide +kernel
theorem dX1_spansInside_35 : decode cX1_spansInside 35 = .ok (.aload_n 0, 1) := by decide +kernel
theorem dX1_spansInside_36 : decode cX1_spansInside 36 = .ok (.getfield 35, 3) := by decide +kernel
theorem dX1_spansInside_39 : decode cX1_spansInside 39 = .ok (.iload 4, 2) := by decide +kernel
theorem dX1_spansInside_41 : decode cX1_spansInside 41 = .ok (.iaload, 1) := by decide +kernel
theorem dX1_spansInside_42 : decode cX1_spansInside 42 = .ok (.iload_n 1, 1) := by decide +kernel
theorem dX1_spansInside_43 : decode cX1_spansInside 43 = .ok (.if_icmp .ne 9, 3) := by decide +kernel
theorem dX1_spansInside_46 : decode cX1_spansInside 46 = .ok (.iload_n 2, 1) := by decide +kernel
theorem dX1_spansInside_47 : decode cX1_spansInside 47 = .ok (.iconst 1, 1) := by decide +kernel
theorem dX1_spansInside_48 : decode cX1_spansInside 48 = .ok (.iload_n 3, 1) := by decide +kernel
theorem dX1_spansInside_49 : decode cX1_spansInside 49 = .ok (.ishl, 1) := by decide +kernel
theorem dX1_spansInside_50 : decode cX1_spansInside 50 = .ok (.ior, 1) := by decide +kernel
theorem dX1_spansInside_51 : decode cX1_spansInside 51 = .ok (.istore_n 2, 1) := by decide +kernel
theorem dX1_spansInside_52 : decode cX1_spansInside 52 = .ok (.iinc 3 1, 3) := by decide +kernel
theorem dX1_spansInside_55 : decode cX1_spansInside 55 = .ok (.goto (-51), 3) := by decide +kernel
theorem dX1_spansInside_58 : decode cX1_spansInside 58 = .ok (.iload_n 2, 1) := by decide +kernel
theorem dX1_spansInside_59 : decode cX1_spansInside 59 = .ok (.ireturn, 1) := by decide +kernel
theorem dX1_countTimersDown_0 : decode cX1_countTimersDown 0 = .ok (.iconst 0, 1) := by decide +kernel
theorem dX1_countTimersDown_1 : decode cX1_countTimersDown 1 = .ok (.istore_n 1, 1) := by decide +kernel
theorem dX1_countTimersDown_2 : decode cX1_countTimersDown 2 = .ok (.iload_n 1, 1) := by decide +kernel
theorem dX1_countTimersDown_3 : decode cX1_countTimersDown 3 = .ok (.aload_n 0, 1) := by decide +kernel
theorem dX1_countTimersDown_4 : decode cX1_countTimersDown 4 = .ok (.getfield 12, 3) := by decide +kernel
theorem dX1_countTimersDown_7 : decode cX1_countTimersDown 7 = .ok (.getfield 55, 3) := by decide +kernel
theorem dX1_countTimersDown_10 : decode cX1_countTimersDown 10 = .ok (.if_icmp .ge 28, 3) := by decide +kernel
theorem dX1_countTimersDown_13 : decode cX1_countTimersDown 13 = .ok (.aload_n 0, 1) := by decide +kernel
theorem dX1_countTimersDown_14 : decode cX1_countTimersDown 14 = .ok (.getfield 22, 3) := by decide +kernel
theorem dX1_countTimersDown_17 : decode cX1_countTimersDown 17 = .ok (.iload_n 1, 1) := by decide +kernel
theorem dX1_countTimersDown_18 : decode cX1_countTimersDown 18 = .ok (.iaload, 1) := by decide +kernel
theorem dX1_countTimersDown_19 : decode cX1_countTimersDown 19 = .ok (.ifCond .le 13, 3) := by decide +kernel
theorem dX1_countTimersDown_22 : decode cX1_countTimersDown 22 = .ok (.aload_n 0, 1) := by decide +kernel
theorem dX1_countTimersDown_23 : decode cX1_countTimersDown 23 = .ok (.getfield 22, 3) := by decide +kernel
theorem dX1_countTimersDown_26 : decode cX1_countTimersDown 26 = .ok (.iload_n 1, 1) := by decide +kernel
theorem dX1_countTimersDown_27 : decode cX1_countTimersDown 27 = .ok (.dup2, 1) := by decide +kernel
theorem dX1_countTimersDown_28 : decode cX1_countTimersDown 28 = .ok (.iaload, 1) := by decide +kernel
theorem dX1_countTimersDown_29 : decode cX1_countTimersDown 29 = .ok (.iconst 1, 1) := by decide +kernel
theorem dX1_countTimersDown_30 : decode cX1_countTimersDown 30 = .ok (.isub, 1) := by decide +kernel
theorem dX1_countTimersDown_31 : decode cX1_countTimersDown 31 = .ok (.iastore, 1) := by decide +kernel
theorem dX1_countTimersDown_32 : decode cX1_countTimersDown 32 = .ok (.iinc 1 1, 3) := by decide +kernel
theorem dX1_countTimersDown_35 : decode cX1_countTimersDown 35 = .ok (.goto (-33), 3) := by decide +kernel
theorem dX1_countTimersDown_38 : decode cX1_countTimersDown 38 = .ok (.return_, 1) := by decide +kernel
set_option maxRecDepth 20000 in
theorem ggX1_run_X1_findCapacitiesDown : GoodIn wsX1_run wsX1_findCapacitiesDown := goodIn_r _ [6, 1, 7, 8, 9, 10, 11, 12, 13, 14, 15, 16, 17, 18, 19, 20, 81, 82, 83, 84, 85, 86, 87, 88, 89, 90, 91, 92, 93, 94, 95, 96] (by decide +kernel) (by decide +kernel)
set_option maxRecDepth 20000 in
theorem gX1_run_X1_findCapacitiesDown : GoodIn wsX1_run (wsV RX1 62 RX1 yX1_findCapacitiesDown wsX1_findCapacitiesDown) := goodIn_app (goodIn_of _ (by decide +kernel)) ggX1_run_X1_findCapacitiesDown
set_option maxRecDepth 20000 in
theorem ggX1_run_X1_takeDirectRequest : GoodIn wsX1_run wsX1_takeDirectRequest := goodIn_r _ [24, 25, 26, 27, 28, 29, 30, 31, 32, 33, 34, 5, 35, 9, 11, 12, 13, 14, 36, 37, 38, 39, 40, 41, 42, 43, 44, 45, 46, 47, 48, 49, 50, 51, 81, 82, 83, 84, 85, 86, 87, 88, 89, 90, 91, 92, 93, 94] (by decide +kernel) (by decide +kernel)
set_option maxRecDepth 20000 in
theorem gX1_run_X1_takeDirectRequest : GoodIn wsX1_run (wsV RX1 65 RX1 yX1_takeDirectRequest wsX1_takeDirectRequest) := goodIn_app (goodIn_of _ (by decide +kernel)) ggX1_run_X1_takeDirectRequest
set_option maxRecDepth 20000 in
theorem ggX1_run_X1_grantSwitches : GoodIn wsX1_run wsX1_grantSwitches := goodIn_r _ [55, 51, 50, 1, 56, 57, 58, 5, 59, 60, 61, 62, 63, 29, 30, 45, 64, 65, 66, 18, 67, 20, 68, 69, 70, 71, 81, 82, 83, 84, 85, 86, 87, 88, 89, 90, 91, 92, 93, 94, 95, 96] (by decide +kernel) (by decide +kernel)
set_option maxRecDepth 20000 in
theorem gX1_run_X1_grantSwitches : GoodIn wsX1_run (wsV RX1 69 RX1 yX1_grantSwitches wsX1_grantSwitches) := goodIn_app (goodIn_of _ (by decide +kernel)) ggX1_run_X1_grantSwitches
set_option maxRecDepth 20000 in
theorem ggX1_run_X1_dropWaitsWithoutSwitch : GoodIn wsX1_run wsX1_dropWaitsWithoutSwitch := goodIn_r _ [75, 1, 30, 60, 61, 62, 5, 63, 29, 45, 64, 65, 66, 18, 67, 20, 46, 47, 48, 49, 50, 51, 12, 13, 14, 81, 82, 83, 84, 85, 86, 87, 88, 89, 90, 91, 92, 93, 94, 95, 96] (by decide +kernel) (by decide +kernel)
set_option maxRecDepth 20000 in
theorem gX1_run_X1_dropWaitsWithoutSwitch : GoodIn wsX1_run (wsV RX1 72 RX1 yX1_dropWaitsWithoutSwitch wsX1_dropWaitsWithoutSwitch) := goodIn_app (goodIn_of _ (by decide +kernel)) ggX1_run_X1_dropWaitsWithoutSwitch
set_option maxRecDepth 20000 in
theorem ggX1_run_X1_findSegments : GoodIn wsX1_run wsX1_findSegments := goodIn_r _ [79, 1, 50, 80, 12, 13, 14, 81, 82, 83, 84, 85, 86, 87, 88, 89, 90, 91, 92, 93, 94, 95, 96] (by decide +kernel) (by decide +kernel)
set_option maxRecDepth 20000 in
theorem gX1_run_X1_findSegments : GoodIn wsX1_run (wsV RX1 75 RX1 yX1_findSegments wsX1_findSegments) := goodIn_app (goodIn_of _ (by decide +kernel)) ggX1_run_X1_findSegments
theorem dX1_run_0 : decode cX1_run 0 = .ok (.aload_n 0, 1) := by decide +kernel
theorem dX1_run_1 : decode cX1_run 1 = .ok (.invokevirtual 62, 3) := by decide +kernel
theorem dX1_run_4 : decode cX1_run 4 = .ok (.iconst 0, 1) := by decide +kernel
theorem dX1_run_5 : decode cX1_run 5 = .ok (.istore_n 1, 1) := by decide +kernel
theorem dX1_run_6 : decode cX1_run 6 = .ok (.iload_n 1, 1) := by decide +kernel
theorem dX1_run_7 : decode cX1_run 7 = .ok (.aload_n 0, 1) := by decide +kernel
theorem dX1_run_8 : decode cX1_run 8 = .ok (.getfield 12, 3) := by decide +kernel
theorem dX1_run_11 : decode cX1_run 11 = .ok (.getfield 55, 3) := by decide +kernel
theorem dX1_run_14 : decode cX1_run 14 = .ok (.if_icmp .ge 14, 3) := by decide +kernel
theorem dX1_run_17 : decode cX1_run 17 = .ok (.aload_n 0, 1) := by decide +kernel
theorem dX1_run_18 : decode cX1_run 18 = .ok (.iload_n 1, 1) := by decide +kernel
theorem dX1_run_19 : decode cX1_run 19 = .ok (.invokevirtual 65, 3) := by decide +kernel
theorem dX1_run_22 : decode cX1_run 22 = .ok (.iinc 1 1, 3) := by decide +kernel
theorem dX1_run_25 : decode cX1_run 25 = .ok (.goto (-19), 3) := by decide +kernel
theorem dX1_run_28 : decode cX1_run 28 = .ok (.aload_n 0, 1) := by decide +kernel
theorem dX1_run_29 : decode cX1_run 29 = .ok (.invokevirtual 69, 3) := by decide +kernel
theorem dX1_run_32 : decode cX1_run 32 = .ok (.aload_n 0, 1) := by decide +kernel
theorem dX1_run_33 : decode cX1_run 33 = .ok (.invokevirtual 72, 3) := by decide +kernel
theorem dX1_run_36 : decode cX1_run 36 = .ok (.aload_n 0, 1) := by decide +kernel
theorem dX1_run_37 : decode cX1_run 37 = .ok (.invokevirtual 75, 3) := by decide +kernel
theorem dX1_run_40 : decode cX1_run 40 = .ok (.return_, 1) := by decide +kernel
set_option maxRecDepth 20000 in
theorem ggX1_findCapacitiesDown_X5_contains : GoodIn wsX1_findCapacitiesDown wsX5_contains := goodIn_r _ [9] (by decide +kernel) (by decide +kernel)
set_option maxRecDepth 20000 in
theorem gX1_findCapacitiesDown_X5_contains_n48 : GoodIn wsX1_findCapacitiesDown (wsX5_contains) := ggX1_findCapacitiesDown_X5_contains
set_option maxRecDepth 20000 in
theorem ggX1_findCapacitiesDown_X2_spansAt : GoodIn wsX1_findCapacitiesDown wsX2_spansAt := goodIn_r _ [14, 15, 30, 31] (by decide +kernel) (by decide +kernel)
set_option maxRecDepth 20000 in
theorem gX1_findCapacitiesDown_X2_spansAt : GoodIn wsX1_findCapacitiesDown (wsV RX1 81 RX2 yX2_spansAt wsX2_spansAt) := goodIn_app (goodIn_of _ (by decide +kernel)) ggX1_findCapacitiesDown_X2_spansAt
theorem dX1_findCapacitiesDown_0 : decode cX1_findCapacitiesDown 0 = .ok (.iconst 0, 1) := by decide +kernel
theorem dX1_findCapacitiesDown_1 : decode cX1_findCapacitiesDown 1 = .ok (.istore_n 1, 1) := by decide +kernel
theorem dX1_findCapacitiesDown_2 : decode cX1_findCapacitiesDown 2 = .ok (.iconst 0, 1) := by decide +kernel
theorem dX1_findCapacitiesDown_3 : decode cX1_findCapacitiesDown 3 = .ok (.istore_n 2, 1) := by decide +kernel
theorem dX1_findCapacitiesDown_4 : decode cX1_findCapacitiesDown 4 = .ok (.iload_n 2, 1) := by decide +kernel
theorem dX1_findCapacitiesDown_5 : decode cX1_findCapacitiesDown 5 = .ok (.aload_n 0, 1) := by decide +kernel
theorem dX1_findCapacitiesDown_6 : decode cX1_findCapacitiesDown 6 = .ok (.getfield 12, 3) := by decide +kernel
theorem dX1_findCapacitiesDown_9 : decode cX1_findCapacitiesDown 9 = .ok (.getfield 55, 3) := by decide +kernel
theorem dX1_findCapacitiesDown_12 : decode cX1_findCapacitiesDown 12 = .ok (.if_icmp .ge 31, 3) := by decide +kernel
theorem dX1_findCapacitiesDown_15 : decode cX1_findCapacitiesDown 15 = .ok (.aload_n 0, 1) := by decide +kernel
theorem dX1_findCapacitiesDown_16 : decode cX1_findCapacitiesDown 16 = .ok (.getfield 78, 3) := by decide +kernel
theorem dX1_findCapacitiesDown_19 : decode cX1_findCapacitiesDown 19 = .ok (.iload_n 2, 1) := by decide +kernel
theorem dX1_findCapacitiesDown_20 : decode cX1_findCapacitiesDown 20 = .ok (.invokestatic 48, 3) := by decide +kernel
theorem dX1_findCapacitiesDown_23 : decode cX1_findCapacitiesDown 23 = .ok (.ifCond .eq 14, 3) := by decide +kernel
theorem dX1_findCapacitiesDown_26 : decode cX1_findCapacitiesDown 26 = .ok (.iload_n 1, 1) := by decide +kernel
theorem dX1_findCapacitiesDown_27 : decode cX1_findCapacitiesDown 27 = .ok (.aload_n 0, 1) := by decide +kernel
theorem dX1_findCapacitiesDown_28 : decode cX1_findCapacitiesDown 28 = .ok (.getfield 12, 3) := by decide +kernel
theorem dX1_findCapacitiesDown_31 : decode cX1_findCapacitiesDown 31 = .ok (.iload_n 2, 1) := by decide +kernel
theorem dX1_findCapacitiesDown_32 : decode cX1_findCapacitiesDown 32 = .ok (.invokevirtual 81, 3) := by decide +kernel
theorem dX1_findCapacitiesDown_35 : decode cX1_findCapacitiesDown 35 = .ok (.ior, 1) := by decide +kernel
theorem dX1_findCapacitiesDown_36 : decode cX1_findCapacitiesDown 36 = .ok (.istore_n 1, 1) := by decide +kernel
theorem dX1_findCapacitiesDown_37 : decode cX1_findCapacitiesDown 37 = .ok (.iinc 2 1, 3) := by decide +kernel
theorem dX1_findCapacitiesDown_40 : decode cX1_findCapacitiesDown 40 = .ok (.goto (-36), 3) := by decide +kernel
theorem dX1_findCapacitiesDown_43 : decode cX1_findCapacitiesDown 43 = .ok (.aload_n 0, 1) := by decide +kernel
theorem dX1_findCapacitiesDown_44 : decode cX1_findCapacitiesDown 44 = .ok (.aload_n 0, 1) := by decide +kernel
theorem dX1_findCapacitiesDown_45 : decode cX1_findCapacitiesDown 45 = .ok (.getfield 84, 3) := by decide +kernel
theorem dX1_findCapacitiesDown_48 : decode cX1_findCapacitiesDown 48 = .ok (.iload_n 1, 1) := by decide +kernel
theorem dX1_findCapacitiesDown_49 : decode cX1_findCapacitiesDown 49 = .ok (.ior, 1) := by decide +kernel
theorem dX1_findCapacitiesDown_50 : decode cX1_findCapacitiesDown 50 = .ok (.putfield 87, 3) := by decide +kernel
theorem dX1_findCapacitiesDown_53 : decode cX1_findCapacitiesDown 53 = .ok (.aload_n 0, 1) := by decide +kernel
theorem dX1_findCapacitiesDown_54 : decode cX1_findCapacitiesDown 54 = .ok (.aload_n 0, 1) := by decide +kernel
theorem dX1_findCapacitiesDown_55 : decode cX1_findCapacitiesDown 55 = .ok (.getfield 90, 3) := by decide +kernel
theorem dX1_findCapacitiesDown_58 : decode cX1_findCapacitiesDown 58 = .ok (.iload_n 1, 1) := by decide +kernel
theorem dX1_findCapacitiesDown_59 : decode cX1_findCapacitiesDown 59 = .ok (.ior, 1) := by decide +kernel
theorem dX1_findCapacitiesDown_60 : decode cX1_findCapacitiesDown 60 = .ok (.putfield 93, 3) := by decide +kernel
theorem dX1_findCapacitiesDown_63 : decode cX1_findCapacitiesDown 63 = .ok (.return_, 1) := by decide +kernel
set_option maxRecDepth 20000 in
theorem ggX1_takeDirectRequest_X1_requestOfFailures : GoodIn wsX1_takeDirectRequest wsX1_requestOfFailures := goodIn_r _ [12, 13, 14, 15, 16, 17, 34, 35, 36, 37, 38, 39, 40, 41, 42, 43, 44, 45, 46, 47] (by decide +kernel) (by decide +kernel)
set_option maxRecDepth 20000 in
theorem gX1_takeDirectRequest_X1_requestOfFailures : GoodIn wsX1_takeDirectRequest (wsV RX1 96 RX1 yX1_requestOfFailures wsX1_requestOfFailures) := goodIn_app (goodIn_of _ (by decide +kernel)) ggX1_takeDirectRequest_X1_requestOfFailures
set_option maxRecDepth 20000 in
theorem ggX1_takeDirectRequest_X1_requestOfCommand : GoodIn wsX1_takeDirectRequest wsX1_requestOfCommand := goodIn_r _ [21, 22, 14, 15, 16, 17, 34, 35, 36, 37, 38, 39, 40, 41, 42, 43, 44, 45, 46, 47] (by decide +kernel) (by decide +kernel)
set_option maxRecDepth 20000 in
theorem gX1_takeDirectRequest_X1_requestOfCommand : GoodIn wsX1_takeDirectRequest (wsV RX1 99 RX1 yX1_requestOfCommand wsX1_requestOfCommand) := goodIn_app (goodIn_of _ (by decide +kernel)) ggX1_takeDirectRequest_X1_requestOfCommand
set_option maxRecDepth 20000 in
theorem ggX1_takeDirectRequest_X1_startWaiting : GoodIn wsX1_takeDirectRequest wsX1_startWaiting := goodIn_r _ [26, 6, 7, 27, 28, 29, 30, 11, 31, 32, 33, 15, 16, 17, 34, 35, 36, 37, 38, 39, 40, 41, 42, 43, 44, 45, 46, 47] (by decide +kernel) (by decide +kernel)
set_option maxRecDepth 20000 in
theorem gX1_takeDirectRequest_X1_startWaiting : GoodIn wsX1_takeDirectRequest (wsV RX1 108 RX1 yX1_startWaiting wsX1_startWaiting) := goodIn_app (goodIn_of _ (by decide +kernel)) ggX1_takeDirectRequest_X1_startWaiting
theorem dX1_takeDirectRequest_0 : decode cX1_takeDirectRequest 0 = .ok (.aload_n 0, 1) := by decide +kernel
theorem dX1_takeDirectRequest_1 : decode cX1_takeDirectRequest 1 = .ok (.iload_n 1, 1) := by decide +kernel
theorem dX1_takeDirectRequest_2 : decode cX1_takeDirectRequest 2 = .ok (.invokevirtual 96, 3) := by decide +kernel
theorem dX1_takeDirectRequest_5 : decode cX1_takeDirectRequest 5 = .ok (.aload_n 0, 1) := by decide +kernel
theorem dX1_takeDirectRequest_6 : decode cX1_takeDirectRequest 6 = .ok (.iload_n 1, 1) := by decide +kernel
theorem dX1_takeDirectRequest_7 : decode cX1_takeDirectRequest 7 = .ok (.invokevirtual 99, 3) := by decide +kernel
theorem dX1_takeDirectRequest_10 : decode cX1_takeDirectRequest 10 = .ok (.invokestatic 102, 3) := by decide +kernel
theorem dX1_takeDirectRequest_13 : decode cX1_takeDirectRequest 13 = .ok (.istore_n 2, 1) := by decide +kernel
theorem dX1_takeDirectRequest_14 : decode cX1_takeDirectRequest 14 = .ok (.aload_n 0, 1) := by decide +kernel
theorem dX1_takeDirectRequest_15 : decode cX1_takeDirectRequest 15 = .ok (.getfield 32, 3) := by decide +kernel
theorem dX1_takeDirectRequest_18 : decode cX1_takeDirectRequest 18 = .ok (.iload_n 1, 1) := by decide +kernel
theorem dX1_takeDirectRequest_19 : decode cX1_takeDirectRequest 19 = .ok (.iaload, 1) := by decide +kernel
theorem dX1_takeDirectRequest_20 : decode cX1_takeDirectRequest 20 = .ok (.istore_n 3, 1) := by decide +kernel
theorem dX1_takeDirectRequest_21 : decode cX1_takeDirectRequest 21 = .ok (.iload_n 2, 1) := by decide +kernel
theorem dX1_takeDirectRequest_22 : decode cX1_takeDirectRequest 22 = .ok (.ifCond .eq 13, 3) := by decide +kernel
theorem dX1_takeDirectRequest_25 : decode cX1_takeDirectRequest 25 = .ok (.aload_n 0, 1) := by decide +kernel
theorem dX1_takeDirectRequest_26 : decode cX1_takeDirectRequest 26 = .ok (.getfield 22, 3) := by decide +kernel
theorem dX1_takeDirectRequest_29 : decode cX1_takeDirectRequest 29 = .ok (.iload_n 1, 1) := by decide +kernel
theorem dX1_takeDirectRequest_30 : decode cX1_takeDirectRequest 30 = .ok (.iconst 0, 1) := by decide +kernel
theorem dX1_takeDirectRequest_31 : decode cX1_takeDirectRequest 31 = .ok (.iastore, 1) := by decide +kernel
theorem dX1_takeDirectRequest_32 : decode cX1_takeDirectRequest 32 = .ok (.goto 26, 3) := by decide +kernel
theorem dX1_takeDirectRequest_35 : decode cX1_takeDirectRequest 35 = .ok (.iload_n 3, 1) := by decide +kernel
theorem dX1_takeDirectRequest_36 : decode cX1_takeDirectRequest 36 = .ok (.iconst 5, 1) := by decide +kernel
theorem dX1_takeDirectRequest_37 : decode cX1_takeDirectRequest 37 = .ok (.if_icmp .eq 9, 3) := by decide +kernel
theorem dX1_takeDirectRequest_40 : decode cX1_takeDirectRequest 40 = .ok (.iload_n 3, 1) := by decide +kernel
theorem dX1_takeDirectRequest_41 : decode cX1_takeDirectRequest 41 = .ok (.bipush 6, 2) := by decide +kernel
theorem dX1_takeDirectRequest_43 : decode cX1_takeDirectRequest 43 = .ok (.if_icmp .ne 15, 3) := by decide +kernel
theorem dX1_takeDirectRequest_46 : decode cX1_takeDirectRequest 46 = .ok (.aload_n 0, 1) := by decide +kernel
theorem dX1_takeDirectRequest_47 : decode cX1_takeDirectRequest 47 = .ok (.getfield 28, 3) := by decide +kernel
theorem dX1_takeDirectRequest_50 : decode cX1_takeDirectRequest 50 = .ok (.ifCond .le 8, 3) := by decide +kernel
theorem dX1_takeDirectRequest_53 : decode cX1_takeDirectRequest 53 = .ok (.aload_n 0, 1) := by decide +kernel
theorem dX1_takeDirectRequest_54 : decode cX1_takeDirectRequest 54 = .ok (.iload_n 1, 1) := by decide +kernel
theorem dX1_takeDirectRequest_55 : decode cX1_takeDirectRequest 55 = .ok (.invokevirtual 108, 3) := by decide +kernel
theorem dX1_takeDirectRequest_58 : decode cX1_takeDirectRequest 58 = .ok (.aload_n 0, 1) := by decide +kernel
theorem dX1_takeDirectRequest_59 : decode cX1_takeDirectRequest 59 = .ok (.getfield 32, 3) := by decide +kernel
theorem dX1_takeDirectRequest_62 : decode cX1_takeDirectRequest 62 = .ok (.iload_n 1, 1) := by decide +kernel
theorem dX1_takeDirectRequest_63 : decode cX1_takeDirectRequest 63 = .ok (.iload_n 2, 1) := by decide +kernel
theorem dX1_takeDirectRequest_64 : decode cX1_takeDirectRequest 64 = .ok (.iastore, 1) := by decide +kernel
theorem dX1_takeDirectRequest_65 : decode cX1_takeDirectRequest 65 = .ok (.return_, 1) := by decide +kernel
set_option maxRecDepth 20000 in
theorem ggX1_requestOfFailures_X5_contains : GoodIn wsX1_requestOfFailures wsX5_contains := goodIn_r _ [5] (by decide +kernel) (by decide +kernel)
set_option maxRecDepth 20000 in
theorem gX1_requestOfFailures_X5_contains_n48 : GoodIn wsX1_requestOfFailures (wsX5_contains) := ggX1_requestOfFailures_X5_contains
theorem dX1_requestOfFailures_0 : decode cX1_requestOfFailures 0 = .ok (.aload_n 0, 1) := by decide +kernel
theorem dX1_requestOfFailures_1 : decode cX1_requestOfFailures 1 = .ok (.getfield 87, 3) := by decide +kernel
theorem dX1_requestOfFailures_4 : decode cX1_requestOfFailures 4 = .ok (.iload_n 1, 1) := by decide +kernel
theorem dX1_requestOfFailures_5 : decode cX1_requestOfFailures 5 = .ok (.invokestatic 48, 3) := by decide +kernel
theorem dX1_requestOfFailures_8 : decode cX1_requestOfFailures 8 = .ok (.ifCond .ne 7, 3) := by decide +kernel
theorem dX1_requestOfFailures_11 : decode cX1_requestOfFailures 11 = .ok (.iconst 1, 1) := by decide +kernel
theorem dX1_requestOfFailures_12 : decode cX1_requestOfFailures 12 = .ok (.goto 4, 3) := by decide +kernel
theorem dX1_requestOfFailures_15 : decode cX1_requestOfFailures 15 = .ok (.iconst 0, 1) := by decide +kernel
theorem dX1_requestOfFailures_16 : decode cX1_requestOfFailures 16 = .ok (.istore_n 2, 1) := by decide +kernel
theorem dX1_requestOfFailures_17 : decode cX1_requestOfFailures 17 = .ok (.aload_n 0, 1) := by decide +kernel
theorem dX1_requestOfFailures_18 : decode cX1_requestOfFailures 18 = .ok (.getfield 93, 3) := by decide +kernel
theorem dX1_requestOfFailures_21 : decode cX1_requestOfFailures 21 = .ok (.iload_n 1, 1) := by decide +kernel
theorem dX1_requestOfFailures_22 : decode cX1_requestOfFailures 22 = .ok (.invokestatic 48, 3) := by decide +kernel
theorem dX1_requestOfFailures_25 : decode cX1_requestOfFailures 25 = .ok (.ifCond .eq 15, 3) := by decide +kernel
theorem dX1_requestOfFailures_28 : decode cX1_requestOfFailures 28 = .ok (.iload_n 2, 1) := by decide +kernel
theorem dX1_requestOfFailures_29 : decode cX1_requestOfFailures 29 = .ok (.ifCond .eq 8, 3) := by decide +kernel
theorem dX1_requestOfFailures_32 : decode cX1_requestOfFailures 32 = .ok (.bipush 9, 2) := by decide +kernel
theorem dX1_requestOfFailures_34 : decode cX1_requestOfFailures 34 = .ok (.goto 5, 3) := by decide +kernel
theorem dX1_requestOfFailures_37 : decode cX1_requestOfFailures 37 = .ok (.bipush 6, 2) := by decide +kernel
theorem dX1_requestOfFailures_39 : decode cX1_requestOfFailures 39 = .ok (.ireturn, 1) := by decide +kernel
theorem dX1_requestOfFailures_40 : decode cX1_requestOfFailures 40 = .ok (.iload_n 2, 1) := by decide +kernel
theorem dX1_requestOfFailures_41 : decode cX1_requestOfFailures 41 = .ok (.ifCond .eq 7, 3) := by decide +kernel
theorem dX1_requestOfFailures_44 : decode cX1_requestOfFailures 44 = .ok (.iconst 0, 1) := by decide +kernel
theorem dX1_requestOfFailures_45 : decode cX1_requestOfFailures 45 = .ok (.goto 4, 3) := by decide +kernel
theorem dX1_requestOfFailures_48 : decode cX1_requestOfFailures 48 = .ok (.iconst 5, 1) := by decide +kernel
theorem dX1_requestOfFailures_49 : decode cX1_requestOfFailures 49 = .ok (.ireturn, 1) := by decide +kernel
set_option maxRecDepth 20000 in
theorem ggX1_requestOfCommand_X5_contains : GoodIn wsX1_requestOfCommand wsX5_contains := goodIn_r _ [5] (by decide +kernel) (by decide +kernel)
set_option maxRecDepth 20000 in
theorem gX1_requestOfCommand_X5_contains_n48 : GoodIn wsX1_requestOfCommand (wsX5_contains) := ggX1_requestOfCommand_X5_contains
theorem dX1_requestOfCommand_0 : decode cX1_requestOfCommand 0 = .ok (.aload_n 0, 1) := by decide +kernel
theorem dX1_requestOfCommand_1 : decode cX1_requestOfCommand 1 = .ok (.getfield 18, 3) := by decide +kernel
theorem dX1_requestOfCommand_4 : decode cX1_requestOfCommand 4 = .ok (.iload_n 1, 1) := by decide +kernel
theorem dX1_requestOfCommand_5 : decode cX1_requestOfCommand 5 = .ok (.iaload, 1) := by decide +kernel
theorem dX1_requestOfCommand_6 : decode cX1_requestOfCommand 6 = .ok (.istore_n 2, 1) := by decide +kernel
theorem dX1_requestOfCommand_7 : decode cX1_requestOfCommand 7 = .ok (.iload_n 2, 1) := by decide +kernel
theorem dX1_requestOfCommand_8 : decode cX1_requestOfCommand 8 = .ok (.bipush 7, 2) := by decide +kernel
theorem dX1_requestOfCommand_10 : decode cX1_requestOfCommand 10 = .ok (.if_icmp .eq 8, 3) := by decide +kernel
theorem dX1_requestOfCommand_13 : decode cX1_requestOfCommand 13 = .ok (.iload_n 2, 1) := by decide +kernel
theorem dX1_requestOfCommand_14 : decode cX1_requestOfCommand 14 = .ok (.iconst 3, 1) := by decide +kernel
theorem dX1_requestOfCommand_15 : decode cX1_requestOfCommand 15 = .ok (.if_icmp .ne 7, 3) := by decide +kernel
theorem dX1_requestOfCommand_18 : decode cX1_requestOfCommand 18 = .ok (.iconst 1, 1) := by decide +kernel
theorem dX1_requestOfCommand_19 : decode cX1_requestOfCommand 19 = .ok (.goto 4, 3) := by decide +kernel
theorem dX1_requestOfCommand_22 : decode cX1_requestOfCommand 22 = .ok (.iconst 0, 1) := by decide +kernel
theorem dX1_requestOfCommand_23 : decode cX1_requestOfCommand 23 = .ok (.istore_n 3, 1) := by decide +kernel
theorem dX1_requestOfCommand_24 : decode cX1_requestOfCommand 24 = .ok (.iload_n 3, 1) := by decide +kernel
theorem dX1_requestOfCommand_25 : decode cX1_requestOfCommand 25 = .ok (.ifCond .eq 18, 3) := by decide +kernel
theorem dX1_requestOfCommand_28 : decode cX1_requestOfCommand 28 = .ok (.aload_n 0, 1) := by decide +kernel
theorem dX1_requestOfCommand_29 : decode cX1_requestOfCommand 29 = .ok (.getfield 93, 3) := by decide +kernel
theorem dX1_requestOfCommand_32 : decode cX1_requestOfCommand 32 = .ok (.iload_n 1, 1) := by decide +kernel
theorem dX1_requestOfCommand_33 : decode cX1_requestOfCommand 33 = .ok (.invokestatic 48, 3) := by decide +kernel
theorem dX1_requestOfCommand_36 : decode cX1_requestOfCommand 36 = .ok (.ifCond .eq 7, 3) := by decide +kernel
theorem dX1_requestOfCommand_39 : decode cX1_requestOfCommand 39 = .ok (.iconst 0, 1) := by decide +kernel
theorem dX1_requestOfCommand_40 : decode cX1_requestOfCommand 40 = .ok (.goto 4, 3) := by decide +kernel
theorem dX1_requestOfCommand_43 : decode cX1_requestOfCommand 43 = .ok (.iload_n 2, 1) := by decide +kernel
theorem dX1_requestOfCommand_44 : decode cX1_requestOfCommand 44 = .ok (.ireturn, 1) := by decide +kernel
set_option maxRecDepth 20000 in
theorem ggX1_startWaiting_X1_switchAt : GoodIn wsX1_startWaiting wsX1_switchAt := goodIn_r _ [8, 9, 10, 11, 12, 13, 14, 15, 16, 17, 18, 19, 20, 21, 22, 23, 24, 25, 26, 27] (by decide +kernel) (by decide +kernel)
set_option maxRecDepth 20000 in
theorem gX1_startWaiting_X1_switchAt : GoodIn wsX1_startWaiting (wsV RX1 111 RX1 yX1_switchAt wsX1_switchAt) := goodIn_app (goodIn_of _ (by decide +kernel)) ggX1_startWaiting_X1_switchAt
theorem dX1_startWaiting_0 : decode cX1_startWaiting 0 = .ok (.aload_n 0, 1) := by decide +kernel
theorem dX1_startWaiting_1 : decode cX1_startWaiting 1 = .ok (.iload_n 1, 1) := by decide +kernel
theorem dX1_startWaiting_2 : decode cX1_startWaiting 2 = .ok (.invokevirtual 111, 3) := by decide +kernel
theorem dX1_startWaiting_5 : decode cX1_startWaiting 5 = .ok (.istore_n 2, 1) := by decide +kernel
theorem dX1_startWaiting_6 : decode cX1_startWaiting 6 = .ok (.iload_n 2, 1) := by decide +kernel
theorem dX1_startWaiting_7 : decode cX1_startWaiting 7 = .ok (.ifCond .eq 29, 3) := by decide +kernel
theorem dX1_startWaiting_10 : decode cX1_startWaiting 10 = .ok (.aload_n 0, 1) := by decide +kernel
theorem dX1_startWaiting_11 : decode cX1_startWaiting 11 = .ok (.getfield 22, 3) := by decide +kernel
theorem dX1_startWaiting_14 : decode cX1_startWaiting 14 = .ok (.iload_n 1, 1) := by decide +kernel
theorem dX1_startWaiting_15 : decode cX1_startWaiting 15 = .ok (.aload_n 0, 1) := by decide +kernel
theorem dX1_startWaiting_16 : decode cX1_startWaiting 16 = .ok (.getfield 28, 3) := by decide +kernel
theorem dX1_startWaiting_19 : decode cX1_startWaiting 19 = .ok (.iastore, 1) := by decide +kernel
theorem dX1_startWaiting_20 : decode cX1_startWaiting 20 = .ok (.aload_n 0, 1) := by decide +kernel
theorem dX1_startWaiting_21 : decode cX1_startWaiting 21 = .ok (.getfield 25, 3) := by decide +kernel
theorem dX1_startWaiting_24 : decode cX1_startWaiting 24 = .ok (.iload_n 1, 1) := by decide +kernel
theorem dX1_startWaiting_25 : decode cX1_startWaiting 25 = .ok (.iload_n 2, 1) := by decide +kernel
theorem dX1_startWaiting_26 : decode cX1_startWaiting 26 = .ok (.iconst 1, 1) := by decide +kernel
theorem dX1_startWaiting_27 : decode cX1_startWaiting 27 = .ok (.if_icmp .ne 7, 3) := by decide +kernel
theorem dX1_startWaiting_30 : decode cX1_startWaiting 30 = .ok (.iconst 1, 1) := by decide +kernel
theorem dX1_startWaiting_31 : decode cX1_startWaiting 31 = .ok (.goto 4, 3) := by decide +kernel
theorem dX1_startWaiting_34 : decode cX1_startWaiting 34 = .ok (.iconst 2, 1) := by decide +kernel
theorem dX1_startWaiting_35 : decode cX1_startWaiting 35 = .ok (.iastore, 1) := by decide +kernel
theorem dX1_startWaiting_36 : decode cX1_startWaiting 36 = .ok (.return_, 1) := by decide +kernel
set_option maxRecDepth 20000 in
theorem ggX1_grantSwitches_X1_isLockedOut : GoodIn wsX1_grantSwitches wsX1_isLockedOut := goodIn_r _ [8, 3, 9, 10, 11, 7, 12, 13, 14, 15, 16, 17, 18, 19, 20, 21, 26, 27, 28, 29, 30, 31, 32, 33, 34, 35, 36, 37, 38, 39, 40, 41] (by decide +kernel) (by decide +kernel)
set_option maxRecDepth 20000 in
theorem gX1_grantSwitches_X1_isLockedOut : GoodIn wsX1_grantSwitches (wsV RX1 114 RX1 yX1_isLockedOut wsX1_isLockedOut) := goodIn_app (goodIn_of _ (by decide +kernel)) ggX1_grantSwitches_X1_isLockedOut
set_option maxRecDepth 20000 in
theorem ggX1_grantSwitches_X1_requestAt : GoodIn wsX1_grantSwitches wsX1_requestAt := goodIn_r _ [12, 3, 13, 14, 15, 16, 17, 18, 19, 20, 21, 26, 27, 28, 29, 30, 31, 32, 33, 34, 35, 36, 37, 38, 39, 40, 41] (by decide +kernel) (by decide +kernel)
set_option maxRecDepth 20000 in
theorem gX1_grantSwitches_X1_requestAt : GoodIn wsX1_grantSwitches (wsV RX1 118 RX1 yX1_requestAt wsX1_requestAt) := goodIn_app (goodIn_of _ (by decide +kernel)) ggX1_grantSwitches_X1_requestAt
set_option maxRecDepth 20000 in
theorem ggX1_grantSwitches_X1_grant : GoodIn wsX1_grantSwitches wsX1_grant := goodIn_r _ [25, 1, 2, 26, 27, 28, 29, 30, 31, 32, 33, 34, 35, 36, 37, 38, 39] (by decide +kernel) (by decide +kernel)
set_option maxRecDepth 20000 in
theorem gX1_grantSwitches_X1_grant : GoodIn wsX1_grantSwitches (wsV RX1 121 RX1 yX1_grant wsX1_grant) := goodIn_app (goodIn_of _ (by decide +kernel)) ggX1_grantSwitches_X1_grant
theorem dX1_grantSwitches_0 : decode cX1_grantSwitches 0 = .ok (.aload_n 0, 1) := by decide +kernel
theorem dX1_grantSwitches_1 : decode cX1_grantSwitches 1 = .ok (.iconst 0, 1) := by decide +kernel
theorem dX1_grantSwitches_2 : decode cX1_grantSwitches 2 = .ok (.putfield 52, 3) := by decide +kernel
theorem dX1_grantSwitches_5 : decode cX1_grantSwitches 5 = .ok (.aload_n 0, 1) := by decide +kernel
theorem dX1_grantSwitches_6 : decode cX1_grantSwitches 6 = .ok (.iconst 0, 1) := by decide +kernel
theorem dX1_grantSwitches_7 : decode cX1_grantSwitches 7 = .ok (.putfield 45, 3) := by decide +kernel
theorem dX1_grantSwitches_10 : decode cX1_grantSwitches 10 = .ok (.aload_n 0, 1) := by decide +kernel
theorem dX1_grantSwitches_11 : decode cX1_grantSwitches 11 = .ok (.invokevirtual 114, 3) := by decide +kernel
theorem dX1_grantSwitches_14 : decode cX1_grantSwitches 14 = .ok (.istore_n 1, 1) := by decide +kernel
theorem dX1_grantSwitches_15 : decode cX1_grantSwitches 15 = .ok (.bipush 8, 2) := by decide +kernel
theorem dX1_grantSwitches_17 : decode cX1_grantSwitches 17 = .ok (.istore_n 2, 1) := by decide +kernel
theorem dX1_grantSwitches_18 : decode cX1_grantSwitches 18 = .ok (.iload_n 2, 1) := by decide +kernel
theorem dX1_grantSwitches_19 : decode cX1_grantSwitches 19 = .ok (.iconst 1, 1) := by decide +kernel
theorem dX1_grantSwitches_20 : decode cX1_grantSwitches 20 = .ok (.if_icmp .lt 44, 3) := by decide +kernel
theorem dX1_grantSwitches_23 : decode cX1_grantSwitches 23 = .ok (.iconst 0, 1) := by decide +kernel
theorem dX1_grantSwitches_24 : decode cX1_grantSwitches 24 = .ok (.istore_n 3, 1) := by decide +kernel
theorem dX1_grantSwitches_25 : decode cX1_grantSwitches 25 = .ok (.iload_n 3, 1) := by decide +kernel
theorem dX1_grantSwitches_26 : decode cX1_grantSwitches 26 = .ok (.aload_n 0, 1) := by decide +kernel
theorem dX1_grantSwitches_27 : decode cX1_grantSwitches 27 = .ok (.getfield 12, 3) := by decide +kernel
theorem dX1_grantSwitches_30 : decode cX1_grantSwitches 30 = .ok (.getfield 55, 3) := by decide +kernel
theorem dX1_grantSwitches_33 : decode cX1_grantSwitches 33 = .ok (.if_icmp .ge 25, 3) := by decide +kernel
theorem dX1_grantSwitches_36 : decode cX1_grantSwitches 36 = .ok (.aload_n 0, 1) := by decide +kernel
theorem dX1_grantSwitches_37 : decode cX1_grantSwitches 37 = .ok (.iload_n 3, 1) := by decide +kernel
theorem dX1_grantSwitches_38 : decode cX1_grantSwitches 38 = .ok (.invokevirtual 118, 3) := by decide +kernel
theorem dX1_grantSwitches_41 : decode cX1_grantSwitches 41 = .ok (.iload_n 2, 1) := by decide +kernel
theorem dX1_grantSwitches_42 : decode cX1_grantSwitches 42 = .ok (.if_icmp .ne 10, 3) := by decide +kernel
theorem dX1_grantSwitches_45 : decode cX1_grantSwitches 45 = .ok (.aload_n 0, 1) := by decide +kernel
theorem dX1_grantSwitches_46 : decode cX1_grantSwitches 46 = .ok (.iload_n 3, 1) := by decide +kernel
theorem dX1_grantSwitches_47 : decode cX1_grantSwitches 47 = .ok (.iload_n 2, 1) := by decide +kernel
theorem dX1_grantSwitches_48 : decode cX1_grantSwitches 48 = .ok (.iload_n 1, 1) := by decide +kernel
theorem dX1_grantSwitches_49 : decode cX1_grantSwitches 49 = .ok (.invokevirtual 121, 3) := by decide +kernel
theorem dX1_grantSwitches_52 : decode cX1_grantSwitches 52 = .ok (.iinc 3 1, 3) := by decide +kernel
theorem dX1_grantSwitches_55 : decode cX1_grantSwitches 55 = .ok (.goto (-30), 3) := by decide +kernel
theorem dX1_grantSwitches_58 : decode cX1_grantSwitches 58 = .ok (.iinc 2 (-1), 3) := by decide +kernel
theorem dX1_grantSwitches_61 : decode cX1_grantSwitches 61 = .ok (.goto (-43), 3) := by decide +kernel
theorem dX1_grantSwitches_64 : decode cX1_grantSwitches 64 = .ok (.return_, 1) := by decide +kernel
set_option maxRecDepth 20000 in
theorem ggX1_isLockedOut_X1_requestAt : GoodIn wsX1_isLockedOut wsX1_requestAt := goodIn_r _ [6, 1, 7, 8, 9, 10, 11, 12, 13, 14, 15, 16, 17, 18, 19, 20, 21, 22, 23, 24, 25, 26, 27, 28, 29, 30, 31] (by decide +kernel) (by decide +kernel)
set_option maxRecDepth 20000 in
theorem gX1_isLockedOut_X1_requestAt : GoodIn wsX1_isLockedOut (wsV RX1 118 RX1 yX1_requestAt wsX1_requestAt) := goodIn_app (goodIn_of _ (by decide +kernel)) ggX1_isLockedOut_X1_requestAt
theorem dX1_isLockedOut_0 : decode cX1_isLockedOut 0 = .ok (.iconst 0, 1) := by decide +kernel
theorem dX1_isLockedOut_1 : decode cX1_isLockedOut 1 = .ok (.istore_n 1, 1) := by decide +kernel
theorem dX1_isLockedOut_2 : decode cX1_isLockedOut 2 = .ok (.iload_n 1, 1) := by decide +kernel
theorem dX1_isLockedOut_3 : decode cX1_isLockedOut 3 = .ok (.aload_n 0, 1) := by decide +kernel
theorem dX1_isLockedOut_4 : decode cX1_isLockedOut 4 = .ok (.getfield 12, 3) := by decide +kernel
theorem dX1_isLockedOut_7 : decode cX1_isLockedOut 7 = .ok (.getfield 55, 3) := by decide +kernel
theorem dX1_isLockedOut_10 : decode cX1_isLockedOut 10 = .ok (.if_icmp .ge 21, 3) := by decide +kernel
theorem dX1_isLockedOut_13 : decode cX1_isLockedOut 13 = .ok (.aload_n 0, 1) := by decide +kernel
theorem dX1_isLockedOut_14 : decode cX1_isLockedOut 14 = .ok (.iload_n 1, 1) := by decide +kernel
theorem dX1_isLockedOut_15 : decode cX1_isLockedOut 15 = .ok (.invokevirtual 118, 3) := by decide +kernel
theorem dX1_isLockedOut_18 : decode cX1_isLockedOut 18 = .ok (.bipush 9, 2) := by decide +kernel
theorem dX1_isLockedOut_20 : decode cX1_isLockedOut 20 = .ok (.if_icmp .ne 5, 3) := by decide +kernel
theorem dX1_isLockedOut_23 : decode cX1_isLockedOut 23 = .ok (.iconst 1, 1) := by decide +kernel
theorem dX1_isLockedOut_24 : decode cX1_isLockedOut 24 = .ok (.ireturn, 1) := by decide +kernel
theorem dX1_isLockedOut_25 : decode cX1_isLockedOut 25 = .ok (.iinc 1 1, 3) := by decide +kernel
theorem dX1_isLockedOut_28 : decode cX1_isLockedOut 28 = .ok (.goto (-26), 3) := by decide +kernel
theorem dX1_isLockedOut_31 : decode cX1_isLockedOut 31 = .ok (.iconst 0, 1) := by decide +kernel
theorem dX1_isLockedOut_32 : decode cX1_isLockedOut 32 = .ok (.ireturn, 1) := by decide +kernel
theorem dX1_grant_0 : decode cX1_grant 0 = .ok (.iload_n 2, 1) := by decide +kernel
theorem dX1_grant_1 : decode cX1_grant 1 = .ok (.tableswitch 128 1 8 #[106, 73, 106, 73, 106, 47, 106, 47], 47) := by decide +kernel
theorem dX1_grant_48 : decode cX1_grant 48 = .ok (.iload_n 3, 1) := by decide +kernel
theorem dX1_grant_49 : decode cX1_grant 49 = .ok (.ifCond .ne 80, 3) := by decide +kernel
theorem dX1_grant_52 : decode cX1_grant 52 = .ok (.aload_n 0, 1) := by decide +kernel
theorem dX1_grant_53 : decode cX1_grant 53 = .ok (.getfield 52, 3) := by decide +kernel
theorem dX1_grant_56 : decode cX1_grant 56 = .ok (.ifCond .ne 73, 3) := by decide +kernel
theorem dX1_grant_59 : decode cX1_grant 59 = .ok (.aload_n 0, 1) := by decide +kernel
theorem dX1_grant_60 : decode cX1_grant 60 = .ok (.dup, 1) := by decide +kernel
theorem dX1_grant_61 : decode cX1_grant 61 = .ok (.getfield 45, 3) := by decide +kernel
theorem dX1_grant_64 : decode cX1_grant 64 = .ok (.iconst 1, 1) := by decide +kernel
theorem dX1_grant_65 : decode cX1_grant 65 = .ok (.iload_n 1, 1) := by decide +kernel
theorem dX1_grant_66 : decode cX1_grant 66 = .ok (.ishl, 1) := by decide +kernel
theorem dX1_grant_67 : decode cX1_grant 67 = .ok (.ior, 1) := by decide +kernel
theorem dX1_grant_68 : decode cX1_grant 68 = .ok (.putfield 45, 3) := by decide +kernel
theorem dX1_grant_71 : decode cX1_grant 71 = .ok (.goto 58, 3) := by decide +kernel
theorem dX1_grant_74 : decode cX1_grant 74 = .ok (.iload_n 3, 1) := by decide +kernel
theorem dX1_grant_75 : decode cX1_grant 75 = .ok (.ifCond .ne 54, 3) := by decide +kernel
theorem dX1_grant_78 : decode cX1_grant 78 = .ok (.aload_n 0, 1) := by decide +kernel
theorem dX1_grant_79 : decode cX1_grant 79 = .ok (.getfield 52, 3) := by decide +kernel
theorem dX1_grant_82 : decode cX1_grant 82 = .ok (.ifCond .ne 47, 3) := by decide +kernel
theorem dX1_grant_85 : decode cX1_grant 85 = .ok (.aload_n 0, 1) := by decide +kernel
theorem dX1_grant_86 : decode cX1_grant 86 = .ok (.getfield 45, 3) := by decide +kernel
theorem dX1_grant_89 : decode cX1_grant 89 = .ok (.ifCond .ne 40, 3) := by decide +kernel
theorem dX1_grant_92 : decode cX1_grant 92 = .ok (.aload_n 0, 1) := by decide +kernel
theorem dX1_grant_93 : decode cX1_grant 93 = .ok (.dup, 1) := by decide +kernel
theorem dX1_grant_94 : decode cX1_grant 94 = .ok (.getfield 45, 3) := by decide +kernel
theorem dX1_grant_97 : decode cX1_grant 97 = .ok (.iconst 1, 1) := by decide +kernel
theorem dX1_grant_98 : decode cX1_grant 98 = .ok (.iload_n 1, 1) := by decide +kernel
theorem dX1_grant_99 : decode cX1_grant 99 = .ok (.ishl, 1) := by decide +kernel
theorem dX1_grant_100 : decode cX1_grant 100 = .ok (.ior, 1) := by decide +kernel
theorem dX1_grant_101 : decode cX1_grant 101 = .ok (.putfield 45, 3) := by decide +kernel
theorem dX1_grant_104 : decode cX1_grant 104 = .ok (.goto 25, 3) := by decide +kernel
theorem dX1_grant_107 : decode cX1_grant 107 = .ok (.aload_n 0, 1) := by decide +kernel
theorem dX1_grant_108 : decode cX1_grant 108 = .ok (.getfield 45, 3) := by decide +kernel
theorem dX1_grant_111 : decode cX1_grant 111 = .ok (.ifCond .ne 18, 3) := by decide +kernel
theorem dX1_grant_114 : decode cX1_grant 114 = .ok (.aload_n 0, 1) := by decide +kernel
theorem dX1_grant_115 : decode cX1_grant 115 = .ok (.dup, 1) := by decide +kernel
theorem dX1_grant_116 : decode cX1_grant 116 = .ok (.getfield 52, 3) := by decide +kernel
theorem dX1_grant_119 : decode cX1_grant 119 = .ok (.iconst 1, 1) := by decide +kernel
theorem dX1_grant_120 : decode cX1_grant 120 = .ok (.iload_n 1, 1) := by decide +kernel
theorem dX1_grant_121 : decode cX1_grant 121 = .ok (.ishl, 1) := by decide +kernel
theorem dX1_grant_122 : decode cX1_grant 122 = .ok (.ior, 1) := by decide +kernel
theorem dX1_grant_123 : decode cX1_grant 123 = .ok (.putfield 52, 3) := by decide +kernel
theorem dX1_grant_126 : decode cX1_grant 126 = .ok (.goto 3, 3) := by decide +kernel
theorem dX1_grant_129 : decode cX1_grant 129 = .ok (.return_, 1) := by decide +kernel
set_option maxRecDepth 20000 in
theorem ggX1_dropWaitsWithoutSwitch_X1_requestAt : GoodIn wsX1_dropWaitsWithoutSwitch wsX1_requestAt := goodIn_r _ [7, 1, 8, 2, 9, 10, 11, 12, 13, 14, 15, 25, 26, 27, 28, 29, 30, 31, 32, 33, 34, 35, 36, 37, 38, 39, 40] (by decide +kernel) (by decide +kernel)
set_option maxRecDepth 20000 in
theorem gX1_dropWaitsWithoutSwitch_X1_requestAt : GoodIn wsX1_dropWaitsWithoutSwitch (wsV RX1 118 RX1 yX1_requestAt wsX1_requestAt) := goodIn_app (goodIn_of _ (by decide +kernel)) ggX1_dropWaitsWithoutSwitch_X1_requestAt
set_option maxRecDepth 20000 in
theorem ggX1_dropWaitsWithoutSwitch_X1_switchAt : GoodIn wsX1_dropWaitsWithoutSwitch wsX1_switchAt := goodIn_r _ [19, 20, 21, 22, 23, 24, 25, 26, 27, 28, 29, 30, 31, 32, 33, 34, 35, 36, 37, 38] (by decide +kernel) (by decide +kernel)
set_option maxRecDepth 20000 in
theorem gX1_dropWaitsWithoutSwitch_X1_switchAt : GoodIn wsX1_dropWaitsWithoutSwitch (wsV RX1 111 RX1 yX1_switchAt wsX1_switchAt) := goodIn_app (goodIn_of _ (by decide +kernel)) ggX1_dropWaitsWithoutSwitch_X1_switchAt
theorem dX1_dropWaitsWithoutSwitch_0 : decode cX1_dropWaitsWithoutSwitch 0 = .ok (.iconst 0, 1) := by decide +kernel
theorem dX1_dropWaitsWithoutSwitch_1 : decode cX1_dropWaitsWithoutSwitch 1 = .ok (.istore_n 1, 1) := by decide +kernel
theorem dX1_dropWaitsWithoutSwitch_2 : decode cX1_dropWaitsWithoutSwitch 2 = .ok (.iload_n 1, 1) := by decide +kernel
theorem dX1_dropWaitsWithoutSwitch_3 : decode cX1_dropWaitsWithoutSwitch 3 = .ok (.aload_n 0, 1) := by decide +kernel
theorem dX1_dropWaitsWithoutSwitch_4 : decode cX1_dropWaitsWithoutSwitch 4 = .ok (.getfield 12, 3) := by decide +kernel
theorem dX1_dropWaitsWithoutSwitch_7 : decode cX1_dropWaitsWithoutSwitch 7 = .ok (.getfield 55, 3) := by decide +kernel
theorem dX1_dropWaitsWithoutSwitch_10 : decode cX1_dropWaitsWithoutSwitch 10 = .ok (.if_icmp .ge 50, 3) := by decide +kernel
theorem dX1_dropWaitsWithoutSwitch_13 : decode cX1_dropWaitsWithoutSwitch 13 = .ok (.aload_n 0, 1) := by decide +kernel
theorem dX1_dropWaitsWithoutSwitch_14 : decode cX1_dropWaitsWithoutSwitch 14 = .ok (.iload_n 1, 1) := by decide +kernel
theorem dX1_dropWaitsWithoutSwitch_15 : decode cX1_dropWaitsWithoutSwitch 15 = .ok (.invokevirtual 118, 3) := by decide +kernel
theorem dX1_dropWaitsWithoutSwitch_18 : decode cX1_dropWaitsWithoutSwitch 18 = .ok (.istore_n 2, 1) := by decide +kernel
theorem dX1_dropWaitsWithoutSwitch_19 : decode cX1_dropWaitsWithoutSwitch 19 = .ok (.iload_n 2, 1) := by decide +kernel
theorem dX1_dropWaitsWithoutSwitch_20 : decode cX1_dropWaitsWithoutSwitch 20 = .ok (.iconst 1, 1) := by decide +kernel
theorem dX1_dropWaitsWithoutSwitch_21 : decode cX1_dropWaitsWithoutSwitch 21 = .ok (.if_icmp .eq 8, 3) := by decide +kernel
theorem dX1_dropWaitsWithoutSwitch_24 : decode cX1_dropWaitsWithoutSwitch 24 = .ok (.iload_n 2, 1) := by decide +kernel
theorem dX1_dropWaitsWithoutSwitch_25 : decode cX1_dropWaitsWithoutSwitch 25 = .ok (.iconst 2, 1) := by decide +kernel
theorem dX1_dropWaitsWithoutSwitch_26 : decode cX1_dropWaitsWithoutSwitch 26 = .ok (.if_icmp .ne 7, 3) := by decide +kernel
theorem dX1_dropWaitsWithoutSwitch_29 : decode cX1_dropWaitsWithoutSwitch 29 = .ok (.iconst 1, 1) := by decide +kernel
theorem dX1_dropWaitsWithoutSwitch_30 : decode cX1_dropWaitsWithoutSwitch 30 = .ok (.goto 4, 3) := by decide +kernel
theorem dX1_dropWaitsWithoutSwitch_33 : decode cX1_dropWaitsWithoutSwitch 33 = .ok (.iconst 0, 1) := by decide +kernel
theorem dX1_dropWaitsWithoutSwitch_34 : decode cX1_dropWaitsWithoutSwitch 34 = .ok (.istore_n 3, 1) := by decide +kernel
theorem dX1_dropWaitsWithoutSwitch_35 : decode cX1_dropWaitsWithoutSwitch 35 = .ok (.iload_n 3, 1) := by decide +kernel
theorem dX1_dropWaitsWithoutSwitch_36 : decode cX1_dropWaitsWithoutSwitch 36 = .ok (.ifCond .eq 18, 3) := by decide +kernel
theorem dX1_dropWaitsWithoutSwitch_39 : decode cX1_dropWaitsWithoutSwitch 39 = .ok (.aload_n 0, 1) := by decide +kernel
theorem dX1_dropWaitsWithoutSwitch_40 : decode cX1_dropWaitsWithoutSwitch 40 = .ok (.iload_n 1, 1) := by decide +kernel
theorem dX1_dropWaitsWithoutSwitch_41 : decode cX1_dropWaitsWithoutSwitch 41 = .ok (.invokevirtual 111, 3) := by decide +kernel
theorem dX1_dropWaitsWithoutSwitch_44 : decode cX1_dropWaitsWithoutSwitch 44 = .ok (.ifCond .ne 10, 3) := by decide +kernel
theorem dX1_dropWaitsWithoutSwitch_47 : decode cX1_dropWaitsWithoutSwitch 47 = .ok (.aload_n 0, 1) := by decide +kernel
theorem dX1_dropWaitsWithoutSwitch_48 : decode cX1_dropWaitsWithoutSwitch 48 = .ok (.getfield 22, 3) := by decide +kernel
theorem dX1_dropWaitsWithoutSwitch_51 : decode cX1_dropWaitsWithoutSwitch 51 = .ok (.iload_n 1, 1) := by decide +kernel
theorem dX1_dropWaitsWithoutSwitch_52 : decode cX1_dropWaitsWithoutSwitch 52 = .ok (.iconst 0, 1) := by decide +kernel
theorem dX1_dropWaitsWithoutSwitch_53 : decode cX1_dropWaitsWithoutSwitch 53 = .ok (.iastore, 1) := by decide +kernel
theorem dX1_dropWaitsWithoutSwitch_54 : decode cX1_dropWaitsWithoutSwitch 54 = .ok (.iinc 1 1, 3) := by decide +kernel
theorem dX1_dropWaitsWithoutSwitch_57 : decode cX1_dropWaitsWithoutSwitch 57 = .ok (.goto (-55), 3) := by decide +kernel
theorem dX1_dropWaitsWithoutSwitch_60 : decode cX1_dropWaitsWithoutSwitch 60 = .ok (.return_, 1) := by decide +kernel
set_option maxRecDepth 20000 in
theorem ggX1_findSegments_X5_contains : GoodIn wsX1_findSegments wsX5_contains := goodIn_r _ [6] (by decide +kernel) (by decide +kernel)
set_option maxRecDepth 20000 in
theorem gX1_findSegments_X5_contains_n48 : GoodIn wsX1_findSegments (wsX5_contains) := ggX1_findSegments_X5_contains
theorem dX1_findSegments_0 : decode cX1_findSegments 0 = .ok (.iconst 0, 1) := by decide +kernel
theorem dX1_findSegments_1 : decode cX1_findSegments 1 = .ok (.istore_n 1, 1) := by decide +kernel
theorem dX1_findSegments_2 : decode cX1_findSegments 2 = .ok (.iconst 0, 1) := by decide +kernel
theorem dX1_findSegments_3 : decode cX1_findSegments 3 = .ok (.istore_n 2, 1) := by decide +kernel
theorem dX1_findSegments_4 : decode cX1_findSegments 4 = .ok (.iload_n 2, 1) := by decide +kernel
theorem dX1_findSegments_5 : decode cX1_findSegments 5 = .ok (.aload_n 0, 1) := by decide +kernel
theorem dX1_findSegments_6 : decode cX1_findSegments 6 = .ok (.getfield 12, 3) := by decide +kernel
theorem dX1_findSegments_9 : decode cX1_findSegments 9 = .ok (.getfield 55, 3) := by decide +kernel
theorem dX1_findSegments_12 : decode cX1_findSegments 12 = .ok (.if_icmp .ge 35, 3) := by decide +kernel
theorem dX1_findSegments_15 : decode cX1_findSegments 15 = .ok (.iload_n 2, 1) := by decide +kernel
theorem dX1_findSegments_16 : decode cX1_findSegments 16 = .ok (.ifCond .le 18, 3) := by decide +kernel
theorem dX1_findSegments_19 : decode cX1_findSegments 19 = .ok (.aload_n 0, 1) := by decide +kernel
theorem dX1_findSegments_20 : decode cX1_findSegments 20 = .ok (.getfield 45, 3) := by decide +kernel
theorem dX1_findSegments_23 : decode cX1_findSegments 23 = .ok (.iload_n 2, 1) := by decide +kernel
theorem dX1_findSegments_24 : decode cX1_findSegments 24 = .ok (.iconst 1, 1) := by decide +kernel
theorem dX1_findSegments_25 : decode cX1_findSegments 25 = .ok (.isub, 1) := by decide +kernel
theorem dX1_findSegments_26 : decode cX1_findSegments 26 = .ok (.invokestatic 48, 3) := by decide +kernel
theorem dX1_findSegments_29 : decode cX1_findSegments 29 = .ok (.ifCond .eq 5, 3) := by decide +kernel
theorem dX1_findSegments_32 : decode cX1_findSegments 32 = .ok (.iload_n 2, 1) := by decide +kernel
theorem dX1_findSegments_33 : decode cX1_findSegments 33 = .ok (.istore_n 1, 1) := by decide +kernel
theorem dX1_findSegments_34 : decode cX1_findSegments 34 = .ok (.aload_n 0, 1) := by decide +kernel
theorem dX1_findSegments_35 : decode cX1_findSegments 35 = .ok (.getfield 35, 3) := by decide +kernel
theorem dX1_findSegments_38 : decode cX1_findSegments 38 = .ok (.iload_n 2, 1) := by decide +kernel
theorem dX1_findSegments_39 : decode cX1_findSegments 39 = .ok (.iload_n 1, 1) := by decide +kernel
theorem dX1_findSegments_40 : decode cX1_findSegments 40 = .ok (.iastore, 1) := by decide +kernel
theorem dX1_findSegments_41 : decode cX1_findSegments 41 = .ok (.iinc 2 1, 3) := by decide +kernel
theorem dX1_findSegments_44 : decode cX1_findSegments 44 = .ok (.goto (-40), 3) := by decide +kernel
theorem dX1_findSegments_47 : decode cX1_findSegments 47 = .ok (.aload_n 0, 1) := by decide +kernel
theorem dX1_findSegments_48 : decode cX1_findSegments 48 = .ok (.getfield 45, 3) := by decide +kernel
theorem dX1_findSegments_51 : decode cX1_findSegments 51 = .ok (.aload_n 0, 1) := by decide +kernel
theorem dX1_findSegments_52 : decode cX1_findSegments 52 = .ok (.getfield 12, 3) := by decide +kernel
theorem dX1_findSegments_55 : decode cX1_findSegments 55 = .ok (.getfield 55, 3) := by decide +kernel
theorem dX1_findSegments_58 : decode cX1_findSegments 58 = .ok (.iconst 1, 1) := by decide +kernel
theorem dX1_findSegments_59 : decode cX1_findSegments 59 = .ok (.isub, 1) := by decide +kernel
theorem dX1_findSegments_60 : decode cX1_findSegments 60 = .ok (.invokestatic 48, 3) := by decide +kernel
theorem dX1_findSegments_63 : decode cX1_findSegments 63 = .ok (.ifCond .eq 4, 3) := by decide +kernel
theorem dX1_findSegments_66 : decode cX1_findSegments 66 = .ok (.return_, 1) := by decide +kernel
theorem dX1_findSegments_67 : decode cX1_findSegments 67 = .ok (.iload_n 1, 1) := by decide +kernel
theorem dX1_findSegments_68 : decode cX1_findSegments 68 = .ok (.istore_n 2, 1) := by decide +kernel
theorem dX1_findSegments_69 : decode cX1_findSegments 69 = .ok (.iload_n 2, 1) := by decide +kernel
theorem dX1_findSegments_70 : decode cX1_findSegments 70 = .ok (.aload_n 0, 1) := by decide +kernel
theorem dX1_findSegments_71 : decode cX1_findSegments 71 = .ok (.getfield 12, 3) := by decide +kernel
theorem dX1_findSegments_74 : decode cX1_findSegments 74 = .ok (.getfield 55, 3) := by decide +kernel
theorem dX1_findSegments_77 : decode cX1_findSegments 77 = .ok (.if_icmp .ge 16, 3) := by decide +kernel
theorem dX1_findSegments_80 : decode cX1_findSegments 80 = .ok (.aload_n 0, 1) := by decide +kernel
theorem dX1_findSegments_81 : decode cX1_findSegments 81 = .ok (.getfield 35, 3) := by decide +kernel
theorem dX1_findSegments_84 : decode cX1_findSegments 84 = .ok (.iload_n 2, 1) := by decide +kernel
theorem dX1_findSegments_85 : decode cX1_findSegments 85 = .ok (.iconst 0, 1) := by decide +kernel
theorem dX1_findSegments_86 : decode cX1_findSegments 86 = .ok (.iastore, 1) := by decide +kernel
theorem dX1_findSegments_87 : decode cX1_findSegments 87 = .ok (.iinc 2 1, 3) := by decide +kernel
theorem dX1_findSegments_90 : decode cX1_findSegments 90 = .ok (.goto (-21), 3) := by decide +kernel
theorem dX1_findSegments_93 : decode cX1_findSegments 93 = .ok (.return_, 1) := by decide +kernel
set_option maxRecDepth 20000 in
theorem ggX1_startAnew_X5_clearRow : GoodIn wsX1_startAnew wsX5_clearRow := goodIn_r _ [15] (by decide +kernel) (by decide +kernel)
set_option maxRecDepth 20000 in
theorem gX1_startAnew_X5_clearRow_n128 : GoodIn wsX1_startAnew (wsX5_clearRow) := ggX1_startAnew_X5_clearRow
theorem dX1_startAnew_0 : decode cX1_startAnew 0 = .ok (.aload_n 0, 1) := by decide +kernel
theorem dX1_startAnew_1 : decode cX1_startAnew 1 = .ok (.getfield 12, 3) := by decide +kernel
theorem dX1_startAnew_4 : decode cX1_startAnew 4 = .ok (.iload_n 1, 1) := by decide +kernel
theorem dX1_startAnew_5 : decode cX1_startAnew 5 = .ok (.putfield 55, 3) := by decide +kernel
theorem dX1_startAnew_8 : decode cX1_startAnew 8 = .ok (.aload_n 0, 1) := by decide +kernel
theorem dX1_startAnew_9 : decode cX1_startAnew 9 = .ok (.getfield 12, 3) := by decide +kernel
theorem dX1_startAnew_12 : decode cX1_startAnew 12 = .ok (.iload_n 2, 1) := by decide +kernel
theorem dX1_startAnew_13 : decode cX1_startAnew 13 = .ok (.putfield 125, 3) := by decide +kernel
theorem dX1_startAnew_16 : decode cX1_startAnew 16 = .ok (.aload_n 0, 1) := by decide +kernel
theorem dX1_startAnew_17 : decode cX1_startAnew 17 = .ok (.iconst 0, 1) := by decide +kernel
theorem dX1_startAnew_18 : decode cX1_startAnew 18 = .ok (.putfield 84, 3) := by decide +kernel
theorem dX1_startAnew_21 : decode cX1_startAnew 21 = .ok (.aload_n 0, 1) := by decide +kernel
theorem dX1_startAnew_22 : decode cX1_startAnew 22 = .ok (.iconst 0, 1) := by decide +kernel
theorem dX1_startAnew_23 : decode cX1_startAnew 23 = .ok (.putfield 90, 3) := by decide +kernel
theorem dX1_startAnew_26 : decode cX1_startAnew 26 = .ok (.aload_n 0, 1) := by decide +kernel
theorem dX1_startAnew_27 : decode cX1_startAnew 27 = .ok (.iconst 0, 1) := by decide +kernel
theorem dX1_startAnew_28 : decode cX1_startAnew 28 = .ok (.putfield 78, 3) := by decide +kernel
theorem dX1_startAnew_31 : decode cX1_startAnew 31 = .ok (.aload_n 0, 1) := by decide +kernel
theorem dX1_startAnew_32 : decode cX1_startAnew 32 = .ok (.iconst 0, 1) := by decide +kernel
theorem dX1_startAnew_33 : decode cX1_startAnew 33 = .ok (.putfield 87, 3) := by decide +kernel
theorem dX1_startAnew_36 : decode cX1_startAnew 36 = .ok (.aload_n 0, 1) := by decide +kernel
theorem dX1_startAnew_37 : decode cX1_startAnew 37 = .ok (.iconst 0, 1) := by decide +kernel
theorem dX1_startAnew_38 : decode cX1_startAnew 38 = .ok (.putfield 93, 3) := by decide +kernel
theorem dX1_startAnew_41 : decode cX1_startAnew 41 = .ok (.aload_n 0, 1) := by decide +kernel
theorem dX1_startAnew_42 : decode cX1_startAnew 42 = .ok (.iconst 0, 1) := by decide +kernel
theorem dX1_startAnew_43 : decode cX1_startAnew 43 = .ok (.putfield 52, 3) := by decide +kernel
theorem dX1_startAnew_46 : decode cX1_startAnew 46 = .ok (.aload_n 0, 1) := by decide +kernel
theorem dX1_startAnew_47 : decode cX1_startAnew 47 = .ok (.iconst 0, 1) := by decide +kernel
theorem dX1_startAnew_48 : decode cX1_startAnew 48 = .ok (.putfield 45, 3) := by decide +kernel
theorem dX1_startAnew_51 : decode cX1_startAnew 51 = .ok (.aload_n 0, 1) := by decide +kernel
theorem dX1_startAnew_52 : decode cX1_startAnew 52 = .ok (.getfield 18, 3) := by decide +kernel
theorem dX1_startAnew_55 : decode cX1_startAnew 55 = .ok (.invokestatic 128, 3) := by decide +kernel
theorem dX1_startAnew_58 : decode cX1_startAnew 58 = .ok (.aload_n 0, 1) := by decide +kernel
theorem dX1_startAnew_59 : decode cX1_startAnew 59 = .ok (.getfield 22, 3) := by decide +kernel
theorem dX1_startAnew_62 : decode cX1_startAnew 62 = .ok (.invokestatic 128, 3) := by decide +kernel
theorem dX1_startAnew_65 : decode cX1_startAnew 65 = .ok (.aload_n 0, 1) := by decide +kernel
theorem dX1_startAnew_66 : decode cX1_startAnew 66 = .ok (.getfield 32, 3) := by decide +kernel
theorem dX1_startAnew_69 : decode cX1_startAnew 69 = .ok (.invokestatic 128, 3) := by decide +kernel
theorem dX1_startAnew_72 : decode cX1_startAnew 72 = .ok (.aload_n 0, 1) := by decide +kernel
theorem dX1_startAnew_73 : decode cX1_startAnew 73 = .ok (.getfield 35, 3) := by decide +kernel
theorem dX1_startAnew_76 : decode cX1_startAnew 76 = .ok (.invokestatic 128, 3) := by decide +kernel
theorem dX1_startAnew_79 : decode cX1_startAnew 79 = .ok (.return_, 1) := by decide +kernel
set_option maxRecDepth 20000 in
theorem ggX1_copyFrom_X5_copyRow : GoodIn wsX1_copyFrom wsX5_copyRow := goodIn_r _ [17] (by decide +kernel) (by decide +kernel)
set_option maxRecDepth 20000 in
theorem gX1_copyFrom_X5_copyRow_n132 : GoodIn wsX1_copyFrom (wsX5_copyRow) := ggX1_copyFrom_X5_copyRow
theorem dX1_copyFrom_0 : decode cX1_copyFrom 0 = .ok (.aload_n 0, 1) := by decide +kernel
theorem dX1_copyFrom_1 : decode cX1_copyFrom 1 = .ok (.getfield 12, 3) := by decide +kernel
theorem dX1_copyFrom_4 : decode cX1_copyFrom 4 = .ok (.aload_n 1, 1) := by decide +kernel
theorem dX1_copyFrom_5 : decode cX1_copyFrom 5 = .ok (.getfield 12, 3) := by decide +kernel
theorem dX1_copyFrom_8 : decode cX1_copyFrom 8 = .ok (.getfield 55, 3) := by decide +kernel
theorem dX1_copyFrom_11 : decode cX1_copyFrom 11 = .ok (.putfield 55, 3) := by decide +kernel
theorem dX1_copyFrom_14 : decode cX1_copyFrom 14 = .ok (.aload_n 0, 1) := by decide +kernel
theorem dX1_copyFrom_15 : decode cX1_copyFrom 15 = .ok (.getfield 12, 3) := by decide +kernel
theorem dX1_copyFrom_18 : decode cX1_copyFrom 18 = .ok (.aload_n 1, 1) := by decide +kernel
theorem dX1_copyFrom_19 : decode cX1_copyFrom 19 = .ok (.getfield 12, 3) := by decide +kernel
theorem dX1_copyFrom_22 : decode cX1_copyFrom 22 = .ok (.getfield 125, 3) := by decide +kernel
theorem dX1_copyFrom_25 : decode cX1_copyFrom 25 = .ok (.putfield 125, 3) := by decide +kernel
theorem dX1_copyFrom_28 : decode cX1_copyFrom 28 = .ok (.aload_n 0, 1) := by decide +kernel
theorem dX1_copyFrom_29 : decode cX1_copyFrom 29 = .ok (.aload_n 1, 1) := by decide +kernel
theorem dX1_copyFrom_30 : decode cX1_copyFrom 30 = .ok (.getfield 84, 3) := by decide +kernel
theorem dX1_copyFrom_33 : decode cX1_copyFrom 33 = .ok (.putfield 84, 3) := by decide +kernel
theorem dX1_copyFrom_36 : decode cX1_copyFrom 36 = .ok (.aload_n 0, 1) := by decide +kernel
theorem dX1_copyFrom_37 : decode cX1_copyFrom 37 = .ok (.aload_n 1, 1) := by decide +kernel
theorem dX1_copyFrom_38 : decode cX1_copyFrom 38 = .ok (.getfield 90, 3) := by decide +kernel
theorem dX1_copyFrom_41 : decode cX1_copyFrom 41 = .ok (.putfield 90, 3) := by decide +kernel
theorem dX1_copyFrom_44 : decode cX1_copyFrom 44 = .ok (.aload_n 0, 1) := by decide +kernel
theorem dX1_copyFrom_45 : decode cX1_copyFrom 45 = .ok (.aload_n 1, 1) := by decide +kernel
theorem dX1_copyFrom_46 : decode cX1_copyFrom 46 = .ok (.getfield 78, 3) := by decide +kernel
theorem dX1_copyFrom_49 : decode cX1_copyFrom 49 = .ok (.putfield 78, 3) := by decide +kernel
theorem dX1_copyFrom_52 : decode cX1_copyFrom 52 = .ok (.aload_n 0, 1) := by decide +kernel
theorem dX1_copyFrom_53 : decode cX1_copyFrom 53 = .ok (.aload_n 1, 1) := by decide +kernel
theorem dX1_copyFrom_54 : decode cX1_copyFrom 54 = .ok (.getfield 28, 3) := by decide +kernel
theorem dX1_copyFrom_57 : decode cX1_copyFrom 57 = .ok (.putfield 28, 3) := by decide +kernel
theorem dX1_copyFrom_60 : decode cX1_copyFrom 60 = .ok (.aload_n 0, 1) := by decide +kernel
theorem dX1_copyFrom_61 : decode cX1_copyFrom 61 = .ok (.aload_n 1, 1) := by decide +kernel
theorem dX1_copyFrom_62 : decode cX1_copyFrom 62 = .ok (.getfield 87, 3) := by decide +kernel
theorem dX1_copyFrom_65 : decode cX1_copyFrom 65 = .ok (.putfield 87, 3) := by decide +kernel
theorem dX1_copyFrom_68 : decode cX1_copyFrom 68 = .ok (.aload_n 0, 1) := by decide +kernel
theorem dX1_copyFrom_69 : decode cX1_copyFrom 69 = .ok (.aload_n 1, 1) := by decide +kernel
theorem dX1_copyFrom_70 : decode cX1_copyFrom 70 = .ok (.getfield 93, 3) := by decide +kernel
theorem dX1_copyFrom_73 : decode cX1_copyFrom 73 = .ok (.putfield 93, 3) := by decide +kernel
theorem dX1_copyFrom_76 : decode cX1_copyFrom 76 = .ok (.aload_n 0, 1) := by decide +kernel
theorem dX1_copyFrom_77 : decode cX1_copyFrom 77 = .ok (.aload_n 1, 1) := by decide +kernel
theorem dX1_copyFrom_78 : decode cX1_copyFrom 78 = .ok (.getfield 52, 3) := by decide +kernel
theorem dX1_copyFrom_81 : decode cX1_copyFrom 81 = .ok (.putfield 52, 3) := by decide +kernel
theorem dX1_copyFrom_84 : decode cX1_copyFrom 84 = .ok (.aload_n 0, 1) := by decide +kernel
theorem dX1_copyFrom_85 : decode cX1_copyFrom 85 = .ok (.aload_n 1, 1) := by decide +kernel
theorem dX1_copyFrom_86 : decode cX1_copyFrom 86 = .ok (.getfield 45, 3) := by decide +kernel
theorem dX1_copyFrom_89 : decode cX1_copyFrom 89 = .ok (.putfield 45, 3) := by decide +kernel
theorem dX1_copyFrom_92 : decode cX1_copyFrom 92 = .ok (.aload_n 1, 1) := by decide +kernel
theorem dX1_copyFrom_93 : decode cX1_copyFrom 93 = .ok (.getfield 18, 3) := by decide +kernel
theorem dX1_copyFrom_96 : decode cX1_copyFrom 96 = .ok (.aload_n 0, 1) := by decide +kernel
theorem dX1_copyFrom_97 : decode cX1_copyFrom 97 = .ok (.getfield 18, 3) := by decide +kernel
theorem dX1_copyFrom_100 : decode cX1_copyFrom 100 = .ok (.invokestatic 132, 3) := by decide +kernel
theorem dX1_copyFrom_103 : decode cX1_copyFrom 103 = .ok (.aload_n 1, 1) := by decide +kernel
theorem dX1_copyFrom_104 : decode cX1_copyFrom 104 = .ok (.getfield 22, 3) := by decide +kernel
theorem dX1_copyFrom_107 : decode cX1_copyFrom 107 = .ok (.aload_n 0, 1) := by decide +kernel
theorem dX1_copyFrom_108 : decode cX1_copyFrom 108 = .ok (.getfield 22, 3) := by decide +kernel
theorem dX1_copyFrom_111 : decode cX1_copyFrom 111 = .ok (.invokestatic 132, 3) := by decide +kernel
theorem dX1_copyFrom_114 : decode cX1_copyFrom 114 = .ok (.aload_n 1, 1) := by decide +kernel
theorem dX1_copyFrom_115 : decode cX1_copyFrom 115 = .ok (.getfield 25, 3) := by decide +kernel
theorem dX1_copyFrom_118 : decode cX1_copyFrom 118 = .ok (.aload_n 0, 1) := by decide +kernel
theorem dX1_copyFrom_119 : decode cX1_copyFrom 119 = .ok (.getfield 25, 3) := by decide +kernel
theorem dX1_copyFrom_122 : decode cX1_copyFrom 122 = .ok (.invokestatic 132, 3) := by decide +kernel
theorem dX1_copyFrom_125 : decode cX1_copyFrom 125 = .ok (.aload_n 1, 1) := by decide +kernel
theorem dX1_copyFrom_126 : decode cX1_copyFrom 126 = .ok (.getfield 32, 3) := by decide +kernel
theorem dX1_copyFrom_129 : decode cX1_copyFrom 129 = .ok (.aload_n 0, 1) := by decide +kernel
theorem dX1_copyFrom_130 : decode cX1_copyFrom 130 = .ok (.getfield 32, 3) := by decide +kernel
theorem dX1_copyFrom_133 : decode cX1_copyFrom 133 = .ok (.invokestatic 132, 3) := by decide +kernel
theorem dX1_copyFrom_136 : decode cX1_copyFrom 136 = .ok (.aload_n 1, 1) := by decide +kernel
theorem dX1_copyFrom_137 : decode cX1_copyFrom 137 = .ok (.getfield 35, 3) := by decide +kernel
theorem dX1_copyFrom_140 : decode cX1_copyFrom 140 = .ok (.aload_n 0, 1) := by decide +kernel
theorem dX1_copyFrom_141 : decode cX1_copyFrom 141 = .ok (.getfield 35, 3) := by decide +kernel
theorem dX1_copyFrom_144 : decode cX1_copyFrom 144 = .ok (.invokestatic 132, 3) := by decide +kernel
theorem dX1_copyFrom_147 : decode cX1_copyFrom 147 = .ok (.return_, 1) := by decide +kernel
end
section
theorem dX2_init_0 : decode cX2_init 0 = .ok (.aload_n 0, 1) := by decide +kernel
theorem dX2_init_1 : decode cX2_init 1 = .ok (.invokespecial 3, 3) := by decide +kernel
theorem dX2_init_4 : decode cX2_init 4 = .ok (.aload_n 0, 1) := by decide +kernel
theorem dX2_init_5 : decode cX2_init 5 = .ok (.iconst 4, 1) := by decide +kernel
theorem dX2_init_6 : decode cX2_init 6 = .ok (.putfield 9, 3) := by decide +kernel
theorem dX2_init_9 : decode cX2_init 9 = .ok (.aload_n 0, 1) := by decide +kernel
theorem dX2_init_10 : decode cX2_init 10 = .ok (.iconst 2, 1) := by decide +kernel
theorem dX2_init_11 : decode cX2_init 11 = .ok (.putfield 15, 3) := by decide +kernel
theorem dX2_init_14 : decode cX2_init 14 = .ok (.return_, 1) := by decide +kernel
theorem dX2_hasNode_0 : decode cX2_hasNode 0 = .ok (.iload_n 1, 1) := by decide +kernel
theorem dX2_hasNode_1 : decode cX2_hasNode 1 = .ok (.ifCond .lt 15, 3) := by decide +kernel
theorem dX2_hasNode_4 : decode cX2_hasNode 4 = .ok (.iload_n 1, 1) := by decide +kernel
theorem dX2_hasNode_5 : decode cX2_hasNode 5 = .ok (.aload_n 0, 1) := by decide +kernel
theorem dX2_hasNode_6 : decode cX2_hasNode 6 = .ok (.getfield 9, 3) := by decide +kernel
theorem dX2_hasNode_9 : decode cX2_hasNode 9 = .ok (.if_icmp .ge 7, 3) := by decide +kernel
theorem dX2_hasNode_12 : decode cX2_hasNode 12 = .ok (.iconst 1, 1) := by decide +kernel
theorem dX2_hasNode_13 : decode cX2_hasNode 13 = .ok (.goto 4, 3) := by decide +kernel
theorem dX2_hasNode_16 : decode cX2_hasNode 16 = .ok (.iconst 0, 1) := by decide +kernel
theorem dX2_hasNode_17 : decode cX2_hasNode 17 = .ok (.ireturn, 1) := by decide +kernel
theorem dX2_hasSpan_0 : decode cX2_hasSpan 0 = .ok (.iload_n 1, 1) := by decide +kernel
theorem dX2_hasSpan_1 : decode cX2_hasSpan 1 = .ok (.ifCond .lt 15, 3) := by decide +kernel
theorem dX2_hasSpan_4 : decode cX2_hasSpan 4 = .ok (.iload_n 1, 1) := by decide +kernel
theorem dX2_hasSpan_5 : decode cX2_hasSpan 5 = .ok (.aload_n 0, 1) := by decide +kernel
theorem dX2_hasSpan_6 : decode cX2_hasSpan 6 = .ok (.getfield 9, 3) := by decide +kernel
theorem dX2_hasSpan_9 : decode cX2_hasSpan 9 = .ok (.if_icmp .ge 7, 3) := by decide +kernel
theorem dX2_hasSpan_12 : decode cX2_hasSpan 12 = .ok (.iconst 1, 1) := by decide +kernel
theorem dX2_hasSpan_13 : decode cX2_hasSpan 13 = .ok (.goto 4, 3) := by decide +kernel
theorem dX2_hasSpan_16 : decode cX2_hasSpan 16 = .ok (.iconst 0, 1) := by decide +kernel
theorem dX2_hasSpan_17 : decode cX2_hasSpan 17 = .ok (.ireturn, 1) := by decide +kernel
theorem dX2_nodeAfter_0 : decode cX2_nodeAfter 0 = .ok (.iload_n 1, 1) := by decide +kernel
theorem dX2_nodeAfter_1 : decode cX2_nodeAfter 1 = .ok (.iconst 1, 1) := by decide +kernel
theorem dX2_nodeAfter_2 : decode cX2_nodeAfter 2 = .ok (.iadd, 1) := by decide +kernel
theorem dX2_nodeAfter_3 : decode cX2_nodeAfter 3 = .ok (.aload_n 0, 1) := by decide +kernel
theorem dX2_nodeAfter_4 : decode cX2_nodeAfter 4 = .ok (.getfield 9, 3) := by decide +kernel
theorem dX2_nodeAfter_7 : decode cX2_nodeAfter 7 = .ok (.if_icmp .ge 9, 3) := by decide +kernel
theorem dX2_nodeAfter_10 : decode cX2_nodeAfter 10 = .ok (.iload_n 1, 1) := by decide +kernel
theorem dX2_nodeAfter_11 : decode cX2_nodeAfter 11 = .ok (.iconst 1, 1) := by decide +kernel
theorem dX2_nodeAfter_12 : decode cX2_nodeAfter 12 = .ok (.iadd, 1) := by decide +kernel
theorem dX2_nodeAfter_13 : decode cX2_nodeAfter 13 = .ok (.goto 4, 3) := by decide +kernel
theorem dX2_nodeAfter_16 : decode cX2_nodeAfter 16 = .ok (.iconst 0, 1) := by decide +kernel
theorem dX2_nodeAfter_17 : decode cX2_nodeAfter 17 = .ok (.ireturn, 1) := by decide +kernel
theorem dX2_spansAt_0 : decode cX2_spansAt 0 = .ok (.iload_n 1, 1) := by decide +kernel
theorem dX2_spansAt_1 : decode cX2_spansAt 1 = .ok (.ifCond .le 9, 3) := by decide +kernel
theorem dX2_spansAt_4 : decode cX2_spansAt 4 = .ok (.iload_n 1, 1) := by decide +kernel
theorem dX2_spansAt_5 : decode cX2_spansAt 5 = .ok (.iconst 1, 1) := by decide +kernel
theorem dX2_spansAt_6 : decode cX2_spansAt 6 = .ok (.isub, 1) := by decide +kernel
theorem dX2_spansAt_7 : decode cX2_spansAt 7 = .ok (.goto 9, 3) := by decide +kernel
theorem dX2_spansAt_10 : decode cX2_spansAt 10 = .ok (.aload_n 0, 1) := by decide +kernel
theorem dX2_spansAt_11 : decode cX2_spansAt 11 = .ok (.getfield 9, 3) := by decide +kernel
theorem dX2_spansAt_14 : decode cX2_spansAt 14 = .ok (.iconst 1, 1) := by decide +kernel
theorem dX2_spansAt_15 : decode cX2_spansAt 15 = .ok (.isub, 1) := by decide +kernel
theorem dX2_spansAt_16 : decode cX2_spansAt 16 = .ok (.istore_n 2, 1) := by decide +kernel
theorem dX2_spansAt_17 : decode cX2_spansAt 17 = .ok (.iconst 1, 1) := by decide +kernel
theorem dX2_spansAt_18 : decode cX2_spansAt 18 = .ok (.iload_n 1, 1) := by decide +kernel
theorem dX2_spansAt_19 : decode cX2_spansAt 19 = .ok (.ishl, 1) := by decide +kernel
theorem dX2_spansAt_20 : decode cX2_spansAt 20 = .ok (.iconst 1, 1) := by decide +kernel
theorem dX2_spansAt_21 : decode cX2_spansAt 21 = .ok (.iload_n 2, 1) := by decide +kernel
theorem dX2_spansAt_22 : decode cX2_spansAt 22 = .ok (.ishl, 1) := by decide +kernel
theorem dX2_spansAt_23 : decode cX2_spansAt 23 = .ok (.ior, 1) := by decide +kernel
theorem dX2_spansAt_24 : decode cX2_spansAt 24 = .ok (.ireturn, 1) := by decide +kernel
set_option maxRecDepth 20000 in
theorem ggX2_route_X2_nodeAfter : GoodIn wsX2_route wsX2_nodeAfter := goodIn_r _ [6, 1, 7, 8] (by decide +kernel) (by decide +kernel)
set_option maxRecDepth 20000 in
theorem gX2_route_X2_nodeAfter : GoodIn wsX2_route (wsV RX2 18 RX2 yX2_nodeAfter wsX2_nodeAfter) := goodIn_app (goodIn_of _ (by decide +kernel)) ggX2_route_X2_nodeAfter
theorem dX2_route_0 : decode cX2_route 0 = .ok (.iconst 0, 1) := by decide +kernel
theorem dX2_route_1 : decode cX2_route 1 = .ok (.istore 4, 2) := by decide +kernel
theorem dX2_route_3 : decode cX2_route 3 = .ok (.iload_n 1, 1) := by decide +kernel
theorem dX2_route_4 : decode cX2_route 4 = .ok (.istore 5, 2) := by decide +kernel
theorem dX2_route_6 : decode cX2_route 6 = .ok (.iconst 0, 1) := by decide +kernel
theorem dX2_route_7 : decode cX2_route 7 = .ok (.istore 6, 2) := by decide +kernel
theorem dX2_route_9 : decode cX2_route 9 = .ok (.iload 6, 2) := by decide +kernel
theorem dX2_route_11 : decode cX2_route 11 = .ok (.aload_n 0, 1) := by decide +kernel
theorem dX2_route_12 : decode cX2_route 12 = .ok (.getfield 9, 3) := by decide +kernel
theorem dX2_route_15 : decode cX2_route 15 = .ok (.if_icmp .ge 32, 3) := by decide +kernel
theorem dX2_route_18 : decode cX2_route 18 = .ok (.iload 5, 2) := by decide +kernel
theorem dX2_route_20 : decode cX2_route 20 = .ok (.iload_n 2, 1) := by decide +kernel
theorem dX2_route_21 : decode cX2_route 21 = .ok (.if_icmp .eq 26, 3) := by decide +kernel
theorem dX2_route_24 : decode cX2_route 24 = .ok (.iload 4, 2) := by decide +kernel
theorem dX2_route_26 : decode cX2_route 26 = .ok (.iconst 1, 1) := by decide +kernel
theorem dX2_route_27 : decode cX2_route 27 = .ok (.iload 5, 2) := by decide +kernel
theorem dX2_route_29 : decode cX2_route 29 = .ok (.ishl, 1) := by decide +kernel
theorem dX2_route_30 : decode cX2_route 30 = .ok (.ior, 1) := by decide +kernel
theorem dX2_route_31 : decode cX2_route 31 = .ok (.istore 4, 2) := by decide +kernel
theorem dX2_route_33 : decode cX2_route 33 = .ok (.aload_n 0, 1) := by decide +kernel
theorem dX2_route_34 : decode cX2_route 34 = .ok (.iload 5, 2) := by decide +kernel
theorem dX2_route_36 : decode cX2_route 36 = .ok (.invokevirtual 18, 3) := by decide +kernel
theorem dX2_route_39 : decode cX2_route 39 = .ok (.istore 5, 2) := by decide +kernel
theorem dX2_route_41 : decode cX2_route 41 = .ok (.iinc 6 1, 3) := by decide +kernel
theorem dX2_route_44 : decode cX2_route 44 = .ok (.goto (-35), 3) := by decide +kernel
theorem dX2_route_47 : decode cX2_route 47 = .ok (.iconst 1, 1) := by decide +kernel
theorem dX2_route_48 : decode cX2_route 48 = .ok (.aload_n 0, 1) := by decide +kernel
theorem dX2_route_49 : decode cX2_route 49 = .ok (.getfield 9, 3) := by decide +kernel
theorem dX2_route_52 : decode cX2_route 52 = .ok (.ishl, 1) := by decide +kernel
theorem dX2_route_53 : decode cX2_route 53 = .ok (.iconst 1, 1) := by decide +kernel
theorem dX2_route_54 : decode cX2_route 54 = .ok (.isub, 1) := by decide +kernel
theorem dX2_route_55 : decode cX2_route 55 = .ok (.istore 6, 2) := by decide +kernel
theorem dX2_route_57 : decode cX2_route 57 = .ok (.iload_n 3, 1) := by decide +kernel
theorem dX2_route_58 : decode cX2_route 58 = .ok (.ifCond .eq 8, 3) := by decide +kernel
theorem dX2_route_61 : decode cX2_route 61 = .ok (.iload 4, 2) := by decide +kernel
theorem dX2_route_63 : decode cX2_route 63 = .ok (.goto 10, 3) := by decide +kernel
theorem dX2_route_66 : decode cX2_route 66 = .ok (.iload 6, 2) := by decide +kernel
theorem dX2_route_68 : decode cX2_route 68 = .ok (.iload 4, 2) := by decide +kernel
theorem dX2_route_70 : decode cX2_route 70 = .ok (.iconst (-1), 1) := by decide +kernel
theorem dX2_route_71 : decode cX2_route 71 = .ok (.ixor, 1) := by decide +kernel
theorem dX2_route_72 : decode cX2_route 72 = .ok (.iand, 1) := by decide +kernel
theorem dX2_route_73 : decode cX2_route 73 = .ok (.ireturn, 1) := by decide +kernel
end
section
set_option maxRecDepth 20000 in
theorem ggX3_init_X0_init : GoodIn wsX3_init wsX0_init := goodIn_r _ [14, 15, 2, 3, 16, 17, 18, 19, 20, 39, 40, 41, 42, 43] (by decide +kernel) (by decide +kernel)
set_option maxRecDepth 20000 in
theorem gX3_init_X0_init_n11 : GoodIn wsX3_init (wsX0_init) := ggX3_init_X0_init
set_option maxRecDepth 20000 in
theorem ggX3_init_X1_init : GoodIn wsX3_init wsX1_init := goodIn_r _ [22, 23, 2, 3, 24, 25, 26, 27, 16, 28, 29, 30, 31, 32, 33, 34, 35, 36, 37, 38, 62, 63, 48, 49, 50, 51, 52, 53, 54, 55, 56, 57, 58, 59, 60, 61] (by decide +kernel) (by decide +kernel)
set_option maxRecDepth 20000 in
theorem gX3_init_X1_init_n20 : GoodIn wsX3_init (wsX1_init) := ggX3_init_X1_init
theorem dX3_init_0 : decode cX3_init 0 = .ok (.aload_n 0, 1) := by decide +kernel
theorem dX3_init_1 : decode cX3_init 1 = .ok (.invokespecial 3, 3) := by decide +kernel
theorem dX3_init_4 : decode cX3_init 4 = .ok (.aload_n 0, 1) := by decide +kernel
theorem dX3_init_5 : decode cX3_init 5 = .ok (.new 9, 3) := by decide +kernel
theorem dX3_init_8 : decode cX3_init 8 = .ok (.dup, 1) := by decide +kernel
theorem dX3_init_9 : decode cX3_init 9 = .ok (.invokespecial 11, 3) := by decide +kernel
theorem dX3_init_12 : decode cX3_init 12 = .ok (.putfield 12, 3) := by decide +kernel
theorem dX3_init_15 : decode cX3_init 15 = .ok (.aload_n 0, 1) := by decide +kernel
theorem dX3_init_16 : decode cX3_init 16 = .ok (.new 18, 3) := by decide +kernel
theorem dX3_init_19 : decode cX3_init 19 = .ok (.dup, 1) := by decide +kernel
theorem dX3_init_20 : decode cX3_init 20 = .ok (.invokespecial 20, 3) := by decide +kernel
theorem dX3_init_23 : decode cX3_init 23 = .ok (.putfield 21, 3) := by decide +kernel
theorem dX3_init_26 : decode cX3_init 26 = .ok (.aload_n 0, 1) := by decide +kernel
theorem dX3_init_27 : decode cX3_init 27 = .ok (.aload_n 0, 1) := by decide +kernel
theorem dX3_init_28 : decode cX3_init 28 = .ok (.getfield 21, 3) := by decide +kernel
theorem dX3_init_31 : decode cX3_init 31 = .ok (.getfield 25, 3) := by decide +kernel
theorem dX3_init_34 : decode cX3_init 34 = .ok (.putfield 29, 3) := by decide +kernel
theorem dX3_init_37 : decode cX3_init 37 = .ok (.return_, 1) := by decide +kernel
set_option maxRecDepth 20000 in
theorem ggX3_startAnew_X0_takeAllAway : GoodIn wsX3_startAnew wsX0_takeAllAway := goodIn_r _ [8, 9, 10, 11, 12, 13, 35, 36, 37, 38, 39] (by decide +kernel) (by decide +kernel)
set_option maxRecDepth 20000 in
theorem gX3_startAnew_X0_takeAllAway : GoodIn wsX3_startAnew (wsV RX3 30 RX0 yX0_takeAllAway wsX0_takeAllAway) := goodIn_app (goodIn_of _ (by decide +kernel)) ggX3_startAnew_X0_takeAllAway
set_option maxRecDepth 20000 in
theorem ggX3_startAnew_X1_startAnew : GoodIn wsX3_startAnew wsX1_startAnew := goodIn_r _ [18, 19, 20, 21, 22, 23, 24, 25, 26, 27, 28, 29, 30, 11, 12, 13, 40, 41, 42, 43, 44, 45, 46, 47, 48, 49, 50, 51, 52, 53, 54, 55] (by decide +kernel) (by decide +kernel)
set_option maxRecDepth 20000 in
theorem gX3_startAnew_X1_startAnew : GoodIn wsX3_startAnew (wsV RX3 33 RX1 yX1_startAnew wsX1_startAnew) := goodIn_app (goodIn_of _ (by decide +kernel)) ggX3_startAnew_X1_startAnew
theorem dX3_startAnew_0 : decode cX3_startAnew 0 = .ok (.aload_n 0, 1) := by decide +kernel
theorem dX3_startAnew_1 : decode cX3_startAnew 1 = .ok (.getfield 12, 3) := by decide +kernel
theorem dX3_startAnew_4 : decode cX3_startAnew 4 = .ok (.invokevirtual 30, 3) := by decide +kernel
theorem dX3_startAnew_7 : decode cX3_startAnew 7 = .ok (.aload_n 0, 1) := by decide +kernel
theorem dX3_startAnew_8 : decode cX3_startAnew 8 = .ok (.getfield 21, 3) := by decide +kernel
theorem dX3_startAnew_11 : decode cX3_startAnew 11 = .ok (.iload_n 1, 1) := by decide +kernel
theorem dX3_startAnew_12 : decode cX3_startAnew 12 = .ok (.iload_n 2, 1) := by decide +kernel
theorem dX3_startAnew_13 : decode cX3_startAnew 13 = .ok (.invokevirtual 33, 3) := by decide +kernel
theorem dX3_startAnew_16 : decode cX3_startAnew 16 = .ok (.aload_n 0, 1) := by decide +kernel
theorem dX3_startAnew_17 : decode cX3_startAnew 17 = .ok (.iconst 0, 1) := by decide +kernel
theorem dX3_startAnew_18 : decode cX3_startAnew 18 = .ok (.putfield 37, 3) := by decide +kernel
theorem dX3_startAnew_21 : decode cX3_startAnew 21 = .ok (.return_, 1) := by decide +kernel
set_option maxRecDepth 20000 in
theorem ggX3_copyFrom_X0_copyFrom : GoodIn wsX3_copyFrom wsX0_copyFrom := goodIn_r _ [8, 9, 10, 11, 12, 13, 14, 15, 16, 40, 41, 42, 43, 44] (by decide +kernel) (by decide +kernel)
set_option maxRecDepth 20000 in
theorem gX3_copyFrom_X0_copyFrom : GoodIn wsX3_copyFrom (wsV RX3 41 RX0 yX0_copyFrom wsX0_copyFrom) := goodIn_app (goodIn_of _ (by decide +kernel)) ggX3_copyFrom_X0_copyFrom
set_option maxRecDepth 20000 in
theorem ggX3_copyFrom_X1_copyFrom : GoodIn wsX3_copyFrom wsX1_copyFrom := goodIn_r _ [21, 22, 23, 24, 25, 26, 27, 28, 29, 30, 31, 32, 33, 34, 35, 14, 15, 16, 45, 46, 47, 48, 49, 50, 51, 52, 53, 54, 55, 56, 57, 58, 59, 60] (by decide +kernel) (by decide +kernel)
set_option maxRecDepth 20000 in
theorem gX3_copyFrom_X1_copyFrom : GoodIn wsX3_copyFrom (wsV RX3 45 RX1 yX1_copyFrom wsX1_copyFrom) := goodIn_app (goodIn_of _ (by decide +kernel)) ggX3_copyFrom_X1_copyFrom
theorem dX3_copyFrom_0 : decode cX3_copyFrom 0 = .ok (.aload_n 0, 1) := by decide +kernel
theorem dX3_copyFrom_1 : decode cX3_copyFrom 1 = .ok (.getfield 12, 3) := by decide +kernel
theorem dX3_copyFrom_4 : decode cX3_copyFrom 4 = .ok (.aload_n 1, 1) := by decide +kernel
theorem dX3_copyFrom_5 : decode cX3_copyFrom 5 = .ok (.getfield 12, 3) := by decide +kernel
theorem dX3_copyFrom_8 : decode cX3_copyFrom 8 = .ok (.invokevirtual 41, 3) := by decide +kernel
theorem dX3_copyFrom_11 : decode cX3_copyFrom 11 = .ok (.aload_n 0, 1) := by decide +kernel
theorem dX3_copyFrom_12 : decode cX3_copyFrom 12 = .ok (.getfield 21, 3) := by decide +kernel
theorem dX3_copyFrom_15 : decode cX3_copyFrom 15 = .ok (.aload_n 1, 1) := by decide +kernel
theorem dX3_copyFrom_16 : decode cX3_copyFrom 16 = .ok (.getfield 21, 3) := by decide +kernel
theorem dX3_copyFrom_19 : decode cX3_copyFrom 19 = .ok (.invokevirtual 45, 3) := by decide +kernel
theorem dX3_copyFrom_22 : decode cX3_copyFrom 22 = .ok (.aload_n 0, 1) := by decide +kernel
theorem dX3_copyFrom_23 : decode cX3_copyFrom 23 = .ok (.aload_n 1, 1) := by decide +kernel
theorem dX3_copyFrom_24 : decode cX3_copyFrom 24 = .ok (.getfield 37, 3) := by decide +kernel
theorem dX3_copyFrom_27 : decode cX3_copyFrom 27 = .ok (.putfield 37, 3) := by decide +kernel
theorem dX3_copyFrom_30 : decode cX3_copyFrom 30 = .ok (.return_, 1) := by decide +kernel
set_option maxRecDepth 20000 in
theorem ggX3_passSecond_X1_countTimersDown : GoodIn wsX3_passSecond wsX1_countTimersDown := goodIn_r _ [7, 8, 9, 95, 96, 97, 98, 99, 100, 101, 102, 103, 104, 105, 106, 107, 108, 109, 110] (by decide +kernel) (by decide +kernel)
set_option maxRecDepth 20000 in
theorem gX3_passSecond_X1_countTimersDown : GoodIn wsX3_passSecond (wsV RX3 48 RX1 yX1_countTimersDown wsX1_countTimersDown) := goodIn_app (goodIn_of _ (by decide +kernel)) ggX3_passSecond_X1_countTimersDown
set_option maxRecDepth 20000 in
theorem ggX3_passSecond_X1_run : GoodIn wsX3_passSecond wsX1_run := goodIn_r _ [13, 8, 14, 15, 16, 6, 17, 18, 19, 20, 21, 22, 23, 24, 25, 26, 27, 28, 29, 30, 31, 32, 33, 34, 35, 36, 37, 38, 39, 40, 9, 41, 42, 43, 44, 45, 46, 47, 48, 49, 50, 51, 52, 53, 54, 55, 56, 57, 58, 59, 60, 61, 62, 63, 64, 65, 66, 67, 68, 69, 70, 71, 72, 73, 74, 75, 76, 77, 78, 79, 80, 81, 82, 83, 84, 85, 86, 87, 88, 89, 90, 95, 96, 97, 98, 99, 100, 101, 102, 103, 104, 105, 106, 107, 108, 109, 110] (by decide +kernel) (by decide +kernel)
set_option maxRecDepth 20000 in
theorem gX3_passSecond_X1_run : GoodIn wsX3_passSecond (wsV RX3 51 RX1 yX1_run wsX1_run) := goodIn_app (goodIn_of _ (by decide +kernel)) ggX3_passSecond_X1_run
theorem dX3_passSecond_0 : decode cX3_passSecond 0 = .ok (.aload_n 0, 1) := by decide +kernel
theorem dX3_passSecond_1 : decode cX3_passSecond 1 = .ok (.dup, 1) := by decide +kernel
theorem dX3_passSecond_2 : decode cX3_passSecond 2 = .ok (.getfield 37, 3) := by decide +kernel
theorem dX3_passSecond_5 : decode cX3_passSecond 5 = .ok (.iconst 1, 1) := by decide +kernel
theorem dX3_passSecond_6 : decode cX3_passSecond 6 = .ok (.iadd, 1) := by decide +kernel
theorem dX3_passSecond_7 : decode cX3_passSecond 7 = .ok (.putfield 37, 3) := by decide +kernel
theorem dX3_passSecond_10 : decode cX3_passSecond 10 = .ok (.aload_n 0, 1) := by decide +kernel
theorem dX3_passSecond_11 : decode cX3_passSecond 11 = .ok (.getfield 21, 3) := by decide +kernel
theorem dX3_passSecond_14 : decode cX3_passSecond 14 = .ok (.invokevirtual 48, 3) := by decide +kernel
theorem dX3_passSecond_17 : decode cX3_passSecond 17 = .ok (.aload_n 0, 1) := by decide +kernel
theorem dX3_passSecond_18 : decode cX3_passSecond 18 = .ok (.getfield 21, 3) := by decide +kernel
theorem dX3_passSecond_21 : decode cX3_passSecond 21 = .ok (.invokevirtual 51, 3) := by decide +kernel
theorem dX3_passSecond_24 : decode cX3_passSecond 24 = .ok (.return_, 1) := by decide +kernel
set_option maxRecDepth 20000 in
theorem ggX3_stateOf_X0_isExtra : GoodIn wsX3_stateOf wsX0_isExtra := goodIn_r _ [6, 7, 8, 9, 10, 65, 66, 67, 68, 69] (by decide +kernel) (by decide +kernel)
set_option maxRecDepth 20000 in
theorem gX3_stateOf_X0_isExtra : GoodIn wsX3_stateOf (wsV RX3 54 RX0 yX0_isExtra wsX0_isExtra) := goodIn_app (goodIn_of _ (by decide +kernel)) ggX3_stateOf_X0_isExtra
set_option maxRecDepth 20000 in
theorem ggX3_stateOf_X3_stateOfExtra : GoodIn wsX3_stateOf wsX3_stateOfExtra := goodIn_r _ [15, 1, 16, 17, 18, 19, 5, 20, 21, 22, 23, 24, 25, 61, 62, 63, 64, 70, 71, 72, 73, 74, 75, 76, 77, 78, 79, 80, 81, 82, 83, 65, 66, 67, 68, 69] (by decide +kernel) (by decide +kernel)
set_option maxRecDepth 20000 in
theorem gX3_stateOf_X3_stateOfExtra : GoodIn wsX3_stateOf (wsV RX3 58 RX3 yX3_stateOfExtra wsX3_stateOfExtra) := goodIn_app (goodIn_of _ (by decide +kernel)) ggX3_stateOf_X3_stateOfExtra
set_option maxRecDepth 20000 in
theorem ggX3_stateOf_X3_stateOfNormal : GoodIn wsX3_stateOf wsX3_stateOfNormal := goodIn_r _ [29, 1, 16, 17, 18, 19, 5, 20, 21, 22, 23, 24, 25, 30, 31, 32, 33, 34, 35, 36, 37, 38, 39, 40, 41, 42, 43, 44, 45, 46, 47, 48, 49, 50, 51, 52, 53, 54, 55, 56, 57, 58, 59, 60, 61, 62, 63, 64, 70, 71, 72, 73, 74, 75, 76, 77, 78, 79, 80, 81, 82, 83, 65, 66, 67, 68, 69, 84, 85] (by decide +kernel) (by decide +kernel)
set_option maxRecDepth 20000 in
theorem gX3_stateOf_X3_stateOfNormal : GoodIn wsX3_stateOf (wsV RX3 62 RX3 yX3_stateOfNormal wsX3_stateOfNormal) := goodIn_app (goodIn_of _ (by decide +kernel)) ggX3_stateOf_X3_stateOfNormal
theorem dX3_stateOf_0 : decode cX3_stateOf 0 = .ok (.aload_n 0, 1) := by decide +kernel
theorem dX3_stateOf_1 : decode cX3_stateOf 1 = .ok (.getfield 12, 3) := by decide +kernel
theorem dX3_stateOf_4 : decode cX3_stateOf 4 = .ok (.iload_n 1, 1) := by decide +kernel
theorem dX3_stateOf_5 : decode cX3_stateOf 5 = .ok (.invokevirtual 54, 3) := by decide +kernel
theorem dX3_stateOf_8 : decode cX3_stateOf 8 = .ok (.ifCond .eq 11, 3) := by decide +kernel
theorem dX3_stateOf_11 : decode cX3_stateOf 11 = .ok (.aload_n 0, 1) := by decide +kernel
theorem dX3_stateOf_12 : decode cX3_stateOf 12 = .ok (.iload_n 1, 1) := by decide +kernel
theorem dX3_stateOf_13 : decode cX3_stateOf 13 = .ok (.invokevirtual 58, 3) := by decide +kernel
theorem dX3_stateOf_16 : decode cX3_stateOf 16 = .ok (.goto 8, 3) := by decide +kernel
theorem dX3_stateOf_19 : decode cX3_stateOf 19 = .ok (.aload_n 0, 1) := by decide +kernel
theorem dX3_stateOf_20 : decode cX3_stateOf 20 = .ok (.iload_n 1, 1) := by decide +kernel
theorem dX3_stateOf_21 : decode cX3_stateOf 21 = .ok (.invokevirtual 62, 3) := by decide +kernel
theorem dX3_stateOf_24 : decode cX3_stateOf 24 = .ok (.ireturn, 1) := by decide +kernel
set_option maxRecDepth 20000 in
theorem ggX3_stateOfExtra_X0_pathOf : GoodIn wsX3_stateOfExtra wsX0_pathOf := goodIn_r _ [7, 8, 9, 10, 11, 6, 12, 31, 32, 33, 34, 35] (by decide +kernel) (by decide +kernel)
set_option maxRecDepth 20000 in
theorem gX3_stateOfExtra_X0_pathOf : GoodIn wsX3_stateOfExtra (wsV RX3 65 RX0 yX0_pathOf wsX0_pathOf) := goodIn_app (goodIn_of _ (by decide +kernel)) ggX3_stateOfExtra_X0_pathOf
theorem dX3_stateOfExtra_0 : decode cX3_stateOfExtra 0 = .ok (.aload_n 0, 1) := by decide +kernel
theorem dX3_stateOfExtra_1 : decode cX3_stateOfExtra 1 = .ok (.getfield 12, 3) := by decide +kernel
theorem dX3_stateOfExtra_4 : decode cX3_stateOfExtra 4 = .ok (.iload_n 1, 1) := by decide +kernel
theorem dX3_stateOfExtra_5 : decode cX3_stateOfExtra 5 = .ok (.invokevirtual 65, 3) := by decide +kernel
theorem dX3_stateOfExtra_8 : decode cX3_stateOfExtra 8 = .ok (.istore_n 2, 1) := by decide +kernel
theorem dX3_stateOfExtra_9 : decode cX3_stateOfExtra 9 = .ok (.aload_n 0, 1) := by decide +kernel
theorem dX3_stateOfExtra_10 : decode cX3_stateOfExtra 10 = .ok (.getfield 21, 3) := by decide +kernel
theorem dX3_stateOfExtra_13 : decode cX3_stateOfExtra 13 = .ok (.getfield 68, 3) := by decide +kernel
theorem dX3_stateOfExtra_16 : decode cX3_stateOfExtra 16 = .ok (.ifCond .ne 15, 3) := by decide +kernel
theorem dX3_stateOfExtra_19 : decode cX3_stateOfExtra 19 = .ok (.iload_n 2, 1) := by decide +kernel
theorem dX3_stateOfExtra_20 : decode cX3_stateOfExtra 20 = .ok (.aload_n 0, 1) := by decide +kernel
theorem dX3_stateOfExtra_21 : decode cX3_stateOfExtra 21 = .ok (.getfield 21, 3) := by decide +kernel
theorem dX3_stateOfExtra_24 : decode cX3_stateOfExtra 24 = .ok (.getfield 71, 3) := by decide +kernel
theorem dX3_stateOfExtra_27 : decode cX3_stateOfExtra 27 = .ok (.iand, 1) := by decide +kernel
theorem dX3_stateOfExtra_28 : decode cX3_stateOfExtra 28 = .ok (.ifCond .eq 5, 3) := by decide +kernel
theorem dX3_stateOfExtra_31 : decode cX3_stateOfExtra 31 = .ok (.iconst 5, 1) := by decide +kernel
theorem dX3_stateOfExtra_32 : decode cX3_stateOfExtra 32 = .ok (.ireturn, 1) := by decide +kernel
theorem dX3_stateOfExtra_33 : decode cX3_stateOfExtra 33 = .ok (.iload_n 2, 1) := by decide +kernel
theorem dX3_stateOfExtra_34 : decode cX3_stateOfExtra 34 = .ok (.aload_n 0, 1) := by decide +kernel
theorem dX3_stateOfExtra_35 : decode cX3_stateOfExtra 35 = .ok (.getfield 21, 3) := by decide +kernel
theorem dX3_stateOfExtra_38 : decode cX3_stateOfExtra 38 = .ok (.getfield 74, 3) := by decide +kernel
theorem dX3_stateOfExtra_41 : decode cX3_stateOfExtra 41 = .ok (.iand, 1) := by decide +kernel
theorem dX3_stateOfExtra_42 : decode cX3_stateOfExtra 42 = .ok (.ifCond .eq 7, 3) := by decide +kernel
theorem dX3_stateOfExtra_45 : decode cX3_stateOfExtra 45 = .ok (.iconst 4, 1) := by decide +kernel
theorem dX3_stateOfExtra_46 : decode cX3_stateOfExtra 46 = .ok (.goto 4, 3) := by decide +kernel
theorem dX3_stateOfExtra_49 : decode cX3_stateOfExtra 49 = .ok (.iconst 0, 1) := by decide +kernel
theorem dX3_stateOfExtra_50 : decode cX3_stateOfExtra 50 = .ok (.ireturn, 1) := by decide +kernel
set_option maxRecDepth 20000 in
theorem ggX3_stateOfNormal_X0_pathOf : GoodIn wsX3_stateOfNormal wsX0_pathOf := goodIn_r _ [7, 8, 9, 10, 11, 6, 12, 62, 63, 64, 65, 66] (by decide +kernel) (by decide +kernel)
set_option maxRecDepth 20000 in
theorem gX3_stateOfNormal_X0_pathOf : GoodIn wsX3_stateOfNormal (wsV RX3 65 RX0 yX0_pathOf wsX0_pathOf) := goodIn_app (goodIn_of _ (by decide +kernel)) ggX3_stateOfNormal_X0_pathOf
set_option maxRecDepth 20000 in
theorem ggX3_stateOfNormal_X0_firstEndOf : GoodIn wsX3_stateOfNormal wsX0_firstEndOf := goodIn_r _ [16, 17, 9, 10, 11, 6, 12, 8, 62, 63, 64, 65, 66] (by decide +kernel) (by decide +kernel)
set_option maxRecDepth 20000 in
theorem gX3_stateOfNormal_X0_firstEndOf : GoodIn wsX3_stateOfNormal (wsV RX3 77 RX0 yX0_firstEndOf wsX0_firstEndOf) := goodIn_app (goodIn_of _ (by decide +kernel)) ggX3_stateOfNormal_X0_firstEndOf
set_option maxRecDepth 20000 in
theorem ggX3_stateOfNormal_X1_segmentOf : GoodIn wsX3_stateOfNormal wsX1_segmentOf := goodIn_r _ [22, 23, 24, 25, 26, 27, 28, 29, 30, 48, 49, 50, 51, 52, 53, 54, 55, 56, 57, 58, 59, 60, 61, 67, 68] (by decide +kernel) (by decide +kernel)
set_option maxRecDepth 20000 in
theorem gX3_stateOfNormal_X1_segmentOf : GoodIn wsX3_stateOfNormal (wsV RX3 80 RX1 yX1_segmentOf wsX1_segmentOf) := goodIn_app (goodIn_of _ (by decide +kernel)) ggX3_stateOfNormal_X1_segmentOf
set_option maxRecDepth 20000 in
theorem ggX3_stateOfNormal_X0_secondEndOf : GoodIn wsX3_stateOfNormal wsX0_secondEndOf := goodIn_r _ [34, 35, 9, 10, 11, 6, 12, 8, 62, 63, 64, 65, 66] (by decide +kernel) (by decide +kernel)
set_option maxRecDepth 20000 in
theorem gX3_stateOfNormal_X0_secondEndOf : GoodIn wsX3_stateOfNormal (wsV RX3 83 RX0 yX0_secondEndOf wsX0_secondEndOf) := goodIn_app (goodIn_of _ (by decide +kernel)) ggX3_stateOfNormal_X0_secondEndOf
set_option maxRecDepth 20000 in
theorem ggX3_stateOfNormal_X1_spansInside : GoodIn wsX3_stateOfNormal wsX1_spansInside := goodIn_r _ [39, 23, 24, 40, 41, 42, 28, 43, 30, 48, 49, 50, 51, 52, 53, 54, 55, 56, 57, 58, 59, 60, 61, 67, 68] (by decide +kernel) (by decide +kernel)
set_option maxRecDepth 20000 in
theorem gX3_stateOfNormal_X1_spansInside : GoodIn wsX3_stateOfNormal (wsV RX3 89 RX1 yX1_spansInside wsX1_spansInside) := goodIn_app (goodIn_of _ (by decide +kernel)) ggX3_stateOfNormal_X1_spansInside
theorem dX3_stateOfNormal_0 : decode cX3_stateOfNormal 0 = .ok (.aload_n 0, 1) := by decide +kernel
theorem dX3_stateOfNormal_1 : decode cX3_stateOfNormal 1 = .ok (.getfield 12, 3) := by decide +kernel
theorem dX3_stateOfNormal_4 : decode cX3_stateOfNormal 4 = .ok (.iload_n 1, 1) := by decide +kernel
theorem dX3_stateOfNormal_5 : decode cX3_stateOfNormal 5 = .ok (.invokevirtual 65, 3) := by decide +kernel
theorem dX3_stateOfNormal_8 : decode cX3_stateOfNormal 8 = .ok (.istore_n 2, 1) := by decide +kernel
theorem dX3_stateOfNormal_9 : decode cX3_stateOfNormal 9 = .ok (.aload_n 0, 1) := by decide +kernel
theorem dX3_stateOfNormal_10 : decode cX3_stateOfNormal 10 = .ok (.getfield 21, 3) := by decide +kernel
theorem dX3_stateOfNormal_13 : decode cX3_stateOfNormal 13 = .ok (.aload_n 0, 1) := by decide +kernel
theorem dX3_stateOfNormal_14 : decode cX3_stateOfNormal 14 = .ok (.getfield 12, 3) := by decide +kernel
theorem dX3_stateOfNormal_17 : decode cX3_stateOfNormal 17 = .ok (.iload_n 1, 1) := by decide +kernel
theorem dX3_stateOfNormal_18 : decode cX3_stateOfNormal 18 = .ok (.invokevirtual 77, 3) := by decide +kernel
theorem dX3_stateOfNormal_21 : decode cX3_stateOfNormal 21 = .ok (.invokevirtual 80, 3) := by decide +kernel
theorem dX3_stateOfNormal_24 : decode cX3_stateOfNormal 24 = .ok (.istore_n 3, 1) := by decide +kernel
theorem dX3_stateOfNormal_25 : decode cX3_stateOfNormal 25 = .ok (.aload_n 0, 1) := by decide +kernel
theorem dX3_stateOfNormal_26 : decode cX3_stateOfNormal 26 = .ok (.getfield 21, 3) := by decide +kernel
theorem dX3_stateOfNormal_29 : decode cX3_stateOfNormal 29 = .ok (.aload_n 0, 1) := by decide +kernel
theorem dX3_stateOfNormal_30 : decode cX3_stateOfNormal 30 = .ok (.getfield 12, 3) := by decide +kernel
theorem dX3_stateOfNormal_33 : decode cX3_stateOfNormal 33 = .ok (.iload_n 1, 1) := by decide +kernel
theorem dX3_stateOfNormal_34 : decode cX3_stateOfNormal 34 = .ok (.invokevirtual 83, 3) := by decide +kernel
theorem dX3_stateOfNormal_37 : decode cX3_stateOfNormal 37 = .ok (.invokevirtual 80, 3) := by decide +kernel
theorem dX3_stateOfNormal_40 : decode cX3_stateOfNormal 40 = .ok (.istore 4, 2) := by decide +kernel
theorem dX3_stateOfNormal_42 : decode cX3_stateOfNormal 42 = .ok (.iload_n 2, 1) := by decide +kernel
theorem dX3_stateOfNormal_43 : decode cX3_stateOfNormal 43 = .ok (.aload_n 0, 1) := by decide +kernel
theorem dX3_stateOfNormal_44 : decode cX3_stateOfNormal 44 = .ok (.getfield 21, 3) := by decide +kernel
theorem dX3_stateOfNormal_47 : decode cX3_stateOfNormal 47 = .ok (.getfield 68, 3) := by decide +kernel
theorem dX3_stateOfNormal_50 : decode cX3_stateOfNormal 50 = .ok (.iand, 1) := by decide +kernel
theorem dX3_stateOfNormal_51 : decode cX3_stateOfNormal 51 = .ok (.ifCond .eq 7, 3) := by decide +kernel
theorem dX3_stateOfNormal_54 : decode cX3_stateOfNormal 54 = .ok (.iconst 1, 1) := by decide +kernel
theorem dX3_stateOfNormal_55 : decode cX3_stateOfNormal 55 = .ok (.goto 4, 3) := by decide +kernel
theorem dX3_stateOfNormal_58 : decode cX3_stateOfNormal 58 = .ok (.iconst 0, 1) := by decide +kernel
theorem dX3_stateOfNormal_59 : decode cX3_stateOfNormal 59 = .ok (.istore 5, 2) := by decide +kernel
theorem dX3_stateOfNormal_61 : decode cX3_stateOfNormal 61 = .ok (.iload 5, 2) := by decide +kernel
theorem dX3_stateOfNormal_63 : decode cX3_stateOfNormal 63 = .ok (.ifCond .eq 11, 3) := by decide +kernel
theorem dX3_stateOfNormal_66 : decode cX3_stateOfNormal 66 = .ok (.iload_n 3, 1) := by decide +kernel
theorem dX3_stateOfNormal_67 : decode cX3_stateOfNormal 67 = .ok (.iload 4, 2) := by decide +kernel
theorem dX3_stateOfNormal_69 : decode cX3_stateOfNormal 69 = .ok (.if_icmp .eq 5, 3) := by decide +kernel
theorem dX3_stateOfNormal_72 : decode cX3_stateOfNormal 72 = .ok (.iconst 3, 1) := by decide +kernel
theorem dX3_stateOfNormal_73 : decode cX3_stateOfNormal 73 = .ok (.ireturn, 1) := by decide +kernel
theorem dX3_stateOfNormal_74 : decode cX3_stateOfNormal 74 = .ok (.iload_n 2, 1) := by decide +kernel
theorem dX3_stateOfNormal_75 : decode cX3_stateOfNormal 75 = .ok (.aload_n 0, 1) := by decide +kernel
theorem dX3_stateOfNormal_76 : decode cX3_stateOfNormal 76 = .ok (.getfield 21, 3) := by decide +kernel
theorem dX3_stateOfNormal_79 : decode cX3_stateOfNormal 79 = .ok (.getfield 86, 3) := by decide +kernel
theorem dX3_stateOfNormal_82 : decode cX3_stateOfNormal 82 = .ok (.iand, 1) := by decide +kernel
theorem dX3_stateOfNormal_83 : decode cX3_stateOfNormal 83 = .ok (.aload_n 0, 1) := by decide +kernel
theorem dX3_stateOfNormal_84 : decode cX3_stateOfNormal 84 = .ok (.getfield 21, 3) := by decide +kernel
theorem dX3_stateOfNormal_87 : decode cX3_stateOfNormal 87 = .ok (.getfield 71, 3) := by decide +kernel
theorem dX3_stateOfNormal_90 : decode cX3_stateOfNormal 90 = .ok (.iconst (-1), 1) := by decide +kernel
theorem dX3_stateOfNormal_91 : decode cX3_stateOfNormal 91 = .ok (.ixor, 1) := by decide +kernel
theorem dX3_stateOfNormal_92 : decode cX3_stateOfNormal 92 = .ok (.iand, 1) := by decide +kernel
theorem dX3_stateOfNormal_93 : decode cX3_stateOfNormal 93 = .ok (.aload_n 0, 1) := by decide +kernel
theorem dX3_stateOfNormal_94 : decode cX3_stateOfNormal 94 = .ok (.getfield 21, 3) := by decide +kernel
theorem dX3_stateOfNormal_97 : decode cX3_stateOfNormal 97 = .ok (.getfield 68, 3) := by decide +kernel
theorem dX3_stateOfNormal_100 : decode cX3_stateOfNormal 100 = .ok (.iconst (-1), 1) := by decide +kernel
theorem dX3_stateOfNormal_101 : decode cX3_stateOfNormal 101 = .ok (.ixor, 1) := by decide +kernel
theorem dX3_stateOfNormal_102 : decode cX3_stateOfNormal 102 = .ok (.iand, 1) := by decide +kernel
theorem dX3_stateOfNormal_103 : decode cX3_stateOfNormal 103 = .ok (.istore 6, 2) := by decide +kernel
theorem dX3_stateOfNormal_105 : decode cX3_stateOfNormal 105 = .ok (.iload 5, 2) := by decide +kernel
theorem dX3_stateOfNormal_107 : decode cX3_stateOfNormal 107 = .ok (.ifCond .eq 16, 3) := by decide +kernel
theorem dX3_stateOfNormal_110 : decode cX3_stateOfNormal 110 = .ok (.iload 6, 2) := by decide +kernel
theorem dX3_stateOfNormal_112 : decode cX3_stateOfNormal 112 = .ok (.aload_n 0, 1) := by decide +kernel
theorem dX3_stateOfNormal_113 : decode cX3_stateOfNormal 113 = .ok (.getfield 21, 3) := by decide +kernel
theorem dX3_stateOfNormal_116 : decode cX3_stateOfNormal 116 = .ok (.iload_n 3, 1) := by decide +kernel
theorem dX3_stateOfNormal_117 : decode cX3_stateOfNormal 117 = .ok (.invokevirtual 89, 3) := by decide +kernel
theorem dX3_stateOfNormal_120 : decode cX3_stateOfNormal 120 = .ok (.iand, 1) := by decide +kernel
theorem dX3_stateOfNormal_121 : decode cX3_stateOfNormal 121 = .ok (.istore 6, 2) := by decide +kernel
theorem dX3_stateOfNormal_123 : decode cX3_stateOfNormal 123 = .ok (.iload 6, 2) := by decide +kernel
theorem dX3_stateOfNormal_125 : decode cX3_stateOfNormal 125 = .ok (.ifCond .eq 5, 3) := by decide +kernel
theorem dX3_stateOfNormal_128 : decode cX3_stateOfNormal 128 = .ok (.iconst 4, 1) := by decide +kernel
theorem dX3_stateOfNormal_129 : decode cX3_stateOfNormal 129 = .ok (.ireturn, 1) := by decide +kernel
theorem dX3_stateOfNormal_130 : decode cX3_stateOfNormal 130 = .ok (.iload 5, 2) := by decide +kernel
theorem dX3_stateOfNormal_132 : decode cX3_stateOfNormal 132 = .ok (.ifCond .eq 5, 3) := by decide +kernel
theorem dX3_stateOfNormal_135 : decode cX3_stateOfNormal 135 = .ok (.iconst 2, 1) := by decide +kernel
theorem dX3_stateOfNormal_136 : decode cX3_stateOfNormal 136 = .ok (.ireturn, 1) := by decide +kernel
theorem dX3_stateOfNormal_137 : decode cX3_stateOfNormal 137 = .ok (.iload_n 2, 1) := by decide +kernel
theorem dX3_stateOfNormal_138 : decode cX3_stateOfNormal 138 = .ok (.aload_n 0, 1) := by decide +kernel
theorem dX3_stateOfNormal_139 : decode cX3_stateOfNormal 139 = .ok (.getfield 21, 3) := by decide +kernel
theorem dX3_stateOfNormal_142 : decode cX3_stateOfNormal 142 = .ok (.getfield 71, 3) := by decide +kernel
theorem dX3_stateOfNormal_145 : decode cX3_stateOfNormal 145 = .ok (.iand, 1) := by decide +kernel
theorem dX3_stateOfNormal_146 : decode cX3_stateOfNormal 146 = .ok (.ifCond .eq 7, 3) := by decide +kernel
theorem dX3_stateOfNormal_149 : decode cX3_stateOfNormal 149 = .ok (.iconst 1, 1) := by decide +kernel
theorem dX3_stateOfNormal_150 : decode cX3_stateOfNormal 150 = .ok (.goto 4, 3) := by decide +kernel
theorem dX3_stateOfNormal_153 : decode cX3_stateOfNormal 153 = .ok (.iconst 0, 1) := by decide +kernel
theorem dX3_stateOfNormal_154 : decode cX3_stateOfNormal 154 = .ok (.ireturn, 1) := by decide +kernel
set_option maxRecDepth 20000 in
theorem ggX3_allInState_X0_has : GoodIn wsX3_allInState wsX0_has := goodIn_r _ [6, 7, 70, 71, 72, 73, 74] (by decide +kernel) (by decide +kernel)
set_option maxRecDepth 20000 in
theorem gX3_allInState_X0_has : GoodIn wsX3_allInState (wsV RX3 92 RX0 yX0_has wsX0_has) := goodIn_app (goodIn_of _ (by decide +kernel)) ggX3_allInState_X0_has
set_option maxRecDepth 20000 in
theorem ggX3_allInState_X3_stateOf : GoodIn wsX3_allInState wsX3_stateOf := goodIn_r _ [12, 1, 13, 14, 15, 5, 16, 17, 18, 19, 20, 21, 22, 23, 11, 24, 25, 26, 27, 28, 29, 7, 30, 3, 4, 6, 31, 32, 33, 34, 35, 36, 37, 38, 39, 40, 41, 42, 43, 44, 45, 46, 47, 48, 49, 50, 51, 52, 53, 54, 55, 56, 57, 58, 59, 60, 61, 62, 63, 64, 65, 66, 67, 68, 69, 70, 71, 72, 73, 74, 75, 76, 77, 78, 79, 80, 81, 82, 83, 84, 85, 86, 87, 88, 89, 90] (by decide +kernel) (by decide +kernel)
set_option maxRecDepth 20000 in
theorem gX3_allInState_X3_stateOf : GoodIn wsX3_allInState (wsV RX3 95 RX3 yX3_stateOf wsX3_stateOf) := goodIn_app (goodIn_of _ (by decide +kernel)) ggX3_allInState_X3_stateOf
theorem dX3_allInState_0 : decode cX3_allInState 0 = .ok (.iconst 0, 1) := by decide +kernel
theorem dX3_allInState_1 : decode cX3_allInState 1 = .ok (.istore_n 2, 1) := by decide +kernel
theorem dX3_allInState_2 : decode cX3_allInState 2 = .ok (.iconst 0, 1) := by decide +kernel
theorem dX3_allInState_3 : decode cX3_allInState 3 = .ok (.istore_n 3, 1) := by decide +kernel
theorem dX3_allInState_4 : decode cX3_allInState 4 = .ok (.iload_n 3, 1) := by decide +kernel
theorem dX3_allInState_5 : decode cX3_allInState 5 = .ok (.bipush 16, 2) := by decide +kernel
theorem dX3_allInState_7 : decode cX3_allInState 7 = .ok (.if_icmp .ge 35, 3) := by decide +kernel
theorem dX3_allInState_10 : decode cX3_allInState 10 = .ok (.aload_n 0, 1) := by decide +kernel
theorem dX3_allInState_11 : decode cX3_allInState 11 = .ok (.getfield 12, 3) := by decide +kernel
theorem dX3_allInState_14 : decode cX3_allInState 14 = .ok (.iload_n 3, 1) := by decide +kernel
theorem dX3_allInState_15 : decode cX3_allInState 15 = .ok (.invokevirtual 92, 3) := by decide +kernel
theorem dX3_allInState_18 : decode cX3_allInState 18 = .ok (.ifCond .eq 18, 3) := by decide +kernel
theorem dX3_allInState_21 : decode cX3_allInState 21 = .ok (.aload_n 0, 1) := by decide +kernel
theorem dX3_allInState_22 : decode cX3_allInState 22 = .ok (.iload_n 3, 1) := by decide +kernel
theorem dX3_allInState_23 : decode cX3_allInState 23 = .ok (.invokevirtual 95, 3) := by decide +kernel
theorem dX3_allInState_26 : decode cX3_allInState 26 = .ok (.iload_n 1, 1) := by decide +kernel
theorem dX3_allInState_27 : decode cX3_allInState 27 = .ok (.if_icmp .ne 9, 3) := by decide +kernel
theorem dX3_allInState_30 : decode cX3_allInState 30 = .ok (.iload_n 2, 1) := by decide +kernel
theorem dX3_allInState_31 : decode cX3_allInState 31 = .ok (.iconst 1, 1) := by decide +kernel
theorem dX3_allInState_32 : decode cX3_allInState 32 = .ok (.iload_n 3, 1) := by decide +kernel
theorem dX3_allInState_33 : decode cX3_allInState 33 = .ok (.ishl, 1) := by decide +kernel
theorem dX3_allInState_34 : decode cX3_allInState 34 = .ok (.ior, 1) := by decide +kernel
theorem dX3_allInState_35 : decode cX3_allInState 35 = .ok (.istore_n 2, 1) := by decide +kernel
theorem dX3_allInState_36 : decode cX3_allInState 36 = .ok (.iinc 3 1, 3) := by decide +kernel
theorem dX3_allInState_39 : decode cX3_allInState 39 = .ok (.goto (-35), 3) := by decide +kernel
theorem dX3_allInState_42 : decode cX3_allInState 42 = .ok (.iload_n 2, 1) := by decide +kernel
theorem dX3_allInState_43 : decode cX3_allInState 43 = .ok (.ireturn, 1) := by decide +kernel
set_option maxRecDepth 20000 in
theorem ggX3_countDelivered_X0_has : GoodIn wsX3_countDelivered wsX0_has := goodIn_r _ [6, 7, 72, 73, 74, 75, 76] (by decide +kernel) (by decide +kernel)
set_option maxRecDepth 20000 in
theorem gX3_countDelivered_X0_has : GoodIn wsX3_countDelivered (wsV RX3 92 RX0 yX0_has wsX0_has) := goodIn_app (goodIn_of _ (by decide +kernel)) ggX3_countDelivered_X0_has
set_option maxRecDepth 20000 in
theorem ggX3_countDelivered_X3_stateOf : GoodIn wsX3_countDelivered wsX3_stateOf := goodIn_r _ [12, 1, 13, 14, 15, 5, 16, 17, 18, 19, 20, 21, 22, 23, 11, 24, 25, 26, 27, 28, 29, 7, 30, 3, 4, 6, 31, 32, 33, 34, 35, 36, 37, 38, 39, 40, 41, 42, 43, 44, 45, 46, 47, 48, 49, 50, 51, 52, 53, 54, 55, 56, 57, 58, 59, 60, 61, 62, 63, 64, 65, 68, 69, 70, 71, 72, 73, 74, 75, 76, 77, 78, 79, 80, 81, 82, 83, 84, 85, 86, 87, 88, 89, 90, 91, 92] (by decide +kernel) (by decide +kernel)
set_option maxRecDepth 20000 in
theorem gX3_countDelivered_X3_stateOf : GoodIn wsX3_countDelivered (wsV RX3 95 RX3 yX3_stateOf wsX3_stateOf) := goodIn_app (goodIn_of _ (by decide +kernel)) ggX3_countDelivered_X3_stateOf
set_option maxRecDepth 20000 in
theorem ggX3_countDelivered_X5_isDelivery : GoodIn wsX3_countDelivered wsX5_isDelivery := goodIn_r _ [67] (by decide +kernel) (by decide +kernel)
set_option maxRecDepth 20000 in
theorem gX3_countDelivered_X5_isDelivery_n98 : GoodIn wsX3_countDelivered (wsX5_isDelivery) := ggX3_countDelivered_X5_isDelivery
theorem dX3_countDelivered_0 : decode cX3_countDelivered 0 = .ok (.iconst 0, 1) := by decide +kernel
theorem dX3_countDelivered_1 : decode cX3_countDelivered 1 = .ok (.istore_n 1, 1) := by decide +kernel
theorem dX3_countDelivered_2 : decode cX3_countDelivered 2 = .ok (.iconst 0, 1) := by decide +kernel
theorem dX3_countDelivered_3 : decode cX3_countDelivered 3 = .ok (.istore_n 2, 1) := by decide +kernel
theorem dX3_countDelivered_4 : decode cX3_countDelivered 4 = .ok (.iload_n 2, 1) := by decide +kernel
theorem dX3_countDelivered_5 : decode cX3_countDelivered 5 = .ok (.bipush 16, 2) := by decide +kernel
theorem dX3_countDelivered_7 : decode cX3_countDelivered 7 = .ok (.if_icmp .ge 34, 3) := by decide +kernel
theorem dX3_countDelivered_10 : decode cX3_countDelivered 10 = .ok (.aload_n 0, 1) := by decide +kernel
theorem dX3_countDelivered_11 : decode cX3_countDelivered 11 = .ok (.getfield 12, 3) := by decide +kernel
theorem dX3_countDelivered_14 : decode cX3_countDelivered 14 = .ok (.iload_n 2, 1) := by decide +kernel
theorem dX3_countDelivered_15 : decode cX3_countDelivered 15 = .ok (.invokevirtual 92, 3) := by decide +kernel
theorem dX3_countDelivered_18 : decode cX3_countDelivered 18 = .ok (.ifCond .eq 17, 3) := by decide +kernel
theorem dX3_countDelivered_21 : decode cX3_countDelivered 21 = .ok (.aload_n 0, 1) := by decide +kernel
theorem dX3_countDelivered_22 : decode cX3_countDelivered 22 = .ok (.iload_n 2, 1) := by decide +kernel
theorem dX3_countDelivered_23 : decode cX3_countDelivered 23 = .ok (.invokevirtual 95, 3) := by decide +kernel
theorem dX3_countDelivered_26 : decode cX3_countDelivered 26 = .ok (.invokestatic 98, 3) := by decide +kernel
theorem dX3_countDelivered_29 : decode cX3_countDelivered 29 = .ok (.ifCond .eq 6, 3) := by decide +kernel
theorem dX3_countDelivered_32 : decode cX3_countDelivered 32 = .ok (.iinc 1 1, 3) := by decide +kernel
theorem dX3_countDelivered_35 : decode cX3_countDelivered 35 = .ok (.iinc 2 1, 3) := by decide +kernel
theorem dX3_countDelivered_38 : decode cX3_countDelivered 38 = .ok (.goto (-34), 3) := by decide +kernel
theorem dX3_countDelivered_41 : decode cX3_countDelivered 41 = .ok (.iload_n 1, 1) := by decide +kernel
theorem dX3_countDelivered_42 : decode cX3_countDelivered 42 = .ok (.ireturn, 1) := by decide +kernel
set_option maxRecDepth 20000 in
theorem ggX3_hopsOf_X3_stateOf : GoodIn wsX3_hopsOf wsX3_stateOf := goodIn_r _ [7, 1, 8, 9, 10, 11, 12, 13, 14, 15, 16, 17, 18, 19, 6, 20, 2, 21, 22, 23, 24, 25, 26, 27, 28, 29, 30, 31, 32, 33, 34, 35, 36, 37, 38, 39, 40, 41, 42, 43, 44, 45, 46, 47, 48, 49, 50, 51, 52, 53, 54, 55, 56, 57, 58, 59, 60, 61, 62, 63, 64, 74, 75, 76, 77, 92, 93, 94, 95, 96, 78, 79, 80, 81, 82, 83, 84, 85, 86, 87, 88, 89, 90, 91, 97, 98] (by decide +kernel) (by decide +kernel)
set_option maxRecDepth 20000 in
theorem gX3_hopsOf_X3_stateOf : GoodIn wsX3_hopsOf (wsV RX3 95 RX3 yX3_stateOf wsX3_stateOf) := goodIn_app (goodIn_of _ (by decide +kernel)) ggX3_hopsOf_X3_stateOf
set_option maxRecDepth 20000 in
theorem ggX3_hopsOf_X5_isDelivery : GoodIn wsX3_hopsOf wsX5_isDelivery := goodIn_r _ [66] (by decide +kernel) (by decide +kernel)
set_option maxRecDepth 20000 in
theorem gX3_hopsOf_X5_isDelivery_n98 : GoodIn wsX3_hopsOf (wsX5_isDelivery) := ggX3_hopsOf_X5_isDelivery
set_option maxRecDepth 20000 in
theorem ggX3_hopsOf_X0_pathOf : GoodIn wsX3_hopsOf wsX0_pathOf := goodIn_r _ [24, 25, 26, 27, 28, 11, 29, 92, 93, 94, 95, 96] (by decide +kernel) (by decide +kernel)
set_option maxRecDepth 20000 in
theorem gX3_hopsOf_X0_pathOf : GoodIn wsX3_hopsOf (wsV RX3 65 RX0 yX0_pathOf wsX0_pathOf) := goodIn_app (goodIn_of _ (by decide +kernel)) ggX3_hopsOf_X0_pathOf
set_option maxRecDepth 20000 in
theorem ggX3_hopsOf_J6_bitCount_0f7a4 : GoodIn wsX3_hopsOf wsJ6_bitCount_0f7a4 := goodIn_r _ [70, 71, 72, 73] (by decide +kernel) (by decide +kernel)
set_option maxRecDepth 20000 in
theorem gX3_hopsOf_J6_bitCount_0f7a4 : GoodIn wsX3_hopsOf (va_wsS RX3 101 yJ6_bitCount_0f7a4 wsJ6_bitCount_0f7a4) := goodIn_app (goodIn_of _ (by decide +kernel)) ggX3_hopsOf_J6_bitCount_0f7a4
set_option maxRecDepth 20000 in
theorem ggX3_hopsOf_X0_firstEndOf : GoodIn wsX3_hopsOf wsX0_firstEndOf := goodIn_r _ [37, 38, 26, 27, 28, 11, 29, 25, 92, 93, 94, 95, 96] (by decide +kernel) (by decide +kernel)
set_option maxRecDepth 20000 in
theorem gX3_hopsOf_X0_firstEndOf : GoodIn wsX3_hopsOf (wsV RX3 77 RX0 yX0_firstEndOf wsX0_firstEndOf) := goodIn_app (goodIn_of _ (by decide +kernel)) ggX3_hopsOf_X0_firstEndOf
set_option maxRecDepth 20000 in
theorem ggX3_hopsOf_X1_segmentOf : GoodIn wsX3_hopsOf wsX1_segmentOf := goodIn_r _ [43, 44, 45, 46, 47, 48, 49, 50, 51, 78, 79, 80, 81, 82, 83, 84, 85, 86, 87, 88, 89, 90, 91, 97, 98] (by decide +kernel) (by decide +kernel)
set_option maxRecDepth 20000 in
theorem gX3_hopsOf_X1_segmentOf : GoodIn wsX3_hopsOf (wsV RX3 80 RX1 yX1_segmentOf wsX1_segmentOf) := goodIn_app (goodIn_of _ (by decide +kernel)) ggX3_hopsOf_X1_segmentOf
set_option maxRecDepth 20000 in
theorem ggX3_hopsOf_X1_spansInside : GoodIn wsX3_hopsOf wsX1_spansInside := goodIn_r _ [60, 44, 45, 61, 62, 63, 49, 64, 51, 78, 79, 80, 81, 82, 83, 84, 85, 86, 87, 88, 89, 90, 91, 97, 98] (by decide +kernel) (by decide +kernel)
set_option maxRecDepth 20000 in
theorem gX3_hopsOf_X1_spansInside : GoodIn wsX3_hopsOf (wsV RX3 89 RX1 yX1_spansInside wsX1_spansInside) := goodIn_app (goodIn_of _ (by decide +kernel)) ggX3_hopsOf_X1_spansInside
theorem dX3_hopsOf_0 : decode cX3_hopsOf 0 = .ok (.aload_n 0, 1) := by decide +kernel
theorem dX3_hopsOf_1 : decode cX3_hopsOf 1 = .ok (.iload_n 1, 1) := by decide +kernel
theorem dX3_hopsOf_2 : decode cX3_hopsOf 2 = .ok (.invokevirtual 95, 3) := by decide +kernel
theorem dX3_hopsOf_5 : decode cX3_hopsOf 5 = .ok (.istore_n 2, 1) := by decide +kernel
theorem dX3_hopsOf_6 : decode cX3_hopsOf 6 = .ok (.iload_n 2, 1) := by decide +kernel
theorem dX3_hopsOf_7 : decode cX3_hopsOf 7 = .ok (.invokestatic 98, 3) := by decide +kernel
theorem dX3_hopsOf_10 : decode cX3_hopsOf 10 = .ok (.ifCond .ne 6, 3) := by decide +kernel
theorem dX3_hopsOf_13 : decode cX3_hopsOf 13 = .ok (.bipush (-9), 2) := by decide +kernel
theorem dX3_hopsOf_15 : decode cX3_hopsOf 15 = .ok (.ireturn, 1) := by decide +kernel
theorem dX3_hopsOf_16 : decode cX3_hopsOf 16 = .ok (.aload_n 0, 1) := by decide +kernel
theorem dX3_hopsOf_17 : decode cX3_hopsOf 17 = .ok (.getfield 12, 3) := by decide +kernel
theorem dX3_hopsOf_20 : decode cX3_hopsOf 20 = .ok (.iload_n 1, 1) := by decide +kernel
theorem dX3_hopsOf_21 : decode cX3_hopsOf 21 = .ok (.invokevirtual 65, 3) := by decide +kernel
theorem dX3_hopsOf_24 : decode cX3_hopsOf 24 = .ok (.istore_n 3, 1) := by decide +kernel
theorem dX3_hopsOf_25 : decode cX3_hopsOf 25 = .ok (.iload_n 2, 1) := by decide +kernel
theorem dX3_hopsOf_26 : decode cX3_hopsOf 26 = .ok (.iconst 2, 1) := by decide +kernel
theorem dX3_hopsOf_27 : decode cX3_hopsOf 27 = .ok (.if_icmp .eq 8, 3) := by decide +kernel
theorem dX3_hopsOf_30 : decode cX3_hopsOf 30 = .ok (.iload_n 3, 1) := by decide +kernel
theorem dX3_hopsOf_31 : decode cX3_hopsOf 31 = .ok (.invokestatic 101, 3) := by decide +kernel
theorem dX3_hopsOf_34 : decode cX3_hopsOf 34 = .ok (.ireturn, 1) := by decide +kernel
theorem dX3_hopsOf_35 : decode cX3_hopsOf 35 = .ok (.aload_n 0, 1) := by decide +kernel
theorem dX3_hopsOf_36 : decode cX3_hopsOf 36 = .ok (.getfield 21, 3) := by decide +kernel
theorem dX3_hopsOf_39 : decode cX3_hopsOf 39 = .ok (.aload_n 0, 1) := by decide +kernel
theorem dX3_hopsOf_40 : decode cX3_hopsOf 40 = .ok (.getfield 12, 3) := by decide +kernel
theorem dX3_hopsOf_43 : decode cX3_hopsOf 43 = .ok (.iload_n 1, 1) := by decide +kernel
theorem dX3_hopsOf_44 : decode cX3_hopsOf 44 = .ok (.invokevirtual 77, 3) := by decide +kernel
theorem dX3_hopsOf_47 : decode cX3_hopsOf 47 = .ok (.invokevirtual 80, 3) := by decide +kernel
theorem dX3_hopsOf_50 : decode cX3_hopsOf 50 = .ok (.istore 4, 2) := by decide +kernel
theorem dX3_hopsOf_52 : decode cX3_hopsOf 52 = .ok (.aload_n 0, 1) := by decide +kernel
theorem dX3_hopsOf_53 : decode cX3_hopsOf 53 = .ok (.getfield 21, 3) := by decide +kernel
theorem dX3_hopsOf_56 : decode cX3_hopsOf 56 = .ok (.iload 4, 2) := by decide +kernel
theorem dX3_hopsOf_58 : decode cX3_hopsOf 58 = .ok (.invokevirtual 89, 3) := by decide +kernel
theorem dX3_hopsOf_61 : decode cX3_hopsOf 61 = .ok (.aload_n 0, 1) := by decide +kernel
theorem dX3_hopsOf_62 : decode cX3_hopsOf 62 = .ok (.getfield 21, 3) := by decide +kernel
theorem dX3_hopsOf_65 : decode cX3_hopsOf 65 = .ok (.getfield 68, 3) := by decide +kernel
theorem dX3_hopsOf_68 : decode cX3_hopsOf 68 = .ok (.iconst (-1), 1) := by decide +kernel
theorem dX3_hopsOf_69 : decode cX3_hopsOf 69 = .ok (.ixor, 1) := by decide +kernel
theorem dX3_hopsOf_70 : decode cX3_hopsOf 70 = .ok (.iand, 1) := by decide +kernel
theorem dX3_hopsOf_71 : decode cX3_hopsOf 71 = .ok (.istore 5, 2) := by decide +kernel
theorem dX3_hopsOf_73 : decode cX3_hopsOf 73 = .ok (.iload_n 3, 1) := by decide +kernel
theorem dX3_hopsOf_74 : decode cX3_hopsOf 74 = .ok (.iload 5, 2) := by decide +kernel
theorem dX3_hopsOf_76 : decode cX3_hopsOf 76 = .ok (.iand, 1) := by decide +kernel
theorem dX3_hopsOf_77 : decode cX3_hopsOf 77 = .ok (.invokestatic 101, 3) := by decide +kernel
theorem dX3_hopsOf_80 : decode cX3_hopsOf 80 = .ok (.iload 5, 2) := by decide +kernel
theorem dX3_hopsOf_82 : decode cX3_hopsOf 82 = .ok (.invokestatic 101, 3) := by decide +kernel
theorem dX3_hopsOf_85 : decode cX3_hopsOf 85 = .ok (.iadd, 1) := by decide +kernel
theorem dX3_hopsOf_86 : decode cX3_hopsOf 86 = .ok (.ireturn, 1) := by decide +kernel
set_option maxRecDepth 20000 in
theorem ggX3_sumOfHops_X0_has : GoodIn wsX3_sumOfHops wsX0_has := goodIn_r _ [6, 7, 83, 84, 85, 86, 87] (by decide +kernel) (by decide +kernel)
set_option maxRecDepth 20000 in
theorem gX3_sumOfHops_X0_has : GoodIn wsX3_sumOfHops (wsV RX3 92 RX0 yX0_has wsX0_has) := goodIn_app (goodIn_of _ (by decide +kernel)) ggX3_sumOfHops_X0_has
set_option maxRecDepth 20000 in
theorem ggX3_sumOfHops_X3_hopsOf : GoodIn wsX3_sumOfHops wsX3_hopsOf := goodIn_r _ [12, 1, 13, 14, 15, 16, 11, 17, 18, 19, 20, 5, 21, 22, 23, 24, 25, 26, 27, 28, 29, 30, 31, 32, 33, 7, 34, 3, 4, 6, 35, 36, 37, 38, 39, 40, 41, 42, 43, 44, 45, 46, 47, 48, 49, 50, 51, 52, 53, 54, 55, 56, 57, 58, 59, 60, 61, 62, 63, 64, 65, 66, 67, 68, 69, 70, 71, 72, 73, 74, 75, 76, 77, 78, 79, 80, 81, 82, 88, 89, 90, 91, 92, 93, 94, 95, 96, 97, 98, 99, 100, 101, 83, 84, 85, 86, 87, 102, 103] (by decide +kernel) (by decide +kernel)
set_option maxRecDepth 20000 in
theorem gX3_sumOfHops_X3_hopsOf : GoodIn wsX3_sumOfHops (wsV RX3 106 RX3 yX3_hopsOf wsX3_hopsOf) := goodIn_app (goodIn_of _ (by decide +kernel)) ggX3_sumOfHops_X3_hopsOf
theorem dX3_sumOfHops_0 : decode cX3_sumOfHops 0 = .ok (.iconst 0, 1) := by decide +kernel
theorem dX3_sumOfHops_1 : decode cX3_sumOfHops 1 = .ok (.istore_n 1, 1) := by decide +kernel
theorem dX3_sumOfHops_2 : decode cX3_sumOfHops 2 = .ok (.iconst 0, 1) := by decide +kernel
theorem dX3_sumOfHops_3 : decode cX3_sumOfHops 3 = .ok (.istore_n 2, 1) := by decide +kernel
theorem dX3_sumOfHops_4 : decode cX3_sumOfHops 4 = .ok (.iload_n 2, 1) := by decide +kernel
theorem dX3_sumOfHops_5 : decode cX3_sumOfHops 5 = .ok (.bipush 16, 2) := by decide +kernel
theorem dX3_sumOfHops_7 : decode cX3_sumOfHops 7 = .ok (.if_icmp .ge 41, 3) := by decide +kernel
theorem dX3_sumOfHops_10 : decode cX3_sumOfHops 10 = .ok (.aload_n 0, 1) := by decide +kernel
theorem dX3_sumOfHops_11 : decode cX3_sumOfHops 11 = .ok (.getfield 12, 3) := by decide +kernel
theorem dX3_sumOfHops_14 : decode cX3_sumOfHops 14 = .ok (.iload_n 2, 1) := by decide +kernel
theorem dX3_sumOfHops_15 : decode cX3_sumOfHops 15 = .ok (.invokevirtual 92, 3) := by decide +kernel
theorem dX3_sumOfHops_18 : decode cX3_sumOfHops 18 = .ok (.ifCond .eq 11, 3) := by decide +kernel
theorem dX3_sumOfHops_21 : decode cX3_sumOfHops 21 = .ok (.aload_n 0, 1) := by decide +kernel
theorem dX3_sumOfHops_22 : decode cX3_sumOfHops 22 = .ok (.iload_n 2, 1) := by decide +kernel
theorem dX3_sumOfHops_23 : decode cX3_sumOfHops 23 = .ok (.invokevirtual 106, 3) := by decide +kernel
theorem dX3_sumOfHops_26 : decode cX3_sumOfHops 26 = .ok (.goto 5, 3) := by decide +kernel
theorem dX3_sumOfHops_29 : decode cX3_sumOfHops 29 = .ok (.bipush (-9), 2) := by decide +kernel
theorem dX3_sumOfHops_31 : decode cX3_sumOfHops 31 = .ok (.istore_n 3, 1) := by decide +kernel
theorem dX3_sumOfHops_32 : decode cX3_sumOfHops 32 = .ok (.iload_n 3, 1) := by decide +kernel
theorem dX3_sumOfHops_33 : decode cX3_sumOfHops 33 = .ok (.bipush (-9), 2) := by decide +kernel
theorem dX3_sumOfHops_35 : decode cX3_sumOfHops 35 = .ok (.if_icmp .eq 7, 3) := by decide +kernel
theorem dX3_sumOfHops_38 : decode cX3_sumOfHops 38 = .ok (.iload_n 1, 1) := by decide +kernel
theorem dX3_sumOfHops_39 : decode cX3_sumOfHops 39 = .ok (.iload_n 3, 1) := by decide +kernel
theorem dX3_sumOfHops_40 : decode cX3_sumOfHops 40 = .ok (.iadd, 1) := by decide +kernel
theorem dX3_sumOfHops_41 : decode cX3_sumOfHops 41 = .ok (.istore_n 1, 1) := by decide +kernel
theorem dX3_sumOfHops_42 : decode cX3_sumOfHops 42 = .ok (.iinc 2 1, 3) := by decide +kernel
theorem dX3_sumOfHops_45 : decode cX3_sumOfHops 45 = .ok (.goto (-41), 3) := by decide +kernel
theorem dX3_sumOfHops_48 : decode cX3_sumOfHops 48 = .ok (.iload_n 1, 1) := by decide +kernel
theorem dX3_sumOfHops_49 : decode cX3_sumOfHops 49 = .ok (.ireturn, 1) := by decide +kernel
end
section
set_option maxRecDepth 20000 in
theorem ggX4_init_X3_init : GoodIn wsX4_init wsX3_init := goodIn_r _ [9, 10, 2, 3, 11, 12, 13, 14, 15, 16, 17, 18, 19, 20, 21, 22, 23, 24, 25, 26, 27, 28, 29, 30, 31, 32, 33, 34, 35, 36, 37, 38, 39, 40, 41, 42, 43, 44, 45, 52, 53, 54, 55, 56, 46, 47, 48, 49, 57, 58, 59, 60, 61, 62, 63, 64, 65, 66, 67, 68, 69, 70, 71, 72] (by decide +kernel) (by decide +kernel)
set_option maxRecDepth 20000 in
theorem gX4_init_X3_init_n9 : GoodIn wsX4_init (wsX3_init) := ggX4_init_X3_init
theorem dX4_init_0 : decode cX4_init 0 = .ok (.aload_n 0, 1) := by decide +kernel
theorem dX4_init_1 : decode cX4_init 1 = .ok (.invokespecial 1, 3) := by decide +kernel
theorem dX4_init_4 : decode cX4_init 4 = .ok (.aload_n 0, 1) := by decide +kernel
theorem dX4_init_5 : decode cX4_init 5 = .ok (.new 7, 3) := by decide +kernel
theorem dX4_init_8 : decode cX4_init 8 = .ok (.dup, 1) := by decide +kernel
theorem dX4_init_9 : decode cX4_init 9 = .ok (.invokespecial 9, 3) := by decide +kernel
theorem dX4_init_12 : decode cX4_init 12 = .ok (.putfield 10, 3) := by decide +kernel
theorem dX4_init_15 : decode cX4_init 15 = .ok (.return_, 1) := by decide +kernel
end
section
theorem dJ6_bitCount_0f7a4_0 : decode cJ6_bitCount_0f7a4 0 = .ok (.iload_n 0, 1) := by decide +kernel
theorem dJ6_bitCount_0f7a4_1 : decode cJ6_bitCount_0f7a4 1 = .ok (.iload_n 0, 1) := by decide +kernel
theorem dJ6_bitCount_0f7a4_2 : decode cJ6_bitCount_0f7a4 2 = .ok (.iconst 1, 1) := by decide +kernel
theorem dJ6_bitCount_0f7a4_3 : decode cJ6_bitCount_0f7a4 3 = .ok (.iushr, 1) := by decide +kernel
theorem dJ6_bitCount_0f7a4_4 : decode cJ6_bitCount_0f7a4 4 = .ok (.ldc_w 265, 3) := by decide +kernel
theorem dJ6_bitCount_0f7a4_7 : decode cJ6_bitCount_0f7a4 7 = .ok (.iand, 1) := by decide +kernel
theorem dJ6_bitCount_0f7a4_8 : decode cJ6_bitCount_0f7a4 8 = .ok (.isub, 1) := by decide +kernel
theorem dJ6_bitCount_0f7a4_9 : decode cJ6_bitCount_0f7a4 9 = .ok (.istore_n 0, 1) := by decide +kernel
theorem dJ6_bitCount_0f7a4_10 : decode cJ6_bitCount_0f7a4 10 = .ok (.iload_n 0, 1) := by decide +kernel
theorem dJ6_bitCount_0f7a4_11 : decode cJ6_bitCount_0f7a4 11 = .ok (.ldc_w 266, 3) := by decide +kernel
theorem dJ6_bitCount_0f7a4_14 : decode cJ6_bitCount_0f7a4 14 = .ok (.iand, 1) := by decide +kernel
theorem dJ6_bitCount_0f7a4_15 : decode cJ6_bitCount_0f7a4 15 = .ok (.iload_n 0, 1) := by decide +kernel
theorem dJ6_bitCount_0f7a4_16 : decode cJ6_bitCount_0f7a4 16 = .ok (.iconst 2, 1) := by decide +kernel
theorem dJ6_bitCount_0f7a4_17 : decode cJ6_bitCount_0f7a4 17 = .ok (.iushr, 1) := by decide +kernel
theorem dJ6_bitCount_0f7a4_18 : decode cJ6_bitCount_0f7a4 18 = .ok (.ldc_w 266, 3) := by decide +kernel
theorem dJ6_bitCount_0f7a4_21 : decode cJ6_bitCount_0f7a4 21 = .ok (.iand, 1) := by decide +kernel
theorem dJ6_bitCount_0f7a4_22 : decode cJ6_bitCount_0f7a4 22 = .ok (.iadd, 1) := by decide +kernel
theorem dJ6_bitCount_0f7a4_23 : decode cJ6_bitCount_0f7a4 23 = .ok (.istore_n 0, 1) := by decide +kernel
theorem dJ6_bitCount_0f7a4_24 : decode cJ6_bitCount_0f7a4 24 = .ok (.iload_n 0, 1) := by decide +kernel
theorem dJ6_bitCount_0f7a4_25 : decode cJ6_bitCount_0f7a4 25 = .ok (.iload_n 0, 1) := by decide +kernel
theorem dJ6_bitCount_0f7a4_26 : decode cJ6_bitCount_0f7a4 26 = .ok (.iconst 4, 1) := by decide +kernel
theorem dJ6_bitCount_0f7a4_27 : decode cJ6_bitCount_0f7a4 27 = .ok (.iushr, 1) := by decide +kernel
theorem dJ6_bitCount_0f7a4_28 : decode cJ6_bitCount_0f7a4 28 = .ok (.iadd, 1) := by decide +kernel
theorem dJ6_bitCount_0f7a4_29 : decode cJ6_bitCount_0f7a4 29 = .ok (.ldc_w 267, 3) := by decide +kernel
theorem dJ6_bitCount_0f7a4_32 : decode cJ6_bitCount_0f7a4 32 = .ok (.iand, 1) := by decide +kernel
theorem dJ6_bitCount_0f7a4_33 : decode cJ6_bitCount_0f7a4 33 = .ok (.istore_n 0, 1) := by decide +kernel
theorem dJ6_bitCount_0f7a4_34 : decode cJ6_bitCount_0f7a4 34 = .ok (.iload_n 0, 1) := by decide +kernel
theorem dJ6_bitCount_0f7a4_35 : decode cJ6_bitCount_0f7a4 35 = .ok (.iload_n 0, 1) := by decide +kernel
theorem dJ6_bitCount_0f7a4_36 : decode cJ6_bitCount_0f7a4 36 = .ok (.bipush 8, 2) := by decide +kernel
theorem dJ6_bitCount_0f7a4_38 : decode cJ6_bitCount_0f7a4 38 = .ok (.iushr, 1) := by decide +kernel
theorem dJ6_bitCount_0f7a4_39 : decode cJ6_bitCount_0f7a4 39 = .ok (.iadd, 1) := by decide +kernel
theorem dJ6_bitCount_0f7a4_40 : decode cJ6_bitCount_0f7a4 40 = .ok (.istore_n 0, 1) := by decide +kernel
theorem dJ6_bitCount_0f7a4_41 : decode cJ6_bitCount_0f7a4 41 = .ok (.iload_n 0, 1) := by decide +kernel
theorem dJ6_bitCount_0f7a4_42 : decode cJ6_bitCount_0f7a4 42 = .ok (.iload_n 0, 1) := by decide +kernel
theorem dJ6_bitCount_0f7a4_43 : decode cJ6_bitCount_0f7a4 43 = .ok (.bipush 16, 2) := by decide +kernel
theorem dJ6_bitCount_0f7a4_45 : decode cJ6_bitCount_0f7a4 45 = .ok (.iushr, 1) := by decide +kernel
theorem dJ6_bitCount_0f7a4_46 : decode cJ6_bitCount_0f7a4 46 = .ok (.iadd, 1) := by decide +kernel
theorem dJ6_bitCount_0f7a4_47 : decode cJ6_bitCount_0f7a4 47 = .ok (.istore_n 0, 1) := by decide +kernel
theorem dJ6_bitCount_0f7a4_48 : decode cJ6_bitCount_0f7a4 48 = .ok (.iload_n 0, 1) := by decide +kernel
theorem dJ6_bitCount_0f7a4_49 : decode cJ6_bitCount_0f7a4 49 = .ok (.bipush 63, 2) := by decide +kernel
theorem dJ6_bitCount_0f7a4_51 : decode cJ6_bitCount_0f7a4 51 = .ok (.iand, 1) := by decide +kernel
theorem dJ6_bitCount_0f7a4_52 : decode cJ6_bitCount_0f7a4 52 = .ok (.ireturn, 1) := by decide +kernel
end
section
/-! own rows: values, guards, contracts in one form, calls, returns -/
def b2i (b : Bool) : Int32 := if b = true then 1 else 0
theorem b2i_nar (b : Bool) : narrow .boolean (.int (b2i b)) = .int (b2i b) := by cases b <;> rfl
theorem b2i_z {b : Bool} (h : b2i b = 0) : ¬ b = true := by cases b <;> simp_all [b2i]
theorem b2i_nz {b : Bool} (h : ¬ b2i b = 0) : b = true := by cases b <;> simp_all [b2i]
def retZ (v : Int32) : Option Bool := if v = 0 then some false else if v = 1 then some true else none
theorem retZ_spec {v : Int32} {q : Bool} (h : retZ v = some q) : v = b2i q := by
  unfold retZ at h
  by_cases h0 : v = 0
  · rw [if_pos h0] at h; cases h; rw [h0]; rfl
  · rw [if_neg h0] at h
    by_cases h1 : v = 1
    · rw [if_pos h1] at h; cases h; rw [h1]; rfl
    · rw [if_neg h1] at h; cases h
theorem retZ_nar {v : Int32} {q : Bool} (h : retZ v = some q) : narrow .boolean (.int v) = .int v := by rw [retZ_spec h]; exact b2i_nar q
def FU : Nat := 400
theorem bnd {α β : Type} {x : Option α} {f : α → Option β} {b : β} (h : x.bind f = some b) : ∃ a, x = some a ∧ f a = some b := by
  cases x with
  | none => cases h
  | some a => exact ⟨a, rfl, h⟩
theorem grd {α : Type} {c : Prop} [Decidable c] {x : Option α} {q : α} (h : (if c then none else x) = some q) : ¬ c ∧ x = some q := by
  by_cases hc : c
  · rw [if_pos hc] at h; cases h
  · rw [if_neg hc] at h; exact ⟨hc, h⟩
theorem ifp {α : Type} {c : Prop} [Decidable c] {x y : Option α} {q : α} (hc : c) (h : (if c then x else y) = some q) : x = some q := by rw [if_pos hc] at h; exact h
theorem ifn {α : Type} {c : Prop} [Decidable c] {x y : Option α} {q : α} (hc : ¬ c) (h : (if c then x else y) = some q) : y = some q := by rw [if_neg hc] at h; exact h
theorem inc_1 (x : Int32) : x + Int32.ofInt 1 = x + nI 1 := rfl
theorem inc_6 (x : Int32) : x + Int32.ofInt 6 = x + nI 6 := rfl
theorem inc_m1 (x : Int32) : x + Int32.ofInt (-1) = x + (-1) := by rw [show Int32.ofInt (-1) = (-1 : Int32) by decide +kernel]
theorem tnz {x : Int32} {n : Nat} (hn : n < 2 ^ 31) (h : ¬ x = nI n) : x.toInt ≠ (n : Int) := fun e => h (Int32.toInt_inj.mp (e.trans (nI_toInt hn).symm))
theorem tnz0 {x : Int32} (h : ¬ x = 0) : x.toInt ≠ 0 := fun e => h (Int32.toInt_inj.mp e)
theorem ic_m1 : Int32.ofInt (-1) = (-1 : Int32) := by decide +kernel
theorem ic_0 : Int32.ofInt (0) = (0 : Int32) := by decide +kernel
theorem ic_1 : Int32.ofInt (1) = (nI 1 : Int32) := by decide +kernel
theorem ic_2 : Int32.ofInt (2) = (nI 2 : Int32) := by decide +kernel
theorem ic_3 : Int32.ofInt (3) = (nI 3 : Int32) := by decide +kernel
theorem ic_4 : Int32.ofInt (4) = (nI 4 : Int32) := by decide +kernel
theorem ic_5 : Int32.ofInt (5) = (nI 5 : Int32) := by decide +kernel
theorem bp_m9 : (Int8.ofInt (-9)).toInt32 = (-9 : Int32) := by decide +kernel
theorem bp_m8 : (Int8.ofInt (-8)).toInt32 = (-8 : Int32) := by decide +kernel
theorem bp_m7 : (Int8.ofInt (-7)).toInt32 = (-7 : Int32) := by decide +kernel
theorem bp_m6 : (Int8.ofInt (-6)).toInt32 = (-6 : Int32) := by decide +kernel
theorem bp_m5 : (Int8.ofInt (-5)).toInt32 = (-5 : Int32) := by decide +kernel
theorem bp_m4 : (Int8.ofInt (-4)).toInt32 = (-4 : Int32) := by decide +kernel
theorem bp_m3 : (Int8.ofInt (-3)).toInt32 = (-3 : Int32) := by decide +kernel
theorem bp_m2 : (Int8.ofInt (-2)).toInt32 = (-2 : Int32) := by decide +kernel
theorem bp_6 : (Int8.ofInt (6)).toInt32 = (nI 6 : Int32) := by decide +kernel
theorem bp_7 : (Int8.ofInt (7)).toInt32 = (nI 7 : Int32) := by decide +kernel
theorem bp_8 : (Int8.ofInt (8)).toInt32 = (nI 8 : Int32) := by decide +kernel
theorem bp_9 : (Int8.ofInt (9)).toInt32 = (nI 9 : Int32) := by decide +kernel
theorem bp_12 : (Int8.ofInt (12)).toInt32 = (nI 12 : Int32) := by decide +kernel
theorem bp_15 : (Int8.ofInt (15)).toInt32 = (nI 15 : Int32) := by decide +kernel
theorem bp_16 : (Int8.ofInt (16)).toInt32 = (nI 16 : Int32) := by decide +kernel
theorem bp_31 : (Int8.ofInt (31)).toInt32 = (nI 31 : Int32) := by decide +kernel
theorem bp_60 : (Int8.ofInt (60)).toInt32 = (nI 60 : Int32) := by decide +kernel
theorem bp_63 : (Int8.ofInt (63)).toInt32 = (nI 63 : Int32) := by decide +kernel
theorem bp_68 : (Int8.ofInt (68)).toInt32 = (nI 68 : Int32) := by decide +kernel
theorem bp_100 : (Int8.ofInt (100)).toInt32 = (nI 100 : Int32) := by decide +kernel
theorem sp_164 : (Int16.ofInt (164)).toInt32 = (nI 164 : Int32) := by decide +kernel
theorem sp_328 : (Int16.ofInt (328)).toInt32 = (nI 328 : Int32) := by decide +kernel
/-- the nest mates' links, which no word list may hold: a part of each contract's start -/
def nfW : List Cond := [.fieldLinkNest RX5 33 "RingProtection$Shape" "nodes" "I" "RingProtection", .fieldLinkNest RX1 55 "RingProtection$Shape" "nodes" "I" "RingProtection", .fieldLinkNest RX5 47 "RingProtection$Shape" "slots" "I" "RingProtection", .fieldLinkNest RX1 125 "RingProtection$Shape" "slots" "I" "RingProtection", .fieldLinkNest RX3 25 "RingProtection$Controller" "shape" "LRingProtection$Shape;" "RingProtection", .fieldLinkNest RX5 110 "RingProtection$Controller" "failedWorking" "I" "RingProtection", .fieldLinkNest RX5 121 "RingProtection$Controller" "failedProtection" "I" "RingProtection", .fieldLinkNest RX5 127 "RingProtection$Controller" "failedNodes" "I" "RingProtection", .fieldLinkNest RX5 136 "RingProtection$Controller" "restoreTime" "I" "RingProtection", .fieldLinkNest RX3 86 "RingProtection$Controller" "workingDown" "I" "RingProtection", .fieldLinkNest RX3 74 "RingProtection$Controller" "protectionDown" "I" "RingProtection", .fieldLinkNest RX3 71 "RingProtection$Controller" "spanSwitched" "I" "RingProtection", .fieldLinkNest RX3 68 "RingProtection$Controller" "ringSwitched" "I" "RingProtection", .fieldLinkNest RX5 175 "RingProtection$Controller" "ringSwitched" "I" "RingProtection", .fieldLinkNest RX5 50 "RingProtection$Simulation" "circuits" "LRingProtection$CircuitTable;" "RingProtection", .fieldLinkNest RX5 106 "RingProtection$Simulation" "controller" "LRingProtection$Controller;" "RingProtection", .fieldLinkNest RX5 29 "RingProtection$Simulation" "shape" "LRingProtection$Shape;" "RingProtection", .fieldLinkNest RX5 142 "RingProtection$Simulation" "time" "I" "RingProtection", .fieldLinkNest RX5 185 "RingProtection$Snapshot" "kept" "LRingProtection$Simulation;" "RingProtection", .fieldLinkNest RX5 188 "RingProtection$Snapshot" "taken" "Z" "RingProtection"]
def nmW : List Cond := [.methodLinkNest RX5 9 yX3_init "RingProtection", .methodLinkNest RX3 11 yX0_init "RingProtection", .methodLinkNest RX3 20 yX1_init "RingProtection", .methodLinkNest RX1 11 yX2_init "RingProtection", .methodLinkNest RX5 21 yX4_init "RingProtection", .methodLinkNest RX4 9 yX3_init "RingProtection", .methodLinkNest RX0 47 yX5_clearRow "RingProtection", .methodLinkNest RX1 128 yX5_clearRow "RingProtection", .methodLinkNest RX0 32 yX5_contains "RingProtection", .methodLinkNest RX0 39 yX5_marked "RingProtection", .methodLinkNest RX1 48 yX5_contains "RingProtection", .methodLinkNest RX3 98 yX5_isDelivery "RingProtection", .methodLinkNest RX0 51 yX5_copyRow "RingProtection", .methodLinkNest RX1 132 yX5_copyRow "RingProtection"]
def Nst (U : State) : Prop := (∀ a i b n d h, Cond.fieldLinkNest a i b n d h ∈ nfW → va_Nw (.fieldLinkNest a i b n d h) U) ∧ (∀ a i x h, Cond.methodLinkNest a i x h ∈ nmW → va_Nw (.methodLinkNest a i x h) U)
theorem Nst.warm {s U : State} (hW : s.WarmedH U.vm) (h : Nst s) : Nst U := ⟨fun a i b n d g hm => va_Nw.warmF hW (h.1 a i b n d g hm), fun a i x g hm => va_Nw.warmM hW (h.2 a i x g hm)⟩
theorem Nst.vm {s U : State} (e : s.vm = U.vm) (h : Nst s) : Nst U := ⟨fun a i b n d g hm => va_Nw.same rfl e (h.1 a i b n d g hm), fun a i x g hm => va_Nw.same rfl e (h.2 a i x g hm)⟩
theorem Nst.fl {U : State} (h : Nst U) {A : Array Value} {a : String} {i : Nat} {b n d g : String} (k : Nat) (hk : nfW[k]? = some (.fieldLinkNest a i b n d g)) : (Cond.fieldLinkNest a i b n d g).before A U = true := va_Nw.use rfl (h.1 a i b n d g (List.mem_of_getElem? hk))
theorem Nst.ml {U : State} (h : Nst U) {a : String} {i : Nat} {x : MethodName} {g : String} (k : Nat) (hk : nmW[k]? = some (.methodLinkNest a i x g)) : va_Nw (.methodLinkNest a i x g) U := h.2 a i x g (List.mem_of_getElem? hk)
abbrev T2 (cI cZ : ClassId) : List (ClassId × FieldType) := [(cI, .int), (cZ, .boolean)]
/-- the start of a method whose world is WS -/
def SP (D : va_G) (cI cZ : ClassId) (WS : va_W) (sz : Nat) (U : State) : Prop := U.heap.size = sz ∧ va_P D vwCl WS U.heap ∧ va_K D vwCl (T2 cI cZ) U ∧ Nst U ∧ va_D (fun _ => True) WS
theorem SP.blind {D : va_G} {cI cZ : ClassId} {WS : va_W} {sz : Nat} {av : List Value} : FrameBlind (va_Pc av (SP D cI cZ WS sz)) := by
  intro a U g mk q
  obtain ⟨q0, q1, qP, qK, qN, qD⟩ := q
  exact ⟨q0, q1, qP, va_K.moved (u := U) (U := U.calling g mk a) (Vm.Alike.refl U.vm) qK, Nst.vm rfl qN, qD⟩
/-- contracts: an int (or boolean) comes back, the world is then WS'; void likewise. No cell is made. -/
def CI (l : Launch) (D : va_G) (cI cZ : ClassId) (y : MethodName) (ws : List Cond) (rm : Room) (av : List Value) (WS WS' : va_W) (r : Int32) : Prop :=
  ∀ sz : Nat, Met l y ws rm (va_Pc av (SP D cI cZ WS sz)) (va_Qi (fun x (_ : Unit) => x = r) (fun _ t => va_P D vwCl WS' t.heap) (va_A WS sz)) 0 0 (va_A WS sz)
def CV (l : Launch) (D : va_G) (cI cZ : ClassId) (y : MethodName) (ws : List Cond) (rm : Room) (av : List Value) (WS WS' : va_W) : Prop :=
  ∀ sz : Nat, Met l y ws rm (va_Pc av (SP D cI cZ WS sz)) (va_Qv (fun (_ : Unit) => True) (fun _ t => va_P D vwCl WS' t.heap) (va_A WS sz)) 0 0 (va_A WS sz)
abbrev QI (D : va_G) (WS' : va_W) (r : Int32) (A : Nat → Prop) : Array Value → State → Outcome → State → Prop := va_Qi (fun x (_ : Unit) => x = r) (fun _ t => va_P D vwCl WS' t.heap) A
abbrev QV (D : va_G) (WS' : va_W) (A : Nat → Prop) : Array Value → State → Outcome → State → Prop := va_Qv (fun (_ : Unit) => True) (fun _ t => va_P D vwCl WS' t.heap) A
/-- what holds in a method's body throughout -/
def Cx (p : Program) (s : State) (m : MethodId) (args : Array Value) (meth : Method) (c : Code) (D : va_G) (cI cZ : ClassId) (cc : ByteArray) (maxL : Nat) (ret : Option FieldType) (Ts : List Cond) (own : String) (A : Nat → Prop) : Prop :=
  CallFix p m c cc maxL s args Ts own ∧ meth.sig.returnType = ret ∧ meth.locks = false ∧ va_K D vwCl (T2 cI cZ) s ∧ Nst s ∧ ∀ q : Nat, s.heap.size ≤ q → A q
section KIN
variable {l : Launch} {D : va_G} {cI cZ : ClassId} {y : MethodName} {ws ws' : List Cond} {rm : Room} {av : List Value} {WS WS' : va_W} {r : Int32} {cc : ByteArray} {maxL : Nat} {ty : FieldType}
theorem CI.mk (hy : plainName y.cls = true) (hw : ws = Cond.code y cc maxL (some ty) :: ws') (hav : (lg_sl av).length ≤ maxL)
    (body : ∀ (p : Program) (e : Env) (s : State) (m : MethodId) (below : List Frame) (meth : Method) (c : Code) (ls : Array Slot) (A : Nat → Prop), Cx p s m av.toArray meth c D cI cZ cc maxL (some ty) ws y.cls A → va_P D vwCl WS s.heap → va_D A WS → lv_has ls maxL (lv_args 0 av) → va_S A s.heap s.heap [] →
      W p l e rm s m av.toArray below meth c s.heap [] 0 0 (MQ below (QI D WS' r A) av.toArray s 0 0 A) (F0 m 0 ls [])) : CI l D cI cZ y ws rm av WS WS' r := by
  intro sz
  refine Met.ofW (cc := cc) (maxL := maxL) (ret := some ty) hy hw ?_
  intro p e s m args below meth c s₁ B hml hv
  obtain ⟨rfl, hsz, hP, hK, hN, hD0⟩ := hv
  subst hsz
  have hD := hD0.self (sz := s.heap.size)
  rw [lg_entry_eq]
  exact body p e s m below meth c _ (va_A WS s.heap.size) ⟨⟨B.exec, B.bytes, hml, findClass_of_methodNamed B.named, atoms_spec (ws := ws) B.pre⟩, B.returns, B.notSynchronized, hK, hN, fun q h => Or.inr h⟩ hP hD (lv_entry av (n := maxL) hav) va_S.rf
theorem CV.mk (hy : plainName y.cls = true) (hw : ws = Cond.code y cc maxL none :: ws') (hav : (lg_sl av).length ≤ maxL)
    (body : ∀ (p : Program) (e : Env) (s : State) (m : MethodId) (below : List Frame) (meth : Method) (c : Code) (ls : Array Slot) (A : Nat → Prop), Cx p s m av.toArray meth c D cI cZ cc maxL none ws y.cls A → va_P D vwCl WS s.heap → va_D A WS → lv_has ls maxL (lv_args 0 av) → va_S A s.heap s.heap [] →
      W p l e rm s m av.toArray below meth c s.heap [] 0 0 (MQ below (QV D WS' A) av.toArray s 0 0 A) (F0 m 0 ls [])) : CV l D cI cZ y ws rm av WS WS' := by
  intro sz
  refine Met.ofW (cc := cc) (maxL := maxL) (ret := none) hy hw ?_
  intro p e s m args below meth c s₁ B hml hv
  obtain ⟨rfl, hsz, hP, hK, hN, hD0⟩ := hv
  subst hsz
  have hD := hD0.self (sz := s.heap.size)
  rw [lg_entry_eq]
  exact body p e s m below meth c _ (va_A WS s.heap.size) ⟨⟨B.exec, B.bytes, hml, findClass_of_methodNamed B.named, atoms_spec (ws := ws) B.pre⟩, B.returns, B.notSynchronized, hK, hN, fun q h => Or.inr h⟩ hP hD (lv_entry av (n := maxL) hav) va_S.rf
end KIN
/-- the callee's cells put back into the caller's world, each at its place -/
def spl : va_W → List Nat → va_W → va_W
  | big, [], _ => big
  | big, _ :: _, [] => big
  | big, i :: is, w :: ws => spl (big.set i w) is ws
theorem spl_get : ∀ (is : List Nat) (big ws : va_W) (k : Nat) (q : Nat × va_E), is.length = ws.length → (spl big is ws)[k]? = some q → q ∈ ws ∨ (k ∉ is ∧ big[k]? = some q)
  | [], big, ws, k, q, _, h => by
    cases ws with
    | nil => exact Or.inr ⟨List.not_mem_nil, h⟩
    | cons w ws => exact Or.inr ⟨List.not_mem_nil, h⟩
  | i :: is, big, [], k, q, hl, h => by simp at hl
  | i :: is, big, w :: ws, k, q, hl, h => by
    rcases spl_get is (big.set i w) ws k q (Nat.succ.inj hl) h with h1 | ⟨h1, h2⟩
    · exact Or.inl (List.mem_cons_of_mem _ h1)
    · by_cases hk : k = i
      · subst hk
        have hlt : k < big.length := by
          have := (List.getElem?_eq_some_iff.mp h2).1
          rwa [List.length_set] at this
        rw [List.getElem?_set_self hlt] at h2
        cases h2
        exact Or.inl List.mem_cons_self
      · rw [List.getElem?_set_ne (Ne.symm hk)] at h2
        exact Or.inr ⟨fun hm => (List.mem_cons.mp hm).elim hk h1, h2⟩
theorem va_D_adr {A : Nat → Prop} {w1 w2 : va_W} (e : w1.map Prod.fst = w2.map Prod.fst) (h : va_D A w2) : va_D A w1 := by
  have key : ∀ (k : Nat) (q : Nat × va_E), w1[k]? = some q → ∃ q2, w2[k]? = some q2 ∧ q2.1 = q.1 := by
    intro k q hk
    have h1 : (w1.map Prod.fst)[k]? = some q.1 := by rw [List.getElem?_map, hk]; rfl
    rw [e, List.getElem?_map] at h1
    cases h2 : w2[k]? with
    | none => rw [h2] at h1; cases h1
    | some q2 => rw [h2] at h1; exact ⟨q2, rfl, Option.some.inj h1⟩
  refine ⟨fun i j x y hi hj hxy => ?_, fun k q hk => ?_⟩
  · obtain ⟨x2, h1, h2⟩ := key i x hi
    obtain ⟨y2, h3, h4⟩ := key j y hj
    exact h.1 i j x2 y2 h1 h3 (h2.trans (hxy.trans h4.symm))
  · obtain ⟨q2, h1, h2⟩ := key k q hk
    rw [← h2]; exact h.2 k q2 h1
theorem splP {A : Nat → Prop} {D : va_G} {cl : List vw_C} {big WS WS' big' : va_W} {H H1 : Heap} {is : List Nat} (hP : va_P D cl big H) (hD : va_D A big) (hsel : is.map (fun i => big[i]?) = WS.map some) (hlen : is.length = WS'.length) (hspl : spl big is WS' = big')
    (hk : ∀ q : Nat, q < H.size → ¬ va_A WS H.size q → H1[q]? = H[q]?) (hP1 : va_P D cl WS' H1) : va_P D cl big' H1 := by
  intro k q hq
  rw [← hspl] at hq
  rcases spl_get is big WS' k q hlen hq with h1 | ⟨h1, h2⟩
  · obtain ⟨j, hj⟩ := List.getElem?_of_mem h1
    exact hP1 j q hj
  · have hlt := (hP k q h2).lt
    refine (hP k q h2).kept (hk q.1 hlt fun hA => ?_)
    rcases hA with ⟨k2, e2, h3⟩ | h3
    · have h4 : (is.map (fun i => big[i]?))[k2]? = some (some (q.1, e2)) := by rw [hsel, List.getElem?_map, h3]; rfl
      rw [List.getElem?_map] at h4
      cases hi : is[k2]? with
      | none => rw [hi] at h4; cases h4
      | some i =>
        rw [hi] at h4
        have h5 := hD.1 k i q (q.1, e2) h2 (Option.some.inj h4) rfl
        subst h5
        exact h1 (List.mem_of_getElem? hi)
    · omega
section KCALL
variable {p : Program} {l : Launch} {e : Env} {R : Room} {s : State} {m : MethodId} {args : Array Value} {below : List Frame} {meth : Method} {c : Code} {H : Heap} {locs : List Loc} {cells slots : Nat} {Q : State → Prop}
variable {D : va_G} {cI cZ : ClassId} {cc bytes : ByteArray} {nL maxL n index pc : Nat} {ret retC : Option FieldType} {Ts ws : List Cond} {own C host : String} {A : Nat → Prop} {y : MethodName} {rm : Room} {b : Nat} {As rest st0 : List Value} {WS WS' big : va_W} {r : Int32} {ls : Array Slot}
theorem preOf (hK : va_K D vwCl (T2 cI cZ) s) (hN : Nst s) (hP : va_P D vwCl big H) (hD : va_D A big) {is : List Nat} (hsel : is.map (fun i => big[i]?) = WS.map some) (hnd : va_nd is = true) : ∀ U : State, U.heap = H → s.WarmedH U.vm → va_Pc As (SP D cI cZ WS H.size) As.toArray U := by
  intro U hU hW
  have hD1 : va_D A WS := hD.sub is hnd hsel
  refine ⟨rfl, by rw [hU], ?_, va_K.moved hW.alike hK, Nst.warm hW hN, hD1.weaken (fun _ _ _ _ => trivial)⟩
  intro k q hq
  have h4 : (is.map (fun i => big[i]?))[k]? = some (some q) := by rw [hsel, List.getElem?_map, hq]; rfl
  rw [List.getElem?_map] at h4
  cases hi : is[k]? with
  | none => rw [hi] at h4; cases h4
  | some i => rw [hi] at h4; rw [hU]; exact hP i q (Option.some.inj h4)
/-- behind a run of a callee in the standard form: the int, and the world with the callee's cells put back -/
theorem goI (X : Cx p s m args meth c D cI cZ cc nL ret Ts own A) {a : Array Value} (hr : va_Run p l e R s m args below meth c H locs cells slots 0 0 (F0 m pc ls st0) rest (QI D WS' r (va_A WS H.size) a) (va_A WS H.size)) (hP : va_P D vwCl big H) (hD : va_D A big) (hS : va_S A s.heap H locs) (is : List Nat) (big' : va_W) (hsel : is.map (fun i => big[i]?) = WS.map some) (hlen : is.length = WS'.length) (hspl : spl big is WS' = big') (hadr : big'.map Prod.fst = big.map Prod.fst)
    (kk : ∀ (H1 : Heap) (locs1 : List Loc), va_P D vwCl big' H1 → va_D A big' → va_S A s.heap H1 locs1 → W p l e R s m args below meth c H1 locs1 cells slots Q (F0 m (pc + 3) ls (.int r :: rest))) : W p l e R s m args below meth c H locs cells slots Q (F0 m pc ls st0) := by
  have hF := va_free (wc := WS) hD hS X.2.2.2.2.2 is hsel
  refine va_calli hr hS (fun q _ h => hF q h) hF (fun r1 u t H1 locs1 ht _ hw hB _ hk1 hS1 => ?_)
  have hw : r1 = r := hw
  subst hw
  rw [ht] at hB
  exact kk H1 locs1 (splP hP hD hsel hlen hspl hk1 hB) (va_D_adr hadr hD) hS1
theorem goV (X : Cx p s m args meth c D cI cZ cc nL ret Ts own A) {a : Array Value} (hr : va_Run p l e R s m args below meth c H locs cells slots 0 0 (F0 m pc ls st0) rest (QV D WS' (va_A WS H.size) a) (va_A WS H.size)) (hP : va_P D vwCl big H) (hD : va_D A big) (hS : va_S A s.heap H locs) (is : List Nat) (big' : va_W) (hsel : is.map (fun i => big[i]?) = WS.map some) (hlen : is.length = WS'.length) (hspl : spl big is WS' = big') (hadr : big'.map Prod.fst = big.map Prod.fst)
    (kk : ∀ (H1 : Heap) (locs1 : List Loc), va_P D vwCl big' H1 → va_D A big' → va_S A s.heap H1 locs1 → W p l e R s m args below meth c H1 locs1 cells slots Q (F0 m (pc + 3) ls rest)) : W p l e R s m args below meth c H locs cells slots Q (F0 m pc ls st0) := by
  have hF := va_free (wc := WS) hD hS X.2.2.2.2.2 is hsel
  refine va_callv hr hS (fun q _ h => hF q h) hF (fun u t H1 locs1 ht _ _ hB _ hk1 hS1 => ?_)
  rw [ht] at hB
  exact kk H1 locs1 (splP hP hD hsel hlen hspl hk1 hB) (va_D_adr hadr hD) hS1
/-- a virtual call that answers an int -/
theorem callVI (X : Cx p s m args meth c D cI cZ cc nL ret Ts own A) (hC : CI l D cI cZ y ws rm (.ref b :: As) WS WS' r) (cw : CallW R s args own C index y bytes maxL retC ws rm 0 0 n) (hP : va_P D vwCl big H) (hD : va_D A big) (hS : va_S A s.heap H locs) (hls : ls.size = nL)
    (q0 ci : Nat) {T : u_T} {N : Nat} {fs : List Value} (hc : vwCl[ci]? = some (C, T, N)) (hq : big[q0]? = some (b, .inr (ci, fs))) (is : List Nat) (hnd : va_nd is = true) (big' : va_W) (hsel : is.map (fun i => big[i]?) = WS.map some) (hlen : is.length = WS'.length) (hspl : spl big is WS' = big') (hadr : big'.map Prod.fst = big.map Prod.fst)
    (hn : As.length = n) (hst : st0 = As.reverse ++ .ref b :: rest) (hW : (rest.map fun v => v.category).sum ≤ 8) (hdg : decode cc pc = .ok (.invokevirtual index, 3)) (hf : cells ≤ R.cells ∧ slots ≤ R.slots)
    (kk : ∀ (H1 : Heap) (locs1 : List Loc), va_P D vwCl big' H1 → va_D A big' → va_S A s.heap H1 locs1 → W p l e R s m args below meth c H1 locs1 cells slots Q (F0 m (pc + 3) ls (.int r :: rest))) : W p l e R s m args below meth c H locs cells slots Q (F0 m pc ls st0) :=
  goI X (va_runV (As := As) (rest := rest) X.1 (hC H.size) cw ⟨SP.blind, va_recv X.2.2.2.1 hP hc hq, preOf X.2.2.2.1 X.2.2.2.2.1 hP hD hsel hnd⟩ rfl hn hls hst (lv_room hW) hdg hf) hP hD hS is big' hsel hlen hspl hadr kk
theorem callVV (X : Cx p s m args meth c D cI cZ cc nL ret Ts own A) (hC : CV l D cI cZ y ws rm (.ref b :: As) WS WS') (cw : CallW R s args own C index y bytes maxL retC ws rm 0 0 n) (hP : va_P D vwCl big H) (hD : va_D A big) (hS : va_S A s.heap H locs) (hls : ls.size = nL)
    (q0 ci : Nat) {T : u_T} {N : Nat} {fs : List Value} (hc : vwCl[ci]? = some (C, T, N)) (hq : big[q0]? = some (b, .inr (ci, fs))) (is : List Nat) (hnd : va_nd is = true) (big' : va_W) (hsel : is.map (fun i => big[i]?) = WS.map some) (hlen : is.length = WS'.length) (hspl : spl big is WS' = big') (hadr : big'.map Prod.fst = big.map Prod.fst)
    (hn : As.length = n) (hst : st0 = As.reverse ++ .ref b :: rest) (hW : (rest.map fun v => v.category).sum ≤ 8) (hdg : decode cc pc = .ok (.invokevirtual index, 3)) (hf : cells ≤ R.cells ∧ slots ≤ R.slots)
    (kk : ∀ (H1 : Heap) (locs1 : List Loc), va_P D vwCl big' H1 → va_D A big' → va_S A s.heap H1 locs1 → W p l e R s m args below meth c H1 locs1 cells slots Q (F0 m (pc + 3) ls rest)) : W p l e R s m args below meth c H locs cells slots Q (F0 m pc ls st0) :=
  goV X (va_runV (As := As) (rest := rest) X.1 (hC H.size) cw ⟨SP.blind, va_recv X.2.2.2.1 hP hc hq, preOf X.2.2.2.1 X.2.2.2.2.1 hP hD hsel hnd⟩ rfl hn hls hst (lv_room hW) hdg hf) hP hD hS is big' hsel hlen hspl hadr kk
/-- static calls: of the same class, and of a nest mate -/
theorem callSI (X : Cx p s m args meth c D cI cZ cc nL ret Ts own A) (hC : CI l D cI cZ y ws rm As WS WS' r) (cw : CallB R s args own index y bytes maxL retC ws rm 0 0 n ∧ (Cond.static y).before args s = true) (hP : va_P D vwCl big H) (hD : va_D A big) (hS : va_S A s.heap H locs) (hls : ls.size = nL)
    (is : List Nat) (hnd : va_nd is = true) (big' : va_W) (hsel : is.map (fun i => big[i]?) = WS.map some) (hlen : is.length = WS'.length) (hspl : spl big is WS' = big') (hadr : big'.map Prod.fst = big.map Prod.fst)
    (hn : As.length = n) (hst : st0 = As.reverse ++ rest) (hW : (rest.map fun v => v.category).sum ≤ 8) (hdg : decode cc pc = .ok (.invokestatic index, 3)) (hf : cells ≤ R.cells ∧ slots ≤ R.slots)
    (kk : ∀ (H1 : Heap) (locs1 : List Loc), va_P D vwCl big' H1 → va_D A big' → va_S A s.heap H1 locs1 → W p l e R s m args below meth c H1 locs1 cells slots Q (F0 m (pc + 3) ls (.int r :: rest))) : W p l e R s m args below meth c H locs cells slots Q (F0 m pc ls st0) :=
  goI X (va_runS (As := As) (rest := rest) X.1 (hC H.size) cw ⟨SP.blind, preOf X.2.2.2.1 X.2.2.2.2.1 hP hD hsel hnd⟩ rfl hn hls hst (lv_room hW) hdg hf) hP hD hS is big' hsel hlen hspl hadr kk
theorem callSV (X : Cx p s m args meth c D cI cZ cc nL ret Ts own A) (hC : CV l D cI cZ y ws rm As WS WS') (cw : CallB R s args own index y bytes maxL retC ws rm 0 0 n ∧ (Cond.static y).before args s = true) (hP : va_P D vwCl big H) (hD : va_D A big) (hS : va_S A s.heap H locs) (hls : ls.size = nL)
    (is : List Nat) (hnd : va_nd is = true) (big' : va_W) (hsel : is.map (fun i => big[i]?) = WS.map some) (hlen : is.length = WS'.length) (hspl : spl big is WS' = big') (hadr : big'.map Prod.fst = big.map Prod.fst)
    (hn : As.length = n) (hst : st0 = As.reverse ++ rest) (hW : (rest.map fun v => v.category).sum ≤ 8) (hdg : decode cc pc = .ok (.invokestatic index, 3)) (hf : cells ≤ R.cells ∧ slots ≤ R.slots)
    (kk : ∀ (H1 : Heap) (locs1 : List Loc), va_P D vwCl big' H1 → va_D A big' → va_S A s.heap H1 locs1 → W p l e R s m args below meth c H1 locs1 cells slots Q (F0 m (pc + 3) ls rest)) : W p l e R s m args below meth c H locs cells slots Q (F0 m pc ls st0) :=
  goV X (va_runS (As := As) (rest := rest) X.1 (hC H.size) cw ⟨SP.blind, preOf X.2.2.2.1 X.2.2.2.2.1 hP hD hsel hnd⟩ rfl hn hls hst (lv_room hW) hdg hf) hP hD hS is big' hsel hlen hspl hadr kk
theorem callNI (X : Cx p s m args meth c D cI cZ cc nL ret Ts own A) (hC : CI l D cI cZ y ws rm As WS WS' r) (cw : va_CN R s args own index y host bytes maxL retC ws rm 0 0 n ∧ (Cond.static y).before args s = true ∧ True) (hP : va_P D vwCl big H) (hD : va_D A big) (hS : va_S A s.heap H locs) (hls : ls.size = nL)
    (is : List Nat) (hnd : va_nd is = true) (big' : va_W) (hsel : is.map (fun i => big[i]?) = WS.map some) (hlen : is.length = WS'.length) (hspl : spl big is WS' = big') (hadr : big'.map Prod.fst = big.map Prod.fst)
    (hn : As.length = n) (hst : st0 = As.reverse ++ rest) (hW : (rest.map fun v => v.category).sum ≤ 8) (hdg : decode cc pc = .ok (.invokestatic index, 3)) (hf : cells ≤ R.cells ∧ slots ≤ R.slots)
    (kk : ∀ (H1 : Heap) (locs1 : List Loc), va_P D vwCl big' H1 → va_D A big' → va_S A s.heap H1 locs1 → W p l e R s m args below meth c H1 locs1 cells slots Q (F0 m (pc + 3) ls (.int r :: rest))) : W p l e R s m args below meth c H locs cells slots Q (F0 m pc ls st0) :=
  goI X (va_runSN (As := As) (rest := rest) X.1 (hC H.size) cw ⟨SP.blind, preOf X.2.2.2.1 X.2.2.2.2.1 hP hD hsel hnd⟩ rfl hn hls hst (lv_room hW) hdg hf) hP hD hS is big' hsel hlen hspl hadr kk
theorem callNV (X : Cx p s m args meth c D cI cZ cc nL ret Ts own A) (hC : CV l D cI cZ y ws rm As WS WS') (cw : va_CN R s args own index y host bytes maxL retC ws rm 0 0 n ∧ (Cond.static y).before args s = true ∧ True) (hP : va_P D vwCl big H) (hD : va_D A big) (hS : va_S A s.heap H locs) (hls : ls.size = nL)
    (is : List Nat) (hnd : va_nd is = true) (big' : va_W) (hsel : is.map (fun i => big[i]?) = WS.map some) (hlen : is.length = WS'.length) (hspl : spl big is WS' = big') (hadr : big'.map Prod.fst = big.map Prod.fst)
    (hn : As.length = n) (hst : st0 = As.reverse ++ rest) (hW : (rest.map fun v => v.category).sum ≤ 8) (hdg : decode cc pc = .ok (.invokestatic index, 3)) (hf : cells ≤ R.cells ∧ slots ≤ R.slots)
    (kk : ∀ (H1 : Heap) (locs1 : List Loc), va_P D vwCl big' H1 → va_D A big' → va_S A s.heap H1 locs1 → W p l e R s m args below meth c H1 locs1 cells slots Q (F0 m (pc + 3) ls rest)) : W p l e R s m args below meth c H locs cells slots Q (F0 m pc ls st0) :=
  goV X (va_runSN (As := As) (rest := rest) X.1 (hC H.size) cw ⟨SP.blind, preOf X.2.2.2.1 X.2.2.2.2.1 hP hD hsel hnd⟩ rfl hn hls hst (lv_room hW) hdg hf) hP hD hS is big' hsel hlen hspl hadr kk
/-- returns -/
theorem retI {v : Int32} (X : Cx p s m args meth c D cI cZ cc nL (some .int) Ts own A) (hS : va_S A s.heap H locs) (hP : va_P D vwCl WS' H) (hv : v = r) (hdg : decode cc pc = .ok (.ireturn, 1)) : W p l e R s m args below meth c H locs 0 0 (MQ below (QI D WS' r A) args s 0 0 A) (F0 m pc ls [.int v]) :=
  W.iret X.1.1 X.1.2.1 X.2.1 (fun t ht _ => ⟨⟨v, (), rfl, hv, by rw [ht]; exact hP⟩, hS.F ht⟩) hS.2.2 hdg X.2.2.1
theorem retB {v : Int32} (X : Cx p s m args meth c D cI cZ cc nL (some .boolean) Ts own A) (hS : va_S A s.heap H locs) (hP : va_P D vwCl WS' H) (hn : narrow .boolean (.int v) = .int v) (hv : v = r) (hdg : decode cc pc = .ok (.ireturn, 1)) : W p l e R s m args below meth c H locs 0 0 (MQ below (QI D WS' r A) args s 0 0 A) (F0 m pc ls [.int v]) :=
  W.zret X.1.1 X.1.2.1 X.2.1 hn (fun t ht _ => ⟨⟨v, (), rfl, hv, by rw [ht]; exact hP⟩, hS.F ht⟩) hS.2.2 hdg X.2.2.1
theorem retV (X : Cx p s m args meth c D cI cZ cc nL none Ts own A) (hS : va_S A s.heap H locs) (hP : va_P D vwCl WS' H) (hdg : decode cc pc = .ok (.return_, 1)) : W p l e R s m args below meth c H locs 0 0 (MQ below (QV D WS' A) args s 0 0 A) (F0 m pc ls []) :=
  W.vret X.1.1 X.1.2.1 X.2.1 (fun t ht _ => ⟨⟨(), rfl, trivial, by rw [ht]; exact hP⟩, hS.F ht⟩) hS.2.2 hdg X.2.2.1
/-- an array's element, under a name for its place -/
theorem aldI (X : Cx p s m args meth c D cI cZ cc nL ret Ts own A) (hP : va_P D vwCl big H) (q0 : Nat) {a nA : Nat} {f : Nat → Int32} (ha : big[q0]? = some (a, .inl (cI, nA, .inl f))) {i : Int32} (hin : vp_in i nA) {j : Nat} (hj : i.toNatClampNeg = j) (hdg : decode cc pc = .ok (.iaload, 1)) (kk : W p l e R s m args below meth c H locs cells slots Q (F0 m (pc + 1) ls (.int (f j) :: rest))) : W p l e R s m args below meth c H locs cells slots Q (F0 m pc ls (.int i :: .ref a :: rest)) := by
  subst hj
  exact va_iald X.1.1 X.1.2.1 X.2.2.2.1 hP q0 0 ha rfl hin hdg kk
theorem aldZ (X : Cx p s m args meth c D cI cZ cc nL ret Ts own A) (hP : va_P D vwCl big H) (q0 : Nat) {a nA : Nat} {f : Nat → Int32} (ha : big[q0]? = some (a, .inl (cZ, nA, .inl f))) {i : Int32} (hin : vp_in i nA) {j : Nat} (hj : i.toNatClampNeg = j) (hdg : decode cc pc = .ok (.baload, 1)) (kk : W p l e R s m args below meth c H locs cells slots Q (F0 m (pc + 1) ls (.int (f j) :: rest))) : W p l e R s m args below meth c H locs cells slots Q (F0 m pc ls (.int i :: .ref a :: rest)) := by
  subst hj
  exact va_zald X.1.1 X.1.2.1 X.2.2.2.1 hP q0 1 ha rfl hin hdg kk
theorem astI (X : Cx p s m args meth c D cI cZ cc nL ret Ts own A) (hP : va_P D vwCl big H) (hD : va_D A big) (hS : va_S A s.heap H locs) (q0 : Nat) {a nA : Nat} {f : Nat → Int32} (ha : big[q0]? = some (a, .inl (cI, nA, .inl f))) {i x : Int32} (hin : vp_in i nA) {j : Nat} (hj : i.toNatClampNeg = j) (hdg : decode cc pc = .ok (.iastore, 1)) (big' : va_W) (hb' : big.set q0 (a, .inl (cI, nA, .inl (upd f j x))) = big')
    (kk : ∀ (H1 : Heap) (locs1 : List Loc), va_P D vwCl big' H1 → va_D A big' → va_S A s.heap H1 locs1 → W p l e R s m args below meth c H1 locs1 cells slots Q (F0 m (pc + 1) ls rest)) : W p l e R s m args below meth c H locs cells slots Q (F0 m pc ls (.int x :: .int i :: .ref a :: rest)) := by
  subst hj; subst hb'
  exact va_iast X.1.1 X.1.2.1 X.2.2.2.1 hP hD hS q0 0 ha rfl hin hdg kk
theorem astZ (X : Cx p s m args meth c D cI cZ cc nL ret Ts own A) (hP : va_P D vwCl big H) (hD : va_D A big) (hS : va_S A s.heap H locs) (q0 : Nat) {a nA : Nat} {f : Nat → Int32} (ha : big[q0]? = some (a, .inl (cZ, nA, .inl f))) {i x : Int32} (hx : vp_nar .boolean x = x) (hin : vp_in i nA) {j : Nat} (hj : i.toNatClampNeg = j) (hdg : decode cc pc = .ok (.bastore, 1)) (big' : va_W) (hb' : big.set q0 (a, .inl (cZ, nA, .inl (upd f j x))) = big')
    (kk : ∀ (H1 : Heap) (locs1 : List Loc), va_P D vwCl big' H1 → va_D A big' → va_S A s.heap H1 locs1 → W p l e R s m args below meth c H1 locs1 cells slots Q (F0 m (pc + 1) ls rest)) : W p l e R s m args below meth c H locs cells slots Q (F0 m pc ls (.int x :: .int i :: .ref a :: rest)) := by
  subst hj; subst hb'
  have h := @va_zast
  refine va_zast X.1.1 X.1.2.1 X.2.2.2.1 hP hD hS q0 1 ha rfl hin hdg ?_
  rw [hx]
  exact kk
/-- fields: of an object of the world, by the class's own link or the nest's -/
theorem getO (X : Cx p s m args meth c D cI cZ cc nL ret Ts own A) (hP : va_P D vwCl big H) {T : u_T} {N ci index a : Nat} (hin : ∀ w ∈ u_ws C T N, w ∈ Ts) (q0 : Nat) {fs : List Value} (he : big[q0]? = some (a, .inr (ci, fs))) (hc : vwCl[ci]? = some (C, T, N)) (k : Nat) (hk : k < N) (hlink : Cond.fieldLink own index (T k).1 (T k).2.1 (T k).2.2.1 ∈ Ts) {v : Value} (hv : fs[k]? = some v) (hdg : decode cc pc = .ok (.getfield index, 3))
    (kk : W p l e R s m args below meth c H locs cells slots Q (F0 m (pc + 3) ls (v :: rest))) : W p l e R s m args below meth c H locs cells slots Q (F0 m pc ls (.ref a :: rest)) :=
  va_get X.1.1 X.1.2.1 X.1.2.2.2.2 hin X.1.2.2.2.1 X.2.2.2.1 hP q0 he hc k hk (X.1.2.2.2.2 _ hlink) (fun _ h => h) hv hdg kk
theorem getN (X : Cx p s m args meth c D cI cZ cc nL ret Ts own A) (hP : va_P D vwCl big H) {T : u_T} {N ci index a : Nat} (hin : ∀ w ∈ u_ws C T N, w ∈ Ts) (q0 : Nat) {fs : List Value} (he : big[q0]? = some (a, .inr (ci, fs))) (hc : vwCl[ci]? = some (C, T, N)) (k : Nat) (hk : k < N) (j : Nat) (hlink : nfW[j]? = some (.fieldLinkNest own index (T k).1 (T k).2.1 (T k).2.2.1 host)) {v : Value} (hv : fs[k]? = some v) (hdg : decode cc pc = .ok (.getfield index, 3))
    (kk : W p l e R s m args below meth c H locs cells slots Q (F0 m (pc + 3) ls (v :: rest))) : W p l e R s m args below meth c H locs cells slots Q (F0 m pc ls (.ref a :: rest)) :=
  va_getN X.1.1 X.1.2.1 X.1.2.2.2.2 hin X.1.2.2.2.1 X.2.2.2.1 hP q0 he hc k hk (X.2.2.2.2.1.fl j hlink) (fun _ h => h) hv hdg kk
theorem putO (X : Cx p s m args meth c D cI cZ cc nL ret Ts own A) (hP : va_P D vwCl big H) (hD : va_D A big) (hS : va_S A s.heap H locs) {T : u_T} {N ci index a : Nat} (hin : ∀ w ∈ u_ws C T N, w ∈ Ts) (ty0 : Nat → FieldType) (hty : ∀ k, k < N → parseFieldDescriptor (T k).2.2.1 = some (ty0 k)) (hnm : ∀ a, a < N → ∀ b, b < N → a ≠ b → (T a).2.1 ≠ (T b).2.1) (q0 : Nat) {fs : List Value} (he : big[q0]? = some (a, .inr (ci, fs))) (hc : vwCl[ci]? = some (C, T, N)) (k : Nat) (hk : k < N) (hlink : Cond.fieldLink own index (T k).1 (T k).2.1 (T k).2.2.1 ∈ Ts) (hfin : (T k).2.2.2 = false) {v : Value} (hn : narrow (ty0 k) v = v) (hfit : fits (ty0 k) v = true) (hl : k < fs.length)
    (hdg : decode cc pc = .ok (.putfield index, 3)) (big' : va_W) (hb' : big.set q0 (a, .inr (ci, fs.set k v)) = big') (kk : ∀ (H1 : Heap) (locs1 : List Loc), va_P D vwCl big' H1 → va_D A big' → va_S A s.heap H1 locs1 → W p l e R s m args below meth c H1 locs1 cells slots Q (F0 m (pc + 3) ls rest)) : W p l e R s m args below meth c H locs cells slots Q (F0 m pc ls (v :: .ref a :: rest)) := by
  subst hb'
  exact va_put X.1.1 X.1.2.1 X.1.2.2.2.2 hin ty0 hty hnm X.1.2.2.2.1 X.2.2.2.1 hP hD hS q0 he hc k hk (X.1.2.2.2.2 _ hlink) (fun _ h => h) hfin (hty k hk) hn hfit hl hdg kk
theorem putN (X : Cx p s m args meth c D cI cZ cc nL ret Ts own A) (hP : va_P D vwCl big H) (hD : va_D A big) (hS : va_S A s.heap H locs) {T : u_T} {N ci index a : Nat} (hin : ∀ w ∈ u_ws C T N, w ∈ Ts) (ty0 : Nat → FieldType) (hty : ∀ k, k < N → parseFieldDescriptor (T k).2.2.1 = some (ty0 k)) (hnm : ∀ a, a < N → ∀ b, b < N → a ≠ b → (T a).2.1 ≠ (T b).2.1) (q0 : Nat) {fs : List Value} (he : big[q0]? = some (a, .inr (ci, fs))) (hc : vwCl[ci]? = some (C, T, N)) (k : Nat) (hk : k < N) (j : Nat) (hlink : nfW[j]? = some (.fieldLinkNest own index (T k).1 (T k).2.1 (T k).2.2.1 host)) (hfin : (T k).2.2.2 = false) {v : Value} (hn : narrow (ty0 k) v = v) (hfit : fits (ty0 k) v = true) (hl : k < fs.length)
    (hdg : decode cc pc = .ok (.putfield index, 3)) (big' : va_W) (hb' : big.set q0 (a, .inr (ci, fs.set k v)) = big') (kk : ∀ (H1 : Heap) (locs1 : List Loc), va_P D vwCl big' H1 → va_D A big' → va_S A s.heap H1 locs1 → W p l e R s m args below meth c H1 locs1 cells slots Q (F0 m (pc + 3) ls rest)) : W p l e R s m args below meth c H locs cells slots Q (F0 m pc ls (v :: .ref a :: rest)) := by
  subst hb'
  exact va_putN X.1.1 X.1.2.1 X.1.2.2.2.2 hin ty0 hty hnm X.1.2.2.2.1 X.2.2.2.1 hP hD hS q0 he hc k hk (X.2.2.2.2.1.fl j hlink) (fun _ h => h) hfin (hty k hk) hn hfit hl hdg kk
theorem alenR (X : Cx p s m args meth c D cI cZ cc nL ret Ts own A) (hP : va_P D vwCl big H) (q0 : Nat) {a nA : Nat} {f : Nat → Int32} (ha : big[q0]? = some (a, .inl (cI, nA, .inl f))) (hdg : decode cc pc = .ok (.arraylength, 1)) (kk : W p l e R s m args below meth c H locs cells slots Q (F0 m (pc + 1) ls (.int (nI nA) :: rest))) : W p l e R s m args below meth c H locs cells slots Q (F0 m pc ls (.ref a :: rest)) :=
  va_alen X.1.1 X.1.2.1 X.2.2.2.1 hP q0 0 ha rfl rfl hdg kk
end KCALL
/-- the cells by their classes -/
abbrev oX0 (a0 a1 a2 a3 : Nat) (i4 : Int32) : va_E := .inr (0, [.ref a0, .ref a1, .ref a2, .ref a3, .int i4])
abbrev oX1 (a0 : Nat) (i1 i2 i3 : Int32) (a4 a5 a6 : Nat) (i7 i8 i9 : Int32) (a10 : Nat) (i11 i12 : Int32) (a13 : Nat) : va_E := .inr (1, [.ref a0, .int i1, .int i2, .int i3, .ref a4, .ref a5, .ref a6, .int i7, .int i8, .int i9, .ref a10, .int i11, .int i12, .ref a13])
abbrev oX2 (i0 i1 : Int32) : va_E := .inr (2, [.int i0, .int i1])
abbrev oX3 (a0 a1 a2 : Nat) (i3 : Int32) : va_E := .inr (3, [.ref a0, .ref a1, .ref a2, .int i3])
abbrev oX4 (a0 : Nat) (i1 : Int32) : va_E := .inr (4, [.ref a0, .int i1])
abbrev oX5 (a0 a1 a2 a3 : Nat) : va_E := .inr (5, [.ref a0, .ref a1, .ref a2, .ref a3])
abbrev oX6 (a0 a1 a2 a3 : Nat) : va_E := .inr (6, [.ref a0, .ref a1, .ref a2, .ref a3])
abbrev rI (c : ClassId) (n : Nat) (f : Nat → Int32) : va_E := .inl (c, n, .inl f)
end
section
abbrev wo_X2_hasNode (cI cZ : ClassId) (a_t : Nat) (v_t_nd : Int32) (v_t_sn : Int32) : va_W := [(a_t, oX2 v_t_nd v_t_sn)]
def fX2_hasNode (v_t_nd : Int32) (p1 : Int32) : Option (Bool) := (if p1 < 0 then (some false) else (if v_t_nd ≤ p1 then (some false) else (some true)))
theorem kd_X2_hasNode : yX2_hasNode.cls = RX2 ∧ yX2_hasNode.cls ≠ "java/lang/invoke/MethodHandle" ∧ yX2_hasNode.cls ≠ "java/lang/invoke/VarHandle" ∧ (parseMethodDescriptor yX2_hasNode.desc).map (fun d => d.parameters.length) = some 1 := by decide +kernel
def rm_X2_hasNode : Room := { frames := 0, cells := 0, slots := 0, locals := 0 }
set_option maxHeartbeats 4000000 in
set_option maxRecDepth 100000 in
theorem k_X2_hasNode (l : Launch) (D : va_G) (cI cZ : ClassId) (a_t : Nat) (v_t_nd : Int32) (v_t_sn : Int32) (p1 : Int32) (q : Bool) (hf : fX2_hasNode v_t_nd p1 = some q) : CI l D cI cZ yX2_hasNode wsX2_hasNode rm_X2_hasNode [.ref a_t, .int p1] (wo_X2_hasNode cI cZ a_t v_t_nd v_t_sn) (wo_X2_hasNode cI cZ a_t v_t_nd v_t_sn) (b2i q) := by
  refine CI.mk (cc := cX2_hasNode) (maxL := 2) (by decide) rfl (by decide) ?_
  intro p e s m below meth c ls A X hP hD hl hS
  have hx := X.1.1
  have hb := X.1.2.1
  have hl : lv_has ls 2 [(0, .ref a_t), (1, .int p1)] := hl
  have inX2 : ∀ w ∈ u_ws RX2 TX2 2, w ∈ wsX2_hasNode := fun _ h => List.mem_cons_of_mem _ (List.mem_append_right _ h)
  unfold fX2_hasNode at hf
  refine lv_iload_n hx hb dX2_hasNode_0 rfl (lv_at hl 1 rfl) ?_
  refine lv_if_lt (tgt := 16) hx hb dX2_hasNode_1 (by decide) (fun c => ?_) (fun c => ?_)
  · replace hf := ifp c hf
    refine lv_iconst hx hb dX2_hasNode_16 ic_0 ?_
    obtain rfl := Option.some.inj hf
    exact retB X hS hP rfl rfl dX2_hasNode_17
  · replace hf := ifn c hf
    refine lv_iload_n hx hb dX2_hasNode_4 rfl (lv_at hl 1 rfl) ?_
    refine lv_aload_n hx hb dX2_hasNode_5 rfl (lv_at hl 0 rfl) ?_
    refine getO X hP inX2 0 rfl rfl 0 (by decide) (List.mem_of_getElem? (i := 1) rfl) rfl dX2_hasNode_6 ?_
    refine lv_icmp_ge (tgt := 16) hx hb dX2_hasNode_9 (by decide) (fun c => ?_) (fun c => ?_)
    · replace hf := ifp c hf
      refine lv_iconst hx hb dX2_hasNode_16 ic_0 ?_
      obtain rfl := Option.some.inj hf
      exact retB X hS hP rfl rfl dX2_hasNode_17
    · replace hf := ifn c hf
      refine lv_iconst hx hb dX2_hasNode_12 ic_1 ?_
      refine lv_goto (tgt := 17) hx hb dX2_hasNode_13 (by decide) ?_
      obtain rfl := Option.some.inj hf
      exact retB X hS hP rfl rfl dX2_hasNode_17
abbrev wo_X2_hasSpan (cI cZ : ClassId) (a_t : Nat) (v_t_nd : Int32) (v_t_sn : Int32) : va_W := [(a_t, oX2 v_t_nd v_t_sn)]
def fX2_hasSpan (v_t_nd : Int32) (p1 : Int32) : Option (Bool) := (if p1 < 0 then (some false) else (if v_t_nd ≤ p1 then (some false) else (some true)))
theorem kd_X2_hasSpan : yX2_hasSpan.cls = RX2 ∧ yX2_hasSpan.cls ≠ "java/lang/invoke/MethodHandle" ∧ yX2_hasSpan.cls ≠ "java/lang/invoke/VarHandle" ∧ (parseMethodDescriptor yX2_hasSpan.desc).map (fun d => d.parameters.length) = some 1 := by decide +kernel
def rm_X2_hasSpan : Room := { frames := 0, cells := 0, slots := 0, locals := 0 }
set_option maxHeartbeats 4000000 in
set_option maxRecDepth 100000 in
theorem k_X2_hasSpan (l : Launch) (D : va_G) (cI cZ : ClassId) (a_t : Nat) (v_t_nd : Int32) (v_t_sn : Int32) (p1 : Int32) (q : Bool) (hf : fX2_hasSpan v_t_nd p1 = some q) : CI l D cI cZ yX2_hasSpan wsX2_hasSpan rm_X2_hasSpan [.ref a_t, .int p1] (wo_X2_hasSpan cI cZ a_t v_t_nd v_t_sn) (wo_X2_hasSpan cI cZ a_t v_t_nd v_t_sn) (b2i q) := by
  refine CI.mk (cc := cX2_hasSpan) (maxL := 2) (by decide) rfl (by decide) ?_
  intro p e s m below meth c ls A X hP hD hl hS
  have hx := X.1.1
  have hb := X.1.2.1
  have hl : lv_has ls 2 [(0, .ref a_t), (1, .int p1)] := hl
  have inX2 : ∀ w ∈ u_ws RX2 TX2 2, w ∈ wsX2_hasSpan := fun _ h => List.mem_cons_of_mem _ (List.mem_append_right _ h)
  unfold fX2_hasSpan at hf
  refine lv_iload_n hx hb dX2_hasSpan_0 rfl (lv_at hl 1 rfl) ?_
  refine lv_if_lt (tgt := 16) hx hb dX2_hasSpan_1 (by decide) (fun c => ?_) (fun c => ?_)
  · replace hf := ifp c hf
    refine lv_iconst hx hb dX2_hasSpan_16 ic_0 ?_
    obtain rfl := Option.some.inj hf
    exact retB X hS hP rfl rfl dX2_hasSpan_17
  · replace hf := ifn c hf
    refine lv_iload_n hx hb dX2_hasSpan_4 rfl (lv_at hl 1 rfl) ?_
    refine lv_aload_n hx hb dX2_hasSpan_5 rfl (lv_at hl 0 rfl) ?_
    refine getO X hP inX2 0 rfl rfl 0 (by decide) (List.mem_of_getElem? (i := 1) rfl) rfl dX2_hasSpan_6 ?_
    refine lv_icmp_ge (tgt := 16) hx hb dX2_hasSpan_9 (by decide) (fun c => ?_) (fun c => ?_)
    · replace hf := ifp c hf
      refine lv_iconst hx hb dX2_hasSpan_16 ic_0 ?_
      obtain rfl := Option.some.inj hf
      exact retB X hS hP rfl rfl dX2_hasSpan_17
    · replace hf := ifn c hf
      refine lv_iconst hx hb dX2_hasSpan_12 ic_1 ?_
      refine lv_goto (tgt := 17) hx hb dX2_hasSpan_13 (by decide) ?_
      obtain rfl := Option.some.inj hf
      exact retB X hS hP rfl rfl dX2_hasSpan_17
abbrev wo_X2_nodeAfter (cI cZ : ClassId) (a_t : Nat) (v_t_nd : Int32) (v_t_sn : Int32) : va_W := [(a_t, oX2 v_t_nd v_t_sn)]
def fX2_nodeAfter (v_t_nd : Int32) (p1 : Int32) : Option (Int32) := (if v_t_nd ≤ (p1 + (nI 1)) then (some 0) else (some (p1 + (nI 1))))
theorem kd_X2_nodeAfter : yX2_nodeAfter.cls = RX2 ∧ yX2_nodeAfter.cls ≠ "java/lang/invoke/MethodHandle" ∧ yX2_nodeAfter.cls ≠ "java/lang/invoke/VarHandle" ∧ (parseMethodDescriptor yX2_nodeAfter.desc).map (fun d => d.parameters.length) = some 1 := by decide +kernel
def rm_X2_nodeAfter : Room := { frames := 0, cells := 0, slots := 0, locals := 0 }
set_option maxHeartbeats 4000000 in
set_option maxRecDepth 100000 in
theorem k_X2_nodeAfter (l : Launch) (D : va_G) (cI cZ : ClassId) (a_t : Nat) (v_t_nd : Int32) (v_t_sn : Int32) (p1 : Int32) (q : Int32) (hf : fX2_nodeAfter v_t_nd p1 = some q) : CI l D cI cZ yX2_nodeAfter wsX2_nodeAfter rm_X2_nodeAfter [.ref a_t, .int p1] (wo_X2_nodeAfter cI cZ a_t v_t_nd v_t_sn) (wo_X2_nodeAfter cI cZ a_t v_t_nd v_t_sn) q := by
  refine CI.mk (cc := cX2_nodeAfter) (maxL := 2) (by decide) rfl (by decide) ?_
  intro p e s m below meth c ls A X hP hD hl hS
  have hx := X.1.1
  have hb := X.1.2.1
  have hl : lv_has ls 2 [(0, .ref a_t), (1, .int p1)] := hl
  have inX2 : ∀ w ∈ u_ws RX2 TX2 2, w ∈ wsX2_nodeAfter := fun _ h => List.mem_cons_of_mem _ (List.mem_append_right _ h)
  unfold fX2_nodeAfter at hf
  refine lv_iload_n hx hb dX2_nodeAfter_0 rfl (lv_at hl 1 rfl) ?_
  refine lv_iconst hx hb dX2_nodeAfter_1 ic_1 ?_
  refine lv_iadd hx hb dX2_nodeAfter_2 ?_
  refine lv_aload_n hx hb dX2_nodeAfter_3 rfl (lv_at hl 0 rfl) ?_
  refine getO X hP inX2 0 rfl rfl 0 (by decide) (List.mem_of_getElem? (i := 1) rfl) rfl dX2_nodeAfter_4 ?_
  refine lv_icmp_ge (tgt := 16) hx hb dX2_nodeAfter_7 (by decide) (fun c => ?_) (fun c => ?_)
  · replace hf := ifp c hf
    refine lv_iconst hx hb dX2_nodeAfter_16 ic_0 ?_
    obtain rfl := Option.some.inj hf
    exact retI X hS hP rfl dX2_nodeAfter_17
  · replace hf := ifn c hf
    refine lv_iload_n hx hb dX2_nodeAfter_10 rfl (lv_at hl 1 rfl) ?_
    refine lv_iconst hx hb dX2_nodeAfter_11 ic_1 ?_
    refine lv_iadd hx hb dX2_nodeAfter_12 ?_
    refine lv_goto (tgt := 17) hx hb dX2_nodeAfter_13 (by decide) ?_
    obtain rfl := Option.some.inj hf
    exact retI X hS hP rfl dX2_nodeAfter_17
abbrev wo_X2_route (cI cZ : ClassId) (a_t : Nat) (v_t_nd : Int32) (v_t_sn : Int32) : va_W := [(a_t, oX2 v_t_nd v_t_sn)]
def fX2_route_L9 (v_t_nd : Int32) (p1 : Int32) (p2 : Int32) (p3 : Int32) (K : Int32 → Int32 → Int32 → Option (Int32)) : Nat → Int32 → Int32 → Int32 → Option (Int32)
  | 0, _, _, _ => none
  | k + 1, x4_9, x5_9, x6_9 => (if v_t_nd ≤ x6_9 then (K x4_9 x5_9 x6_9) else (if x5_9 = p2 then (K x4_9 x5_9 x6_9) else ((fX2_nodeAfter v_t_nd x5_9).bind (fun q36 => (fX2_route_L9 v_t_nd p1 p2 p3 K k (x4_9 ||| ((nI 1) <<< (x5_9 &&& 31))) q36 (x6_9 + nI 1))))))
def fX2_route (v_t_nd : Int32) (p1 : Int32) (p2 : Int32) (p3 : Int32) : Option (Int32) := (fX2_route_L9 v_t_nd p1 p2 p3 (fun x4_9 x5_9 x6_9 => (if p3 = 0 then (some ((((nI 1) <<< (v_t_nd &&& 31)) - (nI 1)) &&& (x4_9 ^^^ (-1)))) else (some x4_9))) FU 0 p1 0)
theorem kd_X2_route : yX2_route.cls = RX2 ∧ yX2_route.cls ≠ "java/lang/invoke/MethodHandle" ∧ yX2_route.cls ≠ "java/lang/invoke/VarHandle" ∧ (parseMethodDescriptor yX2_route.desc).map (fun d => d.parameters.length) = some 3 := by decide +kernel
def rm_X2_route : Room := { frames := 1, cells := 0, slots := 0, locals := 21 }
set_option maxHeartbeats 4000000 in
set_option maxRecDepth 100000 in
theorem k_X2_route (l : Launch) (D : va_G) (cI cZ : ClassId) (a_t : Nat) (v_t_nd : Int32) (v_t_sn : Int32) (p1 : Int32) (p2 : Int32) (p3 : Int32) (q : Int32) (hf : fX2_route v_t_nd p1 p2 p3 = some q) : CI l D cI cZ yX2_route wsX2_route rm_X2_route [.ref a_t, .int p1, .int p2, .int p3] (wo_X2_route cI cZ a_t v_t_nd v_t_sn) (wo_X2_route cI cZ a_t v_t_nd v_t_sn) q := by
  refine CI.mk (cc := cX2_route) (maxL := 7) (by decide) rfl (by decide) ?_
  intro p e s m below meth c ls A X hP hD hl hS
  have hx := X.1.1
  have hb := X.1.2.1
  have hl : lv_has ls 7 [(0, .ref a_t), (1, .int p1), (2, .int p2), (3, .int p3)] := hl
  have inX2 : ∀ w ∈ u_ws RX2 TX2 2, w ∈ wsX2_route := fun _ h => List.mem_cons_of_mem _ (List.mem_append_right _ h)
  have L9 : ∀ (K : Int32 → Int32 → Int32 → Option (Int32)) (hKK : ∀ (x4_9 : Int32) (x5_9 : Int32) (x6_9 : Int32) (H : Heap) (locs : List Loc) (ls : Array Slot), K x4_9 x5_9 x6_9 = some q → va_P D vwCl (wo_X2_route cI cZ a_t v_t_nd v_t_sn) H → va_D A (wo_X2_route cI cZ a_t v_t_nd v_t_sn) → va_S A s.heap H locs → lv_has ls 7 [(0, .ref a_t), (3, .int p3), (4, .int x4_9)] → W p l e rm_X2_route s m ([.ref a_t, .int p1, .int p2, .int p3] : List Value).toArray below meth c H locs 0 0 (MQ below (QI D (wo_X2_route cI cZ a_t v_t_nd v_t_sn) q A) ([.ref a_t, .int p1, .int p2, .int p3] : List Value).toArray s 0 0 A) (F0 m 47 ls [])) (k : Nat) (x4_9 : Int32) (x5_9 : Int32) (x6_9 : Int32) (H : Heap) (locs : List Loc) (ls : Array Slot), fX2_route_L9 v_t_nd p1 p2 p3 K k x4_9 x5_9 x6_9 = some q → va_P D vwCl (wo_X2_route cI cZ a_t v_t_nd v_t_sn) H → va_D A (wo_X2_route cI cZ a_t v_t_nd v_t_sn) → va_S A s.heap H locs → lv_has ls 7 [(0, .ref a_t), (2, .int p2), (3, .int p3), (4, .int x4_9), (5, .int x5_9), (6, .int x6_9)] → W p l e rm_X2_route s m ([.ref a_t, .int p1, .int p2, .int p3] : List Value).toArray below meth c H locs 0 0 (MQ below (QI D (wo_X2_route cI cZ a_t v_t_nd v_t_sn) q A) ([.ref a_t, .int p1, .int p2, .int p3] : List Value).toArray s 0 0 A) (F0 m 9 ls []) := by
    intro K hKK k
    induction k with
    | zero => intro x4_9 x5_9 x6_9 H locs ls hf; rw [fX2_route_L9] at hf; cases hf
    | succ k ih =>
      intro x4_9 x5_9 x6_9 H locs ls hf hP hD hS hl
      rw [fX2_route_L9] at hf
      refine lv_iload hx hb dX2_route_9 (lv_at hl 5 rfl) ?_
      refine lv_aload_n hx hb dX2_route_11 rfl (lv_at hl 0 rfl) ?_
      refine getO X hP inX2 0 rfl rfl 0 (by decide) (List.mem_of_getElem? (i := 1) rfl) rfl dX2_route_12 ?_
      refine lv_icmp_ge (tgt := 47) hx hb dX2_route_15 (by decide) (fun c => ?_) (fun c => ?_)
      · replace hf := ifp c hf
        exact hKK _ _ _ _ _ ls hf hP hD hS (lv_sub hl [0, 2, 3] rfl)
      · replace hf := ifn c hf
        refine lv_iload hx hb dX2_route_18 (lv_at hl 4 rfl) ?_
        refine lv_iload_n hx hb dX2_route_20 rfl (lv_at hl 1 rfl) ?_
        refine lv_icmp_eq (tgt := 47) hx hb dX2_route_21 (by decide) (fun c => ?_) (fun c => ?_)
        · replace hf := ifp c hf
          exact hKK _ _ _ _ _ ls hf hP hD hS (lv_sub hl [0, 2, 3] rfl)
        · replace hf := ifn c hf
          refine lv_iload hx hb dX2_route_24 (lv_at hl 3 rfl) ?_
          refine lv_iconst hx hb dX2_route_26 ic_1 ?_
          refine lv_iload hx hb dX2_route_27 (lv_at hl 4 rfl) ?_
          refine lv_ishl hx hb dX2_route_29 ?_
          refine lv_ior hx hb dX2_route_30 ?_
          refine lv_istore (lv' := [(4, .int (x4_9 ||| ((nI 1) <<< (x5_9 &&& 31)))), (0, .ref a_t), (2, .int p2), (3, .int p3), (5, .int x5_9), (6, .int x6_9)]) hx hb dX2_route_31 hl (by decide) rfl (fun ls hl => ?_)
          refine lv_aload_n hx hb dX2_route_33 rfl (lv_at hl 1 rfl) ?_
          refine lv_iload hx hb dX2_route_34 (lv_at hl 4 rfl) ?_
          obtain ⟨q36, e36, hf⟩ := bnd hf
          refine callVI X (k_X2_nodeAfter l D cI cZ a_t  v_t_nd v_t_sn x5_9 q36 e36) (cwV 1 X.1.2.2.2.2 gX2_route_X2_nodeAfter rfl rfl rfl kd_X2_nodeAfter ⟨Nat.le_of_ble_eq_true rfl, Nat.le_of_ble_eq_true rfl⟩) hP hD hS hl.1 0 2 rfl rfl [0] (by decide) (wo_X2_route cI cZ a_t v_t_nd v_t_sn) rfl rfl rfl rfl rfl (rest := []) rfl (Nat.le_of_ble_eq_true rfl) dX2_route_36 ⟨Nat.zero_le _, Nat.zero_le _⟩ (fun H locs hP hD hS => ?_)
          refine lv_istore (lv' := [(5, .int q36), (4, .int (x4_9 ||| ((nI 1) <<< (x5_9 &&& 31)))), (0, .ref a_t), (2, .int p2), (3, .int p3), (6, .int x6_9)]) hx hb dX2_route_39 hl (by decide) rfl (fun ls hl => ?_)
          refine lv_iinc (v := (x6_9 + nI 1)) (lv' := [(6, .int (x6_9 + nI 1)), (5, .int q36), (4, .int (x4_9 ||| ((nI 1) <<< (x5_9 &&& 31)))), (0, .ref a_t), (2, .int p2), (3, .int p3)]) hx hb dX2_route_41 hl (k := 5) rfl (inc_1 _) (by decide) rfl (fun ls hl => ?_)
          refine lv_goto (tgt := 9) hx hb dX2_route_44 (by decide) ?_
          exact ih _ _ _ _ _ ls hf hP hD hS (lv_sub hl [3, 4, 5, 2, 1, 0] rfl)
  unfold fX2_route at hf
  refine lv_iconst hx hb dX2_route_0 ic_0 ?_
  refine lv_istore (lv' := [(4, .int 0), (0, .ref a_t), (1, .int p1), (2, .int p2), (3, .int p3)]) hx hb dX2_route_1 hl (by decide) rfl (fun ls hl => ?_)
  refine lv_iload_n hx hb dX2_route_3 rfl (lv_at hl 2 rfl) ?_
  refine lv_istore (lv' := [(5, .int p1), (4, .int 0), (0, .ref a_t), (1, .int p1), (2, .int p2), (3, .int p3)]) hx hb dX2_route_4 hl (by decide) rfl (fun ls hl => ?_)
  refine lv_iconst hx hb dX2_route_6 ic_0 ?_
  refine lv_istore (lv' := [(6, .int 0), (5, .int p1), (4, .int 0), (0, .ref a_t), (1, .int p1), (2, .int p2), (3, .int p3)]) hx hb dX2_route_7 hl (by decide) rfl (fun ls hl => ?_)
  refine L9 _ (fun x4_9 x5_9 x6_9 H locs ls hf hP hD hS hl => ?_) FU _ _ _ _ _ ls hf hP hD hS (lv_sub hl [3, 5, 6, 2, 1, 0] rfl)
  refine lv_iconst hx hb dX2_route_47 ic_1 ?_
  refine lv_aload_n hx hb dX2_route_48 rfl (lv_at hl 0 rfl) ?_
  refine getO X hP inX2 0 rfl rfl 0 (by decide) (List.mem_of_getElem? (i := 1) rfl) rfl dX2_route_49 ?_
  refine lv_ishl hx hb dX2_route_52 ?_
  refine lv_iconst hx hb dX2_route_53 ic_1 ?_
  refine lv_isub hx hb dX2_route_54 ?_
  refine lv_istore (lv' := [(6, .int (((nI 1) <<< (v_t_nd &&& 31)) - (nI 1))), (0, .ref a_t), (3, .int p3), (4, .int x4_9)]) hx hb dX2_route_55 hl (by decide) rfl (fun ls hl => ?_)
  refine lv_iload_n hx hb dX2_route_57 rfl (lv_at hl 2 rfl) ?_
  refine lv_if_eq (tgt := 66) hx hb dX2_route_58 (by decide) (fun c => ?_) (fun c => ?_)
  · replace hf := ifp c hf
    refine lv_iload hx hb dX2_route_66 (lv_at hl 0 rfl) ?_
    refine lv_iload hx hb dX2_route_68 (lv_at hl 3 rfl) ?_
    refine lv_iconst hx hb dX2_route_70 ic_m1 ?_
    refine lv_ixor hx hb dX2_route_71 ?_
    refine lv_iand hx hb dX2_route_72 ?_
    obtain rfl := Option.some.inj hf
    exact retI X hS hP rfl dX2_route_73
  · replace hf := ifn c hf
    refine lv_iload hx hb dX2_route_61 (lv_at hl 3 rfl) ?_
    refine lv_goto (tgt := 73) hx hb dX2_route_63 (by decide) ?_
    obtain rfl := Option.some.inj hf
    exact retI X hS hP rfl dX2_route_73
abbrev wo_X2_spansAt (cI cZ : ClassId) (a_t : Nat) (v_t_nd : Int32) (v_t_sn : Int32) : va_W := [(a_t, oX2 v_t_nd v_t_sn)]
def fX2_spansAt (v_t_nd : Int32) (p1 : Int32) : Option (Int32) := ((if p1 ≤ 0 then (some (v_t_nd - (nI 1))) else (some (p1 - (nI 1)))).bind (fun ph16 => (some (((nI 1) <<< (p1 &&& 31)) ||| ((nI 1) <<< (ph16 &&& 31))))))
theorem kd_X2_spansAt : yX2_spansAt.cls = RX2 ∧ yX2_spansAt.cls ≠ "java/lang/invoke/MethodHandle" ∧ yX2_spansAt.cls ≠ "java/lang/invoke/VarHandle" ∧ (parseMethodDescriptor yX2_spansAt.desc).map (fun d => d.parameters.length) = some 1 := by decide +kernel
def rm_X2_spansAt : Room := { frames := 0, cells := 0, slots := 0, locals := 0 }
set_option maxHeartbeats 4000000 in
set_option maxRecDepth 100000 in
theorem k_X2_spansAt (l : Launch) (D : va_G) (cI cZ : ClassId) (a_t : Nat) (v_t_nd : Int32) (v_t_sn : Int32) (p1 : Int32) (q : Int32) (hf : fX2_spansAt v_t_nd p1 = some q) : CI l D cI cZ yX2_spansAt wsX2_spansAt rm_X2_spansAt [.ref a_t, .int p1] (wo_X2_spansAt cI cZ a_t v_t_nd v_t_sn) (wo_X2_spansAt cI cZ a_t v_t_nd v_t_sn) q := by
  refine CI.mk (cc := cX2_spansAt) (maxL := 3) (by decide) rfl (by decide) ?_
  intro p e s m below meth c ls A X hP hD hl hS
  have hx := X.1.1
  have hb := X.1.2.1
  have hl : lv_has ls 3 [(0, .ref a_t), (1, .int p1)] := hl
  have inX2 : ∀ w ∈ u_ws RX2 TX2 2, w ∈ wsX2_spansAt := fun _ h => List.mem_cons_of_mem _ (List.mem_append_right _ h)
  unfold fX2_spansAt at hf
  refine lv_iload_n hx hb dX2_spansAt_0 rfl (lv_at hl 1 rfl) ?_
  obtain ⟨ph16, hg, hf⟩ := bnd hf
  have J16 : ∀ (H : Heap) (locs : List Loc) (ls : Array Slot), va_P D vwCl (wo_X2_spansAt cI cZ a_t v_t_nd v_t_sn) H → va_D A (wo_X2_spansAt cI cZ a_t v_t_nd v_t_sn) → va_S A s.heap H locs → lv_has ls 3 [(1, .int p1)] → W p l e rm_X2_spansAt s m ([.ref a_t, .int p1] : List Value).toArray below meth c H locs 0 0 (MQ below (QI D (wo_X2_spansAt cI cZ a_t v_t_nd v_t_sn) q A) ([.ref a_t, .int p1] : List Value).toArray s 0 0 A) (F0 m 16 ls [.int ph16]) := by
    clear hg hP hD hS hl
    intro H locs ls hP hD hS hl
    refine lv_istore_n (lv' := [(2, .int ph16), (1, .int p1)]) hx hb dX2_spansAt_16 rfl hl (by decide) rfl (fun ls hl => ?_)
    refine lv_iconst hx hb dX2_spansAt_17 ic_1 ?_
    refine lv_iload_n hx hb dX2_spansAt_18 rfl (lv_at hl 1 rfl) ?_
    refine lv_ishl hx hb dX2_spansAt_19 ?_
    refine lv_iconst hx hb dX2_spansAt_20 ic_1 ?_
    refine lv_iload_n hx hb dX2_spansAt_21 rfl (lv_at hl 0 rfl) ?_
    refine lv_ishl hx hb dX2_spansAt_22 ?_
    refine lv_ior hx hb dX2_spansAt_23 ?_
    obtain rfl := Option.some.inj hf
    exact retI X hS hP rfl dX2_spansAt_24
  replace hf := hg
  clear hg
  refine lv_if_le (tgt := 10) hx hb dX2_spansAt_1 (by decide) (fun c => ?_) (fun c => ?_)
  · replace hf := ifp c hf
    refine lv_aload_n hx hb dX2_spansAt_10 rfl (lv_at hl 0 rfl) ?_
    refine getO X hP inX2 0 rfl rfl 0 (by decide) (List.mem_of_getElem? (i := 1) rfl) rfl dX2_spansAt_11 ?_
    refine lv_iconst hx hb dX2_spansAt_14 ic_1 ?_
    refine lv_isub hx hb dX2_spansAt_15 ?_
    obtain rfl := Option.some.inj hf
    exact J16 _ _ ls hP hD hS (lv_sub hl [1] rfl)
  · replace hf := ifn c hf
    refine lv_iload_n hx hb dX2_spansAt_4 rfl (lv_at hl 1 rfl) ?_
    refine lv_iconst hx hb dX2_spansAt_5 ic_1 ?_
    refine lv_isub hx hb dX2_spansAt_6 ?_
    refine lv_goto (tgt := 16) hx hb dX2_spansAt_7 (by decide) ?_
    obtain rfl := Option.some.inj hf
    exact J16 _ _ ls hP hD hS (lv_sub hl [1] rfl)
end
