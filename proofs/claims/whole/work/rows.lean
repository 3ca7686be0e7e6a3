section
-- ===== PART A: goes FIRST, ahead of the names: the tables' words, and 'selects' of the private methods out of them =====
/-- a private method of a class that the tables say can be made, by its rows of tables_1 -/
def lw_okq (q : MethodName × Nat) : Prop := (q.1.cls ≠ "java/lang/invoke/MethodHandle" ∧ q.1.cls ≠ "java/lang/invoke/VarHandle") ∧ Cond.instantiable q.1.cls q.2 ∈ tables_1 ∧ Cond.privateMethod q.1 ∈ tables_1 ∧ Cond.instanceMethod q.1 ∈ tables_1
theorem lw_p0 : lw_okq (⟨"KnotRack", "checkLine", "(I)V"⟩, 10) := ⟨⟨by decide +kernel, by decide +kernel⟩, List.mem_of_getElem? (i := 11) (by decide +kernel), List.mem_of_getElem? (i := 67) (by decide +kernel), List.mem_of_getElem? (i := 68) (by decide +kernel)⟩
theorem lw_p1 : lw_okq (⟨"java/lang/Throwable", "fillInStackTrace", "(I)Ljava/lang/Throwable;"⟩, 6) := ⟨⟨by decide +kernel, by decide +kernel⟩, List.mem_of_getElem? (i := 109) (by decide +kernel), List.mem_of_getElem? (i := 107) (by decide +kernel), List.mem_of_getElem? (i := 108) (by decide +kernel)⟩
theorem lw_p2 : lw_okq (⟨"KnotRack", "loadHeldWith", "(III)I"⟩, 10) := ⟨⟨by decide +kernel, by decide +kernel⟩, List.mem_of_getElem? (i := 11) (by decide +kernel), List.mem_of_getElem? (i := 139) (by decide +kernel), List.mem_of_getElem? (i := 140) (by decide +kernel)⟩
theorem lw_p3 : lw_okq (⟨"KnotRack", "isGone", "(I)Z"⟩, 10) := ⟨⟨by decide +kernel, by decide +kernel⟩, List.mem_of_getElem? (i := 11) (by decide +kernel), List.mem_of_getElem? (i := 143) (by decide +kernel), List.mem_of_getElem? (i := 144) (by decide +kernel)⟩
theorem lw_p4 : lw_okq (⟨"KnotRack", "loadHeldAt", "(III)I"⟩, 10) := ⟨⟨by decide +kernel, by decide +kernel⟩, List.mem_of_getElem? (i := 11) (by decide +kernel), List.mem_of_getElem? (i := 150) (by decide +kernel), List.mem_of_getElem? (i := 151) (by decide +kernel)⟩
theorem lw_p5 : lw_okq (⟨"KnotRack", "isKnot", "(I)Z"⟩, 10) := ⟨⟨by decide +kernel, by decide +kernel⟩, List.mem_of_getElem? (i := 11) (by decide +kernel), List.mem_of_getElem? (i := 154) (by decide +kernel), List.mem_of_getElem? (i := 155) (by decide +kernel)⟩
theorem lw_p6 : lw_okq (⟨"KnotRack", "strengthWith", "(III)I"⟩, 10) := ⟨⟨by decide +kernel, by decide +kernel⟩, List.mem_of_getElem? (i := 11) (by decide +kernel), List.mem_of_getElem? (i := 158) (by decide +kernel), List.mem_of_getElem? (i := 159) (by decide +kernel)⟩
theorem lw_p7 : lw_okq (⟨"KnotRack", "digestWithKnot", "(JI)J"⟩, 10) := ⟨⟨by decide +kernel, by decide +kernel⟩, List.mem_of_getElem? (i := 11) (by decide +kernel), List.mem_of_getElem? (i := 182) (by decide +kernel), List.mem_of_getElem? (i := 183) (by decide +kernel)⟩
theorem lw_p8 : lw_okq (⟨"KnotRack", "checkKnot", "(I)V"⟩, 10) := ⟨⟨by decide +kernel, by decide +kernel⟩, List.mem_of_getElem? (i := 11) (by decide +kernel), List.mem_of_getElem? (i := 190) (by decide +kernel), List.mem_of_getElem? (i := 191) (by decide +kernel)⟩
theorem lw_p9 : lw_okq (⟨"KnotRack", "rankInKind", "(I)I"⟩, 10) := ⟨⟨by decide +kernel, by decide +kernel⟩, List.mem_of_getElem? (i := 11) (by decide +kernel), List.mem_of_getElem? (i := 215) (by decide +kernel), List.mem_of_getElem? (i := 216) (by decide +kernel)⟩
theorem lw_p10 : lw_okq (⟨"KnotRack", "isAheadOf", "(II)Z"⟩, 10) := ⟨⟨by decide +kernel, by decide +kernel⟩, List.mem_of_getElem? (i := 11) (by decide +kernel), List.mem_of_getElem? (i := 219) (by decide +kernel), List.mem_of_getElem? (i := 220) (by decide +kernel)⟩
theorem lw_p11 : lw_okq (⟨"KnotRack", "digestWithLine", "(JI)J"⟩, 10) := ⟨⟨by decide +kernel, by decide +kernel⟩, List.mem_of_getElem? (i := 11) (by decide +kernel), List.mem_of_getElem? (i := 227) (by decide +kernel), List.mem_of_getElem? (i := 228) (by decide +kernel)⟩
theorem lw_p12 : lw_okq (⟨"KnotRack", "currentStrength", "(II)I"⟩, 10) := ⟨⟨by decide +kernel, by decide +kernel⟩, List.mem_of_getElem? (i := 11) (by decide +kernel), List.mem_of_getElem? (i := 240) (by decide +kernel), List.mem_of_getElem? (i := 241) (by decide +kernel)⟩
theorem lw_p13 : lw_okq (⟨"KnotRack", "checkPlace", "(II)V"⟩, 10) := ⟨⟨by decide +kernel, by decide +kernel⟩, List.mem_of_getElem? (i := 11) (by decide +kernel), List.mem_of_getElem? (i := 248) (by decide +kernel), List.mem_of_getElem? (i := 249) (by decide +kernel)⟩
theorem lw_p14 : lw_okq (⟨"KnotRack", "checkOfKind", "(II)V"⟩, 10) := ⟨⟨by decide +kernel, by decide +kernel⟩, List.mem_of_getElem? (i := 11) (by decide +kernel), List.mem_of_getElem? (i := 324) (by decide +kernel), List.mem_of_getElem? (i := 325) (by decide +kernel)⟩
theorem lw_p15 : lw_okq (⟨"KnotRack", "appendRope", "(III)V"⟩, 10) := ⟨⟨by decide +kernel, by decide +kernel⟩, List.mem_of_getElem? (i := 11) (by decide +kernel), List.mem_of_getElem? (i := 334) (by decide +kernel), List.mem_of_getElem? (i := 335) (by decide +kernel)⟩
def lw_privs_1 : List (MethodName × Nat) := [(⟨"KnotRack", "checkLine", "(I)V"⟩, 10), (⟨"java/lang/Throwable", "fillInStackTrace", "(I)Ljava/lang/Throwable;"⟩, 6), (⟨"KnotRack", "loadHeldWith", "(III)I"⟩, 10), (⟨"KnotRack", "isGone", "(I)Z"⟩, 10), (⟨"KnotRack", "loadHeldAt", "(III)I"⟩, 10), (⟨"KnotRack", "isKnot", "(I)Z"⟩, 10), (⟨"KnotRack", "strengthWith", "(III)I"⟩, 10), (⟨"KnotRack", "digestWithKnot", "(JI)J"⟩, 10), (⟨"KnotRack", "checkKnot", "(I)V"⟩, 10), (⟨"KnotRack", "rankInKind", "(I)I"⟩, 10), (⟨"KnotRack", "isAheadOf", "(II)Z"⟩, 10), (⟨"KnotRack", "digestWithLine", "(JI)J"⟩, 10), (⟨"KnotRack", "currentStrength", "(II)I"⟩, 10), (⟨"KnotRack", "checkPlace", "(II)V"⟩, 10), (⟨"KnotRack", "checkOfKind", "(II)V"⟩, 10), (⟨"KnotRack", "appendRope", "(III)V"⟩, 10)]
theorem lw_r1 : ∀ q ∈ lw_privs_1, lw_okq q := List.forall_mem_cons.mpr ⟨lw_p0, List.forall_mem_cons.mpr ⟨lw_p1, List.forall_mem_cons.mpr ⟨lw_p2, List.forall_mem_cons.mpr ⟨lw_p3, List.forall_mem_cons.mpr ⟨lw_p4, List.forall_mem_cons.mpr ⟨lw_p5, List.forall_mem_cons.mpr ⟨lw_p6, List.forall_mem_cons.mpr ⟨lw_p7, List.forall_mem_cons.mpr ⟨lw_p8, List.forall_mem_cons.mpr ⟨lw_p9, List.forall_mem_cons.mpr ⟨lw_p10, List.forall_mem_cons.mpr ⟨lw_p11, List.forall_mem_cons.mpr ⟨lw_p12, List.forall_mem_cons.mpr ⟨lw_p13, List.forall_mem_cons.mpr ⟨lw_p14, List.forall_mem_cons.mpr ⟨lw_p15, fun _ h => absurd h List.not_mem_nil⟩⟩⟩⟩⟩⟩⟩⟩⟩⟩⟩⟩⟩⟩⟩⟩
theorem lw_p16 : lw_okq (⟨"KnotRack", "checkNotGone", "(I)V"⟩, 10) := ⟨⟨by decide +kernel, by decide +kernel⟩, List.mem_of_getElem? (i := 11) (by decide +kernel), List.mem_of_getElem? (i := 345) (by decide +kernel), List.mem_of_getElem? (i := 346) (by decide +kernel)⟩
theorem lw_p17 : lw_okq (⟨"KnotRack", "firstPlaceToGiveWay", "(II)I"⟩, 10) := ⟨⟨by decide +kernel, by decide +kernel⟩, List.mem_of_getElem? (i := 11) (by decide +kernel), List.mem_of_getElem? (i := 368) (by decide +kernel), List.mem_of_getElem? (i := 369) (by decide +kernel)⟩
theorem lw_p18 : lw_okq (⟨"KnotRack", "placeHolds", "(III)Z"⟩, 10) := ⟨⟨by decide +kernel, by decide +kernel⟩, List.mem_of_getElem? (i := 11) (by decide +kernel), List.mem_of_getElem? (i := 372) (by decide +kernel), List.mem_of_getElem? (i := 373) (by decide +kernel)⟩
theorem lw_p19 : lw_okq (⟨"KnotRack", "formUnder", "(II)I"⟩, 10) := ⟨⟨by decide +kernel, by decide +kernel⟩, List.mem_of_getElem? (i := 11) (by decide +kernel), List.mem_of_getElem? (i := 376) (by decide +kernel), List.mem_of_getElem? (i := 377) (by decide +kernel)⟩
theorem lw_p20 : lw_okq (⟨"KnotRack", "spillsUnder", "(II)Z"⟩, 10) := ⟨⟨by decide +kernel, by decide +kernel⟩, List.mem_of_getElem? (i := 11) (by decide +kernel), List.mem_of_getElem? (i := 380) (by decide +kernel), List.mem_of_getElem? (i := 381) (by decide +kernel)⟩
theorem lw_p21 : lw_okq (⟨"KnotRack", "countOfKind", "(I)I"⟩, 10) := ⟨⟨by decide +kernel, by decide +kernel⟩, List.mem_of_getElem? (i := 11) (by decide +kernel), List.mem_of_getElem? (i := 391) (by decide +kernel), List.mem_of_getElem? (i := 392) (by decide +kernel)⟩
theorem lw_p22 : lw_okq (⟨"KnotRack", "knotWithRank", "(II)I"⟩, 10) := ⟨⟨by decide +kernel, by decide +kernel⟩, List.mem_of_getElem? (i := 11) (by decide +kernel), List.mem_of_getElem? (i := 426) (by decide +kernel), List.mem_of_getElem? (i := 427) (by decide +kernel)⟩
theorem lw_p23 : lw_okq (⟨"KnotRackModel", "no", "(I)I"⟩, 11) := ⟨⟨by decide +kernel, by decide +kernel⟩, List.mem_of_getElem? (i := 490) (by decide +kernel), List.mem_of_getElem? (i := 541) (by decide +kernel), List.mem_of_getElem? (i := 542) (by decide +kernel)⟩
theorem lw_p24 : lw_okq (⟨"KnotRackModel", "isKnot", "(I)Z"⟩, 11) := ⟨⟨by decide +kernel, by decide +kernel⟩, List.mem_of_getElem? (i := 490) (by decide +kernel), List.mem_of_getElem? (i := 549) (by decide +kernel), List.mem_of_getElem? (i := 550) (by decide +kernel)⟩
theorem lw_p25 : lw_okq (⟨"KnotRackModel", "isLine", "(I)Z"⟩, 11) := ⟨⟨by decide +kernel, by decide +kernel⟩, List.mem_of_getElem? (i := 490) (by decide +kernel), List.mem_of_getElem? (i := 564) (by decide +kernel), List.mem_of_getElem? (i := 565) (by decide +kernel)⟩
theorem lw_p26 : lw_okq (⟨"KnotRackModel", "isPlace", "(II)Z"⟩, 11) := ⟨⟨by decide +kernel, by decide +kernel⟩, List.mem_of_getElem? (i := 490) (by decide +kernel), List.mem_of_getElem? (i := 572) (by decide +kernel), List.mem_of_getElem? (i := 573) (by decide +kernel)⟩
theorem lw_p27 : lw_okq (⟨"KnotRackModel", "giving", "(II)I"⟩, 11) := ⟨⟨by decide +kernel, by decide +kernel⟩, List.mem_of_getElem? (i := 490) (by decide +kernel), List.mem_of_getElem? (i := 583) (by decide +kernel), List.mem_of_getElem? (i := 584) (by decide +kernel)⟩
theorem lw_p28 : lw_okq (⟨"KnotRackModel", "placeHolds", "(III)Z"⟩, 11) := ⟨⟨by decide +kernel, by decide +kernel⟩, List.mem_of_getElem? (i := 490) (by decide +kernel), List.mem_of_getElem? (i := 587) (by decide +kernel), List.mem_of_getElem? (i := 588) (by decide +kernel)⟩
theorem lw_p29 : lw_okq (⟨"KnotRackModel", "form", "(II)I"⟩, 11) := ⟨⟨by decide +kernel, by decide +kernel⟩, List.mem_of_getElem? (i := 490) (by decide +kernel), List.mem_of_getElem? (i := 591) (by decide +kernel), List.mem_of_getElem? (i := 592) (by decide +kernel)⟩
theorem lw_p30 : lw_okq (⟨"KnotRackModel", "goes", "(II)Z"⟩, 11) := ⟨⟨by decide +kernel, by decide +kernel⟩, List.mem_of_getElem? (i := 490) (by decide +kernel), List.mem_of_getElem? (i := 595) (by decide +kernel), List.mem_of_getElem? (i := 596) (by decide +kernel)⟩
theorem lw_p31 : lw_okq (⟨"KnotRackModel", "strength", "(III)I"⟩, 11) := ⟨⟨by decide +kernel, by decide +kernel⟩, List.mem_of_getElem? (i := 490) (by decide +kernel), List.mem_of_getElem? (i := 599) (by decide +kernel), List.mem_of_getElem? (i := 600) (by decide +kernel)⟩
def lw_privs_2 : List (MethodName × Nat) := [(⟨"KnotRack", "checkNotGone", "(I)V"⟩, 10), (⟨"KnotRack", "firstPlaceToGiveWay", "(II)I"⟩, 10), (⟨"KnotRack", "placeHolds", "(III)Z"⟩, 10), (⟨"KnotRack", "formUnder", "(II)I"⟩, 10), (⟨"KnotRack", "spillsUnder", "(II)Z"⟩, 10), (⟨"KnotRack", "countOfKind", "(I)I"⟩, 10), (⟨"KnotRack", "knotWithRank", "(II)I"⟩, 10), (⟨"KnotRackModel", "no", "(I)I"⟩, 11), (⟨"KnotRackModel", "isKnot", "(I)Z"⟩, 11), (⟨"KnotRackModel", "isLine", "(I)Z"⟩, 11), (⟨"KnotRackModel", "isPlace", "(II)Z"⟩, 11), (⟨"KnotRackModel", "giving", "(II)I"⟩, 11), (⟨"KnotRackModel", "placeHolds", "(III)Z"⟩, 11), (⟨"KnotRackModel", "form", "(II)I"⟩, 11), (⟨"KnotRackModel", "goes", "(II)Z"⟩, 11), (⟨"KnotRackModel", "strength", "(III)I"⟩, 11)]
theorem lw_r2 : ∀ q ∈ lw_privs_2, lw_okq q := List.forall_mem_cons.mpr ⟨lw_p16, List.forall_mem_cons.mpr ⟨lw_p17, List.forall_mem_cons.mpr ⟨lw_p18, List.forall_mem_cons.mpr ⟨lw_p19, List.forall_mem_cons.mpr ⟨lw_p20, List.forall_mem_cons.mpr ⟨lw_p21, List.forall_mem_cons.mpr ⟨lw_p22, List.forall_mem_cons.mpr ⟨lw_p23, List.forall_mem_cons.mpr ⟨lw_p24, List.forall_mem_cons.mpr ⟨lw_p25, List.forall_mem_cons.mpr ⟨lw_p26, List.forall_mem_cons.mpr ⟨lw_p27, List.forall_mem_cons.mpr ⟨lw_p28, List.forall_mem_cons.mpr ⟨lw_p29, List.forall_mem_cons.mpr ⟨lw_p30, List.forall_mem_cons.mpr ⟨lw_p31, fun _ h => absurd h List.not_mem_nil⟩⟩⟩⟩⟩⟩⟩⟩⟩⟩⟩⟩⟩⟩⟩⟩
theorem lw_p32 : lw_okq (⟨"KnotRackModel", "ok", "(I)I"⟩, 11) := ⟨⟨by decide +kernel, by decide +kernel⟩, List.mem_of_getElem? (i := 490) (by decide +kernel), List.mem_of_getElem? (i := 608) (by decide +kernel), List.mem_of_getElem? (i := 609) (by decide +kernel)⟩
theorem lw_p33 : lw_okq (⟨"KnotRackModel", "many", "(I)I"⟩, 11) := ⟨⟨by decide +kernel, by decide +kernel⟩, List.mem_of_getElem? (i := 490) (by decide +kernel), List.mem_of_getElem? (i := 616) (by decide +kernel), List.mem_of_getElem? (i := 617) (by decide +kernel)⟩
theorem lw_p34 : lw_okq (⟨"KnotRackModel", "of", "(I[I)I"⟩, 11) := ⟨⟨by decide +kernel, by decide +kernel⟩, List.mem_of_getElem? (i := 490) (by decide +kernel), List.mem_of_getElem? (i := 624) (by decide +kernel), List.mem_of_getElem? (i := 625) (by decide +kernel)⟩
theorem lw_p35 : lw_okq (⟨"KnotRackModel", "rank", "(I)I"⟩, 11) := ⟨⟨by decide +kernel, by decide +kernel⟩, List.mem_of_getElem? (i := 490) (by decide +kernel), List.mem_of_getElem? (i := 648) (by decide +kernel), List.mem_of_getElem? (i := 649) (by decide +kernel)⟩
theorem lw_p36 : lw_okq (⟨"KnotRackModel", "isAhead", "(II)Z"⟩, 11) := ⟨⟨by decide +kernel, by decide +kernel⟩, List.mem_of_getElem? (i := 490) (by decide +kernel), List.mem_of_getElem? (i := 652) (by decide +kernel), List.mem_of_getElem? (i := 653) (by decide +kernel)⟩
theorem lw_p37 : lw_okq (⟨"KnotRackModel", "isLoaded", "(II)Z"⟩, 11) := ⟨⟨by decide +kernel, by decide +kernel⟩, List.mem_of_getElem? (i := 490) (by decide +kernel), List.mem_of_getElem? (i := 664) (by decide +kernel), List.mem_of_getElem? (i := 665) (by decide +kernel)⟩
theorem lw_p38 : lw_okq (⟨"KnotRackModel", "often", "(II)I"⟩, 11) := ⟨⟨by decide +kernel, by decide +kernel⟩, List.mem_of_getElem? (i := 490) (by decide +kernel), List.mem_of_getElem? (i := 672) (by decide +kernel), List.mem_of_getElem? (i := 673) (by decide +kernel)⟩
theorem lw_p39 : lw_okq (⟨"KnotRackModel", "apart", "(I)I"⟩, 11) := ⟨⟨by decide +kernel, by decide +kernel⟩, List.mem_of_getElem? (i := 490) (by decide +kernel), List.mem_of_getElem? (i := 680) (by decide +kernel), List.mem_of_getElem? (i := 681) (by decide +kernel)⟩
theorem lw_p40 : lw_okq (⟨"KnotRackModel", "now", "(II)I"⟩, 11) := ⟨⟨by decide +kernel, by decide +kernel⟩, List.mem_of_getElem? (i := 490) (by decide +kernel), List.mem_of_getElem? (i := 701) (by decide +kernel), List.mem_of_getElem? (i := 702) (by decide +kernel)⟩
theorem lw_p41 : lw_okq (⟨"KnotRackModel", "weakest", "(I)I"⟩, 11) := ⟨⟨by decide +kernel, by decide +kernel⟩, List.mem_of_getElem? (i := 490) (by decide +kernel), List.mem_of_getElem? (i := 709) (by decide +kernel), List.mem_of_getElem? (i := 710) (by decide +kernel)⟩
theorem lw_p42 : lw_okq (⟨"KnotRackModel", "isPulled", "(II)Z"⟩, 11) := ⟨⟨by decide +kernel, by decide +kernel⟩, List.mem_of_getElem? (i := 490) (by decide +kernel), List.mem_of_getElem? (i := 717) (by decide +kernel), List.mem_of_getElem? (i := 718) (by decide +kernel)⟩
theorem lw_p43 : lw_okq (⟨"KnotRackModel", "upTo", "(I)I"⟩, 11) := ⟨⟨by decide +kernel, by decide +kernel⟩, List.mem_of_getElem? (i := 490) (by decide +kernel), List.mem_of_getElem? (i := 725) (by decide +kernel), List.mem_of_getElem? (i := 726) (by decide +kernel)⟩
theorem lw_p44 : lw_okq (⟨"KnotRackModel", "placeUpTo", "(II)I"⟩, 11) := ⟨⟨by decide +kernel, by decide +kernel⟩, List.mem_of_getElem? (i := 490) (by decide +kernel), List.mem_of_getElem? (i := 729) (by decide +kernel), List.mem_of_getElem? (i := 730) (by decide +kernel)⟩
theorem lw_p45 : lw_okq (⟨"KnotRackModel", "best", "(II)I"⟩, 11) := ⟨⟨by decide +kernel, by decide +kernel⟩, List.mem_of_getElem? (i := 490) (by decide +kernel), List.mem_of_getElem? (i := 741) (by decide +kernel), List.mem_of_getElem? (i := 742) (by decide +kernel)⟩
theorem lw_p46 : lw_okq (⟨"KnotRackModel", "strongest", "()I"⟩, 11) := ⟨⟨by decide +kernel, by decide +kernel⟩, List.mem_of_getElem? (i := 490) (by decide +kernel), List.mem_of_getElem? (i := 749) (by decide +kernel), List.mem_of_getElem? (i := 750) (by decide +kernel)⟩
def lw_privs_3 : List (MethodName × Nat) := [(⟨"KnotRackModel", "ok", "(I)I"⟩, 11), (⟨"KnotRackModel", "many", "(I)I"⟩, 11), (⟨"KnotRackModel", "of", "(I[I)I"⟩, 11), (⟨"KnotRackModel", "rank", "(I)I"⟩, 11), (⟨"KnotRackModel", "isAhead", "(II)Z"⟩, 11), (⟨"KnotRackModel", "isLoaded", "(II)Z"⟩, 11), (⟨"KnotRackModel", "often", "(II)I"⟩, 11), (⟨"KnotRackModel", "apart", "(I)I"⟩, 11), (⟨"KnotRackModel", "now", "(II)I"⟩, 11), (⟨"KnotRackModel", "weakest", "(I)I"⟩, 11), (⟨"KnotRackModel", "isPulled", "(II)Z"⟩, 11), (⟨"KnotRackModel", "upTo", "(I)I"⟩, 11), (⟨"KnotRackModel", "placeUpTo", "(II)I"⟩, 11), (⟨"KnotRackModel", "best", "(II)I"⟩, 11), (⟨"KnotRackModel", "strongest", "()I"⟩, 11)]
theorem lw_r3 : ∀ q ∈ lw_privs_3, lw_okq q := List.forall_mem_cons.mpr ⟨lw_p32, List.forall_mem_cons.mpr ⟨lw_p33, List.forall_mem_cons.mpr ⟨lw_p34, List.forall_mem_cons.mpr ⟨lw_p35, List.forall_mem_cons.mpr ⟨lw_p36, List.forall_mem_cons.mpr ⟨lw_p37, List.forall_mem_cons.mpr ⟨lw_p38, List.forall_mem_cons.mpr ⟨lw_p39, List.forall_mem_cons.mpr ⟨lw_p40, List.forall_mem_cons.mpr ⟨lw_p41, List.forall_mem_cons.mpr ⟨lw_p42, List.forall_mem_cons.mpr ⟨lw_p43, List.forall_mem_cons.mpr ⟨lw_p44, List.forall_mem_cons.mpr ⟨lw_p45, List.forall_mem_cons.mpr ⟨lw_p46, fun _ h => absurd h List.not_mem_nil⟩⟩⟩⟩⟩⟩⟩⟩⟩⟩⟩⟩⟩⟩⟩
def lw_privs : List (MethodName × Nat) := lw_privs_1 ++ (lw_privs_2 ++ (lw_privs_3))
def lw_tbl : List Cond := k2_sels lw_privs ++ tables_1
theorem lw_privs_ok : ∀ q ∈ lw_privs, lw_okq q := by
  show ∀ q ∈ lw_privs_1 ++ (lw_privs_2 ++ (lw_privs_3)), lw_okq q
  exact List.forall_mem_append.mpr ⟨lw_r1, List.forall_mem_append.mpr ⟨lw_r2, lw_r3⟩⟩
/-- the streams that the claim lets the run draw from -/
abbrev lw_cs : List Choice := [Jvm.Choice.named "NaN.bits"]
theorem lw_bits : nanBits ∈ lw_cs := by first | decide | exact List.mem_cons_self | simp [lw_cs, nanBits]
end
section
/-! ===== BEGIN words of one list among another's, by their places ===== -/
theorem goodIn_r {big : List Cond} (ws : List Cond) (ps : List Nat) (hp : ws = ps.filterMap (fun i => big[i]?)) (h : ws.all goodWord = true) : GoodIn big ws := by
  intro w hw
  have h1 := List.all_eq_true.mp h w hw
  rw [hp] at hw
  obtain ⟨i, -, hi⟩ := List.mem_filterMap.mp hw
  have hm : w ∈ big := by first | exact List.mem_of_getElem? hi | exact List.getElem?_mem hi
  exact ⟨hm, good_of_word h1⟩
theorem goodIn_app {big a b : List Cond} (ha : GoodIn big a) (hb : GoodIn big b) : GoodIn big (a ++ b) := fun w h => (List.mem_append.mp h).elim (ha w) (hb w)
theorem goodIn_ca {big a b : List Cond} {c : Cond} (ha : GoodIn big (c :: a)) (hb : GoodIn big b) : GoodIn big (c :: (a ++ b)) := fun w h => (List.mem_cons.mp h).elim (fun e => ha w (List.mem_cons.mpr (Or.inl e))) (fun h => (List.mem_append.mp h).elim (fun h => ha w (List.mem_cons.mpr (Or.inr h))) (hb w))
theorem goodIn_sub {big ws : List Cond} (hm : ∀ w ∈ ws, w ∈ big) (h : ws.all goodWord = true) : GoodIn big ws := fun w hw => ⟨hm w hw, good_of_word (List.all_eq_true.mp h w hw)⟩
/-! ===== END ===== -/

/-! ===== BEGIN exceptions that leave a method, and their catching by the caller (launches without stack traces) ===== -/
section VXA
/-! The laws vx_back, vx_callV, vx_callS, vx_callSW, vx_throw0, vx_throwS follow proofs of the library, with one case more: JvmDerived/Free/Laws.lean (Back.of_free), Shelf42/LK1.lean (callV, callS), Shelf/KitTraced.lean (throwNew0V, throwNewS). -/
/-- where a method has thrown q: the class by its name, the cell, what was written, the world -/
def vx_T (XC : String → State → State → Prop) (st : State) (q : Addr) (t : State) (mc ms : Nat) (free : Addr → Prop) : Prop :=
  ∃ (E : String) (ce : Cell) (L : List Loc), XC E st t ∧ t.heap[q]? = some ce ∧ ce.vm = .none ∧ st.vm.findClass E = some ce.cls ∧ st.WarmedH t.vm ∧ st.sameButNew ({ t with vm := st.vm } : State) L mc ms ∧ ∀ z ∈ L, free z.base
def vx_Q (Qc : Array Value → State → Outcome → State → Prop) (XC : String → State → State → Prop) (mc ms : Nat) (free : Addr → Prop) : Array Value → State → Outcome → State → Prop := fun a st o t =>
  (Qc a st o t ∧ ∃ L, FrameEnd st o t L mc ms ∧ ∀ q ∈ L, free q.base) ∨ ∃ q, o = .threw q ∧ vx_T XC st q t mc ms free
/-- a callee that returns or throws -/
def vx_Met (l : Launch) (y : MethodName) (ws : List Cond) (rm : Room) (Pc : Array Value → State → Prop) (Qc : Array Value → State → Outcome → State → Prop) (XC : String → State → State → Prop) (mc ms : Nat) (free : Addr → Prop) : Prop :=
  MetFree l y (headSpec ws rm) Pc (fun _ _ _ _ _ => True) (vx_Q Qc XC mc ms free)
def vx_Post (XC : String → State → State → Prop) (mc ms : Nat) (free : Addr → Prop) : Pt → Array Value → Addr → Pt → Prop := fun A a q B =>
  ∃ (g : JFrame) (mk : MethodId) (t : State) (L : List Loc) (E : String) (ce : Cell), B.U.heap = t.heap ∧ B.U.vm = t.vm ∧ XC E (A.U.calling g mk a) t ∧ t.heap[q]? = some ce ∧ ce.vm = .none ∧ A.U.vm.findClass E = some ce.cls ∧ B.locs = A.locs ++ L ∧ (∀ z ∈ L, free z.base) ∧ B.cells = A.cells + mc ∧ B.slots = A.slots + ms
def vx_Back (l : Launch) (R : Room) (p : Program) (e : Env) (below : List Frame) (s : State) (sargs : Array Value) (y : MethodName) (len W9 : Nat)
    (Pre : Pt → Array Value → Prop) (Post : Pt → Array Value → Option Value → Pt → Prop) (PostX : Pt → Array Value → Addr → Pt → Prop) : Prop :=
  ∀ (m : MethodId) (meth : Method) (c : Code) (A : Pt) (g : JFrame) (ig : Instr) (mk : MethodId) (a : Array Value),
    Stand p l e R s m sargs below meth c A.U A.locs A.cells A.slots → g.method = m → g.locals.size = c.maxLocals → decode c.code g.pc = .ok (ig, len) →
    2 * g.monitorRoom + (g.stack.map fun v => v.category).sum ≤ W9 → A.U.methodNamed? y = some mk → Pre A a →
    (∃ (v : Option Value) (B : Pt), Stand p l e R s m sargs below meth c B.U B.locs B.cells B.slots ∧ Post A a v B ∧
      Steps p.tables e below (doInvoke e (A.U.setTop g) [] mk a).1 (B.U.setTop { g with pc := g.pc + len, stack := v.toList ++ g.stack })) ∨
    (∃ (q : Addr) (B : Pt), Stand p l e R s m sargs below meth c B.U B.locs B.cells B.slots ∧ PostX A a q B ∧
      Steps p.tables e below (doInvoke e (A.U.setTop g) [] mk a).1 ((B.U.setTop g).pushFrame (.throwing q)))
section Payer
variable {l : Launch} {R : Room} {p : Program} {e : Env} {below : List Frame} {s : State} {sargs : Array Value} {y : MethodName} {len W9 : Nat}
theorem vx_back {ws : List Cond} {rm : Room} {Pc : Array Value → State → Prop} {Qc : Array Value → State → Outcome → State → Prop} {XC : String → State → State → Prop} {mc ms : Nat} {free : Addr → Prop} {bytes : ByteArray} {maxL : Nat} {ret : Option FieldType}
    (hM : vx_Met l y ws rm Pc Qc XC mc ms free) (hblind : FrameBlind Pc) (hrc : rm.cells = mc) (hrs : rm.slots = ms)
    (hframes : rm.frames + 1 ≤ R.frames) (hlocals : W9 + (maxL + 11) + rm.locals ≤ R.locals)
    (hws : ∀ w ∈ ws, ∀ a' U, s.WarmedH U.vm → w.before a' U = true) (hcode : Cond.code y bytes maxL ret ∈ ws) (hinit : ∀ a' U, s.WarmedH U.vm → (Cond.initialized y.cls).before a' U = true) :
    vx_Back l R p e below s sargs y len W9 (PreOf R mc ms Pc) (PostOf Qc mc ms free) (vx_Post XC mc ms free) := by
  intro m meth c A g ig mk a X hg hsize hdg hW hn hp
  have h1 : (headSpec ws rm).pre.before a A.U = true := atoms_intro fun w hw => hws w hw _ _ X.warmed
  have h2 : (Cond.code y bytes maxL ret).before a A.U = true := hws _ hcode _ _ X.warmed
  have h3 : (Cond.initialized y.cls).before a A.U = true := hinit _ _ X.warmed
  have h4 : A.cells + (headSpec ws rm).room.cells ≤ R.cells := by rw [show (headSpec ws rm).room.cells = mc from hrc]; exact hp.1
  have h5 : A.slots + (headSpec ws rm).room.slots ≤ R.slots := by rw [show (headSpec ws rm).room.slots = ms from hrs]; exact hp.2.1
  have hPc : Pc a (A.U.calling g mk a) := hblind _ _ _ _ hp.2.2
  obtain ⟨U, Ls, c0, s0⟩ := A
  dsimp only [Pt.U, Pt.locs, Pt.cells, Pt.slots] at h1 h2 h3 h4 h5 X hn hPc ⊢
  obtain ⟨methY, cY, hmY, hcY, -, hlY, -, -, -, -⟩ := Cond.code_spec hn h2
  obtain ⟨kY, hkY, -⟩ := className_of_methodNamed hn
  have hinitY : kY.init = .initialized := Cond.initialized_spec (findClass_of_methodNamed hn) hkY h3
  have h : At U g.method c below := by rw [hg]; exact X.here
  have hlocals9 : W9 + (maxL + 11) + (headSpec ws rm).room.locals ≤ R.locals := hlocals
  have happ : (headSpec ws rm).appliesLoose y e.platform (U.calling g mk a) = true :=
    Spec.appliesLoose_calling (g := g) h hdg hn hkY hinitY
      (X.room_calling (g := g) (R' := (headSpec ws rm).room) hsize hmY hcY hframes (by rw [hlY]; omega) h4 h5) h1
  obtain ⟨mid, hmid⟩ := h.above
  have hfr : (U.setTop g).frames = (.java g :: mid) ++ below := by rw [State.frames_setTop' g h.top, hmid]; rfl
  obtain ⟨o, s₂, hsteps, -, hend, hq⟩ := Steps.callFree hM p X.admits X.cas X.clock (acts := []) hfr happ hPc trivial
  have hq' : vx_Q Qc XC mc ms free a (U.calling g mk a) o s₂ := hq
  rw [State.frames_setTop' g h.top] at hend
  obtain ⟨g₀, hg0⟩ := Option.isSome_iff_exists.mp h.top
  obtain ⟨r, hr⟩ := State.topJava?_eq_some.mp hg0
  have hr' : (({ U with heap := s₂.heap, slotsUsed := s₂.slotsUsed } : State).setVm s₂.vm).frames = .java g₀ :: r := hr
  rcases hq' with ⟨hqc, L, hfe, hL⟩ | ⟨q, rfl, E, ce, L, hx, hce, hcv, hcl, hW₂, hsm, hL⟩
  · obtain ⟨⟨v, rfl⟩, hW₂, e2, q2, q3, q4, q5, q6⟩ := id hfe
    have e3 : s₂ = ({ (U.calling g mk a).setFrames s₂.frames with heap := s₂.heap, slotsUsed := s₂.slotsUsed } : State).setVm s₂.vm := by
      have : s₂ = ({ s₂ with vm := (U.calling g mk a).vm } : State).setVm s₂.vm := rfl
      rw [e2] at this
      exact this
    obtain ⟨c₂, i₂, len₂, hc₂, hd₂, hf₂⟩ := hend
    have hW' : U.WarmedH s₂.vm := hW₂
    have hcc : c₂ = c := by
      have h1 : s₂.code? g.method = U.code? g.method := by
        rw [State.code?_eq, State.code?_eq, hW'.alike.method?]
      exact Option.some.inj (hc₂.symm.trans (h1.trans h.code))
    subst hcc
    have hlen : len₂ = len := by rw [hdg] at hd₂; cases hd₂; rfl
    subst hlen
    have hs₂ : s₂ = (({ U with heap := s₂.heap, slotsUsed := s₂.slotsUsed } : State).setVm s₂.vm).setTop { g with pc := g.pc + len₂, stack := v.toList ++ g.stack } := by
      refine e3.trans ?_
      rw [hf₂, State.calling_eq h.top, State.setFrames_setFrames, State.setTop_of_frames _ hr', hr]
      rfl
    have hsame : U.sameButNew ({ U with heap := s₂.heap, slotsUsed := s₂.slotsUsed } : State) L mc ms := by
      refine ⟨?_, q2, q3, q4, q5, q6⟩
      obtain ⟨t, ht, -⟩ := State.frames_cons hr
      show ({ U with heap := s₂.heap, slotsUsed := s₂.slotsUsed } : State) = { U.setFrames U.frames with heap := s₂.heap, slotsUsed := s₂.slotsUsed }
      rw [State.setFrames_self ht]
    subst hg
    refine Or.inl ⟨v, ⟨(({ U with heap := s₂.heap, slotsUsed := s₂.slotsUsed } : State).setVm s₂.vm), Ls ++ L, c0 + mc, s0 + ms⟩,
      ⟨X.admits, X.cas, X.clock, X.frames, X.room, X.hears, X.method, X.code, (X.here.setHeapUsed s₂.heap s₂.slotsUsed).setVm hW'.alike, X.tail, State.WarmedH.trans X.warmed hW', X.limits, X.bytes, X.same.trans (hsame.setVm s.vm)⟩,
      ⟨g, mk, s₂, L, rfl, rfl, hqc, rfl, hL, rfl, rfl⟩, ?_⟩
    show Steps p.tables e below _ ((({ U with heap := s₂.heap, slotsUsed := s₂.slotsUsed } : State).setVm s₂.vm).setTop { g with pc := g.pc + len₂, stack := v.toList ++ g.stack })
    rw [← hs₂]
    exact hsteps
  · obtain ⟨e2, q2, q3, q4, q5, q6⟩ := id hsm
    have e3 : s₂ = ({ (U.calling g mk a).setFrames s₂.frames with heap := s₂.heap, slotsUsed := s₂.slotsUsed } : State).setVm s₂.vm := by
      have : s₂ = ({ s₂ with vm := (U.calling g mk a).vm } : State).setVm s₂.vm := rfl
      rw [e2] at this
      exact this
    have hf₂ : s₂.frames = .throwing q :: .java g :: U.frames.tail := hend
    have hW' : U.WarmedH s₂.vm := hW₂
    have hs₂ : s₂ = ((({ U with heap := s₂.heap, slotsUsed := s₂.slotsUsed } : State).setVm s₂.vm).setTop g).pushFrame (.throwing q) := by
      refine e3.trans ?_
      rw [hf₂, State.calling_eq h.top, State.setFrames_setFrames, State.pushFrame, State.frames_setTop _ hr', State.setTop_of_frames _ hr', State.setFrames_setFrames, hr]
      rfl
    have hsame : U.sameButNew ({ U with heap := s₂.heap, slotsUsed := s₂.slotsUsed } : State) L mc ms := by
      refine ⟨?_, q2, q3, q4, q5, q6⟩
      obtain ⟨t, ht, -⟩ := State.frames_cons hr
      show ({ U with heap := s₂.heap, slotsUsed := s₂.slotsUsed } : State) = { U.setFrames U.frames with heap := s₂.heap, slotsUsed := s₂.slotsUsed }
      rw [State.setFrames_self ht]
    subst hg
    refine Or.inr ⟨q, ⟨(({ U with heap := s₂.heap, slotsUsed := s₂.slotsUsed } : State).setVm s₂.vm), Ls ++ L, c0 + mc, s0 + ms⟩,
      ⟨X.admits, X.cas, X.clock, X.frames, X.room, X.hears, X.method, X.code, (X.here.setHeapUsed s₂.heap s₂.slotsUsed).setVm hW'.alike, X.tail, State.WarmedH.trans X.warmed hW', X.limits, X.bytes, X.same.trans (hsame.setVm s.vm)⟩,
      ⟨g, mk, s₂, L, E, ce, rfl, rfl, hx, hce, hcv, hcl, rfl, hL, rfl, rfl⟩, ?_⟩
    show Steps p.tables e below _ (((({ U with heap := s₂.heap, slotsUsed := s₂.slotsUsed } : State).setVm s₂.vm).setTop g).pushFrame (.throwing q))
    rw [← hs₂]
    exact hsteps
end Payer
section Calls
variable {p : Program} {l : Launch} {e : Env} {R : Room} {s : State} {m : MethodId} {args : Array Value} {below : List Frame} {meth : Method} {c : Code} {T : State} {locs : List Loc} {cells slots : Nat}
theorem vx_callV (X : Stand p l e R s m args below meth c T locs cells slots) (hexec : p.tables.exec = Jvm.exec) {own C : String} {index : Nat} {y : MethodName} {bytes : ByteArray} {maxL : Nat} {ret : Option FieldType}
    (hown : s.vm.findClass own = some m.cls) (hlink : (Cond.methodLink own index y).before args s = true) (hinst : (Cond.instanceMethod y).before args s = true) (hsel : (Cond.selects C y y).before args s = true)
    (hcode : (Cond.code y bytes maxL ret).before args s = true) (hy : y.cls ≠ "java/lang/invoke/MethodHandle" ∧ y.cls ≠ "java/lang/invoke/VarHandle")
    {W9 : Nat} {Pre : Pt → Array Value → Prop} {Post : Pt → Array Value → Option Value → Pt → Prop} {PostX : Pt → Array Value → Addr → Pt → Prop} (hK : vx_Back l R p e below s args y 3 W9 Pre Post PostX)
    {b : Addr} {cellB : Cell} (hcell : T.heap[b]? = some cellB) (hobj : cellB.vm.isStatics = false) (hcls : s.vm.findClass C = some cellB.cls)
    {g : JFrame} (hg : g.method = m) (hsize : g.locals.size = c.maxLocals) {argsL rest : List Value} (hlen : ∀ sig, parseMethodDescriptor y.desc = some sig → argsL.length = sig.parameters.length)
    (hstack : g.stack = argsL.reverse ++ .ref b :: rest) (hW : 2 * g.monitorRoom + (rest.map fun v => v.category).sum ≤ W9) (hdg : decode c.code g.pc = .ok (.invokevirtual index, 3))
    (hpre : ∀ vm₁, s.WarmedH vm₁ → Pre ⟨T.setVm vm₁, locs, cells, slots⟩ (Value.ref b :: argsL).toArray) :
    (∃ (v : Option Value) (vm₁ : Vm) (B : Pt), s.WarmedH vm₁ ∧ Stand p l e R s m args below meth c B.U B.locs B.cells B.slots ∧ Post ⟨T.setVm vm₁, locs, cells, slots⟩ (Value.ref b :: argsL).toArray v B ∧
      ∀ target, Steps p.tables e below (B.U.setTop { g with pc := g.pc + 3, stack := v.toList ++ rest }) target → Steps p.tables e below (T.setTop g) target) ∨
    (∃ (q : Addr) (vm₁ : Vm) (B : Pt), s.WarmedH vm₁ ∧ Stand p l e R s m args below meth c B.U B.locs B.cells B.slots ∧ PostX ⟨T.setVm vm₁, locs, cells, slots⟩ (Value.ref b :: argsL).toArray q B ∧
      Steps p.tables e below (T.setTop g) ((B.U.setTop { g with stack := rest }).pushFrame (.throwing q))) := by
  obtain ⟨mk, methM, hnamed, hmethM, hstM, habM⟩ := Cond.instanceMethod_spec hinst
  obtain ⟨methM', cM, hmethM', -, -, -, -, -, -, hsigM⟩ := Cond.code_spec hnamed hcode
  cases hmethM.symm.trans hmethM'
  obtain ⟨c2, r2, m2, q1, q2, q3, q4, kP, hkP, hkPi⟩ := Cond.selects_spec hsel
  cases hcls.symm.trans q1
  cases (State.methodFound?_of_named hnamed hy).symm.trans q2
  cases hnamed.symm.trans q3
  have hselP : selectMethod e.platform s.vm cellB.cls mk = .method mk := by rw [Launch.admits_selectMethod X.admits]; exact q4
  obtain ⟨vm₁, X₁, hstep₁⟩ := X.invokevirtual hexec hown hlink hnamed hmethM hstM hkP hkPi hy (a := b) (cell := cellB) hcell
    (fun z h => by rw [h] at hobj; cases hobj) hselP hmethM habM hkP hkPi (g := g) hg (argsL := argsL) (rest := rest) (hlen _ hsigM) hstack hdg
  rcases hK m meth c ⟨T.setVm vm₁, locs, cells, slots⟩ { g with stack := rest } (.invokevirtual index) mk (Value.ref b :: argsL).toArray X₁ hg hsize hdg hW (X₁.named hnamed) (hpre vm₁ X₁.warmed) with ⟨v, B, X', hpost, hsteps⟩ | ⟨q, B, X', hpost, hsteps⟩
  · exact Or.inl ⟨v, vm₁, B, X₁.warmed, X', hpost, fun target h => hstep₁ _ fun acts => by rw [doInvoke_state]; exact hsteps.trans h⟩
  · exact Or.inr ⟨q, vm₁, B, X₁.warmed, X', hpost, hstep₁ _ fun acts => by rw [doInvoke_state]; exact hsteps⟩
theorem vx_callS (X : Stand p l e R s m args below meth c T locs cells slots) (hexec : p.tables.exec = Jvm.exec) {own : String} {index : Nat} {y : MethodName} {bytes : ByteArray} {maxL : Nat} {ret : Option FieldType}
    (hown : s.vm.findClass own = some m.cls) (hlink : (Cond.methodLink own index y).before args s = true) (hstat : (Cond.static y).before args s = true) (hinit : (Cond.initialized y.cls).before args s = true)
    (hcode : (Cond.code y bytes maxL ret).before args s = true) (hy : y.cls ≠ "java/lang/invoke/MethodHandle" ∧ y.cls ≠ "java/lang/invoke/VarHandle")
    {W9 : Nat} {Pre : Pt → Array Value → Prop} {Post : Pt → Array Value → Option Value → Pt → Prop} {PostX : Pt → Array Value → Addr → Pt → Prop} (hK : vx_Back l R p e below s args y 3 W9 Pre Post PostX)
    {g : JFrame} (hg : g.method = m) (hsize : g.locals.size = c.maxLocals) {argsL rest : List Value} (hlen : ∀ sig, parseMethodDescriptor y.desc = some sig → argsL.length = sig.parameters.length)
    (hstack : g.stack = argsL.reverse ++ rest) (hW : 2 * g.monitorRoom + (rest.map fun v => v.category).sum ≤ W9) (hdg : decode c.code g.pc = .ok (.invokestatic index, 3))
    (hpre : ∀ vm₁, s.WarmedH vm₁ → Pre ⟨T.setVm vm₁, locs, cells, slots⟩ argsL.toArray) :
    (∃ (v : Option Value) (vm₁ : Vm) (B : Pt), s.WarmedH vm₁ ∧ Stand p l e R s m args below meth c B.U B.locs B.cells B.slots ∧ Post ⟨T.setVm vm₁, locs, cells, slots⟩ argsL.toArray v B ∧
      ∀ target, Steps p.tables e below (B.U.setTop { g with pc := g.pc + 3, stack := v.toList ++ rest }) target → Steps p.tables e below (T.setTop g) target) ∨
    (∃ (q : Addr) (vm₁ : Vm) (B : Pt), s.WarmedH vm₁ ∧ Stand p l e R s m args below meth c B.U B.locs B.cells B.slots ∧ PostX ⟨T.setVm vm₁, locs, cells, slots⟩ argsL.toArray q B ∧
      Steps p.tables e below (T.setTop g) ((B.U.setTop { g with stack := rest }).pushFrame (.throwing q))) := by
  obtain ⟨mk, hnamed⟩ := Cond.code_named hcode
  obtain ⟨methM, cM, hmethM, -, -, -, -, -, -, hsigM⟩ := Cond.code_spec hnamed hcode
  have hstatic : methM.isStatic = true := Cond.static_spec hnamed hmethM hstat
  obtain ⟨kP, hkP, -⟩ := className_of_methodNamed hnamed
  have hinitP : kP.init = .initialized := Cond.initialized_spec (findClass_of_methodNamed hnamed) hkP hinit
  obtain ⟨vm₁, X₁, hstep₁⟩ := X.invokestatic hexec hown hlink hnamed hmethM hstatic hkP hinitP hy (g := g) hg (argsL := argsL) (rest := rest) (hlen _ hsigM) hstack hdg
  rcases hK m meth c ⟨T.setVm vm₁, locs, cells, slots⟩ { g with stack := rest } (.invokestatic index) mk argsL.toArray X₁ hg hsize hdg hW (X₁.named hnamed) (hpre vm₁ X₁.warmed) with ⟨v, B, X', hpost, hsteps⟩ | ⟨q, B, X', hpost, hsteps⟩
  · exact Or.inl ⟨v, vm₁, B, X₁.warmed, X', hpost, fun target h => hstep₁ _ fun acts => by rw [doInvoke_state]; exact hsteps.trans h⟩
  · exact Or.inr ⟨q, vm₁, B, X₁.warmed, X', hpost, hstep₁ _ fun acts => by rw [doInvoke_state]; exact hsteps⟩
end Calls
theorem vx_cls {s : State} {T : State} {vm₁ : Vm} {E : String} {k : ClassId} (hW : s.WarmedH vm₁) (h : (T.setVm vm₁).vm.findClass E = some k) : s.vm.findClass E = some k := by
  have h1 : vm₁.findClass E = some k := h
  rw [hW.alike.findClass] at h1
  exact h1
/-- the method's frame g, with q thrown over it -/
def vx_W (p : Program) (l : Launch) (e : Env) (R : Room) (s : State) (m : MethodId) (args : Array Value) (below : List Frame) (meth : Method) (c : Code) (H : Heap) (locs : List Loc) (cells slots : Nat) (Q : State → Prop) (g : JFrame) (q : Addr) : Prop :=
  ∀ T : State, T.heap = H → Stand p l e R s m args below meth c T locs cells slots → ∃ t, Steps p.tables e below ((T.setTop g).pushFrame (.throwing q)) t ∧ Q t
def vx_Run (p : Program) (l : Launch) (e : Env) (R : Room) (s : State) (m : MethodId) (args : Array Value) (below : List Frame) (meth : Method) (c : Code) (H : Heap) (locs : List Loc) (cells slots mc ms : Nat) (g : JFrame) (rest : List Value) (Qa : State → Outcome → State → Prop) (XC : String → State → State → Prop) (free : Addr → Prop) : Prop :=
  ∀ T : State, T.heap = H → Stand p l e R s m args below meth c T locs cells slots →
    (∃ (v : Option Value) (st₀ t T' : State) (L : List Loc), st₀.heap = H ∧ Stand p l e R s m args below meth c T' (locs ++ L) (cells + mc) (slots + ms) ∧ (∀ q ∈ L, free q.base) ∧ T'.heap = t.heap ∧ T'.vm = t.vm ∧ Qa st₀ (.returned v) t ∧
      Goes p e below T g T' { g with pc := g.pc + 3, stack := v.toList ++ rest }) ∨
    (∃ (q : Addr) (st₀ t T' : State) (L : List Loc) (E : String) (ce : Cell), st₀.heap = H ∧ Stand p l e R s m args below meth c T' (locs ++ L) (cells + mc) (slots + ms) ∧ (∀ z ∈ L, free z.base) ∧ T'.heap = t.heap ∧ T'.vm = t.vm ∧ XC E st₀ t ∧ t.heap[q]? = some ce ∧ ce.vm = .none ∧ s.vm.findClass E = some ce.cls ∧
      Steps p.tables e below (T.setTop g) ((T'.setTop { g with stack := rest }).pushFrame (.throwing q)))
def vx_X {S : Type} (px : S → Prop) (B : String → S → State → Prop) (A : Nat → Prop) : String → State → State → Prop := fun E st t => ∃ u : S, px u ∧ B E u t ∧ va_F A st t
section Runs
variable {p : Program} {l : Launch} {e : Env} {R : Room} {s : State} {m : MethodId} {args : Array Value} {below : List Frame} {meth : Method} {c : Code} {H : Heap} {locs : List Loc} {cells slots : Nat}
variable {y : MethodName} {bytes cc : ByteArray} {maxL nL mc ms n index : Nat} {ret : Option FieldType} {ws : List Cond} {rm : Room} {Pc : Array Value → State → Prop} {Qc : Array Value → State → Outcome → State → Prop} {XC : String → State → State → Prop} {free : Addr → Prop} {Ts : List Cond} {own C : String} {b : Addr} {As rest : List Value} {g : JFrame}
theorem vx_callBack (cb : CallB R s args own index y bytes maxL ret ws rm mc ms n) (hM : vx_Met l y ws rm Pc Qc XC mc ms free) (hbl : FrameBlind Pc) : vx_Back l R p e below s args y 3 8 (PreOf R mc ms Pc) (PostOf Qc mc ms free) (vx_Post XC mc ms free) := by
  obtain ⟨hrc, hrs, hfr, hlo, hws, hcw, -, hini, -⟩ := cb
  exact vx_back (bytes := bytes) (maxL := maxL) (ret := ret) hM hbl hrc hrs hfr hlo hws hcw (fun a' U hW => word_at hW (Or.inl (by first | rfl | simp [Cond.onTables, Cond.keeps, Cond.steady])) hini)
theorem vx_runV (S : CallFix p m c cc nL s args Ts own) (hM : vx_Met l y ws rm Pc Qc XC mc ms free) (cw : CallW R s args own C index y bytes maxL ret ws rm mc ms n) (hp : PreV s H C b Pc As)
    (hg : g.method = m) (hn : As.length = n) (hsize : g.locals.size = nL) (hstack : g.stack = As.reverse ++ .ref b :: rest) (hW : 2 * g.monitorRoom + (rest.map fun v => v.category).sum ≤ 8) (hdg : decode cc g.pc = .ok (.invokevirtual index, 3)) (hf : cells + mc ≤ R.cells ∧ slots + ms ≤ R.slots) :
    vx_Run p l e R s m args below meth c H locs cells slots mc ms g rest (Qc (Value.ref b :: As).toArray) XC free := by
  have hK : vx_Back l R p e below s args y 3 8 (PreOf R mc ms Pc) (PostOf Qc mc ms free) (vx_Post XC mc ms free) := vx_callBack cw.1 hM hp.1
  obtain ⟨⟨-, -, -, -, -, -, hcode, -, hy, hlen, hl⟩, hin, hse⟩ := cw
  obtain ⟨hx, hb, hml, ho, -⟩ := S
  obtain ⟨-, ⟨cellB, hcB, hoB, hclB⟩, hPc⟩ := hp
  intro T hT X
  rcases vx_callV X hx (C := C) (bytes := bytes) (maxL := maxL) (ret := ret) ho hl hin hse hcode hy hK (by rw [hT]; exact hcB) hoB hclB hg (hsize.trans hml.symm) (argsL := As) (rest := rest) (fun sig h => hn.trans (hlen sig h)) hstack hW (by rw [hb]; exact hdg)
    (fun vm₁ hW₁ => ⟨hf.1, hf.2, hPc (T.setVm vm₁) hT hW₁⟩) with ⟨v, vm₁, ⟨U', l2, c2, s2⟩, hW₁, X', ⟨g', mk, t, L, e1, e2, hq, h1, hL, h2, h3⟩, st⟩ | ⟨q, vm₁, ⟨U', l2, c2, s2⟩, hW₁, X', ⟨g', mk, t, L, E, ce, e1, e2, hq, hce, hcv, hcl, h1, hL, h2, h3⟩, st⟩
  · dsimp only [Pt.U, Pt.locs, Pt.cells, Pt.slots] at X' e1 e2 h1 h2 h3 st
    subst h1; subst h2; subst h3
    exact Or.inl ⟨v, (T.setVm vm₁).calling g' mk (Value.ref b :: As).toArray, t, U', L, hT, X', hL, e1, e2, hq, st⟩
  · dsimp only [Pt.U, Pt.locs, Pt.cells, Pt.slots] at X' e1 e2 h1 h2 h3 st hcl
    subst h1; subst h2; subst h3
    exact Or.inr ⟨q, (T.setVm vm₁).calling g' mk (Value.ref b :: As).toArray, t, U', L, E, ce, hT, X', hL, e1, e2, hq, hce, hcv, vx_cls hW₁ hcl, st⟩
theorem vx_runS (S : CallFix p m c cc nL s args Ts own) (hM : vx_Met l y ws rm Pc Qc XC mc ms free) (cw : CallB R s args own index y bytes maxL ret ws rm mc ms n ∧ (Cond.static y).before args s = true) (hp : PreS s H Pc As)
    (hg : g.method = m) (hn : As.length = n) (hsize : g.locals.size = nL) (hstack : g.stack = As.reverse ++ rest) (hW : 2 * g.monitorRoom + (rest.map fun v => v.category).sum ≤ 8) (hdg : decode cc g.pc = .ok (.invokestatic index, 3)) (hf : cells + mc ≤ R.cells ∧ slots + ms ≤ R.slots) :
    vx_Run p l e R s m args below meth c H locs cells slots mc ms g rest (Qc As.toArray) XC free := by
  have hK : vx_Back l R p e below s args y 3 8 (PreOf R mc ms Pc) (PostOf Qc mc ms free) (vx_Post XC mc ms free) := vx_callBack cw.1 hM hp.1
  obtain ⟨⟨-, -, -, -, -, -, hcode, hini, hy, hlen, hl⟩, hstt⟩ := cw
  obtain ⟨hx, hb, hml, ho, -⟩ := S
  intro T hT X
  rcases vx_callS X hx (bytes := bytes) (maxL := maxL) (ret := ret) ho hl hstt hini hcode hy hK hg (hsize.trans hml.symm) (argsL := As) (rest := rest) (fun sig h => hn.trans (hlen sig h)) hstack hW (by rw [hb]; exact hdg)
    (fun vm₁ hW₁ => ⟨hf.1, hf.2, hp.2 (T.setVm vm₁) hT hW₁⟩) with ⟨v, vm₁, ⟨U', l2, c2, s2⟩, hW₁, X', ⟨g', mk, t, L, e1, e2, hq, h1, hL, h2, h3⟩, st⟩ | ⟨q, vm₁, ⟨U', l2, c2, s2⟩, hW₁, X', ⟨g', mk, t, L, E, ce, e1, e2, hq, hce, hcv, hcl, h1, hL, h2, h3⟩, st⟩
  · dsimp only [Pt.U, Pt.locs, Pt.cells, Pt.slots] at X' e1 e2 h1 h2 h3 st
    subst h1; subst h2; subst h3
    exact Or.inl ⟨v, (T.setVm vm₁).calling g' mk As.toArray, t, U', L, hT, X', hL, e1, e2, hq, st⟩
  · dsimp only [Pt.U, Pt.locs, Pt.cells, Pt.slots] at X' e1 e2 h1 h2 h3 st hcl
    subst h1; subst h2; subst h3
    exact Or.inr ⟨q, (T.setVm vm₁).calling g' mk As.toArray, t, U', L, E, ce, hT, X', hL, e1, e2, hq, hce, hcv, vx_cls hW₁ hcl, st⟩
end Runs
section Rows
variable {p : Program} {l : Launch} {e : Env} {R : Room} {s : State} {m : MethodId} {args : Array Value} {below : List Frame} {meth : Method} {c : Code} {H : Heap} {locs : List Loc} {cells slots : Nat} {Q : State → Prop}
variable {mc ms : Nat} {free : Addr → Prop} {A0 A1 : Nat → Prop} {H0 : Heap} {a : Array Value} {pc : Nat} {ls : Array Slot} {st0 rest : List Value}
theorem vx_keep {st₀ t T' : State} {L : List Loc} (h0 : st₀.heap = H) (e1 : T'.heap = t.heap) (hS : va_S A0 H0 H locs) (hA : ∀ q, q < H.size → A1 q → A0 q) (hf : ∀ q, free q → A0 q) (hL : ∀ q ∈ L, free q.base) (hF : va_F A1 st₀ t) :
    H.size ≤ T'.heap.size ∧ (∀ q : Nat, q < H.size → ¬ A1 q → T'.heap[q]? = H[q]?) ∧ va_S A0 H0 T'.heap (locs ++ L) := by
  obtain ⟨hz, hk⟩ := hF
  rw [h0] at hz hk
  exact ⟨by rw [e1]; exact hz, fun q h1 h2 => by rw [e1]; exact hk q h1 h2,
    ⟨Nat.le_trans hS.1 (by rw [e1]; exact hz), fun q h1 h2 => by rw [e1, hk q (Nat.lt_of_lt_of_le h1 hS.1) (fun z => h2 (hA q (Nat.lt_of_lt_of_le h1 hS.1) z))]; exact hS.2.1 q h1 h2, fun q hq => by
      rcases List.mem_append.mp hq with h | h
      · exact hS.2.2 q h
      · exact hf _ (hL q h)⟩⟩
theorem vx_calli {S SX : Type} {post : Int32 → S → Prop} {px : SX → Prop} {B : S → State → Prop} {BX : String → SX → State → Prop} {AX : Nat → Prop} (hr : vx_Run p l e R s m args below meth c H locs cells slots mc ms (F0 m pc ls st0) rest (va_Qi post B A1 a) (vx_X px BX AX) free) (hS : va_S A0 H0 H locs) (hA : ∀ q, q < H.size → A1 q → A0 q) (hf : ∀ q, free q → A0 q) (hAX : ∀ q, q < H.size → AX q → A0 q)
    (kx : ∀ (E : String) (ce : Cell) (q9 : Addr) (u : SX) (t : State) (H1 : Heap) (locs1 : List Loc), t.heap = H1 → s.vm.Alike t.vm → px u → BX E u t → H.size ≤ H1.size → (∀ q : Nat, q < H.size → ¬ AX q → H1[q]? = H[q]?) → va_S A0 H0 H1 locs1 → H1[q9]? = some ce → ce.vm = .none → s.vm.findClass E = some ce.cls → vx_W p l e R s m args below meth c H1 locs1 (cells + mc) (slots + ms) Q (F0 m pc ls rest) q9)
    (kk : ∀ (r : Int32) (u : S) (t : State) (H1 : Heap) (locs1 : List Loc), t.heap = H1 → s.vm.Alike t.vm → post r u → B u t → H.size ≤ H1.size → (∀ q : Nat, q < H.size → ¬ A1 q → H1[q]? = H[q]?) → va_S A0 H0 H1 locs1 → W p l e R s m args below meth c H1 locs1 (cells + mc) (slots + ms) Q (F0 m (pc + 3) ls (.int r :: rest))) : W p l e R s m args below meth c H locs cells slots Q (F0 m pc ls st0) := by
  intro T hT X
  rcases hr T hT X with ⟨v, st₀, t, T', L, h0, X', hL, e1, e2, ⟨⟨r, u, hv, hp, hb⟩, hF⟩, st⟩ | ⟨q, st₀, t, T', L, E, ce, h0, X', hL, e1, e2, ⟨u, hp, hb, hF⟩, hce, hcv, hcl, st⟩
  · cases hv
    obtain ⟨k1, k2, k3⟩ := vx_keep h0 e1 hS hA hf hL hF
    obtain ⟨t2, a1, b1⟩ := kk r u t T'.heap (locs ++ L) e1.symm (by rw [← e2]; exact X'.warmed.alike) hp hb k1 k2 k3 T' rfl X'
    exact ⟨t2, st t2 a1, b1⟩
  · obtain ⟨k1, k2, k3⟩ := vx_keep h0 e1 hS hAX hf hL hF
    obtain ⟨t2, a1, b1⟩ := kx E ce q u t T'.heap (locs ++ L) e1.symm (by rw [← e2]; exact X'.warmed.alike) hp hb k1 k2 k3 (by rw [e1]; exact hce) hcv hcl T' rfl X'
    exact ⟨t2, st.trans a1, b1⟩
theorem vx_calll {S SX : Type} {post : Int64 → S → Prop} {px : SX → Prop} {B : S → State → Prop} {BX : String → SX → State → Prop} {AX : Nat → Prop} (hr : vx_Run p l e R s m args below meth c H locs cells slots mc ms (F0 m pc ls st0) rest (va_Ql post B A1 a) (vx_X px BX AX) free) (hS : va_S A0 H0 H locs) (hA : ∀ q, q < H.size → A1 q → A0 q) (hf : ∀ q, free q → A0 q) (hAX : ∀ q, q < H.size → AX q → A0 q)
    (kx : ∀ (E : String) (ce : Cell) (q9 : Addr) (u : SX) (t : State) (H1 : Heap) (locs1 : List Loc), t.heap = H1 → s.vm.Alike t.vm → px u → BX E u t → H.size ≤ H1.size → (∀ q : Nat, q < H.size → ¬ AX q → H1[q]? = H[q]?) → va_S A0 H0 H1 locs1 → H1[q9]? = some ce → ce.vm = .none → s.vm.findClass E = some ce.cls → vx_W p l e R s m args below meth c H1 locs1 (cells + mc) (slots + ms) Q (F0 m pc ls rest) q9)
    (kk : ∀ (r : Int64) (u : S) (t : State) (H1 : Heap) (locs1 : List Loc), t.heap = H1 → s.vm.Alike t.vm → post r u → B u t → H.size ≤ H1.size → (∀ q : Nat, q < H.size → ¬ A1 q → H1[q]? = H[q]?) → va_S A0 H0 H1 locs1 → W p l e R s m args below meth c H1 locs1 (cells + mc) (slots + ms) Q (F0 m (pc + 3) ls (.long r :: rest))) : W p l e R s m args below meth c H locs cells slots Q (F0 m pc ls st0) := by
  intro T hT X
  rcases hr T hT X with ⟨v, st₀, t, T', L, h0, X', hL, e1, e2, ⟨⟨r, u, hv, hp, hb⟩, hF⟩, st⟩ | ⟨q, st₀, t, T', L, E, ce, h0, X', hL, e1, e2, ⟨u, hp, hb, hF⟩, hce, hcv, hcl, st⟩
  · cases hv
    obtain ⟨k1, k2, k3⟩ := vx_keep h0 e1 hS hA hf hL hF
    obtain ⟨t2, a1, b1⟩ := kk r u t T'.heap (locs ++ L) e1.symm (by rw [← e2]; exact X'.warmed.alike) hp hb k1 k2 k3 T' rfl X'
    exact ⟨t2, st t2 a1, b1⟩
  · obtain ⟨k1, k2, k3⟩ := vx_keep h0 e1 hS hAX hf hL hF
    obtain ⟨t2, a1, b1⟩ := kx E ce q u t T'.heap (locs ++ L) e1.symm (by rw [← e2]; exact X'.warmed.alike) hp hb k1 k2 k3 (by rw [e1]; exact hce) hcv hcl T' rfl X'
    exact ⟨t2, st.trans a1, b1⟩
theorem vx_callf {S SX : Type} {post : UInt32 → S → Prop} {px : SX → Prop} {B : S → State → Prop} {BX : String → SX → State → Prop} {AX : Nat → Prop} (hr : vx_Run p l e R s m args below meth c H locs cells slots mc ms (F0 m pc ls st0) rest (va_Qf post B A1 a) (vx_X px BX AX) free) (hS : va_S A0 H0 H locs) (hA : ∀ q, q < H.size → A1 q → A0 q) (hf : ∀ q, free q → A0 q) (hAX : ∀ q, q < H.size → AX q → A0 q)
    (kx : ∀ (E : String) (ce : Cell) (q9 : Addr) (u : SX) (t : State) (H1 : Heap) (locs1 : List Loc), t.heap = H1 → s.vm.Alike t.vm → px u → BX E u t → H.size ≤ H1.size → (∀ q : Nat, q < H.size → ¬ AX q → H1[q]? = H[q]?) → va_S A0 H0 H1 locs1 → H1[q9]? = some ce → ce.vm = .none → s.vm.findClass E = some ce.cls → vx_W p l e R s m args below meth c H1 locs1 (cells + mc) (slots + ms) Q (F0 m pc ls rest) q9)
    (kk : ∀ (r : UInt32) (u : S) (t : State) (H1 : Heap) (locs1 : List Loc), t.heap = H1 → s.vm.Alike t.vm → post r u → B u t → H.size ≤ H1.size → (∀ q : Nat, q < H.size → ¬ A1 q → H1[q]? = H[q]?) → va_S A0 H0 H1 locs1 → W p l e R s m args below meth c H1 locs1 (cells + mc) (slots + ms) Q (F0 m (pc + 3) ls (.float r :: rest))) : W p l e R s m args below meth c H locs cells slots Q (F0 m pc ls st0) := by
  intro T hT X
  rcases hr T hT X with ⟨v, st₀, t, T', L, h0, X', hL, e1, e2, ⟨⟨r, u, hv, hp, hb⟩, hF⟩, st⟩ | ⟨q, st₀, t, T', L, E, ce, h0, X', hL, e1, e2, ⟨u, hp, hb, hF⟩, hce, hcv, hcl, st⟩
  · cases hv
    obtain ⟨k1, k2, k3⟩ := vx_keep h0 e1 hS hA hf hL hF
    obtain ⟨t2, a1, b1⟩ := kk r u t T'.heap (locs ++ L) e1.symm (by rw [← e2]; exact X'.warmed.alike) hp hb k1 k2 k3 T' rfl X'
    exact ⟨t2, st t2 a1, b1⟩
  · obtain ⟨k1, k2, k3⟩ := vx_keep h0 e1 hS hAX hf hL hF
    obtain ⟨t2, a1, b1⟩ := kx E ce q u t T'.heap (locs ++ L) e1.symm (by rw [← e2]; exact X'.warmed.alike) hp hb k1 k2 k3 (by rw [e1]; exact hce) hcv hcl T' rfl X'
    exact ⟨t2, st.trans a1, b1⟩
theorem vx_calld {S SX : Type} {post : UInt64 → S → Prop} {px : SX → Prop} {B : S → State → Prop} {BX : String → SX → State → Prop} {AX : Nat → Prop} (hr : vx_Run p l e R s m args below meth c H locs cells slots mc ms (F0 m pc ls st0) rest (va_Qd post B A1 a) (vx_X px BX AX) free) (hS : va_S A0 H0 H locs) (hA : ∀ q, q < H.size → A1 q → A0 q) (hf : ∀ q, free q → A0 q) (hAX : ∀ q, q < H.size → AX q → A0 q)
    (kx : ∀ (E : String) (ce : Cell) (q9 : Addr) (u : SX) (t : State) (H1 : Heap) (locs1 : List Loc), t.heap = H1 → s.vm.Alike t.vm → px u → BX E u t → H.size ≤ H1.size → (∀ q : Nat, q < H.size → ¬ AX q → H1[q]? = H[q]?) → va_S A0 H0 H1 locs1 → H1[q9]? = some ce → ce.vm = .none → s.vm.findClass E = some ce.cls → vx_W p l e R s m args below meth c H1 locs1 (cells + mc) (slots + ms) Q (F0 m pc ls rest) q9)
    (kk : ∀ (r : UInt64) (u : S) (t : State) (H1 : Heap) (locs1 : List Loc), t.heap = H1 → s.vm.Alike t.vm → post r u → B u t → H.size ≤ H1.size → (∀ q : Nat, q < H.size → ¬ A1 q → H1[q]? = H[q]?) → va_S A0 H0 H1 locs1 → W p l e R s m args below meth c H1 locs1 (cells + mc) (slots + ms) Q (F0 m (pc + 3) ls (.double r :: rest))) : W p l e R s m args below meth c H locs cells slots Q (F0 m pc ls st0) := by
  intro T hT X
  rcases hr T hT X with ⟨v, st₀, t, T', L, h0, X', hL, e1, e2, ⟨⟨r, u, hv, hp, hb⟩, hF⟩, st⟩ | ⟨q, st₀, t, T', L, E, ce, h0, X', hL, e1, e2, ⟨u, hp, hb, hF⟩, hce, hcv, hcl, st⟩
  · cases hv
    obtain ⟨k1, k2, k3⟩ := vx_keep h0 e1 hS hA hf hL hF
    obtain ⟨t2, a1, b1⟩ := kk r u t T'.heap (locs ++ L) e1.symm (by rw [← e2]; exact X'.warmed.alike) hp hb k1 k2 k3 T' rfl X'
    exact ⟨t2, st t2 a1, b1⟩
  · obtain ⟨k1, k2, k3⟩ := vx_keep h0 e1 hS hAX hf hL hF
    obtain ⟨t2, a1, b1⟩ := kx E ce q u t T'.heap (locs ++ L) e1.symm (by rw [← e2]; exact X'.warmed.alike) hp hb k1 k2 k3 (by rw [e1]; exact hce) hcv hcl T' rfl X'
    exact ⟨t2, st.trans a1, b1⟩
theorem vx_callv {S SX : Type} {post : S → Prop} {px : SX → Prop} {B : S → State → Prop} {BX : String → SX → State → Prop} {AX : Nat → Prop} (hr : vx_Run p l e R s m args below meth c H locs cells slots mc ms (F0 m pc ls st0) rest (va_Qv post B A1 a) (vx_X px BX AX) free) (hS : va_S A0 H0 H locs) (hA : ∀ q, q < H.size → A1 q → A0 q) (hf : ∀ q, free q → A0 q) (hAX : ∀ q, q < H.size → AX q → A0 q)
    (kx : ∀ (E : String) (ce : Cell) (q9 : Addr) (u : SX) (t : State) (H1 : Heap) (locs1 : List Loc), t.heap = H1 → s.vm.Alike t.vm → px u → BX E u t → H.size ≤ H1.size → (∀ q : Nat, q < H.size → ¬ AX q → H1[q]? = H[q]?) → va_S A0 H0 H1 locs1 → H1[q9]? = some ce → ce.vm = .none → s.vm.findClass E = some ce.cls → vx_W p l e R s m args below meth c H1 locs1 (cells + mc) (slots + ms) Q (F0 m pc ls rest) q9)
    (kk : ∀ (u : S) (t : State) (H1 : Heap) (locs1 : List Loc), t.heap = H1 → s.vm.Alike t.vm → post u → B u t → H.size ≤ H1.size → (∀ q : Nat, q < H.size → ¬ A1 q → H1[q]? = H[q]?) → va_S A0 H0 H1 locs1 → W p l e R s m args below meth c H1 locs1 (cells + mc) (slots + ms) Q (F0 m (pc + 3) ls (rest))) : W p l e R s m args below meth c H locs cells slots Q (F0 m pc ls st0) := by
  intro T hT X
  rcases hr T hT X with ⟨v, st₀, t, T', L, h0, X', hL, e1, e2, ⟨⟨u, hv, hp, hb⟩, hF⟩, st⟩ | ⟨q, st₀, t, T', L, E, ce, h0, X', hL, e1, e2, ⟨u, hp, hb, hF⟩, hce, hcv, hcl, st⟩
  · cases hv
    obtain ⟨k1, k2, k3⟩ := vx_keep h0 e1 hS hA hf hL hF
    obtain ⟨t2, a1, b1⟩ := kk u t T'.heap (locs ++ L) e1.symm (by rw [← e2]; exact X'.warmed.alike) hp hb k1 k2 k3 T' rfl X'
    exact ⟨t2, st t2 a1, b1⟩
  · obtain ⟨k1, k2, k3⟩ := vx_keep h0 e1 hS hAX hf hL hF
    obtain ⟨t2, a1, b1⟩ := kx E ce q u t T'.heap (locs ++ L) e1.symm (by rw [← e2]; exact X'.warmed.alike) hp hb k1 k2 k3 (by rw [e1]; exact hce) hcv hcl T' rfl X'
    exact ⟨t2, st.trans a1, b1⟩
/-- caught by the row x of this method's table; the rows ahead don't take it -/
theorem vx_catch {own name : String} {E : String} {ce : Cell} {q : Addr} (hown : s.vm.findClass own = some m.cls) (pre : List ExceptionTableEntry) (x : ExceptionTableEntry) (suf : List ExceptionTableEntry) (hsplit : c.exceptionTable.toList = pre ++ x :: suf)
    (hpass : ∀ z ∈ pre, covers z pc = false ∨ (z.catchType ≠ 0 ∧ ∃ nm : String, (Cond.classLink own z.catchType nm).before args s = true ∧ va_Nc E nm s)) (hx : covers x pc = true) (h0 : x.catchType ≠ 0)
    (hlink : (Cond.classLink own x.catchType name).before args s = true) (hcast : (Cond.castable E name).before args s = true) (hcell : H[q]? = some ce) (hv : ce.vm = .none) (hcl : s.vm.findClass E = some ce.cls)
    (kk : W p l e R s m args below meth c H locs cells slots Q (F0 m x.handlerPc ls [.ref q])) : vx_W p l e R s m args below meth c H locs cells slots Q (F0 m pc ls rest) q := by
  intro T hT X
  have hpl : e.platform.magicAccessors = ({} : Platform).magicAccessors := by rw [X.admits.platform]
  obtain ⟨c3, c4, hc3, hc4, hasg⟩ := Cond.castable_spec hcast
  cases Option.some.inj (hc3.symm.trans hcl)
  obtain ⟨c5, hc5, hcl5⟩ := Cond.classLink_spec hown hlink e.platform hpl
  cases Option.some.inj (hc4.symm.trans hc5)
  obtain ⟨vm', X', st⟩ := X.thenCaughtThrough q (g := F0 m pc ls rest) rfl (Steps.refl _) (by rw [hT]; exact hcell) (by rw [hv]; rfl) (by obtain ⟨k9, h9, -⟩ := Vm.findClass_spec hcl; exact ⟨k9, h9⟩) pre x suf hsplit
    (fun z hz => by
      rcases hpass z hz with h | ⟨hz0, nm, hl1, hn1⟩
      · exact Or.inl h
      · obtain ⟨c6, hc6, hcl6⟩ := Cond.classLink_spec hown hl1 e.platform hpl
        obtain ⟨a8, b8, h1, h2, h3⟩ := hn1
        cases Option.some.inj (h1.symm.trans hcl)
        cases Option.some.inj (h2.symm.trans hc6)
        exact Or.inr ⟨hz0, _, hcl6, h3⟩) hx (Or.inr ⟨h0, c4, hcl5, hasg⟩)
  obtain ⟨t, a1, b1⟩ := kk (T.setVm vm') hT X'
  exact ⟨t, st.trans a1, b1⟩
end Rows
section Ends
variable {p : Program} {l : Launch} {e : Env} {R : Room} {s : State} {m : MethodId} {args : Array Value} {below : List Frame} {meth : Method} {c : Code} {H : Heap} {locs : List Loc} {cells slots : Nat} {Q : State → Prop}
variable {mc ms : Nat} {free : Addr → Prop} {A0 A1 : Nat → Prop} {H0 : Heap} {a : Array Value} {ls : Array Slot} {st0 rest : List Value}
variable {Qc : Array Value → State → Outcome → State → Prop} {XC : String → State → State → Prop}
/-- what a body that may throw owes at its end -/
def vx_MQ (below : List Frame) (Qc : Array Value → State → Outcome → State → Prop) (XC : String → State → State → Prop) (a : Array Value) (s : State) (mc ms : Nat) (free : Addr → Prop) : State → Prop := fun t =>
  ∃ o, t.status = .running ∧ Ended t below o ∧ vx_Q Qc XC mc ms free a s o t
theorem vx_ret {g : JFrame} {mc ms : Nat} (k : W p l e R s m args below meth c H locs cells slots (MQ below Qc args s mc ms free) g) : W p l e R s m args below meth c H locs cells slots (vx_MQ below Qc XC args s mc ms free) g := by
  intro T hT X
  obtain ⟨t, a1, o, b1, b2, b3, b4⟩ := k T hT X
  exact ⟨t, a1, o, b1, b2, Or.inl ⟨b3, b4⟩⟩
/-- not caught here: it goes on to the caller -/
theorem vx_widen {g : JFrame} {q : Addr} {k n : Nat} (h1 : cells ≤ k) (h2 : slots ≤ n) (kk : vx_W p l e R s m args below meth c H locs k n Q g q) : vx_W p l e R s m args below meth c H locs cells slots Q g q := fun T hT X => kk T hT (stand_widen X h1 h2)
theorem vx_out {pc : Nat} {E : String} {ce : Cell} {q : Addr} {mc ms : Nat} (hout : ∀ x ∈ c.exceptionTable.toList, covers x pc = false) (hlocks : meth.locks = false) (hcell : H[q]? = some ce) (hv : ce.vm = .none) (hcl : s.vm.findClass E = some ce.cls)
    (hx : ∀ t : State, t.heap = H → s.vm.Alike t.vm → XC E s t) (hf : ∀ z ∈ locs, free z.base) (hc : cells ≤ mc) (hs : slots ≤ ms) :
    vx_W p l e R s m args below meth c H locs cells slots (vx_MQ below Qc XC args s mc ms free) (F0 m pc ls rest) q := by
  intro T hT X
  obtain ⟨st1, hrun, hend, hW, hsm⟩ := X.leaveThrown q (g := F0 m pc ls rest) rfl rfl rfl hout hlocks
  have hcell9 : (T.setFrames (.throwing q :: below)).heap[q]? = some ce := by
    show T.heap[q]? = some ce
    rw [hT]; exact hcell
  exact ⟨_, st1, .threw q, hrun, hend, Or.inr ⟨q, rfl, E, ce, locs, hx _ hT hW.alike, hcell9, hv, hcl, hW, hsm.mono hc hs, hf⟩⟩
theorem vx_frame {U : State} {k n : Nat} (h : s.sameButNew ({ U with vm := s.vm } : State) locs k n) : s.heap.size ≤ U.heap.size ∧ ∀ q : Nat, q < s.heap.size → (∀ z ∈ locs, z.base ≠ q) → U.heap[q]? = s.heap[q]? := by
  obtain ⟨-, h2, -, -, -, h6⟩ := h
  refine ⟨h2, fun q hq hz => ?_⟩
  obtain ⟨c9, e1, e2, e3, e4⟩ := h6 q _ (Array.getElem?_eq_getElem hq)
  have hs : c9.slots = (s.heap[q]).slots := Array.ext_getElem? fun i => e4 i fun hm => hz _ hm rfl
  have h9 : c9 = s.heap[q] := by
    rw [hs] at e2
    exact e2
  have e5 : U.heap[q]? = some c9 := e1
  rw [e5, h9, Array.getElem?_eq_getElem hq]
/-- the words of a throw but the four that speak of the heap -/
def vx_no (w : Cond) : Bool := decide (w ≠ .isRef (.static Bundle.tN "UNASSIGNED_STACK" Bundle.steD)) && decide (w ≠ .isRef (.static Bundle.tN "SUPPRESSED_SENTINEL" Bundle.listD)) && decide (w ≠ .laysStatic Bundle.tN "UNASSIGNED_STACK" Bundle.steD) && decide (w ≠ .laysStatic Bundle.tN "SUPPRESSED_SENTINEL" Bundle.listD)
def vx_at0 (own : String) (ic : Nat) (X : String) (names : List String) : List Cond := (Bundle.ownAtoms0 own ic X names).filter vx_no
def vx_atS (own : String) (ic : Nat) (X : String) (names : List String) : List Cond := (Bundle.ownAtoms own ic X names).filter vx_no
/-- a word that the tables alone decide, or a good one -/
def vx_ot (w : Cond) : Bool := w.onTables || goodWord w
theorem vx_ot_at {args a' : Array Value} {s U : State} {w : Cond} (hW : s.WarmedH U.vm) (hvm : s.vm = U.vm) (hg : vx_ot w = true) (h : w.before args s = true) : w.before a' U = true := by
  simp only [vx_ot, Bool.or_eq_true] at hg
  rcases hg with hg | hg
  · exact va_tabs hg hvm h
  · exact word_at hW (good_of_word hg) h
/-- a list's words: the good ones out of the method's own list, the others by premises of their own -/
theorem vx_hat {args : Array Value} {s : State} {L B : List Cond} (h1 : ∀ w ∈ L.filter goodWord, w.before args s = true) (h2 : ∀ w ∈ L.filter (fun w => !goodWord w), w ∈ B) (h3 : ∀ w ∈ B, w.before args s = true) : ∀ w ∈ L, w.before args s = true := by
  intro w hw
  by_cases g : goodWord w = true
  · exact h1 w (List.mem_filter.mpr ⟨hw, g⟩)
  · refine h3 w (h2 w (List.mem_filter.mpr ⟨hw, ?_⟩))
    show (!goodWord w) = true
    cases hgw : goodWord w
    · rfl
    · exact absurd hgw g
theorem vx_c {args : Array Value} {s : State} {w : Cond} {B : List Cond} (h : w.before args s = true) (t : ∀ w ∈ B, w.before args s = true) : ∀ w' ∈ w :: B, w'.before args s = true := fun w' h' => (List.mem_cons.mp h').elim (fun e => by rw [e]; exact h) (t w')
theorem vx_n {args : Array Value} {s : State} : ∀ w ∈ ([] : List Cond), w.before args s = true := fun _ h => nomatch h
theorem vx_own {args : Array Value} {s : State} {L : List Cond} (h1 : ∀ w ∈ L.filter vx_no, w.before args s = true)
    (hU : (Cond.isRef (.static Bundle.tN "UNASSIGNED_STACK" Bundle.steD)).before args s = true) (hN : (Cond.isRef (.static Bundle.tN "SUPPRESSED_SENTINEL" Bundle.listD)).before args s = true)
    (lU : (Cond.laysStatic Bundle.tN "UNASSIGNED_STACK" Bundle.steD).before args s = true) (lN : (Cond.laysStatic Bundle.tN "SUPPRESSED_SENTINEL" Bundle.listD).before args s = true) : ∀ w ∈ L, w.before args s = true := by
  intro w hw
  by_cases e1 : w = .isRef (.static Bundle.tN "UNASSIGNED_STACK" Bundle.steD)
  · rw [e1]; exact hU
  · by_cases e2 : w = .isRef (.static Bundle.tN "SUPPRESSED_SENTINEL" Bundle.listD)
    · rw [e2]; exact hN
    · by_cases e3 : w = .laysStatic Bundle.tN "UNASSIGNED_STACK" Bundle.steD
      · rw [e3]; exact lU
      · by_cases e4 : w = .laysStatic Bundle.tN "SUPPRESSED_SENTINEL" Bundle.listD
        · rw [e4]; exact lN
        · exact h1 w (List.mem_filter.mpr ⟨hw, by unfold vx_no; rw [decide_eq_true e1, decide_eq_true e2, decide_eq_true e3, decide_eq_true e4]; rfl⟩)
/-- where a static field lies, its class's statics cell in H -/
def vx_L (C n d : String) (A : Nat → Prop) (U : State) (H : Heap) : Prop := ∃ (c : ClassId) (k : Class) (i : Nat) (f : Field) (a : Nat) (cell : Cell), U.vm.findClass C = some c ∧ U.fieldFound? C n d = some (c, k, i, f) ∧ f.isStatic = true ∧ k.statics = some a ∧ H[a]? = some cell ∧ cell.vm.isStatics = true ∧ cell.cls = c ∧ f.slot < cell.slots.size ∧ k.staticTypes[f.slot]? = some f.type ∧ ¬ A a
theorem vx_L.moved {C n d : String} {A : Nat → Prop} {u U : State} {H : Heap} (hvm : u.vm.Alike U.vm) (h : vx_L C n d A u H) : vx_L C n d A U H := by
  obtain ⟨c, k, i, f, a, cell, h1, h2, h3, h4, h5, h6, h7, h8, h9, h10⟩ := h
  obtain ⟨k', hi', he⟩ := State.fieldFound?_setVm hvm h2
  exact ⟨c, k', i, f, a, cell, by rw [hvm.findClass]; exact h1, hi', h3, by rw [he]; exact h4, h5, h6, h7, h8, by rw [he]; exact h9, h10⟩
theorem vx_L.kept {C n d : String} {A : Nat → Prop} {U : State} {H H1 : Heap} (h : vx_L C n d A U H) (hq : ∀ a : Nat, a < H.size → ¬ A a → H1[a]? = H[a]?) : vx_L C n d A U H1 := by
  obtain ⟨c, k, i, f, a, cell, h1, h2, h3, h4, h5, h6, h7, h8, h9, h10⟩ := h
  exact ⟨c, k, i, f, a, cell, h1, h2, h3, h4, by rw [hq a (Array.getElem?_eq_some_iff.mp h5).1 h10]; exact h5, h6, h7, h8, h9, h10⟩
theorem vx_L.narrow {C n d : String} {A B : Nat → Prop} {U : State} {H : Heap} (h : vx_L C n d A U H) (hAB : ∀ q, B q → A q) : vx_L C n d B U H := by
  obtain ⟨c, k, i, f, a, cell, h1, h2, h3, h4, h5, h6, h7, h8, h9, h10⟩ := h
  exact ⟨c, k, i, f, a, cell, h1, h2, h3, h4, h5, h6, h7, h8, h9, fun z => h10 (hAB _ z)⟩
theorem vx_L.word {C n d : String} {A : Nat → Prop} {s : State} {args : Array Value} (h : vx_L C n d A s s.heap) : (Cond.laysStatic C n d).before args s = true := by
  obtain ⟨c, k, i, f, a, cell, h1, h2, h3, h4, h5, h6, h7, h8, h9, -⟩ := h
  show (Cond.laysStatic C n d).holds args s none s [] = true
  exact Cond.laysStatic_of h1 h2 h3 h4 h5 h6 h7 h8 h9
/-- .. and what it holds: null or some reference -/
def vx_Zq (C n d : String) (A : Nat → Prop) (U : State) (H : Heap) : Prop := va_Zq C n d A U H ∧ vx_L C n d A U H
theorem vx_Zq.moved {C n d : String} {A : Nat → Prop} {u U : State} {H : Heap} (hvm : u.vm.Alike U.vm) (h : vx_Zq C n d A u H) : vx_Zq C n d A U H := ⟨va_Zq.moved hvm h.1, vx_L.moved hvm h.2⟩
theorem vx_Zq.kept {C n d : String} {A : Nat → Prop} {U : State} {H H1 : Heap} (h : vx_Zq C n d A U H) (hq : ∀ a : Nat, a < H.size → ¬ A a → H1[a]? = H[a]?) : vx_Zq C n d A U H1 := ⟨va_Zq.kept h.1 hq, vx_L.kept h.2 hq⟩
theorem vx_Zq.narrow {C n d : String} {A B : Nat → Prop} {U : State} {H : Heap} (h : vx_Zq C n d A U H) (hAB : ∀ q, B q → A q) : vx_Zq C n d B U H := ⟨va_Zq.narrow h.1 hAB, vx_L.narrow h.2 hAB⟩
theorem vx_Zqof {args : Array Value} {s : State} {C n d : String} {A : Nat → Prop} (hl : (Cond.laysStatic C n d).before args s = true) (hini : (Cond.initialized C).before args s = true) (h : (Cond.isRef (.static C n d)).before args s = true) (hA : ∀ a : Nat, a < s.heap.size → ¬ A a) : vx_Zq C n d A s s.heap := by
  refine ⟨va_Zqof hl hini h hA, ?_⟩
  obtain ⟨c, k, i, f, a, cell, h1, h2, h3, h4, h5, h6, h7, h8, h9⟩ := Cond.laysStatic_spec hl
  exact ⟨c, k, i, f, a, cell, h1, h2, h3, h4, h5, h6, h7, h8, h9, hA a (Array.getElem?_eq_some_iff.mp h5).1⟩
theorem vx_isRef {C n d : String} {v : Value} {A : Nat → Prop} {s : State} {args : Array Value} (h : va_Z C n d v A s s.heap) (hv : v.isRef = true) : (Cond.isRef (.static C n d)).before args s = true := by
  obtain ⟨cf, kf, fi, f, a, cell, h1, h2, h3, h4, h5, h6, h7, -⟩ := h
  have he : (Term.static C n d).eval args s none [] s = some v := by
    simp [Term.eval, State.fieldNamed?, h1, h2, h4, h5, h6, h7]
  simp only [Cond.before, Cond.holds, Cond.value, he]
  cases v <;> simp_all [Value.isRef]
theorem vx_isRefq {C n d : String} {A : Nat → Prop} {s : State} {args : Array Value} (h : va_Zq C n d A s s.heap) : (Cond.isRef (.static C n d)).before args s = true := by
  rcases h with h | ⟨t, h⟩
  · exact vx_isRef h rfl
  · exact vx_isRef h rfl
/-- the same frame, seen from here: as if the method were called anew in this heap -/
theorem vx_rebase {T : State} (X : Stand p l e R s m args below meth c T locs cells slots) {R' : Room} (hf : R'.frames ≤ R.frames) (hl : R'.locals ≤ R.locals) (hc : cells + R'.cells ≤ R.cells) (hs : slots + R'.slots ≤ R.slots) :
    Stand p l e R' ((T.setVm s.vm).setFrames (.invoking m args :: below)) m args below meth c T [] 0 0 := by
  have htop : (T.setVm s.vm).topJava?.isSome := X.here.top
  have hF : ((T.setVm s.vm).setFrames (.invoking m args :: below)).frames = .invoking m args :: below := State.frames_setFrames _ (State.cur_lt_of_top htop)
  obtain ⟨g₀, hg0⟩ := Option.isSome_iff_exists.mp htop
  obtain ⟨r, hr⟩ := State.topJava?_eq_some.mp hg0
  have hl9 : e.platform.stackLimits (T.setVm s.vm).me = e.platform.stackLimits s.me := X.limits
  have hb9 : (T.setVm s.vm).me.stackBytes = s.me.stackBytes := X.bytes
  refine ⟨X.admits, X.cas, X.clock, hF, ?_, X.hears, X.method, X.code, X.here, X.tail, X.warmed, ?_, ?_, ?_⟩
  · have h := X.room
    have hU : ((T.setVm s.vm).setFrames (.invoking m args :: below)).localsInUse = s.localsInUse := by
      rw [State.localsInUse_invoking hF (meth := meth) (c := c) X.method X.code, State.localsInUse_invoking X.frames X.method X.code]
    simp only [State.hasRoom, Bool.and_eq_true, decide_eq_true_eq] at h ⊢
    obtain ⟨⟨⟨⟨h1, h2, h3, h4, h5, h6⟩, h7⟩, h8⟩, h9⟩ := h
    rw [X.frames, List.length_cons] at h2 h3
    have q1 := X.heapSize
    have q2 := X.used
    simp only [hF, hU, List.length_cons, State.stackLimits_setFrames, State.stackBytes_setFrames, hl9, hb9]
    refine ⟨⟨⟨⟨by omega, by omega, by omega, by omega, by omega, h6⟩, ?_⟩, ?_⟩, X.book⟩
    · show T.heap.size + R'.cells ≤ e.platform.maxCells
      omega
    · show T.slotsUsed + R'.slots ≤ e.platform.maxSlots
      omega
  · rw [State.stackLimits_setFrames]; rfl
  · rw [State.stackBytes_setFrames]; rfl
  · refine ⟨?_, Nat.le_refl _, Nat.le_refl _, ?_, ?_, fun a c9 h9 => ⟨c9, h9, rfl, rfl, fun _ _ => rfl⟩⟩
    · obtain ⟨t, ht, -⟩ := State.frames_cons hr
      show T.setVm s.vm = { ((T.setVm s.vm).setFrames (.invoking m args :: below)).setFrames (T.setVm s.vm).frames with heap := T.heap, slotsUsed := T.slotsUsed }
      rw [State.setFrames_setFrames, State.setFrames_self ht]
      rfl
    · show T.slotsUsed = T.slotsUsed + ((T.heap.toList.drop T.heap.size).map (·.slots.size)).sum
      rw [List.drop_eq_nil_of_le (Nat.le_of_eq Array.length_toList)]
      rfl
    · show ((T.heap.toList.drop T.heap.size).map (·.slots.size)).sum ≤ 0
      rw [List.drop_eq_nil_of_le (Nat.le_of_eq Array.length_toList)]
      exact Nat.le_refl _
/-- 'throw new E()': new; dup; invokespecial; athrow -/
theorem vx_throw0 {cc : ByteArray} {pc : Nat} (hexec : p.tables.exec = Jvm.exec) (hb : c.code = cc) (hl : l.stackTraces = false) {own cls : String} {names : List String} {ik ic mc ms : Nat} {A : Nat → Prop}
    (hown : s.vm.findClass own = some m.cls) (hcls : Bundle.fit cls = true) (hnames : ∀ n ∈ names, Bundle.fit n = true)
    (hk : (Cond.classLink own ik cls).before args s = true) (hini : (Cond.initialized cls).before args s = true) (hat : ∀ w ∈ vx_at0 own ic cls names, w.before args s = true)
    (hgood : ∀ w ∈ Cond.classLink own ik cls :: Cond.initialized cls :: vx_at0 own ic cls names, vx_ot w = true)
    (hU : vx_Zq Bundle.tN "UNASSIGNED_STACK" Bundle.steD A s s.heap) (hN : vx_Zq Bundle.tN "SUPPRESSED_SENTINEL" Bundle.listD A s s.heap) (hS : va_S A s.heap H locs) (hsize : ls.size = c.maxLocals)
    (d0 : decode cc pc = .ok (.new ik, 3)) (d3 : decode cc (pc + 3) = .ok (.dup, 1)) (d4 : decode cc (pc + 4) = .ok (.invokespecial ic, 3)) (d7 : decode cc (pc + 7) = .ok (.athrow, 1))
    (hout : ∀ x ∈ c.exceptionTable.toList, covers x (pc + 7) = false)
    (hRframes : names.length + 3 < R.frames) (hRlocals : (rest.map fun v => v.category).sum + (13 * (names.length + 1) + 42) ≤ R.locals) (hRcells : cells + 1 ≤ R.cells) (hRslots : slots + 6 ≤ R.slots) (hlocks : meth.locks = false)
    (hx : ∀ t : State, s.vm.Alike t.vm → H.size ≤ t.heap.size → (∀ q : Nat, q < H.size → t.heap[q]? = H[q]?) → XC cls s t)
    (hf : ∀ z ∈ locs, free z.base) (hc : cells + 1 ≤ mc) (hs : slots + 6 ≤ ms) :
    W p l e R s m args below meth c H locs cells slots (vx_MQ below Qc XC args s mc ms free) (F0 m pc ls rest) := by
  intro T hT X
  have htr : e.platform.stackTraces = false := (show e.platform.stackTraces = l.stackTraces by rw [X.admits.platform]).trans hl
  have Y := vx_rebase X (R' := { frames := R.frames, locals := R.locals, cells := 1, slots := 6 }) (Nat.le_refl _) (Nat.le_refl _) hRcells hRslots
  obtain ⟨s', hA⟩ : ∃ z, z = (T.setVm s.vm).setFrames (.invoking m args :: below) := ⟨_, rfl⟩
  rw [← hA] at Y
  have hvm : s'.vm = s.vm := by rw [hA]; rfl
  have hhp : s'.heap = H := by rw [hA]; exact hT
  have hW0 : s.WarmedH s'.vm := by rw [hvm]; exact State.WarmedH.refl s
  have hat' : ∀ w ∈ vx_at0 own ic cls names, w.before args s' = true := fun w hw => vx_ot_at hW0 hvm.symm (hgood w (List.mem_cons_of_mem _ (List.mem_cons_of_mem _ hw))) (hat w hw)
  have hk' : (Cond.classLink own ik cls).before args s' = true := vx_ot_at hW0 hvm.symm (hgood _ List.mem_cons_self) hk
  have hini' : (Cond.initialized cls).before args s' = true := vx_ot_at hW0 hvm.symm (hgood _ (List.mem_cons_of_mem _ List.mem_cons_self)) hini
  have hU' : vx_Zq Bundle.tN "UNASSIGNED_STACK" Bundle.steD A s' s'.heap := by rw [hhp]; exact vx_Zq.moved hW0.alike (hU.kept hS.2.1)
  have hN' : vx_Zq Bundle.tN "SUPPRESSED_SENTINEL" Bundle.listD A s' s'.heap := by rw [hhp]; exact vx_Zq.moved hW0.alike (hN.kept hS.2.1)
  have h : ∀ w ∈ Bundle.ownAtoms0 own ic cls names, w.before args s' = true := vx_own hat' (vx_isRefq hU'.1) (vx_isRefq hN'.1) hU'.2.word hN'.2.word
  have hown' : s'.vm.findClass own = some m.cls := by rw [hvm]; exact hown
  have hins : (Cond.instantiable cls 6).before args s' = true := h _ (by simp [Bundle.ownAtoms0])
  obtain ⟨vm₁, cX, kX, hfX, hkX, -, -, X₁, st1⟩ := Y.newCold hexec (own := own) (C := cls) (index := ik) (n := 6) hown' hk' hins hini'
    (g := F0 m pc ls rest) rfl (by rw [hb]; exact d0) (Nat.le_refl _) (Nat.le_refl _)
  generalize hT1 : (T.setVm vm₁).pushCell { cls := cX, slots := kX.instanceTypes.map defaultValue, vm := .none } = T1 at X₁ st1
  have hcat : (Value.ref T.heap.size).category = 1 := rfl
  have hcellA : T1.heap[T.heap.size]? = some (freshCell cX kX) := by rw [← hT1]; exact State.heap_pushCell_size _ _
  have d3' : decode c.code (pc + 3) = .ok (.dup, 1) := by rw [hb]; exact d3
  obtain ⟨U, hsteps, hrun, hend, hW, hsame, ce, hce, hO⟩ := X₁.ctorThrow0 hexec htr (own := own) (cls := cls) (names := names) (ic := ic) hown' hcls hnames h (fun x hx => nomatch hx) hfX hkX hcellA (by rw [hhp, hT]; exact Nat.le_refl _)
    (g := { method := m, pc := pc + 4, locals := ls, stack := .ref T.heap.size :: .ref T.heap.size :: rest, locked := none }) rfl hsize rfl rfl (rest := rest) rfl
    (by rw [hb]; exact d4) (by rw [hb]; exact d7) hout hRframes (by simp only [List.map_cons, List.sum_cons, hcat]; omega) hlocks
  obtain ⟨f1, f2⟩ := vx_frame hsame
  rw [hhp] at f1 f2
  have hWs : s.WarmedH U.vm := State.WarmedH.trans hW0 hW
  have hcl : s.vm.findClass cls = some ce.cls := by
    have h9 := hO.cls
    rw [hvm] at h9
    exact h9
  have hall : s.sameButNew ({ U with vm := s.vm } : State) locs mc ms := by
    subst hA
    obtain ⟨e1, e2⟩ := hsame
    rw [State.setFrames_setFrames] at e1
    have h2 : (T.setVm s.vm).sameButNew ({ U with vm := s.vm } : State) [] (0 + 1) (0 + 6) := ⟨e1, e2⟩
    have h3 := X.same.trans h2
    rw [List.append_nil] at h3
    exact h3.mono hc hs
  refine ⟨U, ?_, .threw T.heap.size, hrun, hend, Or.inr ⟨T.heap.size, rfl, cls, ce, locs, hx U hWs.alike f1 (fun q hq => f2 q hq (fun z hz => nomatch hz)), hce, hO.vm, hcl, hWs, hall, hf⟩⟩
  refine st1 _ ?_
  show Steps p.tables e below (T1.setTop { method := m, pc := pc + 3, locals := ls, stack := .ref T.heap.size :: rest, locked := none }) _
  jvm_step X₁.here [X₁.here.top, hexec, d3', Value.category]
  exact hsteps
/-- 'throw new E("text")': new; dup; ldc; invokespecial; athrow -/
theorem vx_throwS {cc : ByteArray} {pc : Nat} (hexec : p.tables.exec = Jvm.exec) (hb : c.code = cc) (hl : l.stackTraces = false) {own cls text : String} {names : List String} {ik is ic mc ms sa : Nat} {A : Nat → Prop}
    (hown : s.vm.findClass own = some m.cls) (hcls : Bundle.fit cls = true) (hnames : ∀ n ∈ names, Bundle.fit n = true)
    (hk : (Cond.classLink own ik cls).before args s = true) (hini : (Cond.initialized cls).before args s = true) (hstr : vk_R own is text sa s) (hat : ∀ w ∈ vx_atS own ic cls names, w.before args s = true)
    (hgood : ∀ w ∈ Cond.classLink own ik cls :: Cond.initialized cls :: vx_atS own ic cls names, vx_ot w = true)
    (hU : vx_Zq Bundle.tN "UNASSIGNED_STACK" Bundle.steD A s s.heap) (hN : vx_Zq Bundle.tN "SUPPRESSED_SENTINEL" Bundle.listD A s s.heap) (hS : va_S A s.heap H locs) (hsize : ls.size = c.maxLocals)
    (d0 : decode cc pc = .ok (.new ik, 3)) (d3 : decode cc (pc + 3) = .ok (.dup, 1)) (d4 : decode cc (pc + 4) = .ok (.ldc is, 2)) (d6 : decode cc (pc + 6) = .ok (.invokespecial ic, 3)) (d9 : decode cc (pc + 9) = .ok (.athrow, 1))
    (hout : ∀ x ∈ c.exceptionTable.toList, covers x (pc + 9) = false)
    (hRframes : names.length + 3 < R.frames) (hRlocals : (rest.map fun v => v.category).sum + (13 * (names.length + 1) + 43) ≤ R.locals) (hRcells : cells + 1 ≤ R.cells) (hRslots : slots + 6 ≤ R.slots) (hlocks : meth.locks = false)
    (hx : ∀ t : State, s.vm.Alike t.vm → H.size ≤ t.heap.size → (∀ q : Nat, q < H.size → t.heap[q]? = H[q]?) → XC cls s t)
    (hf : ∀ z ∈ locs, free z.base) (hc : cells + 1 ≤ mc) (hs : slots + 6 ≤ ms) :
    W p l e R s m args below meth c H locs cells slots (vx_MQ below Qc XC args s mc ms free) (F0 m pc ls rest) := by
  intro T hT X
  have htr : e.platform.stackTraces = false := (show e.platform.stackTraces = l.stackTraces by rw [X.admits.platform]).trans hl
  have Y := vx_rebase X (R' := { frames := R.frames, locals := R.locals, cells := 1, slots := 6 }) (Nat.le_refl _) (Nat.le_refl _) hRcells hRslots
  obtain ⟨s', hA⟩ : ∃ z, z = (T.setVm s.vm).setFrames (.invoking m args :: below) := ⟨_, rfl⟩
  rw [← hA] at Y
  have hvm : s'.vm = s.vm := by rw [hA]; rfl
  have hhp : s'.heap = H := by rw [hA]; exact hT
  have hW0 : s.WarmedH s'.vm := by rw [hvm]; exact State.WarmedH.refl s
  have hat' : ∀ w ∈ vx_atS own ic cls names, w.before args s' = true := fun w hw => vx_ot_at hW0 hvm.symm (hgood w (List.mem_cons_of_mem _ (List.mem_cons_of_mem _ hw))) (hat w hw)
  have hk' : (Cond.classLink own ik cls).before args s' = true := vx_ot_at hW0 hvm.symm (hgood _ List.mem_cons_self) hk
  have hini' : (Cond.initialized cls).before args s' = true := vx_ot_at hW0 hvm.symm (hgood _ (List.mem_cons_of_mem _ List.mem_cons_self)) hini
  have hU' : vx_Zq Bundle.tN "UNASSIGNED_STACK" Bundle.steD A s' s'.heap := by rw [hhp]; exact vx_Zq.moved hW0.alike (hU.kept hS.2.1)
  have hN' : vx_Zq Bundle.tN "SUPPRESSED_SENTINEL" Bundle.listD A s' s'.heap := by rw [hhp]; exact vx_Zq.moved hW0.alike (hN.kept hS.2.1)
  have h : ∀ w ∈ Bundle.ownAtoms own ic cls names, w.before args s' = true := vx_own hat' (vx_isRefq hU'.1) (vx_isRefq hN'.1) hU'.2.word hN'.2.word
  have hown' : s'.vm.findClass own = some m.cls := by rw [hvm]; exact hown
  have hins : (Cond.instantiable cls 6).before args s' = true := h _ (by simp [Bundle.ownAtoms])
  obtain ⟨vm₁, cX, kX, hfX, hkX, -, -, X₁, st1⟩ := Y.newCold hexec (own := own) (C := cls) (index := ik) (n := 6) hown' hk' hins hini'
    (g := F0 m pc ls rest) rfl (by rw [hb]; exact d0) (Nat.le_refl _) (Nat.le_refl _)
  generalize hT1 : (T.setVm vm₁).pushCell { cls := cX, slots := kX.instanceTypes.map defaultValue, vm := .none } = T1 at X₁ st1
  have hcat : (Value.ref T.heap.size).category = 1 := rfl
  have hcellA : T1.heap[T.heap.size]? = some (freshCell cX kX) := by rw [← hT1]; exact State.heap_pushCell_size _ _
  have d3' : decode c.code (pc + 3) = .ok (.dup, 1) := by rw [hb]; exact d3
  have d4' : decode c.code (pc + 4) = .ok (.ldc is, 2) := by rw [hb]; exact d4
  have hstr' : vk_R own is text sa s' := vk_R.warm hW0 hstr
  obtain ⟨U, hsteps, hrun, hend, hW, hsame, ce, hce, hO⟩ := X₁.ctorThrowS hexec htr (own := own) (cls := cls) (names := names) (ic := ic) hown' hcls hnames h (fun x hx => nomatch hx) hfX hkX hcellA (by rw [hhp, hT]; exact Nat.le_refl _) (msg := .ref sa) rfl
    (g := { method := m, pc := pc + 6, locals := ls, stack := .ref sa :: .ref T.heap.size :: .ref T.heap.size :: rest, locked := none }) rfl hsize rfl rfl (rest := rest) rfl
    (by rw [hb]; exact d6) (by rw [hb]; exact d9) hout hRframes (by simp only [List.map_cons, List.sum_cons, hcat]; omega) hlocks
  obtain ⟨f1, f2⟩ := vx_frame hsame
  rw [hhp] at f1 f2
  have hWs : s.WarmedH U.vm := State.WarmedH.trans hW0 hW
  have hcl : s.vm.findClass cls = some ce.cls := by
    have h9 := hO.cls
    rw [hvm] at h9
    exact h9
  have hall : s.sameButNew ({ U with vm := s.vm } : State) locs mc ms := by
    subst hA
    obtain ⟨e1, e2⟩ := hsame
    rw [State.setFrames_setFrames] at e1
    have h2 : (T.setVm s.vm).sameButNew ({ U with vm := s.vm } : State) [] (0 + 1) (0 + 6) := ⟨e1, e2⟩
    have h3 := X.same.trans h2
    rw [List.append_nil] at h3
    exact h3.mono hc hs
  refine ⟨U, ?_, .threw T.heap.size, hrun, hend, Or.inr ⟨T.heap.size, rfl, cls, ce, locs, hx U hWs.alike f1 (fun q hq => f2 q hq (fun z hz => nomatch hz)), hce, hO.vm, hcl, hWs, hall, hf⟩⟩
  refine st1 _ ?_
  show Steps p.tables e below (T1.setTop { method := m, pc := pc + 3, locals := ls, stack := .ref T.heap.size :: rest, locked := none }) _
  jvm_step X₁.here [X₁.here.top, hexec, d3', Value.category]
  exact X₁.ldcString hexec (own := own) (text := text) (index := is) (a := sa) hown' hstr'.1 hstr'.2
    (g := { method := m, pc := pc + 4, locals := ls, stack := .ref T.heap.size :: .ref T.heap.size :: rest, locked := none }) rfl d4' _ hsteps
/-- 'throw new E("text")', the text by a wide index -/
theorem vx_throwSW {cc : ByteArray} {pc : Nat} (hexec : p.tables.exec = Jvm.exec) (hb : c.code = cc) (hl : l.stackTraces = false) {own cls text : String} {names : List String} {ik is ic mc ms sa : Nat} {A : Nat → Prop}
    (hown : s.vm.findClass own = some m.cls) (hcls : Bundle.fit cls = true) (hnames : ∀ n ∈ names, Bundle.fit n = true)
    (hk : (Cond.classLink own ik cls).before args s = true) (hini : (Cond.initialized cls).before args s = true) (hstr : vk_R own is text sa s) (hat : ∀ w ∈ vx_atS own ic cls names, w.before args s = true)
    (hgood : ∀ w ∈ Cond.classLink own ik cls :: Cond.initialized cls :: vx_atS own ic cls names, vx_ot w = true)
    (hU : vx_Zq Bundle.tN "UNASSIGNED_STACK" Bundle.steD A s s.heap) (hN : vx_Zq Bundle.tN "SUPPRESSED_SENTINEL" Bundle.listD A s s.heap) (hS : va_S A s.heap H locs) (hsize : ls.size = c.maxLocals)
    (d0 : decode cc pc = .ok (.new ik, 3)) (d3 : decode cc (pc + 3) = .ok (.dup, 1)) (d4 : decode cc (pc + 4) = .ok (.ldc_w is, 3)) (d7 : decode cc (pc + 7) = .ok (.invokespecial ic, 3)) (d10 : decode cc (pc + 10) = .ok (.athrow, 1))
    (hout : ∀ x ∈ c.exceptionTable.toList, covers x (pc + 10) = false)
    (hRframes : names.length + 3 < R.frames) (hRlocals : (rest.map fun v => v.category).sum + (13 * (names.length + 1) + 43) ≤ R.locals) (hRcells : cells + 1 ≤ R.cells) (hRslots : slots + 6 ≤ R.slots) (hlocks : meth.locks = false)
    (hx : ∀ t : State, s.vm.Alike t.vm → H.size ≤ t.heap.size → (∀ q : Nat, q < H.size → t.heap[q]? = H[q]?) → XC cls s t)
    (hf : ∀ z ∈ locs, free z.base) (hc : cells + 1 ≤ mc) (hs : slots + 6 ≤ ms) :
    W p l e R s m args below meth c H locs cells slots (vx_MQ below Qc XC args s mc ms free) (F0 m pc ls rest) := by
  intro T hT X
  have htr : e.platform.stackTraces = false := (show e.platform.stackTraces = l.stackTraces by rw [X.admits.platform]).trans hl
  have Y := vx_rebase X (R' := { frames := R.frames, locals := R.locals, cells := 1, slots := 6 }) (Nat.le_refl _) (Nat.le_refl _) hRcells hRslots
  obtain ⟨s', hA⟩ : ∃ z, z = (T.setVm s.vm).setFrames (.invoking m args :: below) := ⟨_, rfl⟩
  rw [← hA] at Y
  have hvm : s'.vm = s.vm := by rw [hA]; rfl
  have hhp : s'.heap = H := by rw [hA]; exact hT
  have hW0 : s.WarmedH s'.vm := by rw [hvm]; exact State.WarmedH.refl s
  have hat' : ∀ w ∈ vx_atS own ic cls names, w.before args s' = true := fun w hw => vx_ot_at hW0 hvm.symm (hgood w (List.mem_cons_of_mem _ (List.mem_cons_of_mem _ hw))) (hat w hw)
  have hk' : (Cond.classLink own ik cls).before args s' = true := vx_ot_at hW0 hvm.symm (hgood _ List.mem_cons_self) hk
  have hini' : (Cond.initialized cls).before args s' = true := vx_ot_at hW0 hvm.symm (hgood _ (List.mem_cons_of_mem _ List.mem_cons_self)) hini
  have hU' : vx_Zq Bundle.tN "UNASSIGNED_STACK" Bundle.steD A s' s'.heap := by rw [hhp]; exact vx_Zq.moved hW0.alike (hU.kept hS.2.1)
  have hN' : vx_Zq Bundle.tN "SUPPRESSED_SENTINEL" Bundle.listD A s' s'.heap := by rw [hhp]; exact vx_Zq.moved hW0.alike (hN.kept hS.2.1)
  have h : ∀ w ∈ Bundle.ownAtoms own ic cls names, w.before args s' = true := vx_own hat' (vx_isRefq hU'.1) (vx_isRefq hN'.1) hU'.2.word hN'.2.word
  have hown' : s'.vm.findClass own = some m.cls := by rw [hvm]; exact hown
  have hins : (Cond.instantiable cls 6).before args s' = true := h _ (by simp [Bundle.ownAtoms])
  obtain ⟨vm₁, cX, kX, hfX, hkX, -, -, X₁, st1⟩ := Y.newCold hexec (own := own) (C := cls) (index := ik) (n := 6) hown' hk' hins hini'
    (g := F0 m pc ls rest) rfl (by rw [hb]; exact d0) (Nat.le_refl _) (Nat.le_refl _)
  generalize hT1 : (T.setVm vm₁).pushCell { cls := cX, slots := kX.instanceTypes.map defaultValue, vm := .none } = T1 at X₁ st1
  have hcat : (Value.ref T.heap.size).category = 1 := rfl
  have hcellA : T1.heap[T.heap.size]? = some (freshCell cX kX) := by rw [← hT1]; exact State.heap_pushCell_size _ _
  have d3' : decode c.code (pc + 3) = .ok (.dup, 1) := by rw [hb]; exact d3
  have d4' : decode c.code (pc + 4) = .ok (.ldc_w is, 3) := by rw [hb]; exact d4
  have hstr' : vk_R own is text sa s' := vk_R.warm hW0 hstr
  obtain ⟨U, hsteps, hrun, hend, hW, hsame, ce, hce, hO⟩ := X₁.ctorThrowS hexec htr (own := own) (cls := cls) (names := names) (ic := ic) hown' hcls hnames h (fun x hx => nomatch hx) hfX hkX hcellA (by rw [hhp, hT]; exact Nat.le_refl _) (msg := .ref sa) rfl
    (g := { method := m, pc := pc + 7, locals := ls, stack := .ref sa :: .ref T.heap.size :: .ref T.heap.size :: rest, locked := none }) rfl hsize rfl rfl (rest := rest) rfl
    (by rw [hb]; exact d7) (by rw [hb]; exact d10) hout hRframes (by simp only [List.map_cons, List.sum_cons, hcat]; omega) hlocks
  obtain ⟨f1, f2⟩ := vx_frame hsame
  rw [hhp] at f1 f2
  have hWs : s.WarmedH U.vm := State.WarmedH.trans hW0 hW
  have hcl : s.vm.findClass cls = some ce.cls := by
    have h9 := hO.cls
    rw [hvm] at h9
    exact h9
  have hall : s.sameButNew ({ U with vm := s.vm } : State) locs mc ms := by
    subst hA
    obtain ⟨e1, e2⟩ := hsame
    rw [State.setFrames_setFrames] at e1
    have h2 : (T.setVm s.vm).sameButNew ({ U with vm := s.vm } : State) [] (0 + 1) (0 + 6) := ⟨e1, e2⟩
    have h3 := X.same.trans h2
    rw [List.append_nil] at h3
    exact h3.mono hc hs
  refine ⟨U, ?_, .threw T.heap.size, hrun, hend, Or.inr ⟨T.heap.size, rfl, cls, ce, locs, hx U hWs.alike f1 (fun q hq => f2 q hq (fun z hz => nomatch hz)), hce, hO.vm, hcl, hWs, hall, hf⟩⟩
  refine st1 _ ?_
  show Steps p.tables e below (T1.setTop { method := m, pc := pc + 3, locals := ls, stack := .ref T.heap.size :: rest, locked := none }) _
  jvm_step X₁.here [X₁.here.top, hexec, d3', Value.category]
  exact X₁.ldcStringW hexec (own := own) (text := text) (index := is) (a := sa) hown' hstr'.1 hstr'.2
    (g := { method := m, pc := pc + 4, locals := ls, stack := .ref T.heap.size :: .ref T.heap.size :: rest, locked := none }) rfl d4' _ hsteps
end Ends
section Bodies
variable {l : Launch}
theorem vx_ofW {y : MethodName} {ws ws' : List Cond} {rm : Room} {Pc : Array Value → State → Prop} {Qc : Array Value → State → Outcome → State → Prop} {XC : String → State → State → Prop} {mc ms : Nat} {free : Addr → Prop} {cc : ByteArray} {maxL : Nat} {ret : Option FieldType}
    (hy : plainName y.cls = true) (hw : ws = Cond.code y cc maxL ret :: ws')
    (body : ∀ p e s m args below meth c s₁, BodyLoose p l y (headSpec ws rm) cc maxL ret e s m args below meth c s₁ → c.maxLocals = maxL → (∀ x ∈ c.exceptionTable.toList, False) → Pc args s →
      W p l e (headSpec ws rm).room s m args below meth c s.heap [] 0 0 (vx_MQ below Qc XC args s mc ms free) (entryFrame m args maxL)) : vx_Met l y ws rm Pc Qc XC mc ms free := by
  refine MetFree.of_bodyS (code := cc) (maxLocals := maxL) (ret := ret) hy ?_ ?_
  · intro args s m h hn
    obtain ⟨meth, c, h1, h2, h3, h4, h5, h6, -, -⟩ := Cond.code_spec hn (atoms_spec (ws := ws) h _ (by rw [hw]; exact List.mem_cons_self))
    exact ⟨meth, c, h1, h2, h3, h4, h5, h6⟩
  · intro p e s m args below meth c s₁ B hml hP _
    have hh0 : s₁.heap = s.heap := by rw [B.state]; rfl
    have ht : ∀ x ∈ c.exceptionTable.toList, False := by
      obtain ⟨meth9, c9, h1, h2, -, -, -, -, h7, -⟩ := Cond.code_spec B.named (atoms_spec (ws := ws) B.pre _ (by rw [hw]; exact List.mem_cons_self))
      cases Option.some.inj (h1.symm.trans B.method)
      cases Option.some.inj (h2.symm.trans (Stand.of_body B).code)
      intro x hx
      rw [Array.isEmpty_iff.mp h7] at hx
      cases hx
    obtain ⟨t, a1, o, b1, b2, b3⟩ := body p e s m args below meth c s₁ B hml ht hP s₁ hh0 (Stand.of_body B)
    exact ⟨t, o, a1, b1, b2, b3⟩
/-- the table of a body with handlers -/
theorem vx_table {p : Program} {x y : MethodName} {S : Spec} {cc bytes : ByteArray} {maxL maxL' : Nat} {ret ret' : Option FieldType} {e : Env} {s s₁ : State} {m : MethodId} {args : Array Value} {below : List Frame} {meth : Method} {c : Code} {hh : List (Nat × Nat × Nat × Nat)}
    (B : BodyLoose p l y S cc maxL ret e s m args below meth c s₁) (h : (Cond.codeWith y bytes maxL' ret' hh).before args s = true) : c.exceptionTable.toList = tableOf hh := by
  obtain ⟨m9, meth9, c9, hn9, h1, h2, -, -, h6, -⟩ := Cond.codeWith_spec h
  cases Option.some.inj (hn9.symm.trans B.named)
  cases Option.some.inj (h1.symm.trans B.method)
  cases Option.some.inj (h2.symm.trans (Stand.of_body B).code)
  rw [← h6, table_eq]
end Bodies
end VXA
/-! ===== END ===== -/
/-! ===== BEGIN a static call of a method with an exception table ===== -/
section VXS
variable {p : Program} {l : Launch} {e : Env} {R : Room} {s : State} {m : MethodId} {args : Array Value} {below : List Frame} {meth : Method} {c : Code} {T : State} {H : Heap} {locs : List Loc} {cells slots : Nat}
abbrev vx_CSW (R : Room) (s : State) (args : Array Value) (own : String) (index : Nat) (y : MethodName) (bytes : ByteArray) (maxL : Nat) (ret : Option FieldType) (hh : List (Nat × Nat × Nat × Nat)) (ws : List Cond) (rm : Room) (mc ms n : Nat) : Prop :=
  (rm.cells = mc ∧ rm.slots = ms ∧ rm.frames + 1 ≤ R.frames ∧ 8 + (maxL + 11) + rm.locals ≤ R.locals ∧ (∀ w ∈ ws, ∀ (a' : Array Value) (U : State), s.WarmedH U.vm → w.before a' U = true) ∧ Cond.codeWith y bytes maxL ret hh ∈ ws) ∧
  (Cond.codeWith y bytes maxL ret hh).before args s = true ∧ (Cond.initialized y.cls).before args s = true ∧ (y.cls ≠ "java/lang/invoke/MethodHandle" ∧ y.cls ≠ "java/lang/invoke/VarHandle") ∧
  (∀ sig, parseMethodDescriptor y.desc = some sig → n = sig.parameters.length) ∧ (Cond.methodLink own index y).before args s = true ∧ (Cond.static y).before args s = true
theorem vx_cwSW {own : String} {index maxL mc ms : Nat} {y : MethodName} {bytes : ByteArray} {ret : Option FieldType} {hh : List (Nat × Nat × Nat × Nat)} {Ts ws ws' : List Cond} {rm : Room} (n : Nat) (ht : ∀ w ∈ Ts, w.before args s = true) (hT : GoodIn Ts (va_wsS own index y ws)) (hw : ws = Cond.codeWith y bytes maxL ret hh :: ws') (hrc : rm.cells = mc) (hrs : rm.slots = ms)
    (hd : y.cls ≠ "java/lang/invoke/MethodHandle" ∧ y.cls ≠ "java/lang/invoke/VarHandle" ∧ (parseMethodDescriptor y.desc).map (fun d => d.parameters.length) = some n) (hR : rm.frames + 1 ≤ R.frames ∧ 8 + (maxL + 11) + rm.locals ≤ R.locals) :
    vx_CSW R s args own index y bytes maxL ret hh ws rm mc ms n := by
  have ok : ∀ w ∈ va_wsS own index y ws, w.before args s = true := fun w h => ht w (hT w h).1
  have hG : GoodIn Ts ws := fun w h => hT w (by unfold va_wsS; exact List.mem_append_right _ h)
  have hc : Cond.codeWith y bytes maxL ret hh ∈ ws := by rw [hw]; exact List.mem_cons_self
  refine ⟨⟨hrc, hrs, hR.1, hR.2, pay_in ht hG, hc⟩, ht _ (hG _ hc).1, ok _ (by simp [va_wsS]), ⟨hd.1, hd.2.1⟩, fun sig h => ?_, ok _ (by simp [va_wsS]), ok _ (by simp [va_wsS])⟩
  have h2 := hd.2.2
  rw [h] at h2
  exact (Option.some.inj h2).symm
theorem vx_callSW (X : Stand p l e R s m args below meth c T locs cells slots) (hexec : p.tables.exec = Jvm.exec) {own : String} {index : Nat} {y : MethodName} {bytes : ByteArray} {maxL : Nat} {ret : Option FieldType} {hh : List (Nat × Nat × Nat × Nat)}
    (hown : s.vm.findClass own = some m.cls) (hlink : (Cond.methodLink own index y).before args s = true) (hstat : (Cond.static y).before args s = true) (hinit : (Cond.initialized y.cls).before args s = true)
    (hcode : (Cond.codeWith y bytes maxL ret hh).before args s = true) (hy : y.cls ≠ "java/lang/invoke/MethodHandle" ∧ y.cls ≠ "java/lang/invoke/VarHandle")
    {W9 : Nat} {Pre : Pt → Array Value → Prop} {Post : Pt → Array Value → Option Value → Pt → Prop} (hK : Back l R p e below s args y 3 W9 Pre Post)
    {g : JFrame} (hg : g.method = m) (hsize : g.locals.size = c.maxLocals) {argsL rest : List Value} (hlen : ∀ sig, parseMethodDescriptor y.desc = some sig → argsL.length = sig.parameters.length)
    (hstack : g.stack = argsL.reverse ++ rest) (hW : 2 * g.monitorRoom + (rest.map fun v => v.category).sum ≤ W9) (hdg : decode c.code g.pc = .ok (.invokestatic index, 3))
    (hpre : ∀ vm₁, s.WarmedH vm₁ → Pre ⟨T.setVm vm₁, locs, cells, slots⟩ argsL.toArray) :
    ∃ (v : Option Value) (vm₁ : Vm) (B : Pt), s.WarmedH vm₁ ∧ Stand p l e R s m args below meth c B.U B.locs B.cells B.slots ∧ Post ⟨T.setVm vm₁, locs, cells, slots⟩ argsL.toArray v B ∧
      ∀ target, Steps p.tables e below (B.U.setTop { g with pc := g.pc + 3, stack := v.toList ++ rest }) target → Steps p.tables e below (T.setTop g) target := by
  obtain ⟨mk, methM, cM, hnamed, hmethM, -, -, -, -, -, -, hsigM⟩ := Cond.codeWith_spec hcode
  have hstatic : methM.isStatic = true := Cond.static_spec hnamed hmethM hstat
  obtain ⟨kP, hkP, -⟩ := className_of_methodNamed hnamed
  have hinitP : kP.init = .initialized := Cond.initialized_spec (findClass_of_methodNamed hnamed) hkP hinit
  obtain ⟨vm₁, X₁, hstep₁⟩ := X.invokestatic hexec hown hlink hnamed hmethM hstatic hkP hinitP hy (g := g) hg (argsL := argsL) (rest := rest) (hlen _ hsigM) hstack hdg
  obtain ⟨v, B, X', hpost, hsteps⟩ := hK m meth c ⟨T.setVm vm₁, locs, cells, slots⟩ { g with stack := rest } (.invokestatic index) mk argsL.toArray X₁ hg hsize hdg hW (X₁.named hnamed) (hpre vm₁ X₁.warmed)
  exact ⟨v, vm₁, B, X₁.warmed, X', hpost, fun target h => hstep₁ _ fun acts => by rw [doInvoke_state]; exact hsteps.trans h⟩
theorem vx_runSW {y : MethodName} {bytes cc : ByteArray} {maxL nL mc ms n index : Nat} {ret : Option FieldType} {hh : List (Nat × Nat × Nat × Nat)} {ws : List Cond} {rm : Room} {Pc : Array Value → State → Prop} {Qc : Array Value → State → Outcome → State → Prop} {free : Addr → Prop} {Ts : List Cond} {own : String} {As rest : List Value} {g : JFrame}
    (S : CallFix p m c cc nL s args Ts own) (hM : Met l y ws rm Pc Qc mc ms free) (cw : vx_CSW R s args own index y bytes maxL ret hh ws rm mc ms n) (hp : PreS s H Pc As)
    (hg : g.method = m) (hn : As.length = n) (hsize : g.locals.size = nL) (hstack : g.stack = As.reverse ++ rest) (hW : 2 * g.monitorRoom + (rest.map fun v => v.category).sum ≤ 8) (hdg : decode cc g.pc = .ok (.invokestatic index, 3)) (hf : cells + mc ≤ R.cells ∧ slots + ms ≤ R.slots) :
    va_Run p l e R s m args below meth c H locs cells slots mc ms g rest (Qc As.toArray) (free) := by
  obtain ⟨⟨hrc, hrs, hfr, hlo, hws, hcw⟩, hcode, hini, hy, hlen, hl, hstt⟩ := cw
  have hK : Back l R p e below s args y 3 8 (PreOf R mc ms Pc) (PostOf Qc mc ms free) := va_backW (hh := hh) (bytes := bytes) (maxL := maxL) (ret := ret) hM hp.1 hrc hrs hfr hlo hws hcw (fun a' U hW => word_at hW (Or.inl (by first | rfl | simp [Cond.onTables, Cond.keeps, Cond.steady])) hini)
  obtain ⟨hx, hb, hml, ho, -⟩ := S
  intro T hT X
  obtain ⟨v, vm₁, ⟨U', l2, c2, s2⟩, hW₁, X', ⟨g', mk, t, L, e1, e2, hq, h1, hL, h2, h3⟩, st⟩ := vx_callSW X hx (hh := hh) (bytes := bytes) (maxL := maxL) (ret := ret) ho hl hstt hini hcode hy hK hg (hsize.trans hml.symm) (argsL := As) (rest := rest) (fun sig h => hn.trans (hlen sig h)) hstack hW (by rw [hb]; exact hdg)
    (fun vm₁ hW₁ => ⟨hf.1, hf.2, hp.2 (T.setVm vm₁) hT hW₁⟩)
  dsimp only [Pt.U, Pt.locs, Pt.cells, Pt.slots] at X' e1 e2 h1 h2 h3 st
  subst h1; subst h2; subst h3
  exact ⟨v, (T.setVm vm₁).calling g' mk As.toArray, t, U', L, hT, X', hL, e1, e2, hq, st⟩
/-- not caught here, past rows that name other classes: it goes on to the caller -/
theorem vx_outP {p : Program} {l : Launch} {e : Env} {R : Room} {s : State} {m : MethodId} {args : Array Value} {below : List Frame} {meth : Method} {c : Code} {H : Heap} {locs : List Loc} {cells slots : Nat} {free : Addr → Prop} {ls : Array Slot} {rest : List Value} {Qc : Array Value → State → Outcome → State → Prop} {XC : String → State → State → Prop}
    {pc : Nat} {own E : String} {ce : Cell} {q : Addr} {mc ms : Nat} (hown : s.vm.findClass own = some m.cls) (hlocks : meth.locks = false)
    (hpass : ∀ z ∈ c.exceptionTable.toList, covers z pc = false ∨ (z.catchType ≠ 0 ∧ ∃ nm : String, (Cond.classLink own z.catchType nm).before args s = true ∧ va_Nc E nm s)) (hcell : H[q]? = some ce) (hv : ce.vm = .none) (hcl : s.vm.findClass E = some ce.cls)
    (hx : ∀ t : State, t.heap = H → s.vm.Alike t.vm → XC E s t) (hf : ∀ z ∈ locs, free z.base) (hc : cells ≤ mc) (hs : slots ≤ ms) :
    vx_W p l e R s m args below meth c H locs cells slots (vx_MQ below Qc XC args s mc ms free) (F0 m pc ls rest) q := by
  intro T hT X
  have hpl : e.platform.magicAccessors = ({} : Platform).magicAccessors := by rw [X.admits.platform]
  obtain ⟨vm', hW', X', st⟩ := X.outThrough hlocks q (g := F0 m pc ls rest) rfl rfl rfl (cell := ce) (by rw [hT]; exact hcell) (by rw [hv]; rfl)
    (by obtain ⟨k9, h9, -⟩ := Vm.findClass_spec hcl; exact ⟨k9, h9⟩) (fun z hz => by
      rcases hpass z hz with h | ⟨hz0, nm, hl1, hn1⟩
      · exact Or.inl h
      · obtain ⟨c6, hc6, hcl6⟩ := Cond.classLink_spec hown hl1 e.platform hpl
        obtain ⟨a8, b8, h1, h2, h3⟩ := hn1
        cases Option.some.inj (h1.symm.trans hcl)
        cases Option.some.inj (h2.symm.trans hc6)
        exact Or.inr ⟨hz0, _, hcl6, h3⟩)
  obtain ⟨g₀, hfr⟩ := X'.frames_eq
  have hcell9 : ((T.setVm vm').setFrames (.throwing q :: below)).heap[q]? = some ce := by
    show T.heap[q]? = some ce
    rw [hT]; exact hcell
  have hend : Ended ((T.setVm vm').setFrames (.throwing q :: below)) below (.threw q) := State.frames_setFrames _ (State.cur_lt_of_frames hfr)
  refine ⟨(T.setVm vm').setFrames (.throwing q :: below), ?_, .threw q, X'.here.running, hend, Or.inr ⟨q, rfl, E, ce, locs, hx _ hT (X'.ends _).1.alike, hcell9, hv, hcl, (X'.ends _).1, (X'.ends _).2.mono hc hs, hf⟩⟩
  rw [X.pushThrowing_eq]
  exact st
/-- a thing of a world lies in the heap -/
theorem vx_lt {D : va_G} {cl : List vw_C} {ws : va_W} {H1 : Heap} (h : va_P D cl ws H1) {k : Nat} {q : Nat × va_E} (hk : ws[k]? = some q) : q.1 < H1.size := (h k q hk).lt
end VXS
/-! ===== END ===== -/
/-! ===== BEGIN methods with a table of their own: called by a name, returning or throwing ===== -/
section VXH
/-! vx_backW, vx_callVX, vx_callSX, vx_callVW, vx_runVW, vx_runVX, vx_runSX, vx_ofWH follow the same proofs as their sisters above (Free/Laws.lean, Shelf42/LK1.lean); vx_outP calls Shelf42/NT130.lean (outThrough). -/
section
variable {l : Launch} {R : Room} {p : Program} {e : Env} {below : List Frame} {s : State} {sargs : Array Value} {y : MethodName} {len W9 : Nat}
theorem vx_backW {ws : List Cond} {rm : Room} {Pc : Array Value → State → Prop} {Qc : Array Value → State → Outcome → State → Prop} {XC : String → State → State → Prop} {mc ms : Nat} {free : Addr → Prop} {bytes : ByteArray} {maxL : Nat} {ret : Option FieldType} {hh : List (Nat × Nat × Nat × Nat)}
    (hM : vx_Met l y ws rm Pc Qc XC mc ms free) (hblind : FrameBlind Pc) (hrc : rm.cells = mc) (hrs : rm.slots = ms)
    (hframes : rm.frames + 1 ≤ R.frames) (hlocals : W9 + (maxL + 11) + rm.locals ≤ R.locals)
    (hws : ∀ w ∈ ws, ∀ a' U, s.WarmedH U.vm → w.before a' U = true) (hcode : Cond.codeWith y bytes maxL ret hh ∈ ws) (hinit : ∀ a' U, s.WarmedH U.vm → (Cond.initialized y.cls).before a' U = true) :
    vx_Back l R p e below s sargs y len W9 (PreOf R mc ms Pc) (PostOf Qc mc ms free) (vx_Post XC mc ms free) := by
  intro m meth c A g ig mk a X hg hsize hdg hW hn hp
  have h1 : (headSpec ws rm).pre.before a A.U = true := atoms_intro fun w hw => hws w hw _ _ X.warmed
  have h2 : (Cond.codeWith y bytes maxL ret hh).before a A.U = true := hws _ hcode _ _ X.warmed
  have h3 : (Cond.initialized y.cls).before a A.U = true := hinit _ _ X.warmed
  have h4 : A.cells + (headSpec ws rm).room.cells ≤ R.cells := by rw [show (headSpec ws rm).room.cells = mc from hrc]; exact hp.1
  have h5 : A.slots + (headSpec ws rm).room.slots ≤ R.slots := by rw [show (headSpec ws rm).room.slots = ms from hrs]; exact hp.2.1
  have hPc : Pc a (A.U.calling g mk a) := hblind _ _ _ _ hp.2.2
  obtain ⟨U, Ls, c0, s0⟩ := A
  dsimp only [Pt.U, Pt.locs, Pt.cells, Pt.slots] at h1 h2 h3 h4 h5 X hn hPc ⊢
  obtain ⟨m9, methY, cY, hn9, hmY, hcY, -, hlY, -⟩ := Cond.codeWith_spec h2
  cases Option.some.inj (hn9.symm.trans hn)
  obtain ⟨kY, hkY, -⟩ := className_of_methodNamed hn
  have hinitY : kY.init = .initialized := Cond.initialized_spec (findClass_of_methodNamed hn) hkY h3
  have h : At U g.method c below := by rw [hg]; exact X.here
  have hlocals9 : W9 + (maxL + 11) + (headSpec ws rm).room.locals ≤ R.locals := hlocals
  have happ : (headSpec ws rm).appliesLoose y e.platform (U.calling g mk a) = true :=
    Spec.appliesLoose_calling (g := g) h hdg hn hkY hinitY
      (X.room_calling (g := g) (R' := (headSpec ws rm).room) hsize hmY hcY hframes (by rw [hlY]; omega) h4 h5) h1
  obtain ⟨mid, hmid⟩ := h.above
  have hfr : (U.setTop g).frames = (.java g :: mid) ++ below := by rw [State.frames_setTop' g h.top, hmid]; rfl
  obtain ⟨o, s₂, hsteps, -, hend, hq⟩ := Steps.callFree hM p X.admits X.cas X.clock (acts := []) hfr happ hPc trivial
  have hq' : vx_Q Qc XC mc ms free a (U.calling g mk a) o s₂ := hq
  rw [State.frames_setTop' g h.top] at hend
  obtain ⟨g₀, hg0⟩ := Option.isSome_iff_exists.mp h.top
  obtain ⟨r, hr⟩ := State.topJava?_eq_some.mp hg0
  have hr' : (({ U with heap := s₂.heap, slotsUsed := s₂.slotsUsed } : State).setVm s₂.vm).frames = .java g₀ :: r := hr
  rcases hq' with ⟨hqc, L, hfe, hL⟩ | ⟨q, rfl, E, ce, L, hx, hce, hcv, hcl, hW₂, hsm, hL⟩
  · obtain ⟨⟨v, rfl⟩, hW₂, e2, q2, q3, q4, q5, q6⟩ := id hfe
    have e3 : s₂ = ({ (U.calling g mk a).setFrames s₂.frames with heap := s₂.heap, slotsUsed := s₂.slotsUsed } : State).setVm s₂.vm := by
      have : s₂ = ({ s₂ with vm := (U.calling g mk a).vm } : State).setVm s₂.vm := rfl
      rw [e2] at this
      exact this
    obtain ⟨c₂, i₂, len₂, hc₂, hd₂, hf₂⟩ := hend
    have hW' : U.WarmedH s₂.vm := hW₂
    have hcc : c₂ = c := by
      have h1 : s₂.code? g.method = U.code? g.method := by
        rw [State.code?_eq, State.code?_eq, hW'.alike.method?]
      exact Option.some.inj (hc₂.symm.trans (h1.trans h.code))
    subst hcc
    have hlen : len₂ = len := by rw [hdg] at hd₂; cases hd₂; rfl
    subst hlen
    have hs₂ : s₂ = (({ U with heap := s₂.heap, slotsUsed := s₂.slotsUsed } : State).setVm s₂.vm).setTop { g with pc := g.pc + len₂, stack := v.toList ++ g.stack } := by
      refine e3.trans ?_
      rw [hf₂, State.calling_eq h.top, State.setFrames_setFrames, State.setTop_of_frames _ hr', hr]
      rfl
    have hsame : U.sameButNew ({ U with heap := s₂.heap, slotsUsed := s₂.slotsUsed } : State) L mc ms := by
      refine ⟨?_, q2, q3, q4, q5, q6⟩
      obtain ⟨t, ht, -⟩ := State.frames_cons hr
      show ({ U with heap := s₂.heap, slotsUsed := s₂.slotsUsed } : State) = { U.setFrames U.frames with heap := s₂.heap, slotsUsed := s₂.slotsUsed }
      rw [State.setFrames_self ht]
    subst hg
    refine Or.inl ⟨v, ⟨(({ U with heap := s₂.heap, slotsUsed := s₂.slotsUsed } : State).setVm s₂.vm), Ls ++ L, c0 + mc, s0 + ms⟩,
      ⟨X.admits, X.cas, X.clock, X.frames, X.room, X.hears, X.method, X.code, (X.here.setHeapUsed s₂.heap s₂.slotsUsed).setVm hW'.alike, X.tail, State.WarmedH.trans X.warmed hW', X.limits, X.bytes, X.same.trans (hsame.setVm s.vm)⟩,
      ⟨g, mk, s₂, L, rfl, rfl, hqc, rfl, hL, rfl, rfl⟩, ?_⟩
    show Steps p.tables e below _ ((({ U with heap := s₂.heap, slotsUsed := s₂.slotsUsed } : State).setVm s₂.vm).setTop { g with pc := g.pc + len₂, stack := v.toList ++ g.stack })
    rw [← hs₂]
    exact hsteps
  · obtain ⟨e2, q2, q3, q4, q5, q6⟩ := id hsm
    have e3 : s₂ = ({ (U.calling g mk a).setFrames s₂.frames with heap := s₂.heap, slotsUsed := s₂.slotsUsed } : State).setVm s₂.vm := by
      have : s₂ = ({ s₂ with vm := (U.calling g mk a).vm } : State).setVm s₂.vm := rfl
      rw [e2] at this
      exact this
    have hf₂ : s₂.frames = .throwing q :: .java g :: U.frames.tail := hend
    have hW' : U.WarmedH s₂.vm := hW₂
    have hs₂ : s₂ = ((({ U with heap := s₂.heap, slotsUsed := s₂.slotsUsed } : State).setVm s₂.vm).setTop g).pushFrame (.throwing q) := by
      refine e3.trans ?_
      rw [hf₂, State.calling_eq h.top, State.setFrames_setFrames, State.pushFrame, State.frames_setTop _ hr', State.setTop_of_frames _ hr', State.setFrames_setFrames, hr]
      rfl
    have hsame : U.sameButNew ({ U with heap := s₂.heap, slotsUsed := s₂.slotsUsed } : State) L mc ms := by
      refine ⟨?_, q2, q3, q4, q5, q6⟩
      obtain ⟨t, ht, -⟩ := State.frames_cons hr
      show ({ U with heap := s₂.heap, slotsUsed := s₂.slotsUsed } : State) = { U.setFrames U.frames with heap := s₂.heap, slotsUsed := s₂.slotsUsed }
      rw [State.setFrames_self ht]
    subst hg
    refine Or.inr ⟨q, ⟨(({ U with heap := s₂.heap, slotsUsed := s₂.slotsUsed } : State).setVm s₂.vm), Ls ++ L, c0 + mc, s0 + ms⟩,
      ⟨X.admits, X.cas, X.clock, X.frames, X.room, X.hears, X.method, X.code, (X.here.setHeapUsed s₂.heap s₂.slotsUsed).setVm hW'.alike, X.tail, State.WarmedH.trans X.warmed hW', X.limits, X.bytes, X.same.trans (hsame.setVm s.vm)⟩,
      ⟨g, mk, s₂, L, E, ce, rfl, rfl, hx, hce, hcv, hcl, rfl, hL, rfl, rfl⟩, ?_⟩
    show Steps p.tables e below _ (((({ U with heap := s₂.heap, slotsUsed := s₂.slotsUsed } : State).setVm s₂.vm).setTop g).pushFrame (.throwing q))
    rw [← hs₂]
    exact hsteps
end
variable {p : Program} {l : Launch} {e : Env} {R : Room} {s : State} {m : MethodId} {args : Array Value} {below : List Frame} {meth : Method} {c : Code} {T : State} {H : Heap} {locs : List Loc} {cells slots : Nat}
theorem vx_callVX (X : Stand p l e R s m args below meth c T locs cells slots) (hexec : p.tables.exec = Jvm.exec) {own C : String} {index : Nat} {y : MethodName} {bytes : ByteArray} {maxL : Nat} {ret : Option FieldType} {hh : List (Nat × Nat × Nat × Nat)}
    (hown : s.vm.findClass own = some m.cls) (hlink : (Cond.methodLink own index y).before args s = true) (hinst : (Cond.instanceMethod y).before args s = true) (hsel : (Cond.selects C y y).before args s = true)
    (hcode : (Cond.codeWith y bytes maxL ret hh).before args s = true) (hy : y.cls ≠ "java/lang/invoke/MethodHandle" ∧ y.cls ≠ "java/lang/invoke/VarHandle")
    {W9 : Nat} {Pre : Pt → Array Value → Prop} {Post : Pt → Array Value → Option Value → Pt → Prop} {PostX : Pt → Array Value → Addr → Pt → Prop} (hK : vx_Back l R p e below s args y 3 W9 Pre Post PostX)
    {b : Addr} {cellB : Cell} (hcell : T.heap[b]? = some cellB) (hobj : cellB.vm.isStatics = false) (hcls : s.vm.findClass C = some cellB.cls)
    {g : JFrame} (hg : g.method = m) (hsize : g.locals.size = c.maxLocals) {argsL rest : List Value} (hlen : ∀ sig, parseMethodDescriptor y.desc = some sig → argsL.length = sig.parameters.length)
    (hstack : g.stack = argsL.reverse ++ .ref b :: rest) (hW : 2 * g.monitorRoom + (rest.map fun v => v.category).sum ≤ W9) (hdg : decode c.code g.pc = .ok (.invokevirtual index, 3))
    (hpre : ∀ vm₁, s.WarmedH vm₁ → Pre ⟨T.setVm vm₁, locs, cells, slots⟩ (Value.ref b :: argsL).toArray) :
    (∃ (v : Option Value) (vm₁ : Vm) (B : Pt), s.WarmedH vm₁ ∧ Stand p l e R s m args below meth c B.U B.locs B.cells B.slots ∧ Post ⟨T.setVm vm₁, locs, cells, slots⟩ (Value.ref b :: argsL).toArray v B ∧
      ∀ target, Steps p.tables e below (B.U.setTop { g with pc := g.pc + 3, stack := v.toList ++ rest }) target → Steps p.tables e below (T.setTop g) target) ∨
    (∃ (q : Addr) (vm₁ : Vm) (B : Pt), s.WarmedH vm₁ ∧ Stand p l e R s m args below meth c B.U B.locs B.cells B.slots ∧ PostX ⟨T.setVm vm₁, locs, cells, slots⟩ (Value.ref b :: argsL).toArray q B ∧
      Steps p.tables e below (T.setTop g) ((B.U.setTop { g with stack := rest }).pushFrame (.throwing q))) := by
  obtain ⟨mk, methM, hnamed, hmethM, hstM, habM⟩ := Cond.instanceMethod_spec hinst
  obtain ⟨m8, methM', cM, hn8, hmethM', -, -, -, -, -, -, hsigM⟩ := Cond.codeWith_spec hcode
  cases Option.some.inj (hn8.symm.trans hnamed)
  cases hmethM.symm.trans hmethM'
  obtain ⟨c2, r2, m2, q1, q2, q3, q4, kP, hkP, hkPi⟩ := Cond.selects_spec hsel
  cases hcls.symm.trans q1
  cases (State.methodFound?_of_named hnamed hy).symm.trans q2
  cases hnamed.symm.trans q3
  have hselP : selectMethod e.platform s.vm cellB.cls mk = .method mk := by rw [Launch.admits_selectMethod X.admits]; exact q4
  obtain ⟨vm₁, X₁, hstep₁⟩ := X.invokevirtual hexec hown hlink hnamed hmethM hstM hkP hkPi hy (a := b) (cell := cellB) hcell
    (fun z h => by rw [h] at hobj; cases hobj) hselP hmethM habM hkP hkPi (g := g) hg (argsL := argsL) (rest := rest) (hlen _ hsigM) hstack hdg
  rcases hK m meth c ⟨T.setVm vm₁, locs, cells, slots⟩ { g with stack := rest } (.invokevirtual index) mk (Value.ref b :: argsL).toArray X₁ hg hsize hdg hW (X₁.named hnamed) (hpre vm₁ X₁.warmed) with ⟨v, B, X', hpost, hsteps⟩ | ⟨q, B, X', hpost, hsteps⟩
  · exact Or.inl ⟨v, vm₁, B, X₁.warmed, X', hpost, fun target h => hstep₁ _ fun acts => by rw [doInvoke_state]; exact hsteps.trans h⟩
  · exact Or.inr ⟨q, vm₁, B, X₁.warmed, X', hpost, hstep₁ _ fun acts => by rw [doInvoke_state]; exact hsteps⟩
theorem vx_callSX (X : Stand p l e R s m args below meth c T locs cells slots) (hexec : p.tables.exec = Jvm.exec) {own : String} {index : Nat} {y : MethodName} {bytes : ByteArray} {maxL : Nat} {ret : Option FieldType} {hh : List (Nat × Nat × Nat × Nat)}
    (hown : s.vm.findClass own = some m.cls) (hlink : (Cond.methodLink own index y).before args s = true) (hstat : (Cond.static y).before args s = true) (hinit : (Cond.initialized y.cls).before args s = true)
    (hcode : (Cond.codeWith y bytes maxL ret hh).before args s = true) (hy : y.cls ≠ "java/lang/invoke/MethodHandle" ∧ y.cls ≠ "java/lang/invoke/VarHandle")
    {W9 : Nat} {Pre : Pt → Array Value → Prop} {Post : Pt → Array Value → Option Value → Pt → Prop} {PostX : Pt → Array Value → Addr → Pt → Prop} (hK : vx_Back l R p e below s args y 3 W9 Pre Post PostX)
    {g : JFrame} (hg : g.method = m) (hsize : g.locals.size = c.maxLocals) {argsL rest : List Value} (hlen : ∀ sig, parseMethodDescriptor y.desc = some sig → argsL.length = sig.parameters.length)
    (hstack : g.stack = argsL.reverse ++ rest) (hW : 2 * g.monitorRoom + (rest.map fun v => v.category).sum ≤ W9) (hdg : decode c.code g.pc = .ok (.invokestatic index, 3))
    (hpre : ∀ vm₁, s.WarmedH vm₁ → Pre ⟨T.setVm vm₁, locs, cells, slots⟩ argsL.toArray) :
    (∃ (v : Option Value) (vm₁ : Vm) (B : Pt), s.WarmedH vm₁ ∧ Stand p l e R s m args below meth c B.U B.locs B.cells B.slots ∧ Post ⟨T.setVm vm₁, locs, cells, slots⟩ argsL.toArray v B ∧
      ∀ target, Steps p.tables e below (B.U.setTop { g with pc := g.pc + 3, stack := v.toList ++ rest }) target → Steps p.tables e below (T.setTop g) target) ∨
    (∃ (q : Addr) (vm₁ : Vm) (B : Pt), s.WarmedH vm₁ ∧ Stand p l e R s m args below meth c B.U B.locs B.cells B.slots ∧ PostX ⟨T.setVm vm₁, locs, cells, slots⟩ argsL.toArray q B ∧
      Steps p.tables e below (T.setTop g) ((B.U.setTop { g with stack := rest }).pushFrame (.throwing q))) := by
  obtain ⟨mk, methM, cM, hnamed, hmethM, -, -, -, -, -, -, hsigM⟩ := Cond.codeWith_spec hcode
  have hstatic : methM.isStatic = true := Cond.static_spec hnamed hmethM hstat
  obtain ⟨kP, hkP, -⟩ := className_of_methodNamed hnamed
  have hinitP : kP.init = .initialized := Cond.initialized_spec (findClass_of_methodNamed hnamed) hkP hinit
  obtain ⟨vm₁, X₁, hstep₁⟩ := X.invokestatic hexec hown hlink hnamed hmethM hstatic hkP hinitP hy (g := g) hg (argsL := argsL) (rest := rest) (hlen _ hsigM) hstack hdg
  rcases hK m meth c ⟨T.setVm vm₁, locs, cells, slots⟩ { g with stack := rest } (.invokestatic index) mk argsL.toArray X₁ hg hsize hdg hW (X₁.named hnamed) (hpre vm₁ X₁.warmed) with ⟨v, B, X', hpost, hsteps⟩ | ⟨q, B, X', hpost, hsteps⟩
  · exact Or.inl ⟨v, vm₁, B, X₁.warmed, X', hpost, fun target h => hstep₁ _ fun acts => by rw [doInvoke_state]; exact hsteps.trans h⟩
  · exact Or.inr ⟨q, vm₁, B, X₁.warmed, X', hpost, hstep₁ _ fun acts => by rw [doInvoke_state]; exact hsteps⟩
theorem vx_callVW (X : Stand p l e R s m args below meth c T locs cells slots) (hexec : p.tables.exec = Jvm.exec) {own C : String} {index : Nat} {y : MethodName} {bytes : ByteArray} {maxL : Nat} {ret : Option FieldType} {hh : List (Nat × Nat × Nat × Nat)}
    (hown : s.vm.findClass own = some m.cls) (hlink : (Cond.methodLink own index y).before args s = true) (hinst : (Cond.instanceMethod y).before args s = true) (hsel : (Cond.selects C y y).before args s = true)
    (hcode : (Cond.codeWith y bytes maxL ret hh).before args s = true) (hy : y.cls ≠ "java/lang/invoke/MethodHandle" ∧ y.cls ≠ "java/lang/invoke/VarHandle")
    {W9 : Nat} {Pre : Pt → Array Value → Prop} {Post : Pt → Array Value → Option Value → Pt → Prop} (hK : Back l R p e below s args y 3 W9 Pre Post)
    {b : Addr} {cellB : Cell} (hcell : T.heap[b]? = some cellB) (hobj : cellB.vm.isStatics = false) (hcls : s.vm.findClass C = some cellB.cls)
    {g : JFrame} (hg : g.method = m) (hsize : g.locals.size = c.maxLocals) {argsL rest : List Value} (hlen : ∀ sig, parseMethodDescriptor y.desc = some sig → argsL.length = sig.parameters.length)
    (hstack : g.stack = argsL.reverse ++ .ref b :: rest) (hW : 2 * g.monitorRoom + (rest.map fun v => v.category).sum ≤ W9) (hdg : decode c.code g.pc = .ok (.invokevirtual index, 3))
    (hpre : ∀ vm₁, s.WarmedH vm₁ → Pre ⟨T.setVm vm₁, locs, cells, slots⟩ (Value.ref b :: argsL).toArray) :
    ∃ (v : Option Value) (vm₁ : Vm) (B : Pt), s.WarmedH vm₁ ∧ Stand p l e R s m args below meth c B.U B.locs B.cells B.slots ∧ Post ⟨T.setVm vm₁, locs, cells, slots⟩ (Value.ref b :: argsL).toArray v B ∧
      ∀ target, Steps p.tables e below (B.U.setTop { g with pc := g.pc + 3, stack := v.toList ++ rest }) target → Steps p.tables e below (T.setTop g) target := by
  obtain ⟨mk, methM, hnamed, hmethM, hstM, habM⟩ := Cond.instanceMethod_spec hinst
  obtain ⟨m8, methM', cM, hn8, hmethM', -, -, -, -, -, -, hsigM⟩ := Cond.codeWith_spec hcode
  cases Option.some.inj (hn8.symm.trans hnamed)
  cases hmethM.symm.trans hmethM'
  obtain ⟨c2, r2, m2, q1, q2, q3, q4, kP, hkP, hkPi⟩ := Cond.selects_spec hsel
  cases hcls.symm.trans q1
  cases (State.methodFound?_of_named hnamed hy).symm.trans q2
  cases hnamed.symm.trans q3
  have hselP : selectMethod e.platform s.vm cellB.cls mk = .method mk := by rw [Launch.admits_selectMethod X.admits]; exact q4
  obtain ⟨vm₁, X₁, hstep₁⟩ := X.invokevirtual hexec hown hlink hnamed hmethM hstM hkP hkPi hy (a := b) (cell := cellB) hcell
    (fun z h => by rw [h] at hobj; cases hobj) hselP hmethM habM hkP hkPi (g := g) hg (argsL := argsL) (rest := rest) (hlen _ hsigM) hstack hdg
  obtain ⟨v, B, X', hpost, hsteps⟩ := hK m meth c ⟨T.setVm vm₁, locs, cells, slots⟩ { g with stack := rest } (.invokevirtual index) mk (Value.ref b :: argsL).toArray X₁ hg hsize hdg hW (X₁.named hnamed) (hpre vm₁ X₁.warmed)
  exact ⟨v, vm₁, B, X₁.warmed, X', hpost, fun target h => hstep₁ _ fun acts => by rw [doInvoke_state]; exact hsteps.trans h⟩
abbrev vx_CVW (R : Room) (s : State) (args : Array Value) (own C : String) (index : Nat) (y : MethodName) (bytes : ByteArray) (maxL : Nat) (ret : Option FieldType) (hh : List (Nat × Nat × Nat × Nat)) (ws : List Cond) (rm : Room) (mc ms n : Nat) : Prop :=
  (rm.cells = mc ∧ rm.slots = ms ∧ rm.frames + 1 ≤ R.frames ∧ 8 + (maxL + 11) + rm.locals ≤ R.locals ∧ (∀ w ∈ ws, ∀ (a' : Array Value) (U : State), s.WarmedH U.vm → w.before a' U = true) ∧ Cond.codeWith y bytes maxL ret hh ∈ ws) ∧
  (Cond.codeWith y bytes maxL ret hh).before args s = true ∧ (Cond.initialized y.cls).before args s = true ∧ (y.cls ≠ "java/lang/invoke/MethodHandle" ∧ y.cls ≠ "java/lang/invoke/VarHandle") ∧
  (∀ sig, parseMethodDescriptor y.desc = some sig → n = sig.parameters.length) ∧ (Cond.methodLink own index y).before args s = true ∧ (Cond.instanceMethod y).before args s = true ∧ (Cond.selects C y y).before args s = true
theorem vx_cwVW {own C : String} {index maxL mc ms : Nat} {y : MethodName} {bytes : ByteArray} {ret : Option FieldType} {hh : List (Nat × Nat × Nat × Nat)} {Ts ws ws' : List Cond} {rm : Room} (n : Nat) (ht : ∀ w ∈ Ts, w.before args s = true) (hT : GoodIn Ts (wsV own index C y ws)) (hw : ws = Cond.codeWith y bytes maxL ret hh :: ws') (hrc : rm.cells = mc) (hrs : rm.slots = ms)
    (hd : y.cls = C ∧ y.cls ≠ "java/lang/invoke/MethodHandle" ∧ y.cls ≠ "java/lang/invoke/VarHandle" ∧ (parseMethodDescriptor y.desc).map (fun d => d.parameters.length) = some n) (hR : rm.frames + 1 ≤ R.frames ∧ 8 + (maxL + 11) + rm.locals ≤ R.locals) :
    vx_CVW R s args own C index y bytes maxL ret hh ws rm mc ms n := by
  obtain ⟨hC, hd⟩ := hd
  subst hC
  have ok : ∀ w ∈ wsV own index y.cls y ws, w.before args s = true := fun w h => ht w (hT w h).1
  have hG : GoodIn Ts ws := fun w h => hT w (by unfold wsV; exact List.mem_append_right _ h)
  have hc : Cond.codeWith y bytes maxL ret hh ∈ ws := by rw [hw]; exact List.mem_cons_self
  refine ⟨⟨hrc, hrs, hR.1, hR.2, pay_in ht hG, hc⟩, ht _ (hG _ hc).1, ok _ (by simp [wsV]), ⟨hd.1, hd.2.1⟩, fun sig h => ?_, ok _ (by simp [wsV]), ok _ (by simp [wsV]), ok _ (by simp [wsV])⟩
  have h2 := hd.2.2
  rw [h] at h2
  exact (Option.some.inj h2).symm
theorem vx_runVW {y : MethodName} {bytes cc : ByteArray} {maxL nL mc ms n index : Nat} {ret : Option FieldType} {hh : List (Nat × Nat × Nat × Nat)} {ws : List Cond} {rm : Room} {Pc : Array Value → State → Prop} {Qc : Array Value → State → Outcome → State → Prop} {free : Addr → Prop} {Ts : List Cond} {own C : String} {b : Addr} {As rest : List Value} {g : JFrame}
    (S : CallFix p m c cc nL s args Ts own) (hM : Met l y ws rm Pc Qc mc ms free) (cw : vx_CVW R s args own C index y bytes maxL ret hh ws rm mc ms n) (hp : PreV s H C b Pc As)
    (hg : g.method = m) (hn : As.length = n) (hsize : g.locals.size = nL) (hstack : g.stack = As.reverse ++ .ref b :: rest) (hW : 2 * g.monitorRoom + (rest.map fun v => v.category).sum ≤ 8) (hdg : decode cc g.pc = .ok (.invokevirtual index, 3)) (hf : cells + mc ≤ R.cells ∧ slots + ms ≤ R.slots) :
    va_Run p l e R s m args below meth c H locs cells slots mc ms g rest (Qc (Value.ref b :: As).toArray) free := by
  obtain ⟨⟨hrc, hrs, hfr, hlo, hws, hcw⟩, hcode, hini, hy, hlen, hl, hin, hse⟩ := cw
  have hK : Back l R p e below s args y 3 8 (PreOf R mc ms Pc) (PostOf Qc mc ms free) := va_backW (hh := hh) (bytes := bytes) (maxL := maxL) (ret := ret) hM hp.1 hrc hrs hfr hlo hws hcw (fun a' U hW => word_at hW (Or.inl (by first | rfl | simp [Cond.onTables, Cond.keeps, Cond.steady])) hini)
  obtain ⟨hx, hb, hml, ho, -⟩ := S
  obtain ⟨-, ⟨cellB, hcB, hoB, hclB⟩, hPc⟩ := hp
  intro T hT X
  obtain ⟨v, vm₁, ⟨U', l2, c2, s2⟩, hW₁, X', ⟨g', mk, t, L, e1, e2, hq, h1, hL, h2, h3⟩, st⟩ := vx_callVW X hx (C := C) (hh := hh) (bytes := bytes) (maxL := maxL) (ret := ret) ho hl hin hse hcode hy hK (by rw [hT]; exact hcB) hoB hclB hg (hsize.trans hml.symm) (argsL := As) (rest := rest) (fun sig h => hn.trans (hlen sig h)) hstack hW (by rw [hb]; exact hdg)
    (fun vm₁ hW₁ => ⟨hf.1, hf.2, hPc (T.setVm vm₁) hT hW₁⟩)
  dsimp only [Pt.U, Pt.locs, Pt.cells, Pt.slots] at X' e1 e2 h1 h2 h3 st
  subst h1; subst h2; subst h3
  exact ⟨v, (T.setVm vm₁).calling g' mk (Value.ref b :: As).toArray, t, U', L, hT, X', hL, e1, e2, hq, st⟩
section
variable {y : MethodName} {bytes cc : ByteArray} {maxL nL mc ms n index : Nat} {ret : Option FieldType} {ws : List Cond} {rm : Room} {Pc : Array Value → State → Prop} {Qc : Array Value → State → Outcome → State → Prop} {XC : String → State → State → Prop} {free : Addr → Prop} {Ts : List Cond} {own C : String} {b : Addr} {As rest : List Value} {g : JFrame}
theorem vx_runVX {hh : List (Nat × Nat × Nat × Nat)} (S : CallFix p m c cc nL s args Ts own) (hM : vx_Met l y ws rm Pc Qc XC mc ms free) (cw : vx_CVW R s args own C index y bytes maxL ret hh ws rm mc ms n) (hp : PreV s H C b Pc As)
    (hg : g.method = m) (hn : As.length = n) (hsize : g.locals.size = nL) (hstack : g.stack = As.reverse ++ .ref b :: rest) (hW : 2 * g.monitorRoom + (rest.map fun v => v.category).sum ≤ 8) (hdg : decode cc g.pc = .ok (.invokevirtual index, 3)) (hf : cells + mc ≤ R.cells ∧ slots + ms ≤ R.slots) :
    vx_Run p l e R s m args below meth c H locs cells slots mc ms g rest (Qc (Value.ref b :: As).toArray) XC free := by
  obtain ⟨⟨hrc, hrs, hfr, hlo, hws, hcw⟩, hcode, hini, hy, hlen, hl, hin, hse⟩ := cw
  have hK : vx_Back l R p e below s args y 3 8 (PreOf R mc ms Pc) (PostOf Qc mc ms free) (vx_Post XC mc ms free) := vx_backW (hh := hh) (bytes := bytes) (maxL := maxL) (ret := ret) hM hp.1 hrc hrs hfr hlo hws hcw (fun a' U hW => word_at hW (Or.inl (by first | rfl | simp [Cond.onTables, Cond.keeps, Cond.steady])) hini)
  obtain ⟨hx, hb, hml, ho, -⟩ := S
  obtain ⟨-, ⟨cellB, hcB, hoB, hclB⟩, hPc⟩ := hp
  intro T hT X
  rcases vx_callVX X hx (C := C) (hh := hh) (bytes := bytes) (maxL := maxL) (ret := ret) ho hl hin hse hcode hy hK (by rw [hT]; exact hcB) hoB hclB hg (hsize.trans hml.symm) (argsL := As) (rest := rest) (fun sig h => hn.trans (hlen sig h)) hstack hW (by rw [hb]; exact hdg)
    (fun vm₁ hW₁ => ⟨hf.1, hf.2, hPc (T.setVm vm₁) hT hW₁⟩) with ⟨v, vm₁, ⟨U', l2, c2, s2⟩, hW₁, X', ⟨g', mk, t, L, e1, e2, hq, h1, hL, h2, h3⟩, st⟩ | ⟨q, vm₁, ⟨U', l2, c2, s2⟩, hW₁, X', ⟨g', mk, t, L, E, ce, e1, e2, hq, hce, hcv, hcl, h1, hL, h2, h3⟩, st⟩
  · dsimp only [Pt.U, Pt.locs, Pt.cells, Pt.slots] at X' e1 e2 h1 h2 h3 st
    subst h1; subst h2; subst h3
    exact Or.inl ⟨v, (T.setVm vm₁).calling g' mk (Value.ref b :: As).toArray, t, U', L, hT, X', hL, e1, e2, hq, st⟩
  · dsimp only [Pt.U, Pt.locs, Pt.cells, Pt.slots] at X' e1 e2 h1 h2 h3 st hcl
    subst h1; subst h2; subst h3
    exact Or.inr ⟨q, (T.setVm vm₁).calling g' mk (Value.ref b :: As).toArray, t, U', L, E, ce, hT, X', hL, e1, e2, hq, hce, hcv, vx_cls hW₁ hcl, st⟩
theorem vx_runSX {hh : List (Nat × Nat × Nat × Nat)} (S : CallFix p m c cc nL s args Ts own) (hM : vx_Met l y ws rm Pc Qc XC mc ms free) (cw : vx_CSW R s args own index y bytes maxL ret hh ws rm mc ms n) (hp : PreS s H Pc As)
    (hg : g.method = m) (hn : As.length = n) (hsize : g.locals.size = nL) (hstack : g.stack = As.reverse ++ rest) (hW : 2 * g.monitorRoom + (rest.map fun v => v.category).sum ≤ 8) (hdg : decode cc g.pc = .ok (.invokestatic index, 3)) (hf : cells + mc ≤ R.cells ∧ slots + ms ≤ R.slots) :
    vx_Run p l e R s m args below meth c H locs cells slots mc ms g rest (Qc As.toArray) XC free := by
  obtain ⟨⟨hrc, hrs, hfr, hlo, hws, hcw⟩, hcode, hini, hy, hlen, hl, hstt⟩ := cw
  have hK : vx_Back l R p e below s args y 3 8 (PreOf R mc ms Pc) (PostOf Qc mc ms free) (vx_Post XC mc ms free) := vx_backW (hh := hh) (bytes := bytes) (maxL := maxL) (ret := ret) hM hp.1 hrc hrs hfr hlo hws hcw (fun a' U hW => word_at hW (Or.inl (by first | rfl | simp [Cond.onTables, Cond.keeps, Cond.steady])) hini)
  obtain ⟨hx, hb, hml, ho, -⟩ := S
  intro T hT X
  rcases vx_callSX X hx (hh := hh) (bytes := bytes) (maxL := maxL) (ret := ret) ho hl hstt hini hcode hy hK hg (hsize.trans hml.symm) (argsL := As) (rest := rest) (fun sig h => hn.trans (hlen sig h)) hstack hW (by rw [hb]; exact hdg)
    (fun vm₁ hW₁ => ⟨hf.1, hf.2, hp.2 (T.setVm vm₁) hT hW₁⟩) with ⟨v, vm₁, ⟨U', l2, c2, s2⟩, hW₁, X', ⟨g', mk, t, L, e1, e2, hq, h1, hL, h2, h3⟩, st⟩ | ⟨q, vm₁, ⟨U', l2, c2, s2⟩, hW₁, X', ⟨g', mk, t, L, E, ce, e1, e2, hq, hce, hcv, hcl, h1, hL, h2, h3⟩, st⟩
  · dsimp only [Pt.U, Pt.locs, Pt.cells, Pt.slots] at X' e1 e2 h1 h2 h3 st
    subst h1; subst h2; subst h3
    exact Or.inl ⟨v, (T.setVm vm₁).calling g' mk As.toArray, t, U', L, hT, X', hL, e1, e2, hq, st⟩
  · dsimp only [Pt.U, Pt.locs, Pt.cells, Pt.slots] at X' e1 e2 h1 h2 h3 st hcl
    subst h1; subst h2; subst h3
    exact Or.inr ⟨q, (T.setVm vm₁).calling g' mk As.toArray, t, U', L, E, ce, hT, X', hL, e1, e2, hq, hce, hcv, vx_cls hW₁ hcl, st⟩
end
end VXH
theorem vx_ofWH {l : Launch} {y : MethodName} {ws ws' : List Cond} {rm : Room} {Pc : Array Value → State → Prop} {Qc : Array Value → State → Outcome → State → Prop} {XC : String → State → State → Prop} {mc ms : Nat} {free : Addr → Prop} {cc : ByteArray} {maxL : Nat} {ret : Option FieldType} {hh : List (Nat × Nat × Nat × Nat)}
    (hy : plainName y.cls = true) (hw : ws = Cond.codeWith y cc maxL ret hh :: ws')
    (body : ∀ p e s m args below meth c s₁, BodyLoose p l y (headSpec ws rm) cc maxL ret e s m args below meth c s₁ → c.maxLocals = maxL → Pc args s →
      W p l e (headSpec ws rm).room s m args below meth c s.heap [] 0 0 (vx_MQ below Qc XC args s mc ms free) (entryFrame m args maxL)) : vx_Met l y ws rm Pc Qc XC mc ms free := by
  refine MetFree.of_bodyS (code := cc) (maxLocals := maxL) (ret := ret) hy ?_ ?_
  · intro args s m h hn
    obtain ⟨m9, meth, c, hn9, h1, h2, h3, h4, -, h5, h6, -⟩ := Cond.codeWith_spec (atoms_spec (ws := ws) h _ (by rw [hw]; exact List.mem_cons_self))
    cases hn.symm.trans hn9
    exact ⟨meth, c, h1, h2, h3, h4, h5, h6⟩
  · intro p e s m args below meth c s₁ B hml hP _
    have hh0 : s₁.heap = s.heap := by rw [B.state]; rfl
    obtain ⟨t, a1, o, b1, b2, b3⟩ := body p e s m args below meth c s₁ B hml hP s₁ hh0 (Stand.of_body B)
    exact ⟨t, o, a1, b1, b2, b3⟩
/-! ===== END ===== -/
end
section
def RX0 : String := "KnotRack"
def TX0 : u_T := fun k => match k with
  | 0 => ("KnotRack", "kinds", "[I", true)
  | 1 => ("KnotRack", "efficiencies", "[I", true)
  | 2 => ("KnotRack", "crossingCounts", "[I", true)
  | 3 => ("KnotRack", "spillLoads", "[I", true)
  | 4 => ("KnotRack", "spillTargets", "[I", true)
  | 5 => ("KnotRack", "knotCount", "I", false)
  | 6 => ("KnotRack", "ropeCounts", "[I", true)
  | 7 => ("KnotRack", "lineCount", "I", false)
  | 8 => ("KnotRack", "tiedKnots", "[I", true)
  | _ => ("KnotRack", "ropeStrengths", "[I", true)
def tyX0 : Nat → FieldType := fun k => match k with
  | 0 => .array .int
  | 1 => .array .int
  | 2 => .array .int
  | 3 => .array .int
  | 4 => .array .int
  | 5 => .int
  | 6 => .array .int
  | 7 => .int
  | 8 => .array .int
  | _ => .array .int
abbrev wsX00 : List Cond := u_ws RX0 TX0 10
theorem nmX0 : ∀ a, a < 10 → ∀ b, b < 10 → a ≠ b → (TX0 a).2.1 ≠ (TX0 b).2.1 := by decide +kernel
theorem tyX0_ok : ∀ k, k < 10 → parseFieldDescriptor (TX0 k).2.2.1 = some (tyX0 k) := by decide +kernel
abbrev cX0_init : ByteArray := prog_1_method_1_code
def yX0_init : MethodName := ⟨RX0, "<init>", "()V"⟩
abbrev cX0_addKnot : ByteArray := prog_1_method_2_code
def yX0_addKnot : MethodName := ⟨RX0, "addKnot", "(III)I"⟩
abbrev cX0_setSpill : ByteArray := prog_1_method_3_code
def yX0_setSpill : MethodName := ⟨RX0, "setSpill", "(III)I"⟩
abbrev cX0_tie : ByteArray := prog_1_method_4_code
def yX0_tie : MethodName := ⟨RX0, "tie", "(II)I"⟩
abbrev cX0_join : ByteArray := prog_1_method_5_code
def yX0_join : MethodName := ⟨RX0, "join", "(III)I"⟩
abbrev cX0_retie : ByteArray := prog_1_method_6_code
def yX0_retie : MethodName := ⟨RX0, "retie", "(III)I"⟩
abbrev cX0_pull : ByteArray := prog_1_method_7_code
def yX0_pull : MethodName := ⟨RX0, "pull", "(II)I"⟩
abbrev cX0_knots : ByteArray := prog_1_method_8_code
def yX0_knots : MethodName := ⟨RX0, "knots", "()I"⟩
abbrev cX0_knotsOf : ByteArray := prog_1_method_9_code
def yX0_knotsOf : MethodName := ⟨RX0, "knotsOf", "(I)I"⟩
abbrev cX0_kindOf : ByteArray := prog_1_method_10_code
def yX0_kindOf : MethodName := ⟨RX0, "kindOf", "(I)I"⟩
abbrev cX0_efficiencyOf : ByteArray := prog_1_method_11_code
def yX0_efficiencyOf : MethodName := ⟨RX0, "efficiencyOf", "(I)I"⟩
abbrev cX0_crossingsOf : ByteArray := prog_1_method_12_code
def yX0_crossingsOf : MethodName := ⟨RX0, "crossingsOf", "(I)I"⟩
abbrev cX0_spillsAt : ByteArray := prog_1_method_13_code
def yX0_spillsAt : MethodName := ⟨RX0, "spillsAt", "(I)I"⟩
abbrev cX0_spillsInto : ByteArray := prog_1_method_14_code
def yX0_spillsInto : MethodName := ⟨RX0, "spillsInto", "(I)I"⟩
abbrev cX0_rankOf : ByteArray := prog_1_method_15_code
def yX0_rankOf : MethodName := ⟨RX0, "rankOf", "(I)I"⟩
abbrev cX0_knotAt : ByteArray := prog_1_method_16_code
def yX0_knotAt : MethodName := ⟨RX0, "knotAt", "(II)I"⟩
abbrev cX0_formOf : ByteArray := prog_1_method_17_code
def yX0_formOf : MethodName := ⟨RX0, "formOf", "(II)I"⟩
abbrev cX0_spills : ByteArray := prog_1_method_18_code
def yX0_spills : MethodName := ⟨RX0, "spills", "(II)I"⟩
abbrev cX0_fallsApartAt : ByteArray := prog_1_method_19_code
def yX0_fallsApartAt : MethodName := ⟨RX0, "fallsApartAt", "(I)I"⟩
abbrev cX0_lines : ByteArray := prog_1_method_20_code
def yX0_lines : MethodName := ⟨RX0, "lines", "()I"⟩
abbrev cX0_ropesOf : ByteArray := prog_1_method_21_code
def yX0_ropesOf : MethodName := ⟨RX0, "ropesOf", "(I)I"⟩
abbrev cX0_knotOf : ByteArray := prog_1_method_22_code
def yX0_knotOf : MethodName := ⟨RX0, "knotOf", "(II)I"⟩
abbrev cX0_strengthAt : ByteArray := prog_1_method_23_code
def yX0_strengthAt : MethodName := ⟨RX0, "strengthAt", "(II)I"⟩
abbrev cX0_weakestPlace : ByteArray := prog_1_method_24_code
def yX0_weakestPlace : MethodName := ⟨RX0, "weakestPlace", "(I)I"⟩
abbrev cX0_holds : ByteArray := prog_1_method_25_code
def yX0_holds : MethodName := ⟨RX0, "holds", "(II)Z"⟩
abbrev cX0_holdsUpTo : ByteArray := prog_1_method_26_code
def yX0_holdsUpTo : MethodName := ⟨RX0, "holdsUpTo", "(I)I"⟩
abbrev cX0_wouldGiveWay : ByteArray := prog_1_method_27_code
def yX0_wouldGiveWay : MethodName := ⟨RX0, "wouldGiveWay", "(II)I"⟩
abbrev cX0_bestKnot : ByteArray := prog_1_method_28_code
def yX0_bestKnot : MethodName := ⟨RX0, "bestKnot", "(II)I"⟩
abbrev cX0_strongestLine : ByteArray := prog_1_method_29_code
def yX0_strongestLine : MethodName := ⟨RX0, "strongestLine", "()I"⟩
abbrev cX0_meanEfficiency : ByteArray := prog_1_method_30_code
def yX0_meanEfficiency : MethodName := ⟨RX0, "meanEfficiency", "()D"⟩
abbrev cX0_digest : ByteArray := prog_1_method_31_code
def yX0_digest : MethodName := ⟨RX0, "digest", "()J"⟩
abbrev cX0_digestWithKnot : ByteArray := prog_1_method_32_code
def yX0_digestWithKnot : MethodName := ⟨RX0, "digestWithKnot", "(JI)J"⟩
abbrev cX0_digestWithLine : ByteArray := prog_1_method_33_code
def yX0_digestWithLine : MethodName := ⟨RX0, "digestWithLine", "(JI)J"⟩
abbrev cX0_digestWith : ByteArray := prog_1_method_34_code
def yX0_digestWith : MethodName := ⟨RX0, "digestWith", "(JI)J"⟩
abbrev cX0_checkKind : ByteArray := prog_1_method_35_code
def yX0_checkKind : MethodName := ⟨RX0, "checkKind", "(I)V"⟩
abbrev cX0_checkKnot : ByteArray := prog_1_method_36_code
def yX0_checkKnot : MethodName := ⟨RX0, "checkKnot", "(I)V"⟩
abbrev cX0_checkOfKind : ByteArray := prog_1_method_37_code
def yX0_checkOfKind : MethodName := ⟨RX0, "checkOfKind", "(II)V"⟩
abbrev cX0_checkLoad : ByteArray := prog_1_method_38_code
def yX0_checkLoad : MethodName := ⟨RX0, "checkLoad", "(I)V"⟩
abbrev cX0_checkStrength : ByteArray := prog_1_method_39_code
def yX0_checkStrength : MethodName := ⟨RX0, "checkStrength", "(I)V"⟩
abbrev cX0_checkLine : ByteArray := prog_1_method_40_code
def yX0_checkLine : MethodName := ⟨RX0, "checkLine", "(I)V"⟩
abbrev cX0_checkPlace : ByteArray := prog_1_method_41_code
def yX0_checkPlace : MethodName := ⟨RX0, "checkPlace", "(II)V"⟩
abbrev cX0_checkNotGone : ByteArray := prog_1_method_42_code
def yX0_checkNotGone : MethodName := ⟨RX0, "checkNotGone", "(I)V"⟩
abbrev cX0_isKnot : ByteArray := prog_1_method_43_code
def yX0_isKnot : MethodName := ⟨RX0, "isKnot", "(I)Z"⟩
abbrev cX0_countOfKind : ByteArray := prog_1_method_44_code
def yX0_countOfKind : MethodName := ⟨RX0, "countOfKind", "(I)I"⟩
abbrev cX0_rankInKind : ByteArray := prog_1_method_45_code
def yX0_rankInKind : MethodName := ⟨RX0, "rankInKind", "(I)I"⟩
abbrev cX0_isAheadOf : ByteArray := prog_1_method_46_code
def yX0_isAheadOf : MethodName := ⟨RX0, "isAheadOf", "(II)Z"⟩
abbrev cX0_knotWithRank : ByteArray := prog_1_method_47_code
def yX0_knotWithRank : MethodName := ⟨RX0, "knotWithRank", "(II)I"⟩
abbrev cX0_spillsUnder : ByteArray := prog_1_method_48_code
def yX0_spillsUnder : MethodName := ⟨RX0, "spillsUnder", "(II)Z"⟩
abbrev cX0_formUnder : ByteArray := prog_1_method_49_code
def yX0_formUnder : MethodName := ⟨RX0, "formUnder", "(II)I"⟩
abbrev cX0_slot : ByteArray := prog_1_method_50_code
def yX0_slot : MethodName := ⟨RX0, "slot", "(II)I"⟩
abbrev cX0_kindDueAt : ByteArray := prog_1_method_51_code
def yX0_kindDueAt : MethodName := ⟨RX0, "kindDueAt", "(I)I"⟩
abbrev cX0_isGone : ByteArray := prog_1_method_52_code
def yX0_isGone : MethodName := ⟨RX0, "isGone", "(I)Z"⟩
abbrev cX0_appendRope : ByteArray := prog_1_method_53_code
def yX0_appendRope : MethodName := ⟨RX0, "appendRope", "(III)V"⟩
abbrev cX0_strengthWith : ByteArray := prog_1_method_54_code
def yX0_strengthWith : MethodName := ⟨RX0, "strengthWith", "(III)I"⟩
abbrev cX0_currentStrength : ByteArray := prog_1_method_55_code
def yX0_currentStrength : MethodName := ⟨RX0, "currentStrength", "(II)I"⟩
abbrev cX0_placeHolds : ByteArray := prog_1_method_56_code
def yX0_placeHolds : MethodName := ⟨RX0, "placeHolds", "(III)Z"⟩
abbrev cX0_firstPlaceToGiveWay : ByteArray := prog_1_method_57_code
def yX0_firstPlaceToGiveWay : MethodName := ⟨RX0, "firstPlaceToGiveWay", "(II)I"⟩
abbrev cX0_loadHeldWith : ByteArray := prog_1_method_58_code
def yX0_loadHeldWith : MethodName := ⟨RX0, "loadHeldWith", "(III)I"⟩
abbrev cX0_loadHeldAt : ByteArray := prog_1_method_59_code
def yX0_loadHeldAt : MethodName := ⟨RX0, "loadHeldAt", "(III)I"⟩
def RX1 : String := "KnotRackModel"
def TX1 : u_T := fun k => match k with
  | 0 => ("KnotRackModel", "thrown", "I", false)
  | 1 => ("KnotRackModel", "knots", "I", false)
  | 2 => ("KnotRackModel", "kind", "[I", true)
  | 3 => ("KnotRackModel", "efficiency", "[I", true)
  | 4 => ("KnotRackModel", "crossings", "[I", true)
  | 5 => ("KnotRackModel", "spill", "[I", true)
  | 6 => ("KnotRackModel", "into", "[I", true)
  | 7 => ("KnotRackModel", "lines", "I", false)
  | 8 => ("KnotRackModel", "ropes", "[I", true)
  | 9 => ("KnotRackModel", "rope", "[I", true)
  | _ => ("KnotRackModel", "tied", "[I", true)
def tyX1 : Nat → FieldType := fun k => match k with
  | 0 => .int
  | 1 => .int
  | 2 => .array .int
  | 3 => .array .int
  | 4 => .array .int
  | 5 => .array .int
  | 6 => .array .int
  | 7 => .int
  | 8 => .array .int
  | 9 => .array .int
  | _ => .array .int
abbrev wsX10 : List Cond := u_ws RX1 TX1 11
theorem nmX1 : ∀ a, a < 11 → ∀ b, b < 11 → a ≠ b → (TX1 a).2.1 ≠ (TX1 b).2.1 := by decide +kernel
theorem tyX1_ok : ∀ k, k < 11 → parseFieldDescriptor (TX1 k).2.2.1 = some (tyX1 k) := by decide +kernel
abbrev cX1_init : ByteArray := prog_3_method_1_code
def yX1_init : MethodName := ⟨RX1, "<init>", "()V"⟩
abbrev cX1_thrown : ByteArray := prog_3_method_2_code
def yX1_thrown : MethodName := ⟨RX1, "thrown", "()I"⟩
abbrev cX1_no : ByteArray := prog_3_method_3_code
def yX1_no : MethodName := ⟨RX1, "no", "(I)I"⟩
abbrev cX1_ok : ByteArray := prog_3_method_5_code
def yX1_ok : MethodName := ⟨RX1, "ok", "(I)I"⟩
abbrev cX1_isIn : ByteArray := prog_3_method_6_code
def yX1_isIn : MethodName := ⟨RX1, "isIn", "(III)Z"⟩
abbrev cX1_isKnot : ByteArray := prog_3_method_7_code
def yX1_isKnot : MethodName := ⟨RX1, "isKnot", "(I)Z"⟩
abbrev cX1_isLine : ByteArray := prog_3_method_8_code
def yX1_isLine : MethodName := ⟨RX1, "isLine", "(I)Z"⟩
abbrev cX1_isPlace : ByteArray := prog_3_method_9_code
def yX1_isPlace : MethodName := ⟨RX1, "isPlace", "(II)Z"⟩
abbrev cX1_isLoad : ByteArray := prog_3_method_10_code
def yX1_isLoad : MethodName := ⟨RX1, "isLoad", "(I)Z"⟩
abbrev cX1_kindAt : ByteArray := prog_3_method_11_code
def yX1_kindAt : MethodName := ⟨RX1, "kindAt", "(I)I"⟩
abbrev cX1_goes : ByteArray := prog_3_method_12_code
def yX1_goes : MethodName := ⟨RX1, "goes", "(II)Z"⟩
abbrev cX1_form : ByteArray := prog_3_method_13_code
def yX1_form : MethodName := ⟨RX1, "form", "(II)I"⟩
abbrev cX1_often : ByteArray := prog_3_method_14_code
def yX1_often : MethodName := ⟨RX1, "often", "(II)I"⟩
abbrev cX1_apart : ByteArray := prog_3_method_15_code
def yX1_apart : MethodName := ⟨RX1, "apart", "(I)I"⟩
abbrev cX1_isAhead : ByteArray := prog_3_method_16_code
def yX1_isAhead : MethodName := ⟨RX1, "isAhead", "(II)Z"⟩
abbrev cX1_rank : ByteArray := prog_3_method_17_code
def yX1_rank : MethodName := ⟨RX1, "rank", "(I)I"⟩
abbrev cX1_strength : ByteArray := prog_3_method_18_code
def yX1_strength : MethodName := ⟨RX1, "strength", "(III)I"⟩
abbrev cX1_placeHolds : ByteArray := prog_3_method_19_code
def yX1_placeHolds : MethodName := ⟨RX1, "placeHolds", "(III)Z"⟩
abbrev cX1_giving : ByteArray := prog_3_method_20_code
def yX1_giving : MethodName := ⟨RX1, "giving", "(II)I"⟩
abbrev cX1_placeUpTo : ByteArray := prog_3_method_21_code
def yX1_placeUpTo : MethodName := ⟨RX1, "placeUpTo", "(II)I"⟩
abbrev cX1_upTo : ByteArray := prog_3_method_22_code
def yX1_upTo : MethodName := ⟨RX1, "upTo", "(I)I"⟩
abbrev cX1_weakest : ByteArray := prog_3_method_23_code
def yX1_weakest : MethodName := ⟨RX1, "weakest", "(I)I"⟩
abbrev cX1_now : ByteArray := prog_3_method_24_code
def yX1_now : MethodName := ⟨RX1, "now", "(II)I"⟩
abbrev cX1_strongest : ByteArray := prog_3_method_25_code
def yX1_strongest : MethodName := ⟨RX1, "strongest", "()I"⟩
abbrev cX1_addKnot : ByteArray := prog_3_method_26_code
def yX1_addKnot : MethodName := ⟨RX1, "addKnot", "(III)I"⟩
abbrev cX1_setSpill : ByteArray := prog_3_method_27_code
def yX1_setSpill : MethodName := ⟨RX1, "setSpill", "(III)I"⟩
abbrev cX1_tie : ByteArray := prog_3_method_28_code
def yX1_tie : MethodName := ⟨RX1, "tie", "(II)I"⟩
abbrev cX1_join : ByteArray := prog_3_method_29_code
def yX1_join : MethodName := ⟨RX1, "join", "(III)I"⟩
abbrev cX1_retie : ByteArray := prog_3_method_30_code
def yX1_retie : MethodName := ⟨RX1, "retie", "(III)I"⟩
abbrev cX1_pull : ByteArray := prog_3_method_31_code
def yX1_pull : MethodName := ⟨RX1, "pull", "(II)I"⟩
abbrev cX1_knots : ByteArray := prog_3_method_32_code
def yX1_knots : MethodName := ⟨RX1, "knots", "()I"⟩
abbrev cX1_many : ByteArray := prog_3_method_33_code
def yX1_many : MethodName := ⟨RX1, "many", "(I)I"⟩
abbrev cX1_knotsOf : ByteArray := prog_3_method_34_code
def yX1_knotsOf : MethodName := ⟨RX1, "knotsOf", "(I)I"⟩
abbrev cX1_of : ByteArray := prog_3_method_35_code
def yX1_of : MethodName := ⟨RX1, "of", "(I[I)I"⟩
abbrev cX1_kindOf : ByteArray := prog_3_method_36_code
def yX1_kindOf : MethodName := ⟨RX1, "kindOf", "(I)I"⟩
abbrev cX1_efficiencyOf : ByteArray := prog_3_method_37_code
def yX1_efficiencyOf : MethodName := ⟨RX1, "efficiencyOf", "(I)I"⟩
abbrev cX1_crossingsOf : ByteArray := prog_3_method_38_code
def yX1_crossingsOf : MethodName := ⟨RX1, "crossingsOf", "(I)I"⟩
abbrev cX1_spillsAt : ByteArray := prog_3_method_39_code
def yX1_spillsAt : MethodName := ⟨RX1, "spillsAt", "(I)I"⟩
abbrev cX1_spillsInto : ByteArray := prog_3_method_40_code
def yX1_spillsInto : MethodName := ⟨RX1, "spillsInto", "(I)I"⟩
abbrev cX1_rankOf : ByteArray := prog_3_method_41_code
def yX1_rankOf : MethodName := ⟨RX1, "rankOf", "(I)I"⟩
abbrev cX1_knotAt : ByteArray := prog_3_method_42_code
def yX1_knotAt : MethodName := ⟨RX1, "knotAt", "(II)I"⟩
abbrev cX1_isLoaded : ByteArray := prog_3_method_43_code
def yX1_isLoaded : MethodName := ⟨RX1, "isLoaded", "(II)Z"⟩
abbrev cX1_formOf : ByteArray := prog_3_method_44_code
def yX1_formOf : MethodName := ⟨RX1, "formOf", "(II)I"⟩
abbrev cX1_spills : ByteArray := prog_3_method_45_code
def yX1_spills : MethodName := ⟨RX1, "spills", "(II)I"⟩
abbrev cX1_fallsApartAt : ByteArray := prog_3_method_46_code
def yX1_fallsApartAt : MethodName := ⟨RX1, "fallsApartAt", "(I)I"⟩
abbrev cX1_lines : ByteArray := prog_3_method_47_code
def yX1_lines : MethodName := ⟨RX1, "lines", "()I"⟩
abbrev cX1_ropesOf : ByteArray := prog_3_method_48_code
def yX1_ropesOf : MethodName := ⟨RX1, "ropesOf", "(I)I"⟩
abbrev cX1_knotOf : ByteArray := prog_3_method_49_code
def yX1_knotOf : MethodName := ⟨RX1, "knotOf", "(II)I"⟩
abbrev cX1_strengthAt : ByteArray := prog_3_method_50_code
def yX1_strengthAt : MethodName := ⟨RX1, "strengthAt", "(II)I"⟩
abbrev cX1_weakestPlace : ByteArray := prog_3_method_51_code
def yX1_weakestPlace : MethodName := ⟨RX1, "weakestPlace", "(I)I"⟩
abbrev cX1_isPulled : ByteArray := prog_3_method_52_code
def yX1_isPulled : MethodName := ⟨RX1, "isPulled", "(II)Z"⟩
abbrev cX1_holds : ByteArray := prog_3_method_53_code
def yX1_holds : MethodName := ⟨RX1, "holds", "(II)Z"⟩
abbrev cX1_holdsUpTo : ByteArray := prog_3_method_54_code
def yX1_holdsUpTo : MethodName := ⟨RX1, "holdsUpTo", "(I)I"⟩
abbrev cX1_wouldGiveWay : ByteArray := prog_3_method_55_code
def yX1_wouldGiveWay : MethodName := ⟨RX1, "wouldGiveWay", "(II)I"⟩
abbrev cX1_best : ByteArray := prog_3_method_56_code
def yX1_best : MethodName := ⟨RX1, "best", "(II)I"⟩
abbrev cX1_bestKnot : ByteArray := prog_3_method_57_code
def yX1_bestKnot : MethodName := ⟨RX1, "bestKnot", "(II)I"⟩
abbrev cX1_strongestLine : ByteArray := prog_3_method_58_code
def yX1_strongestLine : MethodName := ⟨RX1, "strongestLine", "()I"⟩
abbrev cX1_meanEfficiency : ByteArray := prog_3_method_59_code
def yX1_meanEfficiency : MethodName := ⟨RX1, "meanEfficiency", "()D"⟩
abbrev cX1_digest : ByteArray := prog_3_method_60_code
def yX1_digest : MethodName := ⟨RX1, "digest", "()J"⟩
def RL : String := "KnotRackLaw"
abbrev cL_addKnot : ByteArray := method_3_code
def yL_addKnot : MethodName := ⟨RL, "addKnot", "(LKnotRack;III[J)I"⟩
abbrev cL_setSpill : ByteArray := method_4_code
def yL_setSpill : MethodName := ⟨RL, "setSpill", "(LKnotRack;III[J)I"⟩
abbrev cL_tie : ByteArray := method_5_code
def yL_tie : MethodName := ⟨RL, "tie", "(LKnotRack;II[J)I"⟩
abbrev cL_join : ByteArray := method_6_code
def yL_join : MethodName := ⟨RL, "join", "(LKnotRack;III[J)I"⟩
abbrev cL_retie : ByteArray := method_7_code
def yL_retie : MethodName := ⟨RL, "retie", "(LKnotRack;III[J)I"⟩
abbrev cL_pull : ByteArray := method_8_code
def yL_pull : MethodName := ⟨RL, "pull", "(LKnotRack;II[J)I"⟩
abbrev cL_knotsOf : ByteArray := method_9_code
def yL_knotsOf : MethodName := ⟨RL, "knotsOf", "(LKnotRack;I[J)I"⟩
abbrev cL_kindOf : ByteArray := method_10_code
def yL_kindOf : MethodName := ⟨RL, "kindOf", "(LKnotRack;I[J)I"⟩
abbrev cL_efficiencyOf : ByteArray := method_11_code
def yL_efficiencyOf : MethodName := ⟨RL, "efficiencyOf", "(LKnotRack;I[J)I"⟩
abbrev cL_crossingsOf : ByteArray := method_12_code
def yL_crossingsOf : MethodName := ⟨RL, "crossingsOf", "(LKnotRack;I[J)I"⟩
abbrev cL_spillsAt : ByteArray := method_13_code
def yL_spillsAt : MethodName := ⟨RL, "spillsAt", "(LKnotRack;I[J)I"⟩
abbrev cL_spillsInto : ByteArray := method_14_code
def yL_spillsInto : MethodName := ⟨RL, "spillsInto", "(LKnotRack;I[J)I"⟩
abbrev cL_rankOf : ByteArray := method_15_code
def yL_rankOf : MethodName := ⟨RL, "rankOf", "(LKnotRack;I[J)I"⟩
abbrev cL_knotAt : ByteArray := method_16_code
def yL_knotAt : MethodName := ⟨RL, "knotAt", "(LKnotRack;II[J)I"⟩
abbrev cL_formOf : ByteArray := method_17_code
def yL_formOf : MethodName := ⟨RL, "formOf", "(LKnotRack;II[J)I"⟩
abbrev cL_spills : ByteArray := method_18_code
def yL_spills : MethodName := ⟨RL, "spills", "(LKnotRack;II[J)I"⟩
abbrev cL_fallsApartAt : ByteArray := method_19_code
def yL_fallsApartAt : MethodName := ⟨RL, "fallsApartAt", "(LKnotRack;I[J)I"⟩
abbrev cL_ropesOf : ByteArray := method_20_code
def yL_ropesOf : MethodName := ⟨RL, "ropesOf", "(LKnotRack;I[J)I"⟩
abbrev cL_knotOf : ByteArray := method_21_code
def yL_knotOf : MethodName := ⟨RL, "knotOf", "(LKnotRack;II[J)I"⟩
abbrev cL_strengthAt : ByteArray := method_22_code
def yL_strengthAt : MethodName := ⟨RL, "strengthAt", "(LKnotRack;II[J)I"⟩
abbrev cL_weakestPlace : ByteArray := method_23_code
def yL_weakestPlace : MethodName := ⟨RL, "weakestPlace", "(LKnotRack;I[J)I"⟩
abbrev cL_holds : ByteArray := method_24_code
def yL_holds : MethodName := ⟨RL, "holds", "(LKnotRack;II[J)I"⟩
abbrev cL_holdsUpTo : ByteArray := method_25_code
def yL_holdsUpTo : MethodName := ⟨RL, "holdsUpTo", "(LKnotRack;I[J)I"⟩
abbrev cL_wouldGiveWay : ByteArray := method_26_code
def yL_wouldGiveWay : MethodName := ⟨RL, "wouldGiveWay", "(LKnotRack;II[J)I"⟩
abbrev cL_bestKnot : ByteArray := method_27_code
def yL_bestKnot : MethodName := ⟨RL, "bestKnot", "(LKnotRack;II[J)I"⟩
abbrev cL_law : ByteArray := code
def yL_law : MethodName := ⟨RL, "law", "([I)Z"⟩
abbrev vwCl : List vw_C := [(RX0, TX0, 10), (RX1, TX1, 11)]
/-- the words that every method of these walks takes: the good ones of the tables -/
def kr_all : List Cond := lw_tbl.filter goodWord
theorem kr_in {w : Cond} (i : Nat) (h : lw_tbl[i]? = some w) (g : goodWord w = true) : w ∈ kr_all := List.mem_filter.mpr ⟨List.mem_of_getElem? h, g⟩
theorem kr_tbl {w : Cond} (h : w ∈ kr_all) : w ∈ lw_tbl := (List.mem_filter.mp h).1
theorem kq_0 : (Cond.selects RX0 yX0_checkLine yX0_checkLine) ∈ kr_all := kr_in 0 (by decide +kernel) rfl
theorem kq_2 : (Cond.selects RX0 yX0_loadHeldWith yX0_loadHeldWith) ∈ kr_all := kr_in 2 (by decide +kernel) rfl
theorem kq_3 : (Cond.selects RX0 yX0_isGone yX0_isGone) ∈ kr_all := kr_in 3 (by decide +kernel) rfl
theorem kq_4 : (Cond.selects RX0 yX0_loadHeldAt yX0_loadHeldAt) ∈ kr_all := kr_in 4 (by decide +kernel) rfl
theorem kq_5 : (Cond.selects RX0 yX0_isKnot yX0_isKnot) ∈ kr_all := kr_in 5 (by decide +kernel) rfl
theorem kq_6 : (Cond.selects RX0 yX0_strengthWith yX0_strengthWith) ∈ kr_all := kr_in 6 (by decide +kernel) rfl
theorem kq_7 : (Cond.selects RX0 yX0_digestWithKnot yX0_digestWithKnot) ∈ kr_all := kr_in 7 (by decide +kernel) rfl
theorem kq_8 : (Cond.selects RX0 yX0_checkKnot yX0_checkKnot) ∈ kr_all := kr_in 8 (by decide +kernel) rfl
theorem kq_9 : (Cond.selects RX0 yX0_rankInKind yX0_rankInKind) ∈ kr_all := kr_in 9 (by decide +kernel) rfl
theorem kq_10 : (Cond.selects RX0 yX0_isAheadOf yX0_isAheadOf) ∈ kr_all := kr_in 10 (by decide +kernel) rfl
theorem kq_11 : (Cond.selects RX0 yX0_digestWithLine yX0_digestWithLine) ∈ kr_all := kr_in 11 (by decide +kernel) rfl
theorem kq_12 : (Cond.selects RX0 yX0_currentStrength yX0_currentStrength) ∈ kr_all := kr_in 12 (by decide +kernel) rfl
theorem kq_13 : (Cond.selects RX0 yX0_checkPlace yX0_checkPlace) ∈ kr_all := kr_in 13 (by decide +kernel) rfl
theorem kq_14 : (Cond.selects RX0 yX0_checkOfKind yX0_checkOfKind) ∈ kr_all := kr_in 14 (by decide +kernel) rfl
theorem kq_15 : (Cond.selects RX0 yX0_appendRope yX0_appendRope) ∈ kr_all := kr_in 15 (by decide +kernel) rfl
theorem kq_16 : (Cond.selects RX0 yX0_checkNotGone yX0_checkNotGone) ∈ kr_all := kr_in 16 (by decide +kernel) rfl
theorem kq_17 : (Cond.selects RX0 yX0_firstPlaceToGiveWay yX0_firstPlaceToGiveWay) ∈ kr_all := kr_in 17 (by decide +kernel) rfl
theorem kq_18 : (Cond.selects RX0 yX0_placeHolds yX0_placeHolds) ∈ kr_all := kr_in 18 (by decide +kernel) rfl
theorem kq_19 : (Cond.selects RX0 yX0_formUnder yX0_formUnder) ∈ kr_all := kr_in 19 (by decide +kernel) rfl
theorem kq_20 : (Cond.selects RX0 yX0_spillsUnder yX0_spillsUnder) ∈ kr_all := kr_in 20 (by decide +kernel) rfl
theorem kq_21 : (Cond.selects RX0 yX0_countOfKind yX0_countOfKind) ∈ kr_all := kr_in 21 (by decide +kernel) rfl
theorem kq_22 : (Cond.selects RX0 yX0_knotWithRank yX0_knotWithRank) ∈ kr_all := kr_in 22 (by decide +kernel) rfl
theorem kq_23 : (Cond.selects RX1 yX1_no yX1_no) ∈ kr_all := kr_in 23 (by decide +kernel) rfl
theorem kq_24 : (Cond.selects RX1 yX1_isKnot yX1_isKnot) ∈ kr_all := kr_in 24 (by decide +kernel) rfl
theorem kq_25 : (Cond.selects RX1 yX1_isLine yX1_isLine) ∈ kr_all := kr_in 25 (by decide +kernel) rfl
theorem kq_26 : (Cond.selects RX1 yX1_isPlace yX1_isPlace) ∈ kr_all := kr_in 26 (by decide +kernel) rfl
theorem kq_27 : (Cond.selects RX1 yX1_giving yX1_giving) ∈ kr_all := kr_in 27 (by decide +kernel) rfl
theorem kq_28 : (Cond.selects RX1 yX1_placeHolds yX1_placeHolds) ∈ kr_all := kr_in 28 (by decide +kernel) rfl
theorem kq_29 : (Cond.selects RX1 yX1_form yX1_form) ∈ kr_all := kr_in 29 (by decide +kernel) rfl
theorem kq_30 : (Cond.selects RX1 yX1_goes yX1_goes) ∈ kr_all := kr_in 30 (by decide +kernel) rfl
theorem kq_31 : (Cond.selects RX1 yX1_strength yX1_strength) ∈ kr_all := kr_in 31 (by decide +kernel) rfl
theorem kq_32 : (Cond.selects RX1 yX1_ok yX1_ok) ∈ kr_all := kr_in 32 (by decide +kernel) rfl
theorem kq_33 : (Cond.selects RX1 yX1_many yX1_many) ∈ kr_all := kr_in 33 (by decide +kernel) rfl
theorem kq_34 : (Cond.selects RX1 yX1_of yX1_of) ∈ kr_all := kr_in 34 (by decide +kernel) rfl
theorem kq_35 : (Cond.selects RX1 yX1_rank yX1_rank) ∈ kr_all := kr_in 35 (by decide +kernel) rfl
theorem kq_36 : (Cond.selects RX1 yX1_isAhead yX1_isAhead) ∈ kr_all := kr_in 36 (by decide +kernel) rfl
theorem kq_37 : (Cond.selects RX1 yX1_isLoaded yX1_isLoaded) ∈ kr_all := kr_in 37 (by decide +kernel) rfl
theorem kq_38 : (Cond.selects RX1 yX1_often yX1_often) ∈ kr_all := kr_in 38 (by decide +kernel) rfl
theorem kq_39 : (Cond.selects RX1 yX1_apart yX1_apart) ∈ kr_all := kr_in 39 (by decide +kernel) rfl
theorem kq_40 : (Cond.selects RX1 yX1_now yX1_now) ∈ kr_all := kr_in 40 (by decide +kernel) rfl
theorem kq_41 : (Cond.selects RX1 yX1_weakest yX1_weakest) ∈ kr_all := kr_in 41 (by decide +kernel) rfl
theorem kq_42 : (Cond.selects RX1 yX1_isPulled yX1_isPulled) ∈ kr_all := kr_in 42 (by decide +kernel) rfl
theorem kq_43 : (Cond.selects RX1 yX1_upTo yX1_upTo) ∈ kr_all := kr_in 43 (by decide +kernel) rfl
theorem kq_44 : (Cond.selects RX1 yX1_placeUpTo yX1_placeUpTo) ∈ kr_all := kr_in 44 (by decide +kernel) rfl
theorem kq_45 : (Cond.selects RX1 yX1_best yX1_best) ∈ kr_all := kr_in 45 (by decide +kernel) rfl
theorem kq_46 : (Cond.selects RX1 yX1_strongest yX1_strongest) ∈ kr_all := kr_in 46 (by decide +kernel) rfl
theorem kq_47 : (Cond.initialized "KnotRackLaw") ∈ kr_all := kr_in 47 (by decide +kernel) rfl
theorem kq_48 : (Cond.initialized "KnotRack") ∈ kr_all := kr_in 48 (by decide +kernel) rfl
theorem kq_49 : (Cond.initialized "KnotRackModel") ∈ kr_all := kr_in 49 (by decide +kernel) rfl
theorem kq_51 : (Cond.initialized "java/lang/Exception") ∈ kr_all := kr_in 51 (by decide +kernel) rfl
theorem kq_52 : (Cond.initialized "java/lang/RuntimeException") ∈ kr_all := kr_in 52 (by decide +kernel) rfl
theorem kq_53 : (Cond.initialized "java/lang/IndexOutOfBoundsException") ∈ kr_all := kr_in 53 (by decide +kernel) rfl
theorem kq_54 : (Cond.initialized "java/lang/IllegalArgumentException") ∈ kr_all := kr_in 54 (by decide +kernel) rfl
theorem kq_55 : (Cond.initialized "java/lang/IllegalStateException") ∈ kr_all := kr_in 55 (by decide +kernel) rfl
theorem kq_56 : (Cond.initialized "java/lang/Math") ∈ kr_all := kr_in 56 (by decide +kernel) rfl
theorem kq_57 : (Cond.classLink RL 8 "KnotRack") ∈ kr_all := kr_in 57 (by decide +kernel) rfl
theorem kq_58 : (Cond.instantiable RX0 10) ∈ kr_all := kr_in 58 (by decide +kernel) rfl
theorem kq_59 : (Cond.methodLink RL 94 yX0_init) ∈ kr_all := kr_in 59 (by decide +kernel) rfl
theorem kq_60 : (Cond.instanceMethod yX0_init) ∈ kr_all := kr_in 60 (by decide +kernel) rfl
theorem kq_61 : (Cond.code yX0_init cX0_init 1 none) ∈ kr_all := kr_in 61 (by decide +kernel) rfl
theorem kq_62 : (Cond.methodLink RX0 1 objectInit) ∈ kr_all := kr_in 62 (by decide +kernel) rfl
theorem kq_63 : (Cond.instanceMethod objectInit) ∈ kr_all := kr_in 63 (by decide +kernel) rfl
theorem kq_64 : (Cond.code objectInit ⟨#[0xb1]⟩ 1 none) ∈ kr_all := kr_in 64 (by decide +kernel) rfl
theorem kq_65 : (Cond.fieldLink RX0 9 "KnotRack" "kinds" "[I") ∈ kr_all := kr_in 65 (by decide +kernel) rfl
theorem kq_66 : (Cond.fieldLink RX0 13 "KnotRack" "efficiencies" "[I") ∈ kr_all := kr_in 66 (by decide +kernel) rfl
theorem kq_67 : (Cond.fieldLink RX0 16 "KnotRack" "crossingCounts" "[I") ∈ kr_all := kr_in 67 (by decide +kernel) rfl
theorem kq_68 : (Cond.fieldLink RX0 19 "KnotRack" "spillLoads" "[I") ∈ kr_all := kr_in 68 (by decide +kernel) rfl
theorem kq_69 : (Cond.fieldLink RX0 22 "KnotRack" "spillTargets" "[I") ∈ kr_all := kr_in 69 (by decide +kernel) rfl
theorem kq_70 : (Cond.fieldLink RX0 25 "KnotRack" "knotCount" "I") ∈ kr_all := kr_in 70 (by decide +kernel) rfl
theorem kq_71 : (Cond.fieldLink RX0 29 "KnotRack" "ropeCounts" "[I") ∈ kr_all := kr_in 71 (by decide +kernel) rfl
theorem kq_72 : (Cond.fieldLink RX0 32 "KnotRack" "lineCount" "I") ∈ kr_all := kr_in 72 (by decide +kernel) rfl
theorem kq_73 : (Cond.fieldLink RX0 35 "KnotRack" "tiedKnots" "[I") ∈ kr_all := kr_in 73 (by decide +kernel) rfl
theorem kq_74 : (Cond.fieldLink RX0 38 "KnotRack" "ropeStrengths" "[I") ∈ kr_all := kr_in 74 (by decide +kernel) rfl
theorem kq_96 : (Cond.arrayClass .int) ∈ kr_all := kr_in 96 (by decide +kernel) rfl
theorem kq_97 : (Cond.methodLink RL 124 yX0_knots) ∈ kr_all := kr_in 97 (by decide +kernel) rfl
theorem kq_98 : (Cond.instanceMethod yX0_knots) ∈ kr_all := kr_in 98 (by decide +kernel) rfl
theorem kq_99 : (Cond.selects RX0 yX0_knots yX0_knots) ∈ kr_all := kr_in 99 (by decide +kernel) rfl
theorem kq_100 : (Cond.code yX0_knots cX0_knots 1 (some .int)) ∈ kr_all := kr_in 100 (by decide +kernel) rfl
theorem kq_101 : (Cond.methodLink RL 162 yX0_lines) ∈ kr_all := kr_in 101 (by decide +kernel) rfl
theorem kq_102 : (Cond.instanceMethod yX0_lines) ∈ kr_all := kr_in 102 (by decide +kernel) rfl
theorem kq_103 : (Cond.selects RX0 yX0_lines yX0_lines) ∈ kr_all := kr_in 103 (by decide +kernel) rfl
theorem kq_104 : (Cond.code yX0_lines cX0_lines 1 (some .int)) ∈ kr_all := kr_in 104 (by decide +kernel) rfl
theorem kq_105 : (Cond.methodLink RL 190 yX0_strongestLine) ∈ kr_all := kr_in 105 (by decide +kernel) rfl
theorem kq_106 : (Cond.instanceMethod yX0_strongestLine) ∈ kr_all := kr_in 106 (by decide +kernel) rfl
theorem kq_107 : (Cond.selects RX0 yX0_strongestLine yX0_strongestLine) ∈ kr_all := kr_in 107 (by decide +kernel) rfl
theorem kq_108 : (Cond.code yX0_strongestLine cX0_strongestLine 5 (some .int)) ∈ kr_all := kr_in 108 (by decide +kernel) rfl
theorem kq_109 : (Cond.methodLink RX0 147 yX0_holdsUpTo) ∈ kr_all := kr_in 109 (by decide +kernel) rfl
theorem kq_110 : (Cond.instanceMethod yX0_holdsUpTo) ∈ kr_all := kr_in 110 (by decide +kernel) rfl
theorem kq_111 : (Cond.selects RX0 yX0_holdsUpTo yX0_holdsUpTo) ∈ kr_all := kr_in 111 (by decide +kernel) rfl
theorem kq_112 : (Cond.code yX0_holdsUpTo cX0_holdsUpTo 2 (some .int)) ∈ kr_all := kr_in 112 (by decide +kernel) rfl
theorem kq_113 : (Cond.methodLink RX0 82 yX0_checkLine) ∈ kr_all := kr_in 113 (by decide +kernel) rfl
theorem kq_115 : (Cond.instanceMethod yX0_checkLine) ∈ kr_all := kr_in 115 (by decide +kernel) rfl
theorem kq_116 : (Cond.code yX0_checkLine cX0_checkLine 2 none) ∈ kr_all := kr_in 116 (by decide +kernel) rfl
theorem kq_117 : (Cond.classLink RX0 116 "java/lang/IndexOutOfBoundsException") ∈ kr_all := kr_in 117 (by decide +kernel) rfl
theorem kq_118 : (Cond.instantiable "java/lang/IndexOutOfBoundsException" 6) ∈ kr_all := kr_in 118 (by decide +kernel) rfl
theorem kq_184 : (Cond.arrayClass .byte) ∈ kr_all := kr_in 184 (by decide +kernel) rfl
theorem kq_185 : (Cond.methodLink RX0 143 yX0_loadHeldWith) ∈ kr_all := kr_in 185 (by decide +kernel) rfl
theorem kq_187 : (Cond.instanceMethod yX0_loadHeldWith) ∈ kr_all := kr_in 187 (by decide +kernel) rfl
theorem kq_188 : (Cond.code yX0_loadHeldWith cX0_loadHeldWith 7 (some .int)) ∈ kr_all := kr_in 188 (by decide +kernel) rfl
theorem kq_189 : (Cond.methodLink RX0 140 yX0_isGone) ∈ kr_all := kr_in 189 (by decide +kernel) rfl
theorem kq_191 : (Cond.instanceMethod yX0_isGone) ∈ kr_all := kr_in 191 (by decide +kernel) rfl
theorem kq_192 : (Cond.code yX0_isGone cX0_isGone 2 (some .boolean)) ∈ kr_all := kr_in 192 (by decide +kernel) rfl
theorem kq_193 : (Cond.methodLink RX0 97 yX0_slot) ∈ kr_all := kr_in 193 (by decide +kernel) rfl
theorem kq_194 : (Cond.static yX0_slot) ∈ kr_all := kr_in 194 (by decide +kernel) rfl
theorem kq_195 : (Cond.code yX0_slot cX0_slot 2 (some .int)) ∈ kr_all := kr_in 195 (by decide +kernel) rfl
theorem kq_196 : (Cond.methodLink RX0 230 yX0_loadHeldAt) ∈ kr_all := kr_in 196 (by decide +kernel) rfl
theorem kq_198 : (Cond.instanceMethod yX0_loadHeldAt) ∈ kr_all := kr_in 198 (by decide +kernel) rfl
theorem kq_199 : (Cond.code yX0_loadHeldAt cX0_loadHeldAt 9 (some .int)) ∈ kr_all := kr_in 199 (by decide +kernel) rfl
theorem kq_200 : (Cond.methodLink RX0 125 yX0_isKnot) ∈ kr_all := kr_in 200 (by decide +kernel) rfl
theorem kq_202 : (Cond.instanceMethod yX0_isKnot) ∈ kr_all := kr_in 202 (by decide +kernel) rfl
theorem kq_203 : (Cond.code yX0_isKnot cX0_isKnot 2 (some .boolean)) ∈ kr_all := kr_in 203 (by decide +kernel) rfl
theorem kq_204 : (Cond.methodLink RX0 223 yX0_strengthWith) ∈ kr_all := kr_in 204 (by decide +kernel) rfl
theorem kq_206 : (Cond.instanceMethod yX0_strengthWith) ∈ kr_all := kr_in 206 (by decide +kernel) rfl
theorem kq_207 : (Cond.code yX0_strengthWith cX0_strengthWith 5 (some .int)) ∈ kr_all := kr_in 207 (by decide +kernel) rfl
theorem kq_208 : (Cond.methodLink RX0 220 Lib.Math.min.name) ∈ kr_all := kr_in 208 (by decide +kernel) rfl
theorem kq_209 : (Cond.static Lib.Math.min.name) ∈ kr_all := kr_in 209 (by decide +kernel) rfl
theorem kq_210 : (Cond.code Lib.Math.min.name Lib.Math.min.code 2 (some .int)) ∈ kr_all := kr_in 210 (by decide +kernel) rfl
theorem kq_211 : (Cond.methodLink RX0 129 Lib.Math.max.name) ∈ kr_all := kr_in 211 (by decide +kernel) rfl
theorem kq_212 : (Cond.static Lib.Math.max.name) ∈ kr_all := kr_in 212 (by decide +kernel) rfl
theorem kq_213 : (Cond.code Lib.Math.max.name Lib.Math.max.code 2 (some .int)) ∈ kr_all := kr_in 213 (by decide +kernel) rfl
theorem kq_214 : (Cond.methodLink RL 194 yX0_meanEfficiency) ∈ kr_all := kr_in 214 (by decide +kernel) rfl
theorem kq_215 : (Cond.instanceMethod yX0_meanEfficiency) ∈ kr_all := kr_in 215 (by decide +kernel) rfl
theorem kq_216 : (Cond.selects RX0 yX0_meanEfficiency yX0_meanEfficiency) ∈ kr_all := kr_in 216 (by decide +kernel) rfl
theorem kq_217 : (Cond.code yX0_meanEfficiency cX0_meanEfficiency 3 (some .double)) ∈ kr_all := kr_in 217 (by decide +kernel) rfl
theorem kq_218 : (Cond.methodLink RL 199 yX0_digest) ∈ kr_all := kr_in 218 (by decide +kernel) rfl
theorem kq_219 : (Cond.instanceMethod yX0_digest) ∈ kr_all := kr_in 219 (by decide +kernel) rfl
theorem kq_220 : (Cond.selects RX0 yX0_digest yX0_digest) ∈ kr_all := kr_in 220 (by decide +kernel) rfl
theorem kq_221 : (Cond.code yX0_digest cX0_digest 4 (some .long)) ∈ kr_all := kr_in 221 (by decide +kernel) rfl
theorem kq_222 : (Cond.constantLong RX0 150 (2063 : Int64)) ∈ kr_all := kr_in 222 (by decide +kernel) rfl
theorem kq_223 : (Cond.methodLink RX0 152 yX0_digestWith) ∈ kr_all := kr_in 223 (by decide +kernel) rfl
theorem kq_224 : (Cond.static yX0_digestWith) ∈ kr_all := kr_in 224 (by decide +kernel) rfl
theorem kq_225 : (Cond.code yX0_digestWith cX0_digestWith 3 (some .long)) ∈ kr_all := kr_in 225 (by decide +kernel) rfl
theorem kq_226 : (Cond.constantLong RX0 199 (31 : Int64)) ∈ kr_all := kr_in 226 (by decide +kernel) rfl
theorem kq_227 : (Cond.methodLink RX0 156 yX0_strongestLine) ∈ kr_all := kr_in 227 (by decide +kernel) rfl
theorem kq_228 : (Cond.methodLink RX0 160 yX0_digestWithKnot) ∈ kr_all := kr_in 228 (by decide +kernel) rfl
theorem kq_230 : (Cond.instanceMethod yX0_digestWithKnot) ∈ kr_all := kr_in 230 (by decide +kernel) rfl
theorem kq_231 : (Cond.code yX0_digestWithKnot cX0_digestWithKnot 6 (some .long)) ∈ kr_all := kr_in 231 (by decide +kernel) rfl
theorem kq_232 : (Cond.methodLink RX0 166 yX0_kindOf) ∈ kr_all := kr_in 232 (by decide +kernel) rfl
theorem kq_233 : (Cond.instanceMethod yX0_kindOf) ∈ kr_all := kr_in 233 (by decide +kernel) rfl
theorem kq_234 : (Cond.selects RX0 yX0_kindOf yX0_kindOf) ∈ kr_all := kr_in 234 (by decide +kernel) rfl
theorem kq_235 : (Cond.code yX0_kindOf cX0_kindOf 2 (some .int)) ∈ kr_all := kr_in 235 (by decide +kernel) rfl
theorem kq_236 : (Cond.methodLink RX0 59 yX0_checkKnot) ∈ kr_all := kr_in 236 (by decide +kernel) rfl
theorem kq_238 : (Cond.instanceMethod yX0_checkKnot) ∈ kr_all := kr_in 238 (by decide +kernel) rfl
theorem kq_239 : (Cond.code yX0_checkKnot cX0_checkKnot 2 none) ∈ kr_all := kr_in 239 (by decide +kernel) rfl
theorem kq_241 : (Cond.methodLink RX0 169 yX0_efficiencyOf) ∈ kr_all := kr_in 241 (by decide +kernel) rfl
theorem kq_242 : (Cond.instanceMethod yX0_efficiencyOf) ∈ kr_all := kr_in 242 (by decide +kernel) rfl
theorem kq_243 : (Cond.selects RX0 yX0_efficiencyOf yX0_efficiencyOf) ∈ kr_all := kr_in 243 (by decide +kernel) rfl
theorem kq_244 : (Cond.code yX0_efficiencyOf cX0_efficiencyOf 2 (some .int)) ∈ kr_all := kr_in 244 (by decide +kernel) rfl
theorem kq_245 : (Cond.methodLink RX0 172 yX0_crossingsOf) ∈ kr_all := kr_in 245 (by decide +kernel) rfl
theorem kq_246 : (Cond.instanceMethod yX0_crossingsOf) ∈ kr_all := kr_in 246 (by decide +kernel) rfl
theorem kq_247 : (Cond.selects RX0 yX0_crossingsOf yX0_crossingsOf) ∈ kr_all := kr_in 247 (by decide +kernel) rfl
theorem kq_248 : (Cond.code yX0_crossingsOf cX0_crossingsOf 2 (some .int)) ∈ kr_all := kr_in 248 (by decide +kernel) rfl
theorem kq_249 : (Cond.methodLink RX0 175 yX0_spillsAt) ∈ kr_all := kr_in 249 (by decide +kernel) rfl
theorem kq_250 : (Cond.instanceMethod yX0_spillsAt) ∈ kr_all := kr_in 250 (by decide +kernel) rfl
theorem kq_251 : (Cond.selects RX0 yX0_spillsAt yX0_spillsAt) ∈ kr_all := kr_in 251 (by decide +kernel) rfl
theorem kq_252 : (Cond.code yX0_spillsAt cX0_spillsAt 2 (some .int)) ∈ kr_all := kr_in 252 (by decide +kernel) rfl
theorem kq_253 : (Cond.methodLink RX0 178 yX0_spillsInto) ∈ kr_all := kr_in 253 (by decide +kernel) rfl
theorem kq_254 : (Cond.instanceMethod yX0_spillsInto) ∈ kr_all := kr_in 254 (by decide +kernel) rfl
theorem kq_255 : (Cond.selects RX0 yX0_spillsInto yX0_spillsInto) ∈ kr_all := kr_in 255 (by decide +kernel) rfl
theorem kq_256 : (Cond.code yX0_spillsInto cX0_spillsInto 2 (some .int)) ∈ kr_all := kr_in 256 (by decide +kernel) rfl
theorem kq_257 : (Cond.methodLink RX0 181 yX0_rankOf) ∈ kr_all := kr_in 257 (by decide +kernel) rfl
theorem kq_258 : (Cond.instanceMethod yX0_rankOf) ∈ kr_all := kr_in 258 (by decide +kernel) rfl
theorem kq_259 : (Cond.selects RX0 yX0_rankOf yX0_rankOf) ∈ kr_all := kr_in 259 (by decide +kernel) rfl
theorem kq_260 : (Cond.code yX0_rankOf cX0_rankOf 2 (some .int)) ∈ kr_all := kr_in 260 (by decide +kernel) rfl
theorem kq_261 : (Cond.methodLink RX0 110 yX0_rankInKind) ∈ kr_all := kr_in 261 (by decide +kernel) rfl
theorem kq_263 : (Cond.instanceMethod yX0_rankInKind) ∈ kr_all := kr_in 263 (by decide +kernel) rfl
theorem kq_264 : (Cond.code yX0_rankInKind cX0_rankInKind 4 (some .int)) ∈ kr_all := kr_in 264 (by decide +kernel) rfl
theorem kq_265 : (Cond.methodLink RX0 217 yX0_isAheadOf) ∈ kr_all := kr_in 265 (by decide +kernel) rfl
theorem kq_267 : (Cond.instanceMethod yX0_isAheadOf) ∈ kr_all := kr_in 267 (by decide +kernel) rfl
theorem kq_268 : (Cond.code yX0_isAheadOf cX0_isAheadOf 3 (some .boolean)) ∈ kr_all := kr_in 268 (by decide +kernel) rfl
theorem kq_269 : (Cond.methodLink RX0 184 yX0_fallsApartAt) ∈ kr_all := kr_in 269 (by decide +kernel) rfl
theorem kq_270 : (Cond.instanceMethod yX0_fallsApartAt) ∈ kr_all := kr_in 270 (by decide +kernel) rfl
theorem kq_271 : (Cond.selects RX0 yX0_fallsApartAt yX0_fallsApartAt) ∈ kr_all := kr_in 271 (by decide +kernel) rfl
theorem kq_272 : (Cond.code yX0_fallsApartAt cX0_fallsApartAt 5 (some .int)) ∈ kr_all := kr_in 272 (by decide +kernel) rfl
theorem kq_273 : (Cond.methodLink RX0 163 yX0_digestWithLine) ∈ kr_all := kr_in 273 (by decide +kernel) rfl
theorem kq_275 : (Cond.instanceMethod yX0_digestWithLine) ∈ kr_all := kr_in 275 (by decide +kernel) rfl
theorem kq_276 : (Cond.code yX0_digestWithLine cX0_digestWithLine 7 (some .long)) ∈ kr_all := kr_in 276 (by decide +kernel) rfl
theorem kq_277 : (Cond.methodLink RX0 187 yX0_ropesOf) ∈ kr_all := kr_in 277 (by decide +kernel) rfl
theorem kq_278 : (Cond.instanceMethod yX0_ropesOf) ∈ kr_all := kr_in 278 (by decide +kernel) rfl
theorem kq_279 : (Cond.selects RX0 yX0_ropesOf yX0_ropesOf) ∈ kr_all := kr_in 279 (by decide +kernel) rfl
theorem kq_280 : (Cond.code yX0_ropesOf cX0_ropesOf 2 (some .int)) ∈ kr_all := kr_in 280 (by decide +kernel) rfl
theorem kq_281 : (Cond.methodLink RX0 190 yX0_weakestPlace) ∈ kr_all := kr_in 281 (by decide +kernel) rfl
theorem kq_282 : (Cond.instanceMethod yX0_weakestPlace) ∈ kr_all := kr_in 282 (by decide +kernel) rfl
theorem kq_283 : (Cond.selects RX0 yX0_weakestPlace yX0_weakestPlace) ∈ kr_all := kr_in 283 (by decide +kernel) rfl
theorem kq_284 : (Cond.code yX0_weakestPlace cX0_weakestPlace 6 (some .int)) ∈ kr_all := kr_in 284 (by decide +kernel) rfl
theorem kq_285 : (Cond.constant RX0 139 (2147483647 : Int32)) ∈ kr_all := kr_in 285 (by decide +kernel) rfl
theorem kq_286 : (Cond.methodLink RX0 134 yX0_currentStrength) ∈ kr_all := kr_in 286 (by decide +kernel) rfl
theorem kq_288 : (Cond.instanceMethod yX0_currentStrength) ∈ kr_all := kr_in 288 (by decide +kernel) rfl
theorem kq_289 : (Cond.code yX0_currentStrength cX0_currentStrength 3 (some .int)) ∈ kr_all := kr_in 289 (by decide +kernel) rfl
theorem kq_290 : (Cond.methodLink RX0 193 yX0_knotOf) ∈ kr_all := kr_in 290 (by decide +kernel) rfl
theorem kq_291 : (Cond.instanceMethod yX0_knotOf) ∈ kr_all := kr_in 291 (by decide +kernel) rfl
theorem kq_292 : (Cond.selects RX0 yX0_knotOf yX0_knotOf) ∈ kr_all := kr_in 292 (by decide +kernel) rfl
theorem kq_293 : (Cond.code yX0_knotOf cX0_knotOf 3 (some .int)) ∈ kr_all := kr_in 293 (by decide +kernel) rfl
theorem kq_294 : (Cond.methodLink RX0 90 yX0_checkPlace) ∈ kr_all := kr_in 294 (by decide +kernel) rfl
theorem kq_296 : (Cond.instanceMethod yX0_checkPlace) ∈ kr_all := kr_in 296 (by decide +kernel) rfl
theorem kq_297 : (Cond.code yX0_checkPlace cX0_checkPlace 3 none) ∈ kr_all := kr_in 297 (by decide +kernel) rfl
theorem kq_299 : (Cond.methodLink RX0 196 yX0_strengthAt) ∈ kr_all := kr_in 299 (by decide +kernel) rfl
theorem kq_300 : (Cond.instanceMethod yX0_strengthAt) ∈ kr_all := kr_in 300 (by decide +kernel) rfl
theorem kq_301 : (Cond.selects RX0 yX0_strengthAt yX0_strengthAt) ∈ kr_all := kr_in 301 (by decide +kernel) rfl
theorem kq_302 : (Cond.code yX0_strengthAt cX0_strengthAt 3 (some .int)) ∈ kr_all := kr_in 302 (by decide +kernel) rfl
theorem kq_303 : (Cond.methodLink RL 98 yL_addKnot) ∈ kr_all := kr_in 303 (by decide +kernel) rfl
theorem kq_304 : (Cond.static yL_addKnot) ∈ kr_all := kr_in 304 (by decide +kernel) rfl
theorem kq_305 : (Cond.codeWith yL_addKnot cL_addKnot 6 (some .int) [(0, 12, 15, 13), (0, 12, 19, 15), (0, 12, 23, 17)]) ∈ kr_all := kr_in 305 (by decide +kernel) rfl
theorem kq_306 : (Cond.classLink RL 13 "java/lang/IndexOutOfBoundsException") ∈ kr_all := kr_in 306 (by decide +kernel) rfl
theorem kq_307 : (Cond.classLink RL 15 "java/lang/IllegalArgumentException") ∈ kr_all := kr_in 307 (by decide +kernel) rfl
theorem kq_308 : (Cond.classLink RL 17 "java/lang/IllegalStateException") ∈ kr_all := kr_in 308 (by decide +kernel) rfl
theorem kq_309 : (Cond.methodLink RL 7 yX0_addKnot) ∈ kr_all := kr_in 309 (by decide +kernel) rfl
theorem kq_310 : (Cond.instanceMethod yX0_addKnot) ∈ kr_all := kr_in 310 (by decide +kernel) rfl
theorem kq_311 : (Cond.selects RX0 yX0_addKnot yX0_addKnot) ∈ kr_all := kr_in 311 (by decide +kernel) rfl
theorem kq_312 : (Cond.code yX0_addKnot cX0_addKnot 5 (some .int)) ∈ kr_all := kr_in 312 (by decide +kernel) rfl
theorem kq_313 : (Cond.methodLink RX0 41 yX0_checkKind) ∈ kr_all := kr_in 313 (by decide +kernel) rfl
theorem kq_314 : (Cond.static yX0_checkKind) ∈ kr_all := kr_in 314 (by decide +kernel) rfl
theorem kq_315 : (Cond.code yX0_checkKind cX0_checkKind 1 none) ∈ kr_all := kr_in 315 (by decide +kernel) rfl
theorem kq_317 : (Cond.classLink RX0 45 "java/lang/IllegalArgumentException") ∈ kr_all := kr_in 317 (by decide +kernel) rfl
theorem kq_318 : (Cond.instantiable "java/lang/IllegalArgumentException" 6) ∈ kr_all := kr_in 318 (by decide +kernel) rfl
theorem kq_334 : (Cond.classLink RX0 54 "java/lang/IllegalStateException") ∈ kr_all := kr_in 334 (by decide +kernel) rfl
theorem kq_335 : (Cond.instantiable "java/lang/IllegalStateException" 6) ∈ kr_all := kr_in 335 (by decide +kernel) rfl
theorem kq_350 : (Cond.methodLink RL 108 yL_setSpill) ∈ kr_all := kr_in 350 (by decide +kernel) rfl
theorem kq_351 : (Cond.static yL_setSpill) ∈ kr_all := kr_in 351 (by decide +kernel) rfl
theorem kq_352 : (Cond.codeWith yL_setSpill cL_setSpill 6 (some .int) [(0, 12, 15, 13), (0, 12, 19, 15)]) ∈ kr_all := kr_in 352 (by decide +kernel) rfl
theorem kq_353 : (Cond.methodLink RL 19 yX0_setSpill) ∈ kr_all := kr_in 353 (by decide +kernel) rfl
theorem kq_354 : (Cond.instanceMethod yX0_setSpill) ∈ kr_all := kr_in 354 (by decide +kernel) rfl
theorem kq_355 : (Cond.selects RX0 yX0_setSpill yX0_setSpill) ∈ kr_all := kr_in 355 (by decide +kernel) rfl
theorem kq_356 : (Cond.code yX0_setSpill cX0_setSpill 5 (some .int)) ∈ kr_all := kr_in 356 (by decide +kernel) rfl
theorem kq_357 : (Cond.methodLink RX0 62 yX0_checkLoad) ∈ kr_all := kr_in 357 (by decide +kernel) rfl
theorem kq_358 : (Cond.static yX0_checkLoad) ∈ kr_all := kr_in 358 (by decide +kernel) rfl
theorem kq_359 : (Cond.code yX0_checkLoad cX0_checkLoad 1 none) ∈ kr_all := kr_in 359 (by decide +kernel) rfl
theorem kq_363 : (Cond.methodLink RL 111 yL_tie) ∈ kr_all := kr_in 363 (by decide +kernel) rfl
theorem kq_364 : (Cond.static yL_tie) ∈ kr_all := kr_in 364 (by decide +kernel) rfl
theorem kq_365 : (Cond.codeWith yL_tie cL_tie 5 (some .int) [(0, 10, 13, 13), (0, 10, 17, 15), (0, 10, 21, 17)]) ∈ kr_all := kr_in 365 (by decide +kernel) rfl
theorem kq_366 : (Cond.methodLink RL 22 yX0_tie) ∈ kr_all := kr_in 366 (by decide +kernel) rfl
theorem kq_367 : (Cond.instanceMethod yX0_tie) ∈ kr_all := kr_in 367 (by decide +kernel) rfl
theorem kq_368 : (Cond.selects RX0 yX0_tie yX0_tie) ∈ kr_all := kr_in 368 (by decide +kernel) rfl
theorem kq_369 : (Cond.code yX0_tie cX0_tie 4 (some .int)) ∈ kr_all := kr_in 369 (by decide +kernel) rfl
theorem kq_370 : (Cond.methodLink RX0 69 yX0_checkOfKind) ∈ kr_all := kr_in 370 (by decide +kernel) rfl
theorem kq_372 : (Cond.instanceMethod yX0_checkOfKind) ∈ kr_all := kr_in 372 (by decide +kernel) rfl
theorem kq_373 : (Cond.code yX0_checkOfKind cX0_checkOfKind 3 none) ∈ kr_all := kr_in 373 (by decide +kernel) rfl
theorem kq_375 : (Cond.methodLink RX0 73 yX0_checkStrength) ∈ kr_all := kr_in 375 (by decide +kernel) rfl
theorem kq_376 : (Cond.static yX0_checkStrength) ∈ kr_all := kr_in 376 (by decide +kernel) rfl
theorem kq_377 : (Cond.code yX0_checkStrength cX0_checkStrength 1 none) ∈ kr_all := kr_in 377 (by decide +kernel) rfl
theorem kq_380 : (Cond.methodLink RX0 78 yX0_appendRope) ∈ kr_all := kr_in 380 (by decide +kernel) rfl
theorem kq_382 : (Cond.instanceMethod yX0_appendRope) ∈ kr_all := kr_in 382 (by decide +kernel) rfl
theorem kq_383 : (Cond.code yX0_appendRope cX0_appendRope 5 none) ∈ kr_all := kr_in 383 (by decide +kernel) rfl
theorem kq_384 : (Cond.methodLink RL 115 yL_join) ∈ kr_all := kr_in 384 (by decide +kernel) rfl
theorem kq_385 : (Cond.static yL_join) ∈ kr_all := kr_in 385 (by decide +kernel) rfl
theorem kq_386 : (Cond.codeWith yL_join cL_join 6 (some .int) [(0, 12, 15, 13), (0, 12, 19, 15), (0, 12, 23, 17)]) ∈ kr_all := kr_in 386 (by decide +kernel) rfl
theorem kq_387 : (Cond.methodLink RL 26 yX0_join) ∈ kr_all := kr_in 387 (by decide +kernel) rfl
theorem kq_388 : (Cond.instanceMethod yX0_join) ∈ kr_all := kr_in 388 (by decide +kernel) rfl
theorem kq_389 : (Cond.selects RX0 yX0_join yX0_join) ∈ kr_all := kr_in 389 (by decide +kernel) rfl
theorem kq_390 : (Cond.code yX0_join cX0_join 4 (some .int)) ∈ kr_all := kr_in 390 (by decide +kernel) rfl
theorem kq_391 : (Cond.methodLink RX0 85 yX0_checkNotGone) ∈ kr_all := kr_in 391 (by decide +kernel) rfl
theorem kq_393 : (Cond.instanceMethod yX0_checkNotGone) ∈ kr_all := kr_in 393 (by decide +kernel) rfl
theorem kq_394 : (Cond.code yX0_checkNotGone cX0_checkNotGone 2 none) ∈ kr_all := kr_in 394 (by decide +kernel) rfl
theorem kq_397 : (Cond.methodLink RL 118 yL_retie) ∈ kr_all := kr_in 397 (by decide +kernel) rfl
theorem kq_398 : (Cond.static yL_retie) ∈ kr_all := kr_in 398 (by decide +kernel) rfl
theorem kq_399 : (Cond.codeWith yL_retie cL_retie 6 (some .int) [(0, 12, 15, 13), (0, 12, 19, 15)]) ∈ kr_all := kr_in 399 (by decide +kernel) rfl
theorem kq_400 : (Cond.methodLink RL 29 yX0_retie) ∈ kr_all := kr_in 400 (by decide +kernel) rfl
theorem kq_401 : (Cond.instanceMethod yX0_retie) ∈ kr_all := kr_in 401 (by decide +kernel) rfl
theorem kq_402 : (Cond.selects RX0 yX0_retie yX0_retie) ∈ kr_all := kr_in 402 (by decide +kernel) rfl
theorem kq_403 : (Cond.code yX0_retie cX0_retie 6 (some .int)) ∈ kr_all := kr_in 403 (by decide +kernel) rfl
theorem kq_404 : (Cond.methodLink RX0 93 yX0_kindDueAt) ∈ kr_all := kr_in 404 (by decide +kernel) rfl
theorem kq_405 : (Cond.static yX0_kindDueAt) ∈ kr_all := kr_in 405 (by decide +kernel) rfl
theorem kq_406 : (Cond.code yX0_kindDueAt cX0_kindDueAt 1 (some .int)) ∈ kr_all := kr_in 406 (by decide +kernel) rfl
theorem kq_407 : (Cond.methodLink RL 121 yL_pull) ∈ kr_all := kr_in 407 (by decide +kernel) rfl
theorem kq_408 : (Cond.static yL_pull) ∈ kr_all := kr_in 408 (by decide +kernel) rfl
theorem kq_409 : (Cond.codeWith yL_pull cL_pull 5 (some .int) [(0, 10, 13, 13), (0, 10, 17, 15), (0, 10, 21, 17)]) ∈ kr_all := kr_in 409 (by decide +kernel) rfl
theorem kq_410 : (Cond.methodLink RL 32 yX0_pull) ∈ kr_all := kr_in 410 (by decide +kernel) rfl
theorem kq_411 : (Cond.instanceMethod yX0_pull) ∈ kr_all := kr_in 411 (by decide +kernel) rfl
theorem kq_412 : (Cond.selects RX0 yX0_pull yX0_pull) ∈ kr_all := kr_in 412 (by decide +kernel) rfl
theorem kq_413 : (Cond.code yX0_pull cX0_pull 6 (some .int)) ∈ kr_all := kr_in 413 (by decide +kernel) rfl
theorem kq_414 : (Cond.methodLink RX0 101 yX0_firstPlaceToGiveWay) ∈ kr_all := kr_in 414 (by decide +kernel) rfl
theorem kq_416 : (Cond.instanceMethod yX0_firstPlaceToGiveWay) ∈ kr_all := kr_in 416 (by decide +kernel) rfl
theorem kq_417 : (Cond.code yX0_firstPlaceToGiveWay cX0_firstPlaceToGiveWay 4 (some .int)) ∈ kr_all := kr_in 417 (by decide +kernel) rfl
theorem kq_418 : (Cond.methodLink RX0 226 yX0_placeHolds) ∈ kr_all := kr_in 418 (by decide +kernel) rfl
theorem kq_420 : (Cond.instanceMethod yX0_placeHolds) ∈ kr_all := kr_in 420 (by decide +kernel) rfl
theorem kq_421 : (Cond.code yX0_placeHolds cX0_placeHolds 5 (some .boolean)) ∈ kr_all := kr_in 421 (by decide +kernel) rfl
theorem kq_422 : (Cond.methodLink RX0 104 yX0_formUnder) ∈ kr_all := kr_in 422 (by decide +kernel) rfl
theorem kq_424 : (Cond.instanceMethod yX0_formUnder) ∈ kr_all := kr_in 424 (by decide +kernel) rfl
theorem kq_425 : (Cond.code yX0_formUnder cX0_formUnder 5 (some .int)) ∈ kr_all := kr_in 425 (by decide +kernel) rfl
theorem kq_426 : (Cond.methodLink RX0 121 yX0_spillsUnder) ∈ kr_all := kr_in 426 (by decide +kernel) rfl
theorem kq_428 : (Cond.instanceMethod yX0_spillsUnder) ∈ kr_all := kr_in 428 (by decide +kernel) rfl
theorem kq_429 : (Cond.code yX0_spillsUnder cX0_spillsUnder 3 (some .boolean)) ∈ kr_all := kr_in 429 (by decide +kernel) rfl
theorem kq_430 : (Cond.methodLink RL 128 yL_knotsOf) ∈ kr_all := kr_in 430 (by decide +kernel) rfl
theorem kq_431 : (Cond.static yL_knotsOf) ∈ kr_all := kr_in 431 (by decide +kernel) rfl
theorem kq_432 : (Cond.codeWith yL_knotsOf cL_knotsOf 4 (some .int) [(0, 9, 12, 13)]) ∈ kr_all := kr_in 432 (by decide +kernel) rfl
theorem kq_433 : (Cond.methodLink RL 35 yX0_knotsOf) ∈ kr_all := kr_in 433 (by decide +kernel) rfl
theorem kq_434 : (Cond.instanceMethod yX0_knotsOf) ∈ kr_all := kr_in 434 (by decide +kernel) rfl
theorem kq_435 : (Cond.selects RX0 yX0_knotsOf yX0_knotsOf) ∈ kr_all := kr_in 435 (by decide +kernel) rfl
theorem kq_436 : (Cond.code yX0_knotsOf cX0_knotsOf 2 (some .int)) ∈ kr_all := kr_in 436 (by decide +kernel) rfl
theorem kq_437 : (Cond.methodLink RX0 107 yX0_countOfKind) ∈ kr_all := kr_in 437 (by decide +kernel) rfl
theorem kq_439 : (Cond.instanceMethod yX0_countOfKind) ∈ kr_all := kr_in 439 (by decide +kernel) rfl
theorem kq_440 : (Cond.code yX0_countOfKind cX0_countOfKind 4 (some .int)) ∈ kr_all := kr_in 440 (by decide +kernel) rfl
theorem kq_441 : (Cond.methodLink RL 132 yL_kindOf) ∈ kr_all := kr_in 441 (by decide +kernel) rfl
theorem kq_442 : (Cond.static yL_kindOf) ∈ kr_all := kr_in 442 (by decide +kernel) rfl
theorem kq_443 : (Cond.codeWith yL_kindOf cL_kindOf 4 (some .int) [(0, 9, 12, 13)]) ∈ kr_all := kr_in 443 (by decide +kernel) rfl
theorem kq_444 : (Cond.methodLink RL 39 yX0_kindOf) ∈ kr_all := kr_in 444 (by decide +kernel) rfl
theorem kq_445 : (Cond.methodLink RL 135 yL_efficiencyOf) ∈ kr_all := kr_in 445 (by decide +kernel) rfl
theorem kq_446 : (Cond.static yL_efficiencyOf) ∈ kr_all := kr_in 446 (by decide +kernel) rfl
theorem kq_447 : (Cond.codeWith yL_efficiencyOf cL_efficiencyOf 4 (some .int) [(0, 9, 12, 13)]) ∈ kr_all := kr_in 447 (by decide +kernel) rfl
theorem kq_448 : (Cond.methodLink RL 42 yX0_efficiencyOf) ∈ kr_all := kr_in 448 (by decide +kernel) rfl
theorem kq_449 : (Cond.methodLink RL 138 yL_crossingsOf) ∈ kr_all := kr_in 449 (by decide +kernel) rfl
theorem kq_450 : (Cond.static yL_crossingsOf) ∈ kr_all := kr_in 450 (by decide +kernel) rfl
theorem kq_451 : (Cond.codeWith yL_crossingsOf cL_crossingsOf 4 (some .int) [(0, 9, 12, 13)]) ∈ kr_all := kr_in 451 (by decide +kernel) rfl
theorem kq_452 : (Cond.methodLink RL 45 yX0_crossingsOf) ∈ kr_all := kr_in 452 (by decide +kernel) rfl
theorem kq_453 : (Cond.methodLink RL 141 yL_spillsAt) ∈ kr_all := kr_in 453 (by decide +kernel) rfl
theorem kq_454 : (Cond.static yL_spillsAt) ∈ kr_all := kr_in 454 (by decide +kernel) rfl
theorem kq_455 : (Cond.codeWith yL_spillsAt cL_spillsAt 4 (some .int) [(0, 9, 12, 13)]) ∈ kr_all := kr_in 455 (by decide +kernel) rfl
theorem kq_456 : (Cond.methodLink RL 48 yX0_spillsAt) ∈ kr_all := kr_in 456 (by decide +kernel) rfl
theorem kq_457 : (Cond.methodLink RL 144 yL_spillsInto) ∈ kr_all := kr_in 457 (by decide +kernel) rfl
theorem kq_458 : (Cond.static yL_spillsInto) ∈ kr_all := kr_in 458 (by decide +kernel) rfl
theorem kq_459 : (Cond.codeWith yL_spillsInto cL_spillsInto 4 (some .int) [(0, 9, 12, 13)]) ∈ kr_all := kr_in 459 (by decide +kernel) rfl
theorem kq_460 : (Cond.methodLink RL 51 yX0_spillsInto) ∈ kr_all := kr_in 460 (by decide +kernel) rfl
theorem kq_461 : (Cond.methodLink RL 147 yL_rankOf) ∈ kr_all := kr_in 461 (by decide +kernel) rfl
theorem kq_462 : (Cond.static yL_rankOf) ∈ kr_all := kr_in 462 (by decide +kernel) rfl
theorem kq_463 : (Cond.codeWith yL_rankOf cL_rankOf 4 (some .int) [(0, 9, 12, 13)]) ∈ kr_all := kr_in 463 (by decide +kernel) rfl
theorem kq_464 : (Cond.methodLink RL 54 yX0_rankOf) ∈ kr_all := kr_in 464 (by decide +kernel) rfl
theorem kq_465 : (Cond.methodLink RL 150 yL_knotAt) ∈ kr_all := kr_in 465 (by decide +kernel) rfl
theorem kq_466 : (Cond.static yL_knotAt) ∈ kr_all := kr_in 466 (by decide +kernel) rfl
theorem kq_467 : (Cond.codeWith yL_knotAt cL_knotAt 5 (some .int) [(0, 10, 13, 13)]) ∈ kr_all := kr_in 467 (by decide +kernel) rfl
theorem kq_468 : (Cond.methodLink RL 57 yX0_knotAt) ∈ kr_all := kr_in 468 (by decide +kernel) rfl
theorem kq_469 : (Cond.instanceMethod yX0_knotAt) ∈ kr_all := kr_in 469 (by decide +kernel) rfl
theorem kq_470 : (Cond.selects RX0 yX0_knotAt yX0_knotAt) ∈ kr_all := kr_in 470 (by decide +kernel) rfl
theorem kq_471 : (Cond.code yX0_knotAt cX0_knotAt 4 (some .int)) ∈ kr_all := kr_in 471 (by decide +kernel) rfl
theorem kq_472 : (Cond.methodLink RX0 113 yX0_knotWithRank) ∈ kr_all := kr_in 472 (by decide +kernel) rfl
theorem kq_474 : (Cond.instanceMethod yX0_knotWithRank) ∈ kr_all := kr_in 474 (by decide +kernel) rfl
theorem kq_475 : (Cond.code yX0_knotWithRank cX0_knotWithRank 4 (some .int)) ∈ kr_all := kr_in 475 (by decide +kernel) rfl
theorem kq_477 : (Cond.methodLink RL 153 yL_formOf) ∈ kr_all := kr_in 477 (by decide +kernel) rfl
theorem kq_478 : (Cond.static yL_formOf) ∈ kr_all := kr_in 478 (by decide +kernel) rfl
theorem kq_479 : (Cond.codeWith yL_formOf cL_formOf 5 (some .int) [(0, 10, 13, 13), (0, 10, 17, 15)]) ∈ kr_all := kr_in 479 (by decide +kernel) rfl
theorem kq_480 : (Cond.methodLink RL 60 yX0_formOf) ∈ kr_all := kr_in 480 (by decide +kernel) rfl
theorem kq_481 : (Cond.instanceMethod yX0_formOf) ∈ kr_all := kr_in 481 (by decide +kernel) rfl
theorem kq_482 : (Cond.selects RX0 yX0_formOf yX0_formOf) ∈ kr_all := kr_in 482 (by decide +kernel) rfl
theorem kq_483 : (Cond.code yX0_formOf cX0_formOf 3 (some .int)) ∈ kr_all := kr_in 483 (by decide +kernel) rfl
theorem kq_484 : (Cond.methodLink RL 156 yL_spills) ∈ kr_all := kr_in 484 (by decide +kernel) rfl
theorem kq_485 : (Cond.static yL_spills) ∈ kr_all := kr_in 485 (by decide +kernel) rfl
theorem kq_486 : (Cond.codeWith yL_spills cL_spills 5 (some .int) [(0, 10, 13, 13), (0, 10, 17, 15)]) ∈ kr_all := kr_in 486 (by decide +kernel) rfl
theorem kq_487 : (Cond.methodLink RL 63 yX0_spills) ∈ kr_all := kr_in 487 (by decide +kernel) rfl
theorem kq_488 : (Cond.instanceMethod yX0_spills) ∈ kr_all := kr_in 488 (by decide +kernel) rfl
theorem kq_489 : (Cond.selects RX0 yX0_spills yX0_spills) ∈ kr_all := kr_in 489 (by decide +kernel) rfl
theorem kq_490 : (Cond.code yX0_spills cX0_spills 5 (some .int)) ∈ kr_all := kr_in 490 (by decide +kernel) rfl
theorem kq_491 : (Cond.methodLink RL 159 yL_fallsApartAt) ∈ kr_all := kr_in 491 (by decide +kernel) rfl
theorem kq_492 : (Cond.static yL_fallsApartAt) ∈ kr_all := kr_in 492 (by decide +kernel) rfl
theorem kq_493 : (Cond.codeWith yL_fallsApartAt cL_fallsApartAt 4 (some .int) [(0, 9, 12, 13)]) ∈ kr_all := kr_in 493 (by decide +kernel) rfl
theorem kq_494 : (Cond.methodLink RL 66 yX0_fallsApartAt) ∈ kr_all := kr_in 494 (by decide +kernel) rfl
theorem kq_495 : (Cond.methodLink RL 166 yL_ropesOf) ∈ kr_all := kr_in 495 (by decide +kernel) rfl
theorem kq_496 : (Cond.static yL_ropesOf) ∈ kr_all := kr_in 496 (by decide +kernel) rfl
theorem kq_497 : (Cond.codeWith yL_ropesOf cL_ropesOf 4 (some .int) [(0, 9, 12, 13)]) ∈ kr_all := kr_in 497 (by decide +kernel) rfl
theorem kq_498 : (Cond.methodLink RL 69 yX0_ropesOf) ∈ kr_all := kr_in 498 (by decide +kernel) rfl
theorem kq_499 : (Cond.methodLink RL 169 yL_knotOf) ∈ kr_all := kr_in 499 (by decide +kernel) rfl
theorem kq_500 : (Cond.static yL_knotOf) ∈ kr_all := kr_in 500 (by decide +kernel) rfl
theorem kq_501 : (Cond.codeWith yL_knotOf cL_knotOf 5 (some .int) [(0, 10, 13, 13)]) ∈ kr_all := kr_in 501 (by decide +kernel) rfl
theorem kq_502 : (Cond.methodLink RL 72 yX0_knotOf) ∈ kr_all := kr_in 502 (by decide +kernel) rfl
theorem kq_503 : (Cond.methodLink RL 172 yL_strengthAt) ∈ kr_all := kr_in 503 (by decide +kernel) rfl
theorem kq_504 : (Cond.static yL_strengthAt) ∈ kr_all := kr_in 504 (by decide +kernel) rfl
theorem kq_505 : (Cond.codeWith yL_strengthAt cL_strengthAt 5 (some .int) [(0, 10, 13, 13)]) ∈ kr_all := kr_in 505 (by decide +kernel) rfl
theorem kq_506 : (Cond.methodLink RL 75 yX0_strengthAt) ∈ kr_all := kr_in 506 (by decide +kernel) rfl
theorem kq_507 : (Cond.methodLink RL 175 yL_weakestPlace) ∈ kr_all := kr_in 507 (by decide +kernel) rfl
theorem kq_508 : (Cond.static yL_weakestPlace) ∈ kr_all := kr_in 508 (by decide +kernel) rfl
theorem kq_509 : (Cond.codeWith yL_weakestPlace cL_weakestPlace 4 (some .int) [(0, 9, 12, 13)]) ∈ kr_all := kr_in 509 (by decide +kernel) rfl
theorem kq_510 : (Cond.methodLink RL 78 yX0_weakestPlace) ∈ kr_all := kr_in 510 (by decide +kernel) rfl
theorem kq_511 : (Cond.methodLink RL 178 yL_holds) ∈ kr_all := kr_in 511 (by decide +kernel) rfl
theorem kq_512 : (Cond.static yL_holds) ∈ kr_all := kr_in 512 (by decide +kernel) rfl
theorem kq_513 : (Cond.codeWith yL_holds cL_holds 5 (some .int) [(0, 17, 20, 13), (0, 17, 24, 15)]) ∈ kr_all := kr_in 513 (by decide +kernel) rfl
theorem kq_514 : (Cond.methodLink RL 81 yX0_holds) ∈ kr_all := kr_in 514 (by decide +kernel) rfl
theorem kq_515 : (Cond.instanceMethod yX0_holds) ∈ kr_all := kr_in 515 (by decide +kernel) rfl
theorem kq_516 : (Cond.selects RX0 yX0_holds yX0_holds) ∈ kr_all := kr_in 516 (by decide +kernel) rfl
theorem kq_517 : (Cond.code yX0_holds cX0_holds 3 (some .boolean)) ∈ kr_all := kr_in 517 (by decide +kernel) rfl
theorem kq_518 : (Cond.methodLink RL 181 yL_holdsUpTo) ∈ kr_all := kr_in 518 (by decide +kernel) rfl
theorem kq_519 : (Cond.static yL_holdsUpTo) ∈ kr_all := kr_in 519 (by decide +kernel) rfl
theorem kq_520 : (Cond.codeWith yL_holdsUpTo cL_holdsUpTo 4 (some .int) [(0, 9, 12, 13)]) ∈ kr_all := kr_in 520 (by decide +kernel) rfl
theorem kq_521 : (Cond.methodLink RL 85 yX0_holdsUpTo) ∈ kr_all := kr_in 521 (by decide +kernel) rfl
theorem kq_522 : (Cond.methodLink RL 184 yL_wouldGiveWay) ∈ kr_all := kr_in 522 (by decide +kernel) rfl
theorem kq_523 : (Cond.static yL_wouldGiveWay) ∈ kr_all := kr_in 523 (by decide +kernel) rfl
theorem kq_524 : (Cond.codeWith yL_wouldGiveWay cL_wouldGiveWay 5 (some .int) [(0, 10, 13, 13), (0, 10, 17, 15)]) ∈ kr_all := kr_in 524 (by decide +kernel) rfl
theorem kq_525 : (Cond.methodLink RL 88 yX0_wouldGiveWay) ∈ kr_all := kr_in 525 (by decide +kernel) rfl
theorem kq_526 : (Cond.instanceMethod yX0_wouldGiveWay) ∈ kr_all := kr_in 526 (by decide +kernel) rfl
theorem kq_527 : (Cond.selects RX0 yX0_wouldGiveWay yX0_wouldGiveWay) ∈ kr_all := kr_in 527 (by decide +kernel) rfl
theorem kq_528 : (Cond.code yX0_wouldGiveWay cX0_wouldGiveWay 3 (some .int)) ∈ kr_all := kr_in 528 (by decide +kernel) rfl
theorem kq_529 : (Cond.methodLink RL 187 yL_bestKnot) ∈ kr_all := kr_in 529 (by decide +kernel) rfl
theorem kq_530 : (Cond.static yL_bestKnot) ∈ kr_all := kr_in 530 (by decide +kernel) rfl
theorem kq_531 : (Cond.codeWith yL_bestKnot cL_bestKnot 5 (some .int) [(0, 10, 13, 13)]) ∈ kr_all := kr_in 531 (by decide +kernel) rfl
theorem kq_532 : (Cond.methodLink RL 91 yX0_bestKnot) ∈ kr_all := kr_in 532 (by decide +kernel) rfl
theorem kq_533 : (Cond.instanceMethod yX0_bestKnot) ∈ kr_all := kr_in 533 (by decide +kernel) rfl
theorem kq_534 : (Cond.selects RX0 yX0_bestKnot yX0_bestKnot) ∈ kr_all := kr_in 534 (by decide +kernel) rfl
theorem kq_535 : (Cond.code yX0_bestKnot cX0_bestKnot 10 (some .int)) ∈ kr_all := kr_in 535 (by decide +kernel) rfl
theorem kq_536 : (Cond.classLink RL 95 "KnotRackModel") ∈ kr_all := kr_in 536 (by decide +kernel) rfl
theorem kq_537 : (Cond.instantiable RX1 11) ∈ kr_all := kr_in 537 (by decide +kernel) rfl
theorem kq_538 : (Cond.methodLink RL 97 yX1_init) ∈ kr_all := kr_in 538 (by decide +kernel) rfl
theorem kq_539 : (Cond.instanceMethod yX1_init) ∈ kr_all := kr_in 539 (by decide +kernel) rfl
theorem kq_540 : (Cond.code yX1_init cX1_init 1 none) ∈ kr_all := kr_in 540 (by decide +kernel) rfl
theorem kq_541 : (Cond.methodLink RX1 1 objectInit) ∈ kr_all := kr_in 541 (by decide +kernel) rfl
theorem kq_542 : (Cond.fieldLink RX1 34 "KnotRackModel" "thrown" "I") ∈ kr_all := kr_in 542 (by decide +kernel) rfl
theorem kq_543 : (Cond.fieldLink RX1 38 "KnotRackModel" "knots" "I") ∈ kr_all := kr_in 543 (by decide +kernel) rfl
theorem kq_544 : (Cond.fieldLink RX1 9 "KnotRackModel" "kind" "[I") ∈ kr_all := kr_in 544 (by decide +kernel) rfl
theorem kq_545 : (Cond.fieldLink RX1 13 "KnotRackModel" "efficiency" "[I") ∈ kr_all := kr_in 545 (by decide +kernel) rfl
theorem kq_546 : (Cond.fieldLink RX1 16 "KnotRackModel" "crossings" "[I") ∈ kr_all := kr_in 546 (by decide +kernel) rfl
theorem kq_547 : (Cond.fieldLink RX1 19 "KnotRackModel" "spill" "[I") ∈ kr_all := kr_in 547 (by decide +kernel) rfl
theorem kq_548 : (Cond.fieldLink RX1 22 "KnotRackModel" "into" "[I") ∈ kr_all := kr_in 548 (by decide +kernel) rfl
theorem kq_549 : (Cond.fieldLink RX1 45 "KnotRackModel" "lines" "I") ∈ kr_all := kr_in 549 (by decide +kernel) rfl
theorem kq_550 : (Cond.fieldLink RX1 25 "KnotRackModel" "ropes" "[I") ∈ kr_all := kr_in 550 (by decide +kernel) rfl
theorem kq_551 : (Cond.fieldLink RX1 28 "KnotRackModel" "rope" "[I") ∈ kr_all := kr_in 551 (by decide +kernel) rfl
theorem kq_552 : (Cond.fieldLink RX1 31 "KnotRackModel" "tied" "[I") ∈ kr_all := kr_in 552 (by decide +kernel) rfl
theorem kq_576 : (Cond.methodLink RL 104 yX1_thrown) ∈ kr_all := kr_in 576 (by decide +kernel) rfl
theorem kq_577 : (Cond.instanceMethod yX1_thrown) ∈ kr_all := kr_in 577 (by decide +kernel) rfl
theorem kq_578 : (Cond.selects RX1 yX1_thrown yX1_thrown) ∈ kr_all := kr_in 578 (by decide +kernel) rfl
theorem kq_579 : (Cond.code yX1_thrown cX1_thrown 1 (some .int)) ∈ kr_all := kr_in 579 (by decide +kernel) rfl
theorem kq_580 : (Cond.methodLink RL 103 yX1_addKnot) ∈ kr_all := kr_in 580 (by decide +kernel) rfl
theorem kq_581 : (Cond.instanceMethod yX1_addKnot) ∈ kr_all := kr_in 581 (by decide +kernel) rfl
theorem kq_582 : (Cond.selects RX1 yX1_addKnot yX1_addKnot) ∈ kr_all := kr_in 582 (by decide +kernel) rfl
theorem kq_583 : (Cond.code yX1_addKnot cX1_addKnot 4 (some .int)) ∈ kr_all := kr_in 583 (by decide +kernel) rfl
theorem kq_584 : (Cond.methodLink RX1 41 yX1_isIn) ∈ kr_all := kr_in 584 (by decide +kernel) rfl
theorem kq_585 : (Cond.static yX1_isIn) ∈ kr_all := kr_in 585 (by decide +kernel) rfl
theorem kq_586 : (Cond.code yX1_isIn cX1_isIn 3 (some .boolean)) ∈ kr_all := kr_in 586 (by decide +kernel) rfl
theorem kq_587 : (Cond.methodLink RX1 88 yX1_no) ∈ kr_all := kr_in 587 (by decide +kernel) rfl
theorem kq_589 : (Cond.instanceMethod yX1_no) ∈ kr_all := kr_in 589 (by decide +kernel) rfl
theorem kq_590 : (Cond.code yX1_no cX1_no 2 (some .int)) ∈ kr_all := kr_in 590 (by decide +kernel) rfl
theorem kq_591 : (Cond.methodLink RL 110 yX1_setSpill) ∈ kr_all := kr_in 591 (by decide +kernel) rfl
theorem kq_592 : (Cond.instanceMethod yX1_setSpill) ∈ kr_all := kr_in 592 (by decide +kernel) rfl
theorem kq_593 : (Cond.selects RX1 yX1_setSpill yX1_setSpill) ∈ kr_all := kr_in 593 (by decide +kernel) rfl
theorem kq_594 : (Cond.code yX1_setSpill cX1_setSpill 5 (some .int)) ∈ kr_all := kr_in 594 (by decide +kernel) rfl
theorem kq_595 : (Cond.methodLink RX1 91 yX1_isKnot) ∈ kr_all := kr_in 595 (by decide +kernel) rfl
theorem kq_597 : (Cond.instanceMethod yX1_isKnot) ∈ kr_all := kr_in 597 (by decide +kernel) rfl
theorem kq_598 : (Cond.code yX1_isKnot cX1_isKnot 2 (some .boolean)) ∈ kr_all := kr_in 598 (by decide +kernel) rfl
theorem kq_599 : (Cond.methodLink RX1 94 yX1_isLoad) ∈ kr_all := kr_in 599 (by decide +kernel) rfl
theorem kq_600 : (Cond.static yX1_isLoad) ∈ kr_all := kr_in 600 (by decide +kernel) rfl
theorem kq_601 : (Cond.code yX1_isLoad cX1_isLoad 1 (some .boolean)) ∈ kr_all := kr_in 601 (by decide +kernel) rfl
theorem kq_602 : (Cond.methodLink RL 114 yX1_tie) ∈ kr_all := kr_in 602 (by decide +kernel) rfl
theorem kq_603 : (Cond.instanceMethod yX1_tie) ∈ kr_all := kr_in 603 (by decide +kernel) rfl
theorem kq_604 : (Cond.selects RX1 yX1_tie yX1_tie) ∈ kr_all := kr_in 604 (by decide +kernel) rfl
theorem kq_605 : (Cond.code yX1_tie cX1_tie 3 (some .int)) ∈ kr_all := kr_in 605 (by decide +kernel) rfl
theorem kq_606 : (Cond.methodLink RL 117 yX1_join) ∈ kr_all := kr_in 606 (by decide +kernel) rfl
theorem kq_607 : (Cond.instanceMethod yX1_join) ∈ kr_all := kr_in 607 (by decide +kernel) rfl
theorem kq_608 : (Cond.selects RX1 yX1_join yX1_join) ∈ kr_all := kr_in 608 (by decide +kernel) rfl
theorem kq_609 : (Cond.code yX1_join cX1_join 4 (some .int)) ∈ kr_all := kr_in 609 (by decide +kernel) rfl
theorem kq_610 : (Cond.methodLink RX1 48 yX1_isLine) ∈ kr_all := kr_in 610 (by decide +kernel) rfl
theorem kq_612 : (Cond.instanceMethod yX1_isLine) ∈ kr_all := kr_in 612 (by decide +kernel) rfl
theorem kq_613 : (Cond.code yX1_isLine cX1_isLine 2 (some .boolean)) ∈ kr_all := kr_in 613 (by decide +kernel) rfl
theorem kq_614 : (Cond.methodLink RL 120 yX1_retie) ∈ kr_all := kr_in 614 (by decide +kernel) rfl
theorem kq_615 : (Cond.instanceMethod yX1_retie) ∈ kr_all := kr_in 615 (by decide +kernel) rfl
theorem kq_616 : (Cond.selects RX1 yX1_retie yX1_retie) ∈ kr_all := kr_in 616 (by decide +kernel) rfl
theorem kq_617 : (Cond.code yX1_retie cX1_retie 5 (some .int)) ∈ kr_all := kr_in 617 (by decide +kernel) rfl
theorem kq_618 : (Cond.methodLink RX1 97 yX1_isPlace) ∈ kr_all := kr_in 618 (by decide +kernel) rfl
theorem kq_620 : (Cond.instanceMethod yX1_isPlace) ∈ kr_all := kr_in 620 (by decide +kernel) rfl
theorem kq_621 : (Cond.code yX1_isPlace cX1_isPlace 3 (some .boolean)) ∈ kr_all := kr_in 621 (by decide +kernel) rfl
theorem kq_622 : (Cond.methodLink RX1 100 yX1_kindAt) ∈ kr_all := kr_in 622 (by decide +kernel) rfl
theorem kq_623 : (Cond.static yX1_kindAt) ∈ kr_all := kr_in 623 (by decide +kernel) rfl
theorem kq_624 : (Cond.code yX1_kindAt cX1_kindAt 1 (some .int)) ∈ kr_all := kr_in 624 (by decide +kernel) rfl
theorem kq_625 : (Cond.methodLink RL 123 yX1_pull) ∈ kr_all := kr_in 625 (by decide +kernel) rfl
theorem kq_626 : (Cond.instanceMethod yX1_pull) ∈ kr_all := kr_in 626 (by decide +kernel) rfl
theorem kq_627 : (Cond.selects RX1 yX1_pull yX1_pull) ∈ kr_all := kr_in 627 (by decide +kernel) rfl
theorem kq_628 : (Cond.code yX1_pull cX1_pull 5 (some .int)) ∈ kr_all := kr_in 628 (by decide +kernel) rfl
theorem kq_629 : (Cond.methodLink RX1 103 yX1_giving) ∈ kr_all := kr_in 629 (by decide +kernel) rfl
theorem kq_631 : (Cond.instanceMethod yX1_giving) ∈ kr_all := kr_in 631 (by decide +kernel) rfl
theorem kq_632 : (Cond.code yX1_giving cX1_giving 4 (some .int)) ∈ kr_all := kr_in 632 (by decide +kernel) rfl
theorem kq_633 : (Cond.methodLink RX1 75 yX1_placeHolds) ∈ kr_all := kr_in 633 (by decide +kernel) rfl
theorem kq_635 : (Cond.instanceMethod yX1_placeHolds) ∈ kr_all := kr_in 635 (by decide +kernel) rfl
theorem kq_636 : (Cond.code yX1_placeHolds cX1_placeHolds 5 (some .boolean)) ∈ kr_all := kr_in 636 (by decide +kernel) rfl
theorem kq_637 : (Cond.methodLink RX1 68 yX1_form) ∈ kr_all := kr_in 637 (by decide +kernel) rfl
theorem kq_639 : (Cond.instanceMethod yX1_form) ∈ kr_all := kr_in 639 (by decide +kernel) rfl
theorem kq_640 : (Cond.code yX1_form cX1_form 4 (some .int)) ∈ kr_all := kr_in 640 (by decide +kernel) rfl
theorem kq_641 : (Cond.methodLink RX1 52 yX1_goes) ∈ kr_all := kr_in 641 (by decide +kernel) rfl
theorem kq_643 : (Cond.instanceMethod yX1_goes) ∈ kr_all := kr_in 643 (by decide +kernel) rfl
theorem kq_644 : (Cond.code yX1_goes cX1_goes 3 (some .boolean)) ∈ kr_all := kr_in 644 (by decide +kernel) rfl
theorem kq_645 : (Cond.methodLink RX1 71 yX1_strength) ∈ kr_all := kr_in 645 (by decide +kernel) rfl
theorem kq_647 : (Cond.instanceMethod yX1_strength) ∈ kr_all := kr_in 647 (by decide +kernel) rfl
theorem kq_648 : (Cond.code yX1_strength cX1_strength 5 (some .int)) ∈ kr_all := kr_in 648 (by decide +kernel) rfl
theorem kq_649 : (Cond.methodLink RX1 65 Lib.Math.min.name) ∈ kr_all := kr_in 649 (by decide +kernel) rfl
theorem kq_650 : (Cond.methodLink RL 127 yX1_knots) ∈ kr_all := kr_in 650 (by decide +kernel) rfl
theorem kq_651 : (Cond.instanceMethod yX1_knots) ∈ kr_all := kr_in 651 (by decide +kernel) rfl
theorem kq_652 : (Cond.selects RX1 yX1_knots yX1_knots) ∈ kr_all := kr_in 652 (by decide +kernel) rfl
theorem kq_653 : (Cond.code yX1_knots cX1_knots 1 (some .int)) ∈ kr_all := kr_in 653 (by decide +kernel) rfl
theorem kq_654 : (Cond.methodLink RX1 106 yX1_ok) ∈ kr_all := kr_in 654 (by decide +kernel) rfl
theorem kq_656 : (Cond.instanceMethod yX1_ok) ∈ kr_all := kr_in 656 (by decide +kernel) rfl
theorem kq_657 : (Cond.code yX1_ok cX1_ok 2 (some .int)) ∈ kr_all := kr_in 657 (by decide +kernel) rfl
theorem kq_658 : (Cond.methodLink RL 131 yX1_knotsOf) ∈ kr_all := kr_in 658 (by decide +kernel) rfl
theorem kq_659 : (Cond.instanceMethod yX1_knotsOf) ∈ kr_all := kr_in 659 (by decide +kernel) rfl
theorem kq_660 : (Cond.selects RX1 yX1_knotsOf yX1_knotsOf) ∈ kr_all := kr_in 660 (by decide +kernel) rfl
theorem kq_661 : (Cond.code yX1_knotsOf cX1_knotsOf 2 (some .int)) ∈ kr_all := kr_in 661 (by decide +kernel) rfl
theorem kq_662 : (Cond.methodLink RX1 109 yX1_many) ∈ kr_all := kr_in 662 (by decide +kernel) rfl
theorem kq_664 : (Cond.instanceMethod yX1_many) ∈ kr_all := kr_in 664 (by decide +kernel) rfl
theorem kq_665 : (Cond.code yX1_many cX1_many 4 (some .int)) ∈ kr_all := kr_in 665 (by decide +kernel) rfl
theorem kq_666 : (Cond.methodLink RL 134 yX1_kindOf) ∈ kr_all := kr_in 666 (by decide +kernel) rfl
theorem kq_667 : (Cond.instanceMethod yX1_kindOf) ∈ kr_all := kr_in 667 (by decide +kernel) rfl
theorem kq_668 : (Cond.selects RX1 yX1_kindOf yX1_kindOf) ∈ kr_all := kr_in 668 (by decide +kernel) rfl
theorem kq_669 : (Cond.code yX1_kindOf cX1_kindOf 2 (some .int)) ∈ kr_all := kr_in 669 (by decide +kernel) rfl
theorem kq_670 : (Cond.methodLink RX1 112 yX1_of) ∈ kr_all := kr_in 670 (by decide +kernel) rfl
theorem kq_672 : (Cond.instanceMethod yX1_of) ∈ kr_all := kr_in 672 (by decide +kernel) rfl
theorem kq_673 : (Cond.code yX1_of cX1_of 3 (some .int)) ∈ kr_all := kr_in 673 (by decide +kernel) rfl
theorem kq_674 : (Cond.methodLink RL 137 yX1_efficiencyOf) ∈ kr_all := kr_in 674 (by decide +kernel) rfl
theorem kq_675 : (Cond.instanceMethod yX1_efficiencyOf) ∈ kr_all := kr_in 675 (by decide +kernel) rfl
theorem kq_676 : (Cond.selects RX1 yX1_efficiencyOf yX1_efficiencyOf) ∈ kr_all := kr_in 676 (by decide +kernel) rfl
theorem kq_677 : (Cond.code yX1_efficiencyOf cX1_efficiencyOf 2 (some .int)) ∈ kr_all := kr_in 677 (by decide +kernel) rfl
theorem kq_678 : (Cond.methodLink RL 140 yX1_crossingsOf) ∈ kr_all := kr_in 678 (by decide +kernel) rfl
theorem kq_679 : (Cond.instanceMethod yX1_crossingsOf) ∈ kr_all := kr_in 679 (by decide +kernel) rfl
theorem kq_680 : (Cond.selects RX1 yX1_crossingsOf yX1_crossingsOf) ∈ kr_all := kr_in 680 (by decide +kernel) rfl
theorem kq_681 : (Cond.code yX1_crossingsOf cX1_crossingsOf 2 (some .int)) ∈ kr_all := kr_in 681 (by decide +kernel) rfl
theorem kq_682 : (Cond.methodLink RL 143 yX1_spillsAt) ∈ kr_all := kr_in 682 (by decide +kernel) rfl
theorem kq_683 : (Cond.instanceMethod yX1_spillsAt) ∈ kr_all := kr_in 683 (by decide +kernel) rfl
theorem kq_684 : (Cond.selects RX1 yX1_spillsAt yX1_spillsAt) ∈ kr_all := kr_in 684 (by decide +kernel) rfl
theorem kq_685 : (Cond.code yX1_spillsAt cX1_spillsAt 2 (some .int)) ∈ kr_all := kr_in 685 (by decide +kernel) rfl
theorem kq_686 : (Cond.methodLink RL 146 yX1_spillsInto) ∈ kr_all := kr_in 686 (by decide +kernel) rfl
theorem kq_687 : (Cond.instanceMethod yX1_spillsInto) ∈ kr_all := kr_in 687 (by decide +kernel) rfl
theorem kq_688 : (Cond.selects RX1 yX1_spillsInto yX1_spillsInto) ∈ kr_all := kr_in 688 (by decide +kernel) rfl
theorem kq_689 : (Cond.code yX1_spillsInto cX1_spillsInto 2 (some .int)) ∈ kr_all := kr_in 689 (by decide +kernel) rfl
theorem kq_690 : (Cond.methodLink RL 149 yX1_rankOf) ∈ kr_all := kr_in 690 (by decide +kernel) rfl
theorem kq_691 : (Cond.instanceMethod yX1_rankOf) ∈ kr_all := kr_in 691 (by decide +kernel) rfl
theorem kq_692 : (Cond.selects RX1 yX1_rankOf yX1_rankOf) ∈ kr_all := kr_in 692 (by decide +kernel) rfl
theorem kq_693 : (Cond.code yX1_rankOf cX1_rankOf 2 (some .int)) ∈ kr_all := kr_in 693 (by decide +kernel) rfl
theorem kq_694 : (Cond.methodLink RX1 116 yX1_rank) ∈ kr_all := kr_in 694 (by decide +kernel) rfl
theorem kq_696 : (Cond.instanceMethod yX1_rank) ∈ kr_all := kr_in 696 (by decide +kernel) rfl
theorem kq_697 : (Cond.code yX1_rank cX1_rank 4 (some .int)) ∈ kr_all := kr_in 697 (by decide +kernel) rfl
theorem kq_698 : (Cond.methodLink RX1 62 yX1_isAhead) ∈ kr_all := kr_in 698 (by decide +kernel) rfl
theorem kq_700 : (Cond.instanceMethod yX1_isAhead) ∈ kr_all := kr_in 700 (by decide +kernel) rfl
theorem kq_701 : (Cond.code yX1_isAhead cX1_isAhead 3 (some .boolean)) ∈ kr_all := kr_in 701 (by decide +kernel) rfl
theorem kq_702 : (Cond.methodLink RL 152 yX1_knotAt) ∈ kr_all := kr_in 702 (by decide +kernel) rfl
theorem kq_703 : (Cond.instanceMethod yX1_knotAt) ∈ kr_all := kr_in 703 (by decide +kernel) rfl
theorem kq_704 : (Cond.selects RX1 yX1_knotAt yX1_knotAt) ∈ kr_all := kr_in 704 (by decide +kernel) rfl
theorem kq_705 : (Cond.code yX1_knotAt cX1_knotAt 4 (some .int)) ∈ kr_all := kr_in 705 (by decide +kernel) rfl
theorem kq_706 : (Cond.methodLink RL 155 yX1_formOf) ∈ kr_all := kr_in 706 (by decide +kernel) rfl
theorem kq_707 : (Cond.instanceMethod yX1_formOf) ∈ kr_all := kr_in 707 (by decide +kernel) rfl
theorem kq_708 : (Cond.selects RX1 yX1_formOf yX1_formOf) ∈ kr_all := kr_in 708 (by decide +kernel) rfl
theorem kq_709 : (Cond.code yX1_formOf cX1_formOf 3 (some .int)) ∈ kr_all := kr_in 709 (by decide +kernel) rfl
theorem kq_710 : (Cond.methodLink RX1 119 yX1_isLoaded) ∈ kr_all := kr_in 710 (by decide +kernel) rfl
theorem kq_712 : (Cond.instanceMethod yX1_isLoaded) ∈ kr_all := kr_in 712 (by decide +kernel) rfl
theorem kq_713 : (Cond.code yX1_isLoaded cX1_isLoaded 3 (some .boolean)) ∈ kr_all := kr_in 713 (by decide +kernel) rfl
theorem kq_714 : (Cond.methodLink RL 158 yX1_spills) ∈ kr_all := kr_in 714 (by decide +kernel) rfl
theorem kq_715 : (Cond.instanceMethod yX1_spills) ∈ kr_all := kr_in 715 (by decide +kernel) rfl
theorem kq_716 : (Cond.selects RX1 yX1_spills yX1_spills) ∈ kr_all := kr_in 716 (by decide +kernel) rfl
theorem kq_717 : (Cond.code yX1_spills cX1_spills 3 (some .int)) ∈ kr_all := kr_in 717 (by decide +kernel) rfl
theorem kq_718 : (Cond.methodLink RX1 122 yX1_often) ∈ kr_all := kr_in 718 (by decide +kernel) rfl
theorem kq_720 : (Cond.instanceMethod yX1_often) ∈ kr_all := kr_in 720 (by decide +kernel) rfl
theorem kq_721 : (Cond.code yX1_often cX1_often 5 (some .int)) ∈ kr_all := kr_in 721 (by decide +kernel) rfl
theorem kq_722 : (Cond.methodLink RL 161 yX1_fallsApartAt) ∈ kr_all := kr_in 722 (by decide +kernel) rfl
theorem kq_723 : (Cond.instanceMethod yX1_fallsApartAt) ∈ kr_all := kr_in 723 (by decide +kernel) rfl
theorem kq_724 : (Cond.selects RX1 yX1_fallsApartAt yX1_fallsApartAt) ∈ kr_all := kr_in 724 (by decide +kernel) rfl
theorem kq_725 : (Cond.code yX1_fallsApartAt cX1_fallsApartAt 2 (some .int)) ∈ kr_all := kr_in 725 (by decide +kernel) rfl
theorem kq_726 : (Cond.methodLink RX1 125 yX1_apart) ∈ kr_all := kr_in 726 (by decide +kernel) rfl
theorem kq_728 : (Cond.instanceMethod yX1_apart) ∈ kr_all := kr_in 728 (by decide +kernel) rfl
theorem kq_729 : (Cond.code yX1_apart cX1_apart 4 (some .int)) ∈ kr_all := kr_in 729 (by decide +kernel) rfl
theorem kq_730 : (Cond.methodLink RX1 56 Lib.Math.max.name) ∈ kr_all := kr_in 730 (by decide +kernel) rfl
theorem kq_731 : (Cond.methodLink RL 165 yX1_lines) ∈ kr_all := kr_in 731 (by decide +kernel) rfl
theorem kq_732 : (Cond.instanceMethod yX1_lines) ∈ kr_all := kr_in 732 (by decide +kernel) rfl
theorem kq_733 : (Cond.selects RX1 yX1_lines yX1_lines) ∈ kr_all := kr_in 733 (by decide +kernel) rfl
theorem kq_734 : (Cond.code yX1_lines cX1_lines 1 (some .int)) ∈ kr_all := kr_in 734 (by decide +kernel) rfl
theorem kq_735 : (Cond.methodLink RL 168 yX1_ropesOf) ∈ kr_all := kr_in 735 (by decide +kernel) rfl
theorem kq_736 : (Cond.instanceMethod yX1_ropesOf) ∈ kr_all := kr_in 736 (by decide +kernel) rfl
theorem kq_737 : (Cond.selects RX1 yX1_ropesOf yX1_ropesOf) ∈ kr_all := kr_in 737 (by decide +kernel) rfl
theorem kq_738 : (Cond.code yX1_ropesOf cX1_ropesOf 2 (some .int)) ∈ kr_all := kr_in 738 (by decide +kernel) rfl
theorem kq_739 : (Cond.methodLink RL 171 yX1_knotOf) ∈ kr_all := kr_in 739 (by decide +kernel) rfl
theorem kq_740 : (Cond.instanceMethod yX1_knotOf) ∈ kr_all := kr_in 740 (by decide +kernel) rfl
theorem kq_741 : (Cond.selects RX1 yX1_knotOf yX1_knotOf) ∈ kr_all := kr_in 741 (by decide +kernel) rfl
theorem kq_742 : (Cond.code yX1_knotOf cX1_knotOf 3 (some .int)) ∈ kr_all := kr_in 742 (by decide +kernel) rfl
theorem kq_743 : (Cond.methodLink RL 174 yX1_strengthAt) ∈ kr_all := kr_in 743 (by decide +kernel) rfl
theorem kq_744 : (Cond.instanceMethod yX1_strengthAt) ∈ kr_all := kr_in 744 (by decide +kernel) rfl
theorem kq_745 : (Cond.selects RX1 yX1_strengthAt yX1_strengthAt) ∈ kr_all := kr_in 745 (by decide +kernel) rfl
theorem kq_746 : (Cond.code yX1_strengthAt cX1_strengthAt 3 (some .int)) ∈ kr_all := kr_in 746 (by decide +kernel) rfl
theorem kq_747 : (Cond.methodLink RX1 81 yX1_now) ∈ kr_all := kr_in 747 (by decide +kernel) rfl
theorem kq_749 : (Cond.instanceMethod yX1_now) ∈ kr_all := kr_in 749 (by decide +kernel) rfl
theorem kq_750 : (Cond.code yX1_now cX1_now 3 (some .int)) ∈ kr_all := kr_in 750 (by decide +kernel) rfl
theorem kq_751 : (Cond.methodLink RL 177 yX1_weakestPlace) ∈ kr_all := kr_in 751 (by decide +kernel) rfl
theorem kq_752 : (Cond.instanceMethod yX1_weakestPlace) ∈ kr_all := kr_in 752 (by decide +kernel) rfl
theorem kq_753 : (Cond.selects RX1 yX1_weakestPlace yX1_weakestPlace) ∈ kr_all := kr_in 753 (by decide +kernel) rfl
theorem kq_754 : (Cond.code yX1_weakestPlace cX1_weakestPlace 2 (some .int)) ∈ kr_all := kr_in 754 (by decide +kernel) rfl
theorem kq_755 : (Cond.methodLink RX1 128 yX1_weakest) ∈ kr_all := kr_in 755 (by decide +kernel) rfl
theorem kq_757 : (Cond.instanceMethod yX1_weakest) ∈ kr_all := kr_in 757 (by decide +kernel) rfl
theorem kq_758 : (Cond.code yX1_weakest cX1_weakest 4 (some .int)) ∈ kr_all := kr_in 758 (by decide +kernel) rfl
theorem kq_759 : (Cond.methodLink RL 180 yX1_holds) ∈ kr_all := kr_in 759 (by decide +kernel) rfl
theorem kq_760 : (Cond.instanceMethod yX1_holds) ∈ kr_all := kr_in 760 (by decide +kernel) rfl
theorem kq_761 : (Cond.selects RX1 yX1_holds yX1_holds) ∈ kr_all := kr_in 761 (by decide +kernel) rfl
theorem kq_762 : (Cond.code yX1_holds cX1_holds 3 (some .boolean)) ∈ kr_all := kr_in 762 (by decide +kernel) rfl
theorem kq_763 : (Cond.methodLink RX1 131 yX1_isPulled) ∈ kr_all := kr_in 763 (by decide +kernel) rfl
theorem kq_765 : (Cond.instanceMethod yX1_isPulled) ∈ kr_all := kr_in 765 (by decide +kernel) rfl
theorem kq_766 : (Cond.code yX1_isPulled cX1_isPulled 3 (some .boolean)) ∈ kr_all := kr_in 766 (by decide +kernel) rfl
theorem kq_767 : (Cond.methodLink RL 183 yX1_holdsUpTo) ∈ kr_all := kr_in 767 (by decide +kernel) rfl
theorem kq_768 : (Cond.instanceMethod yX1_holdsUpTo) ∈ kr_all := kr_in 768 (by decide +kernel) rfl
theorem kq_769 : (Cond.selects RX1 yX1_holdsUpTo yX1_holdsUpTo) ∈ kr_all := kr_in 769 (by decide +kernel) rfl
theorem kq_770 : (Cond.code yX1_holdsUpTo cX1_holdsUpTo 2 (some .int)) ∈ kr_all := kr_in 770 (by decide +kernel) rfl
theorem kq_771 : (Cond.methodLink RX1 84 yX1_upTo) ∈ kr_all := kr_in 771 (by decide +kernel) rfl
theorem kq_773 : (Cond.instanceMethod yX1_upTo) ∈ kr_all := kr_in 773 (by decide +kernel) rfl
theorem kq_774 : (Cond.code yX1_upTo cX1_upTo 4 (some .int)) ∈ kr_all := kr_in 774 (by decide +kernel) rfl
theorem kq_775 : (Cond.methodLink RX1 78 yX1_placeUpTo) ∈ kr_all := kr_in 775 (by decide +kernel) rfl
theorem kq_777 : (Cond.instanceMethod yX1_placeUpTo) ∈ kr_all := kr_in 777 (by decide +kernel) rfl
theorem kq_778 : (Cond.code yX1_placeUpTo cX1_placeUpTo 7 (some .int)) ∈ kr_all := kr_in 778 (by decide +kernel) rfl
theorem kq_779 : (Cond.methodLink RL 186 yX1_wouldGiveWay) ∈ kr_all := kr_in 779 (by decide +kernel) rfl
theorem kq_780 : (Cond.instanceMethod yX1_wouldGiveWay) ∈ kr_all := kr_in 780 (by decide +kernel) rfl
theorem kq_781 : (Cond.selects RX1 yX1_wouldGiveWay yX1_wouldGiveWay) ∈ kr_all := kr_in 781 (by decide +kernel) rfl
theorem kq_782 : (Cond.code yX1_wouldGiveWay cX1_wouldGiveWay 3 (some .int)) ∈ kr_all := kr_in 782 (by decide +kernel) rfl
theorem kq_783 : (Cond.methodLink RL 189 yX1_bestKnot) ∈ kr_all := kr_in 783 (by decide +kernel) rfl
theorem kq_784 : (Cond.instanceMethod yX1_bestKnot) ∈ kr_all := kr_in 784 (by decide +kernel) rfl
theorem kq_785 : (Cond.selects RX1 yX1_bestKnot yX1_bestKnot) ∈ kr_all := kr_in 785 (by decide +kernel) rfl
theorem kq_786 : (Cond.code yX1_bestKnot cX1_bestKnot 3 (some .int)) ∈ kr_all := kr_in 786 (by decide +kernel) rfl
theorem kq_787 : (Cond.methodLink RX1 134 yX1_best) ∈ kr_all := kr_in 787 (by decide +kernel) rfl
theorem kq_789 : (Cond.instanceMethod yX1_best) ∈ kr_all := kr_in 789 (by decide +kernel) rfl
theorem kq_790 : (Cond.code yX1_best cX1_best 8 (some .int)) ∈ kr_all := kr_in 790 (by decide +kernel) rfl
theorem kq_791 : (Cond.methodLink RL 193 yX1_strongestLine) ∈ kr_all := kr_in 791 (by decide +kernel) rfl
theorem kq_792 : (Cond.instanceMethod yX1_strongestLine) ∈ kr_all := kr_in 792 (by decide +kernel) rfl
theorem kq_793 : (Cond.selects RX1 yX1_strongestLine yX1_strongestLine) ∈ kr_all := kr_in 793 (by decide +kernel) rfl
theorem kq_794 : (Cond.code yX1_strongestLine cX1_strongestLine 1 (some .int)) ∈ kr_all := kr_in 794 (by decide +kernel) rfl
theorem kq_795 : (Cond.methodLink RX1 137 yX1_strongest) ∈ kr_all := kr_in 795 (by decide +kernel) rfl
theorem kq_797 : (Cond.instanceMethod yX1_strongest) ∈ kr_all := kr_in 797 (by decide +kernel) rfl
theorem kq_798 : (Cond.code yX1_strongest cX1_strongest 3 (some .int)) ∈ kr_all := kr_in 798 (by decide +kernel) rfl
theorem kq_799 : (Cond.methodLink RL 198 yX1_meanEfficiency) ∈ kr_all := kr_in 799 (by decide +kernel) rfl
theorem kq_800 : (Cond.instanceMethod yX1_meanEfficiency) ∈ kr_all := kr_in 800 (by decide +kernel) rfl
theorem kq_801 : (Cond.selects RX1 yX1_meanEfficiency yX1_meanEfficiency) ∈ kr_all := kr_in 801 (by decide +kernel) rfl
theorem kq_802 : (Cond.code yX1_meanEfficiency cX1_meanEfficiency 3 (some .double)) ∈ kr_all := kr_in 802 (by decide +kernel) rfl
theorem kq_803 : (Cond.methodLink RL 203 yX1_digest) ∈ kr_all := kr_in 803 (by decide +kernel) rfl
theorem kq_804 : (Cond.instanceMethod yX1_digest) ∈ kr_all := kr_in 804 (by decide +kernel) rfl
theorem kq_805 : (Cond.selects RX1 yX1_digest yX1_digest) ∈ kr_all := kr_in 805 (by decide +kernel) rfl
theorem kq_806 : (Cond.code yX1_digest cX1_digest 9 (some .long)) ∈ kr_all := kr_in 806 (by decide +kernel) rfl
theorem kq_807 : (Cond.constantLong RX1 141 (63953 : Int64)) ∈ kr_all := kr_in 807 (by decide +kernel) rfl
theorem kq_808 : (Cond.constantLong RX1 143 (31 : Int64)) ∈ kr_all := kr_in 808 (by decide +kernel) rfl
theorem kq_809 : (Cond.arrayClass .long) ∈ kr_all := kr_in 809 (by decide +kernel) rfl
theorem kr_wsX0 : ∀ w ∈ wsX00, w ∈ kr_all := by
  have h : wsX00 = [75, 77, 79, 81, 83, 85, 87, 89, 91, 93].filterMap (fun i => lw_tbl[i]?) := by decide +kernel
  have g : wsX00.all goodWord = true := by decide +kernel
  intro w hw
  have g1 := List.all_eq_true.mp g w hw
  rw [h] at hw
  obtain ⟨i, -, hi⟩ := List.mem_filterMap.mp hw
  exact List.mem_filter.mpr ⟨List.mem_of_getElem? hi, g1⟩
theorem kr_wsX1 : ∀ w ∈ wsX10, w ∈ kr_all := by
  have h : wsX10 = [553, 555, 557, 559, 561, 563, 565, 567, 569, 571, 573].filterMap (fun i => lw_tbl[i]?) := by decide +kernel
  have g : wsX10.all goodWord = true := by decide +kernel
  intro w hw
  have g1 := List.all_eq_true.mp g w hw
  rw [h] at hw
  obtain ⟨i, -, hi⟩ := List.mem_filterMap.mp hw
  exact List.mem_filter.mpr ⟨List.mem_of_getElem? hi, g1⟩
end
section
theorem dX0_init_0 : decode cX0_init 0 = .ok (.aload_n 0, 1) := by decide +kernel
theorem dX0_init_1 : decode cX0_init 1 = .ok (.invokespecial 1, 3) := by decide +kernel
theorem dX0_init_4 : decode cX0_init 4 = .ok (.aload_n 0, 1) := by decide +kernel
theorem dX0_init_5 : decode cX0_init 5 = .ok (.bipush 16, 2) := by decide +kernel
theorem dX0_init_7 : decode cX0_init 7 = .ok (.newarray .int, 2) := by decide +kernel
theorem dX0_init_9 : decode cX0_init 9 = .ok (.putfield 9, 3) := by decide +kernel
theorem dX0_init_12 : decode cX0_init 12 = .ok (.aload_n 0, 1) := by decide +kernel
theorem dX0_init_13 : decode cX0_init 13 = .ok (.bipush 16, 2) := by decide +kernel
theorem dX0_init_15 : decode cX0_init 15 = .ok (.newarray .int, 2) := by decide +kernel
theorem dX0_init_17 : decode cX0_init 17 = .ok (.putfield 13, 3) := by decide +kernel
theorem dX0_init_20 : decode cX0_init 20 = .ok (.aload_n 0, 1) := by decide +kernel
theorem dX0_init_21 : decode cX0_init 21 = .ok (.bipush 16, 2) := by decide +kernel
theorem dX0_init_23 : decode cX0_init 23 = .ok (.newarray .int, 2) := by decide +kernel
theorem dX0_init_25 : decode cX0_init 25 = .ok (.putfield 16, 3) := by decide +kernel
theorem dX0_init_28 : decode cX0_init 28 = .ok (.aload_n 0, 1) := by decide +kernel
theorem dX0_init_29 : decode cX0_init 29 = .ok (.bipush 16, 2) := by decide +kernel
theorem dX0_init_31 : decode cX0_init 31 = .ok (.newarray .int, 2) := by decide +kernel
theorem dX0_init_33 : decode cX0_init 33 = .ok (.putfield 19, 3) := by decide +kernel
theorem dX0_init_36 : decode cX0_init 36 = .ok (.aload_n 0, 1) := by decide +kernel
theorem dX0_init_37 : decode cX0_init 37 = .ok (.bipush 16, 2) := by decide +kernel
theorem dX0_init_39 : decode cX0_init 39 = .ok (.newarray .int, 2) := by decide +kernel
theorem dX0_init_41 : decode cX0_init 41 = .ok (.putfield 22, 3) := by decide +kernel
theorem dX0_init_44 : decode cX0_init 44 = .ok (.aload_n 0, 1) := by decide +kernel
theorem dX0_init_45 : decode cX0_init 45 = .ok (.iconst 0, 1) := by decide +kernel
theorem dX0_init_46 : decode cX0_init 46 = .ok (.putfield 25, 3) := by decide +kernel
theorem dX0_init_49 : decode cX0_init 49 = .ok (.aload_n 0, 1) := by decide +kernel
theorem dX0_init_50 : decode cX0_init 50 = .ok (.bipush 6, 2) := by decide +kernel
theorem dX0_init_52 : decode cX0_init 52 = .ok (.newarray .int, 2) := by decide +kernel
theorem dX0_init_54 : decode cX0_init 54 = .ok (.putfield 29, 3) := by decide +kernel
theorem dX0_init_57 : decode cX0_init 57 = .ok (.aload_n 0, 1) := by decide +kernel
theorem dX0_init_58 : decode cX0_init 58 = .ok (.iconst 0, 1) := by decide +kernel
theorem dX0_init_59 : decode cX0_init 59 = .ok (.putfield 32, 3) := by decide +kernel
theorem dX0_init_62 : decode cX0_init 62 = .ok (.aload_n 0, 1) := by decide +kernel
theorem dX0_init_63 : decode cX0_init 63 = .ok (.bipush 30, 2) := by decide +kernel
theorem dX0_init_65 : decode cX0_init 65 = .ok (.newarray .int, 2) := by decide +kernel
theorem dX0_init_67 : decode cX0_init 67 = .ok (.putfield 35, 3) := by decide +kernel
theorem dX0_init_70 : decode cX0_init 70 = .ok (.aload_n 0, 1) := by decide +kernel
theorem dX0_init_71 : decode cX0_init 71 = .ok (.bipush 30, 2) := by decide +kernel
theorem dX0_init_73 : decode cX0_init 73 = .ok (.newarray .int, 2) := by decide +kernel
theorem dX0_init_75 : decode cX0_init 75 = .ok (.putfield 38, 3) := by decide +kernel
theorem dX0_init_78 : decode cX0_init 78 = .ok (.return_, 1) := by decide +kernel
theorem dX0_addKnot_0 : decode cX0_addKnot 0 = .ok (.iload_n 1, 1) := by decide +kernel
theorem dX0_addKnot_1 : decode cX0_addKnot 1 = .ok (.invokestatic 41, 3) := by decide +kernel
theorem dX0_addKnot_4 : decode cX0_addKnot 4 = .ok (.iload_n 2, 1) := by decide +kernel
theorem dX0_addKnot_5 : decode cX0_addKnot 5 = .ok (.bipush 10, 2) := by decide +kernel
theorem dX0_addKnot_7 : decode cX0_addKnot 7 = .ok (.if_icmp .lt 9, 3) := by decide +kernel
theorem dX0_addKnot_10 : decode cX0_addKnot 10 = .ok (.iload_n 2, 1) := by decide +kernel
theorem dX0_addKnot_11 : decode cX0_addKnot 11 = .ok (.bipush 100, 2) := by decide +kernel
theorem dX0_addKnot_13 : decode cX0_addKnot 13 = .ok (.if_icmp .le 13, 3) := by decide +kernel
theorem dX0_addKnot_16 : decode cX0_addKnot 16 = .ok (.new 45, 3) := by decide +kernel
theorem dX0_addKnot_19 : decode cX0_addKnot 19 = .ok (.dup, 1) := by decide +kernel
theorem dX0_addKnot_20 : decode cX0_addKnot 20 = .ok (.ldc 47, 2) := by decide +kernel
theorem dX0_addKnot_22 : decode cX0_addKnot 22 = .ok (.invokespecial 49, 3) := by decide +kernel
theorem dX0_addKnot_25 : decode cX0_addKnot 25 = .ok (.athrow, 1) := by decide +kernel
theorem dX0_addKnot_26 : decode cX0_addKnot 26 = .ok (.iload_n 3, 1) := by decide +kernel
theorem dX0_addKnot_27 : decode cX0_addKnot 27 = .ok (.iconst 1, 1) := by decide +kernel
theorem dX0_addKnot_28 : decode cX0_addKnot 28 = .ok (.if_icmp .lt 9, 3) := by decide +kernel
theorem dX0_addKnot_31 : decode cX0_addKnot 31 = .ok (.iload_n 3, 1) := by decide +kernel
theorem dX0_addKnot_32 : decode cX0_addKnot 32 = .ok (.bipush 9, 2) := by decide +kernel
theorem dX0_addKnot_34 : decode cX0_addKnot 34 = .ok (.if_icmp .le 13, 3) := by decide +kernel
theorem dX0_addKnot_37 : decode cX0_addKnot 37 = .ok (.new 45, 3) := by decide +kernel
theorem dX0_addKnot_40 : decode cX0_addKnot 40 = .ok (.dup, 1) := by decide +kernel
theorem dX0_addKnot_41 : decode cX0_addKnot 41 = .ok (.ldc 52, 2) := by decide +kernel
theorem dX0_addKnot_43 : decode cX0_addKnot 43 = .ok (.invokespecial 49, 3) := by decide +kernel
theorem dX0_addKnot_46 : decode cX0_addKnot 46 = .ok (.athrow, 1) := by decide +kernel
theorem dX0_addKnot_47 : decode cX0_addKnot 47 = .ok (.aload_n 0, 1) := by decide +kernel
theorem dX0_addKnot_48 : decode cX0_addKnot 48 = .ok (.getfield 25, 3) := by decide +kernel
theorem dX0_addKnot_51 : decode cX0_addKnot 51 = .ok (.bipush 16, 2) := by decide +kernel
theorem dX0_addKnot_53 : decode cX0_addKnot 53 = .ok (.if_icmp .lt 13, 3) := by decide +kernel
theorem dX0_addKnot_56 : decode cX0_addKnot 56 = .ok (.new 54, 3) := by decide +kernel
theorem dX0_addKnot_59 : decode cX0_addKnot 59 = .ok (.dup, 1) := by decide +kernel
theorem dX0_addKnot_60 : decode cX0_addKnot 60 = .ok (.ldc 56, 2) := by decide +kernel
theorem dX0_addKnot_62 : decode cX0_addKnot 62 = .ok (.invokespecial 58, 3) := by decide +kernel
theorem dX0_addKnot_65 : decode cX0_addKnot 65 = .ok (.athrow, 1) := by decide +kernel
theorem dX0_addKnot_66 : decode cX0_addKnot 66 = .ok (.aload_n 0, 1) := by decide +kernel
theorem dX0_addKnot_67 : decode cX0_addKnot 67 = .ok (.getfield 25, 3) := by decide +kernel
theorem dX0_addKnot_70 : decode cX0_addKnot 70 = .ok (.istore 4, 2) := by decide +kernel
theorem dX0_addKnot_72 : decode cX0_addKnot 72 = .ok (.aload_n 0, 1) := by decide +kernel
theorem dX0_addKnot_73 : decode cX0_addKnot 73 = .ok (.getfield 9, 3) := by decide +kernel
theorem dX0_addKnot_76 : decode cX0_addKnot 76 = .ok (.iload 4, 2) := by decide +kernel
theorem dX0_addKnot_78 : decode cX0_addKnot 78 = .ok (.iload_n 1, 1) := by decide +kernel
theorem dX0_addKnot_79 : decode cX0_addKnot 79 = .ok (.iastore, 1) := by decide +kernel
theorem dX0_addKnot_80 : decode cX0_addKnot 80 = .ok (.aload_n 0, 1) := by decide +kernel
theorem dX0_addKnot_81 : decode cX0_addKnot 81 = .ok (.getfield 13, 3) := by decide +kernel
theorem dX0_addKnot_84 : decode cX0_addKnot 84 = .ok (.iload 4, 2) := by decide +kernel
theorem dX0_addKnot_86 : decode cX0_addKnot 86 = .ok (.iload_n 2, 1) := by decide +kernel
theorem dX0_addKnot_87 : decode cX0_addKnot 87 = .ok (.iastore, 1) := by decide +kernel
theorem dX0_addKnot_88 : decode cX0_addKnot 88 = .ok (.aload_n 0, 1) := by decide +kernel
theorem dX0_addKnot_89 : decode cX0_addKnot 89 = .ok (.getfield 16, 3) := by decide +kernel
theorem dX0_addKnot_92 : decode cX0_addKnot 92 = .ok (.iload 4, 2) := by decide +kernel
theorem dX0_addKnot_94 : decode cX0_addKnot 94 = .ok (.iload_n 3, 1) := by decide +kernel
theorem dX0_addKnot_95 : decode cX0_addKnot 95 = .ok (.iastore, 1) := by decide +kernel
theorem dX0_addKnot_96 : decode cX0_addKnot 96 = .ok (.aload_n 0, 1) := by decide +kernel
theorem dX0_addKnot_97 : decode cX0_addKnot 97 = .ok (.getfield 19, 3) := by decide +kernel
theorem dX0_addKnot_100 : decode cX0_addKnot 100 = .ok (.iload 4, 2) := by decide +kernel
theorem dX0_addKnot_102 : decode cX0_addKnot 102 = .ok (.iconst 0, 1) := by decide +kernel
theorem dX0_addKnot_103 : decode cX0_addKnot 103 = .ok (.iastore, 1) := by decide +kernel
theorem dX0_addKnot_104 : decode cX0_addKnot 104 = .ok (.aload_n 0, 1) := by decide +kernel
theorem dX0_addKnot_105 : decode cX0_addKnot 105 = .ok (.getfield 22, 3) := by decide +kernel
theorem dX0_addKnot_108 : decode cX0_addKnot 108 = .ok (.iload 4, 2) := by decide +kernel
theorem dX0_addKnot_110 : decode cX0_addKnot 110 = .ok (.iconst (-1), 1) := by decide +kernel
theorem dX0_addKnot_111 : decode cX0_addKnot 111 = .ok (.iastore, 1) := by decide +kernel
theorem dX0_addKnot_112 : decode cX0_addKnot 112 = .ok (.aload_n 0, 1) := by decide +kernel
theorem dX0_addKnot_113 : decode cX0_addKnot 113 = .ok (.iload 4, 2) := by decide +kernel
theorem dX0_addKnot_115 : decode cX0_addKnot 115 = .ok (.iconst 1, 1) := by decide +kernel
theorem dX0_addKnot_116 : decode cX0_addKnot 116 = .ok (.iadd, 1) := by decide +kernel
theorem dX0_addKnot_117 : decode cX0_addKnot 117 = .ok (.putfield 25, 3) := by decide +kernel
theorem dX0_addKnot_120 : decode cX0_addKnot 120 = .ok (.iload 4, 2) := by decide +kernel
theorem dX0_addKnot_122 : decode cX0_addKnot 122 = .ok (.ireturn, 1) := by decide +kernel
theorem dX0_setSpill_0 : decode cX0_setSpill 0 = .ok (.aload_n 0, 1) := by decide +kernel
theorem dX0_setSpill_1 : decode cX0_setSpill 1 = .ok (.iload_n 1, 1) := by decide +kernel
theorem dX0_setSpill_2 : decode cX0_setSpill 2 = .ok (.invokevirtual 59, 3) := by decide +kernel
theorem dX0_setSpill_5 : decode cX0_setSpill 5 = .ok (.iload_n 2, 1) := by decide +kernel
theorem dX0_setSpill_6 : decode cX0_setSpill 6 = .ok (.invokestatic 62, 3) := by decide +kernel
theorem dX0_setSpill_9 : decode cX0_setSpill 9 = .ok (.iload_n 3, 1) := by decide +kernel
theorem dX0_setSpill_10 : decode cX0_setSpill 10 = .ok (.iconst (-1), 1) := by decide +kernel
theorem dX0_setSpill_11 : decode cX0_setSpill 11 = .ok (.if_icmp .lt 8, 3) := by decide +kernel
theorem dX0_setSpill_14 : decode cX0_setSpill 14 = .ok (.iload_n 3, 1) := by decide +kernel
theorem dX0_setSpill_15 : decode cX0_setSpill 15 = .ok (.iload_n 1, 1) := by decide +kernel
theorem dX0_setSpill_16 : decode cX0_setSpill 16 = .ok (.if_icmp .lt 13, 3) := by decide +kernel
theorem dX0_setSpill_19 : decode cX0_setSpill 19 = .ok (.new 45, 3) := by decide +kernel
theorem dX0_setSpill_22 : decode cX0_setSpill 22 = .ok (.dup, 1) := by decide +kernel
theorem dX0_setSpill_23 : decode cX0_setSpill 23 = .ok (.ldc 65, 2) := by decide +kernel
theorem dX0_setSpill_25 : decode cX0_setSpill 25 = .ok (.invokespecial 49, 3) := by decide +kernel
theorem dX0_setSpill_28 : decode cX0_setSpill 28 = .ok (.athrow, 1) := by decide +kernel
theorem dX0_setSpill_29 : decode cX0_setSpill 29 = .ok (.iload_n 3, 1) := by decide +kernel
theorem dX0_setSpill_30 : decode cX0_setSpill 30 = .ok (.iconst (-1), 1) := by decide +kernel
theorem dX0_setSpill_31 : decode cX0_setSpill 31 = .ok (.if_icmp .eq 28, 3) := by decide +kernel
theorem dX0_setSpill_34 : decode cX0_setSpill 34 = .ok (.aload_n 0, 1) := by decide +kernel
theorem dX0_setSpill_35 : decode cX0_setSpill 35 = .ok (.getfield 9, 3) := by decide +kernel
theorem dX0_setSpill_38 : decode cX0_setSpill 38 = .ok (.iload_n 3, 1) := by decide +kernel
theorem dX0_setSpill_39 : decode cX0_setSpill 39 = .ok (.iaload, 1) := by decide +kernel
theorem dX0_setSpill_40 : decode cX0_setSpill 40 = .ok (.aload_n 0, 1) := by decide +kernel
theorem dX0_setSpill_41 : decode cX0_setSpill 41 = .ok (.getfield 9, 3) := by decide +kernel
theorem dX0_setSpill_44 : decode cX0_setSpill 44 = .ok (.iload_n 1, 1) := by decide +kernel
theorem dX0_setSpill_45 : decode cX0_setSpill 45 = .ok (.iaload, 1) := by decide +kernel
theorem dX0_setSpill_46 : decode cX0_setSpill 46 = .ok (.if_icmp .eq 13, 3) := by decide +kernel
theorem dX0_setSpill_49 : decode cX0_setSpill 49 = .ok (.new 45, 3) := by decide +kernel
theorem dX0_setSpill_52 : decode cX0_setSpill 52 = .ok (.dup, 1) := by decide +kernel
theorem dX0_setSpill_53 : decode cX0_setSpill 53 = .ok (.ldc 67, 2) := by decide +kernel
theorem dX0_setSpill_55 : decode cX0_setSpill 55 = .ok (.invokespecial 49, 3) := by decide +kernel
theorem dX0_setSpill_58 : decode cX0_setSpill 58 = .ok (.athrow, 1) := by decide +kernel
theorem dX0_setSpill_59 : decode cX0_setSpill 59 = .ok (.aload_n 0, 1) := by decide +kernel
theorem dX0_setSpill_60 : decode cX0_setSpill 60 = .ok (.getfield 19, 3) := by decide +kernel
theorem dX0_setSpill_63 : decode cX0_setSpill 63 = .ok (.iload_n 1, 1) := by decide +kernel
theorem dX0_setSpill_64 : decode cX0_setSpill 64 = .ok (.iaload, 1) := by decide +kernel
theorem dX0_setSpill_65 : decode cX0_setSpill 65 = .ok (.istore 4, 2) := by decide +kernel
theorem dX0_setSpill_67 : decode cX0_setSpill 67 = .ok (.aload_n 0, 1) := by decide +kernel
theorem dX0_setSpill_68 : decode cX0_setSpill 68 = .ok (.getfield 19, 3) := by decide +kernel
theorem dX0_setSpill_71 : decode cX0_setSpill 71 = .ok (.iload_n 1, 1) := by decide +kernel
theorem dX0_setSpill_72 : decode cX0_setSpill 72 = .ok (.iload_n 2, 1) := by decide +kernel
theorem dX0_setSpill_73 : decode cX0_setSpill 73 = .ok (.iastore, 1) := by decide +kernel
theorem dX0_setSpill_74 : decode cX0_setSpill 74 = .ok (.aload_n 0, 1) := by decide +kernel
theorem dX0_setSpill_75 : decode cX0_setSpill 75 = .ok (.getfield 22, 3) := by decide +kernel
theorem dX0_setSpill_78 : decode cX0_setSpill 78 = .ok (.iload_n 1, 1) := by decide +kernel
theorem dX0_setSpill_79 : decode cX0_setSpill 79 = .ok (.iload_n 3, 1) := by decide +kernel
theorem dX0_setSpill_80 : decode cX0_setSpill 80 = .ok (.iastore, 1) := by decide +kernel
theorem dX0_setSpill_81 : decode cX0_setSpill 81 = .ok (.iload 4, 2) := by decide +kernel
theorem dX0_setSpill_83 : decode cX0_setSpill 83 = .ok (.ireturn, 1) := by decide +kernel
theorem dX0_tie_0 : decode cX0_tie 0 = .ok (.aload_n 0, 1) := by decide +kernel
theorem dX0_tie_1 : decode cX0_tie 1 = .ok (.iload_n 1, 1) := by decide +kernel
theorem dX0_tie_2 : decode cX0_tie 2 = .ok (.invokevirtual 59, 3) := by decide +kernel
theorem dX0_tie_5 : decode cX0_tie 5 = .ok (.aload_n 0, 1) := by decide +kernel
theorem dX0_tie_6 : decode cX0_tie 6 = .ok (.iload_n 1, 1) := by decide +kernel
theorem dX0_tie_7 : decode cX0_tie 7 = .ok (.iconst 1, 1) := by decide +kernel
theorem dX0_tie_8 : decode cX0_tie 8 = .ok (.invokevirtual 69, 3) := by decide +kernel
theorem dX0_tie_11 : decode cX0_tie 11 = .ok (.iload_n 2, 1) := by decide +kernel
theorem dX0_tie_12 : decode cX0_tie 12 = .ok (.invokestatic 73, 3) := by decide +kernel
theorem dX0_tie_15 : decode cX0_tie 15 = .ok (.aload_n 0, 1) := by decide +kernel
theorem dX0_tie_16 : decode cX0_tie 16 = .ok (.getfield 32, 3) := by decide +kernel
theorem dX0_tie_19 : decode cX0_tie 19 = .ok (.bipush 6, 2) := by decide +kernel
theorem dX0_tie_21 : decode cX0_tie 21 = .ok (.if_icmp .lt 13, 3) := by decide +kernel
theorem dX0_tie_24 : decode cX0_tie 24 = .ok (.new 54, 3) := by decide +kernel
theorem dX0_tie_27 : decode cX0_tie 27 = .ok (.dup, 1) := by decide +kernel
theorem dX0_tie_28 : decode cX0_tie 28 = .ok (.ldc 76, 2) := by decide +kernel
theorem dX0_tie_30 : decode cX0_tie 30 = .ok (.invokespecial 58, 3) := by decide +kernel
theorem dX0_tie_33 : decode cX0_tie 33 = .ok (.athrow, 1) := by decide +kernel
theorem dX0_tie_34 : decode cX0_tie 34 = .ok (.aload_n 0, 1) := by decide +kernel
theorem dX0_tie_35 : decode cX0_tie 35 = .ok (.getfield 32, 3) := by decide +kernel
theorem dX0_tie_38 : decode cX0_tie 38 = .ok (.istore_n 3, 1) := by decide +kernel
theorem dX0_tie_39 : decode cX0_tie 39 = .ok (.aload_n 0, 1) := by decide +kernel
theorem dX0_tie_40 : decode cX0_tie 40 = .ok (.iload_n 3, 1) := by decide +kernel
theorem dX0_tie_41 : decode cX0_tie 41 = .ok (.iconst 1, 1) := by decide +kernel
theorem dX0_tie_42 : decode cX0_tie 42 = .ok (.iadd, 1) := by decide +kernel
theorem dX0_tie_43 : decode cX0_tie 43 = .ok (.putfield 32, 3) := by decide +kernel
theorem dX0_tie_46 : decode cX0_tie 46 = .ok (.aload_n 0, 1) := by decide +kernel
theorem dX0_tie_47 : decode cX0_tie 47 = .ok (.getfield 29, 3) := by decide +kernel
theorem dX0_tie_50 : decode cX0_tie 50 = .ok (.iload_n 3, 1) := by decide +kernel
theorem dX0_tie_51 : decode cX0_tie 51 = .ok (.iconst 0, 1) := by decide +kernel
theorem dX0_tie_52 : decode cX0_tie 52 = .ok (.iastore, 1) := by decide +kernel
theorem dX0_tie_53 : decode cX0_tie 53 = .ok (.aload_n 0, 1) := by decide +kernel
theorem dX0_tie_54 : decode cX0_tie 54 = .ok (.iload_n 3, 1) := by decide +kernel
theorem dX0_tie_55 : decode cX0_tie 55 = .ok (.iload_n 1, 1) := by decide +kernel
theorem dX0_tie_56 : decode cX0_tie 56 = .ok (.iload_n 2, 1) := by decide +kernel
theorem dX0_tie_57 : decode cX0_tie 57 = .ok (.invokevirtual 78, 3) := by decide +kernel
theorem dX0_tie_60 : decode cX0_tie 60 = .ok (.iload_n 3, 1) := by decide +kernel
theorem dX0_tie_61 : decode cX0_tie 61 = .ok (.ireturn, 1) := by decide +kernel
theorem dX0_join_0 : decode cX0_join 0 = .ok (.aload_n 0, 1) := by decide +kernel
theorem dX0_join_1 : decode cX0_join 1 = .ok (.iload_n 1, 1) := by decide +kernel
theorem dX0_join_2 : decode cX0_join 2 = .ok (.invokevirtual 82, 3) := by decide +kernel
theorem dX0_join_5 : decode cX0_join 5 = .ok (.aload_n 0, 1) := by decide +kernel
theorem dX0_join_6 : decode cX0_join 6 = .ok (.iload_n 2, 1) := by decide +kernel
theorem dX0_join_7 : decode cX0_join 7 = .ok (.invokevirtual 59, 3) := by decide +kernel
theorem dX0_join_10 : decode cX0_join 10 = .ok (.aload_n 0, 1) := by decide +kernel
theorem dX0_join_11 : decode cX0_join 11 = .ok (.iload_n 2, 1) := by decide +kernel
theorem dX0_join_12 : decode cX0_join 12 = .ok (.iconst 0, 1) := by decide +kernel
theorem dX0_join_13 : decode cX0_join 13 = .ok (.invokevirtual 69, 3) := by decide +kernel
theorem dX0_join_16 : decode cX0_join 16 = .ok (.iload_n 3, 1) := by decide +kernel
theorem dX0_join_17 : decode cX0_join 17 = .ok (.invokestatic 73, 3) := by decide +kernel
theorem dX0_join_20 : decode cX0_join 20 = .ok (.aload_n 0, 1) := by decide +kernel
theorem dX0_join_21 : decode cX0_join 21 = .ok (.iload_n 1, 1) := by decide +kernel
theorem dX0_join_22 : decode cX0_join 22 = .ok (.invokevirtual 85, 3) := by decide +kernel
theorem dX0_join_25 : decode cX0_join 25 = .ok (.aload_n 0, 1) := by decide +kernel
theorem dX0_join_26 : decode cX0_join 26 = .ok (.getfield 29, 3) := by decide +kernel
theorem dX0_join_29 : decode cX0_join 29 = .ok (.iload_n 1, 1) := by decide +kernel
theorem dX0_join_30 : decode cX0_join 30 = .ok (.iaload, 1) := by decide +kernel
theorem dX0_join_31 : decode cX0_join 31 = .ok (.iconst 5, 1) := by decide +kernel
theorem dX0_join_32 : decode cX0_join 32 = .ok (.if_icmp .lt 13, 3) := by decide +kernel
theorem dX0_join_35 : decode cX0_join 35 = .ok (.new 54, 3) := by decide +kernel
theorem dX0_join_38 : decode cX0_join 38 = .ok (.dup, 1) := by decide +kernel
theorem dX0_join_39 : decode cX0_join 39 = .ok (.ldc 88, 2) := by decide +kernel
theorem dX0_join_41 : decode cX0_join 41 = .ok (.invokespecial 58, 3) := by decide +kernel
theorem dX0_join_44 : decode cX0_join 44 = .ok (.athrow, 1) := by decide +kernel
theorem dX0_join_45 : decode cX0_join 45 = .ok (.aload_n 0, 1) := by decide +kernel
theorem dX0_join_46 : decode cX0_join 46 = .ok (.iload_n 1, 1) := by decide +kernel
theorem dX0_join_47 : decode cX0_join 47 = .ok (.iload_n 2, 1) := by decide +kernel
theorem dX0_join_48 : decode cX0_join 48 = .ok (.iload_n 3, 1) := by decide +kernel
theorem dX0_join_49 : decode cX0_join 49 = .ok (.invokevirtual 78, 3) := by decide +kernel
theorem dX0_join_52 : decode cX0_join 52 = .ok (.aload_n 0, 1) := by decide +kernel
theorem dX0_join_53 : decode cX0_join 53 = .ok (.getfield 29, 3) := by decide +kernel
theorem dX0_join_56 : decode cX0_join 56 = .ok (.iload_n 1, 1) := by decide +kernel
theorem dX0_join_57 : decode cX0_join 57 = .ok (.iaload, 1) := by decide +kernel
theorem dX0_join_58 : decode cX0_join 58 = .ok (.ireturn, 1) := by decide +kernel
theorem dX0_retie_0 : decode cX0_retie 0 = .ok (.aload_n 0, 1) := by decide +kernel
theorem dX0_retie_1 : decode cX0_retie 1 = .ok (.iload_n 1, 1) := by decide +kernel
theorem dX0_retie_2 : decode cX0_retie 2 = .ok (.iload_n 2, 1) := by decide +kernel
theorem dX0_retie_3 : decode cX0_retie 3 = .ok (.invokevirtual 90, 3) := by decide +kernel
theorem dX0_retie_6 : decode cX0_retie 6 = .ok (.aload_n 0, 1) := by decide +kernel
theorem dX0_retie_7 : decode cX0_retie 7 = .ok (.iload_n 3, 1) := by decide +kernel
theorem dX0_retie_8 : decode cX0_retie 8 = .ok (.invokevirtual 59, 3) := by decide +kernel
theorem dX0_retie_11 : decode cX0_retie 11 = .ok (.aload_n 0, 1) := by decide +kernel
theorem dX0_retie_12 : decode cX0_retie 12 = .ok (.iload_n 3, 1) := by decide +kernel
theorem dX0_retie_13 : decode cX0_retie 13 = .ok (.iload_n 2, 1) := by decide +kernel
theorem dX0_retie_14 : decode cX0_retie 14 = .ok (.invokestatic 93, 3) := by decide +kernel
theorem dX0_retie_17 : decode cX0_retie 17 = .ok (.invokevirtual 69, 3) := by decide +kernel
theorem dX0_retie_20 : decode cX0_retie 20 = .ok (.iload_n 1, 1) := by decide +kernel
theorem dX0_retie_21 : decode cX0_retie 21 = .ok (.iload_n 2, 1) := by decide +kernel
theorem dX0_retie_22 : decode cX0_retie 22 = .ok (.invokestatic 97, 3) := by decide +kernel
theorem dX0_retie_25 : decode cX0_retie 25 = .ok (.istore 4, 2) := by decide +kernel
theorem dX0_retie_27 : decode cX0_retie 27 = .ok (.aload_n 0, 1) := by decide +kernel
theorem dX0_retie_28 : decode cX0_retie 28 = .ok (.getfield 35, 3) := by decide +kernel
theorem dX0_retie_31 : decode cX0_retie 31 = .ok (.iload 4, 2) := by decide +kernel
theorem dX0_retie_33 : decode cX0_retie 33 = .ok (.iaload, 1) := by decide +kernel
theorem dX0_retie_34 : decode cX0_retie 34 = .ok (.istore 5, 2) := by decide +kernel
theorem dX0_retie_36 : decode cX0_retie 36 = .ok (.aload_n 0, 1) := by decide +kernel
theorem dX0_retie_37 : decode cX0_retie 37 = .ok (.getfield 35, 3) := by decide +kernel
theorem dX0_retie_40 : decode cX0_retie 40 = .ok (.iload 4, 2) := by decide +kernel
theorem dX0_retie_42 : decode cX0_retie 42 = .ok (.iload_n 3, 1) := by decide +kernel
theorem dX0_retie_43 : decode cX0_retie 43 = .ok (.iastore, 1) := by decide +kernel
theorem dX0_retie_44 : decode cX0_retie 44 = .ok (.iload 5, 2) := by decide +kernel
theorem dX0_retie_46 : decode cX0_retie 46 = .ok (.ireturn, 1) := by decide +kernel
theorem dX0_pull_0 : decode cX0_pull 0 = .ok (.aload_n 0, 1) := by decide +kernel
theorem dX0_pull_1 : decode cX0_pull 1 = .ok (.iload_n 1, 1) := by decide +kernel
theorem dX0_pull_2 : decode cX0_pull 2 = .ok (.invokevirtual 82, 3) := by decide +kernel
theorem dX0_pull_5 : decode cX0_pull 5 = .ok (.iload_n 2, 1) := by decide +kernel
theorem dX0_pull_6 : decode cX0_pull 6 = .ok (.invokestatic 62, 3) := by decide +kernel
theorem dX0_pull_9 : decode cX0_pull 9 = .ok (.aload_n 0, 1) := by decide +kernel
theorem dX0_pull_10 : decode cX0_pull 10 = .ok (.iload_n 1, 1) := by decide +kernel
theorem dX0_pull_11 : decode cX0_pull 11 = .ok (.invokevirtual 85, 3) := by decide +kernel
theorem dX0_pull_14 : decode cX0_pull 14 = .ok (.aload_n 0, 1) := by decide +kernel
theorem dX0_pull_15 : decode cX0_pull 15 = .ok (.iload_n 1, 1) := by decide +kernel
theorem dX0_pull_16 : decode cX0_pull 16 = .ok (.iload_n 2, 1) := by decide +kernel
theorem dX0_pull_17 : decode cX0_pull 17 = .ok (.invokevirtual 101, 3) := by decide +kernel
theorem dX0_pull_20 : decode cX0_pull 20 = .ok (.istore_n 3, 1) := by decide +kernel
theorem dX0_pull_21 : decode cX0_pull 21 = .ok (.iload_n 3, 1) := by decide +kernel
theorem dX0_pull_22 : decode cX0_pull 22 = .ok (.iconst (-1), 1) := by decide +kernel
theorem dX0_pull_23 : decode cX0_pull 23 = .ok (.if_icmp .eq 10, 3) := by decide +kernel
theorem dX0_pull_26 : decode cX0_pull 26 = .ok (.aload_n 0, 1) := by decide +kernel
theorem dX0_pull_27 : decode cX0_pull 27 = .ok (.getfield 29, 3) := by decide +kernel
theorem dX0_pull_30 : decode cX0_pull 30 = .ok (.iload_n 1, 1) := by decide +kernel
theorem dX0_pull_31 : decode cX0_pull 31 = .ok (.iload_n 3, 1) := by decide +kernel
theorem dX0_pull_32 : decode cX0_pull 32 = .ok (.iastore, 1) := by decide +kernel
theorem dX0_pull_33 : decode cX0_pull 33 = .ok (.iconst 0, 1) := by decide +kernel
theorem dX0_pull_34 : decode cX0_pull 34 = .ok (.istore 4, 2) := by decide +kernel
theorem dX0_pull_36 : decode cX0_pull 36 = .ok (.iload 4, 2) := by decide +kernel
theorem dX0_pull_38 : decode cX0_pull 38 = .ok (.aload_n 0, 1) := by decide +kernel
theorem dX0_pull_39 : decode cX0_pull 39 = .ok (.getfield 29, 3) := by decide +kernel
theorem dX0_pull_42 : decode cX0_pull 42 = .ok (.iload_n 1, 1) := by decide +kernel
theorem dX0_pull_43 : decode cX0_pull 43 = .ok (.iaload, 1) := by decide +kernel
theorem dX0_pull_44 : decode cX0_pull 44 = .ok (.if_icmp .ge 36, 3) := by decide +kernel
theorem dX0_pull_47 : decode cX0_pull 47 = .ok (.iload_n 1, 1) := by decide +kernel
theorem dX0_pull_48 : decode cX0_pull 48 = .ok (.iload 4, 2) := by decide +kernel
theorem dX0_pull_50 : decode cX0_pull 50 = .ok (.invokestatic 97, 3) := by decide +kernel
theorem dX0_pull_53 : decode cX0_pull 53 = .ok (.istore 5, 2) := by decide +kernel
theorem dX0_pull_55 : decode cX0_pull 55 = .ok (.aload_n 0, 1) := by decide +kernel
theorem dX0_pull_56 : decode cX0_pull 56 = .ok (.getfield 35, 3) := by decide +kernel
theorem dX0_pull_59 : decode cX0_pull 59 = .ok (.iload 5, 2) := by decide +kernel
theorem dX0_pull_61 : decode cX0_pull 61 = .ok (.aload_n 0, 1) := by decide +kernel
theorem dX0_pull_62 : decode cX0_pull 62 = .ok (.aload_n 0, 1) := by decide +kernel
theorem dX0_pull_63 : decode cX0_pull 63 = .ok (.getfield 35, 3) := by decide +kernel
theorem dX0_pull_66 : decode cX0_pull 66 = .ok (.iload 5, 2) := by decide +kernel
theorem dX0_pull_68 : decode cX0_pull 68 = .ok (.iaload, 1) := by decide +kernel
theorem dX0_pull_69 : decode cX0_pull 69 = .ok (.iload_n 2, 1) := by decide +kernel
theorem dX0_pull_70 : decode cX0_pull 70 = .ok (.invokevirtual 104, 3) := by decide +kernel
theorem dX0_pull_73 : decode cX0_pull 73 = .ok (.iastore, 1) := by decide +kernel
theorem dX0_pull_74 : decode cX0_pull 74 = .ok (.iinc 4 1, 3) := by decide +kernel
theorem dX0_pull_77 : decode cX0_pull 77 = .ok (.goto (-41), 3) := by decide +kernel
theorem dX0_pull_80 : decode cX0_pull 80 = .ok (.iload_n 3, 1) := by decide +kernel
theorem dX0_pull_81 : decode cX0_pull 81 = .ok (.ireturn, 1) := by decide +kernel
theorem dX0_knots_0 : decode cX0_knots 0 = .ok (.aload_n 0, 1) := by decide +kernel
theorem dX0_knots_1 : decode cX0_knots 1 = .ok (.getfield 25, 3) := by decide +kernel
theorem dX0_knots_4 : decode cX0_knots 4 = .ok (.ireturn, 1) := by decide +kernel
theorem dX0_knotsOf_0 : decode cX0_knotsOf 0 = .ok (.iload_n 1, 1) := by decide +kernel
theorem dX0_knotsOf_1 : decode cX0_knotsOf 1 = .ok (.invokestatic 41, 3) := by decide +kernel
theorem dX0_knotsOf_4 : decode cX0_knotsOf 4 = .ok (.aload_n 0, 1) := by decide +kernel
theorem dX0_knotsOf_5 : decode cX0_knotsOf 5 = .ok (.iload_n 1, 1) := by decide +kernel
theorem dX0_knotsOf_6 : decode cX0_knotsOf 6 = .ok (.invokevirtual 107, 3) := by decide +kernel
theorem dX0_knotsOf_9 : decode cX0_knotsOf 9 = .ok (.ireturn, 1) := by decide +kernel
theorem dX0_kindOf_0 : decode cX0_kindOf 0 = .ok (.aload_n 0, 1) := by decide +kernel
theorem dX0_kindOf_1 : decode cX0_kindOf 1 = .ok (.iload_n 1, 1) := by decide +kernel
theorem dX0_kindOf_2 : decode cX0_kindOf 2 = .ok (.invokevirtual 59, 3) := by decide +kernel
theorem dX0_kindOf_5 : decode cX0_kindOf 5 = .ok (.aload_n 0, 1) := by decide +kernel
theorem dX0_kindOf_6 : decode cX0_kindOf 6 = .ok (.getfield 9, 3) := by decide +kernel
theorem dX0_kindOf_9 : decode cX0_kindOf 9 = .ok (.iload_n 1, 1) := by decide +kernel
theorem dX0_kindOf_10 : decode cX0_kindOf 10 = .ok (.iaload, 1) := by decide +kernel
theorem dX0_kindOf_11 : decode cX0_kindOf 11 = .ok (.ireturn, 1) := by decide +kernel
theorem dX0_efficiencyOf_0 : decode cX0_efficiencyOf 0 = .ok (.aload_n 0, 1) := by decide +kernel
theorem dX0_efficiencyOf_1 : decode cX0_efficiencyOf 1 = .ok (.iload_n 1, 1) := by decide +kernel
theorem dX0_efficiencyOf_2 : decode cX0_efficiencyOf 2 = .ok (.invokevirtual 59, 3) := by decide +kernel
theorem dX0_efficiencyOf_5 : decode cX0_efficiencyOf 5 = .ok (.aload_n 0, 1) := by decide +kernel
theorem dX0_efficiencyOf_6 : decode cX0_efficiencyOf 6 = .ok (.getfield 13, 3) := by decide +kernel
theorem dX0_efficiencyOf_9 : decode cX0_efficiencyOf 9 = .ok (.iload_n 1, 1) := by decide +kernel
theorem dX0_efficiencyOf_10 : decode cX0_efficiencyOf 10 = .ok (.iaload, 1) := by decide +kernel
theorem dX0_efficiencyOf_11 : decode cX0_efficiencyOf 11 = .ok (.ireturn, 1) := by decide +kernel
theorem dX0_crossingsOf_0 : decode cX0_crossingsOf 0 = .ok (.aload_n 0, 1) := by decide +kernel
theorem dX0_crossingsOf_1 : decode cX0_crossingsOf 1 = .ok (.iload_n 1, 1) := by decide +kernel
theorem dX0_crossingsOf_2 : decode cX0_crossingsOf 2 = .ok (.invokevirtual 59, 3) := by decide +kernel
theorem dX0_crossingsOf_5 : decode cX0_crossingsOf 5 = .ok (.aload_n 0, 1) := by decide +kernel
theorem dX0_crossingsOf_6 : decode cX0_crossingsOf 6 = .ok (.getfield 16, 3) := by decide +kernel
theorem dX0_crossingsOf_9 : decode cX0_crossingsOf 9 = .ok (.iload_n 1, 1) := by decide +kernel
theorem dX0_crossingsOf_10 : decode cX0_crossingsOf 10 = .ok (.iaload, 1) := by decide +kernel
theorem dX0_crossingsOf_11 : decode cX0_crossingsOf 11 = .ok (.ireturn, 1) := by decide +kernel
theorem dX0_spillsAt_0 : decode cX0_spillsAt 0 = .ok (.aload_n 0, 1) := by decide +kernel
theorem dX0_spillsAt_1 : decode cX0_spillsAt 1 = .ok (.iload_n 1, 1) := by decide +kernel
theorem dX0_spillsAt_2 : decode cX0_spillsAt 2 = .ok (.invokevirtual 59, 3) := by decide +kernel
theorem dX0_spillsAt_5 : decode cX0_spillsAt 5 = .ok (.aload_n 0, 1) := by decide +kernel
theorem dX0_spillsAt_6 : decode cX0_spillsAt 6 = .ok (.getfield 19, 3) := by decide +kernel
theorem dX0_spillsAt_9 : decode cX0_spillsAt 9 = .ok (.iload_n 1, 1) := by decide +kernel
theorem dX0_spillsAt_10 : decode cX0_spillsAt 10 = .ok (.iaload, 1) := by decide +kernel
theorem dX0_spillsAt_11 : decode cX0_spillsAt 11 = .ok (.ireturn, 1) := by decide +kernel
theorem dX0_spillsInto_0 : decode cX0_spillsInto 0 = .ok (.aload_n 0, 1) := by decide +kernel
theorem dX0_spillsInto_1 : decode cX0_spillsInto 1 = .ok (.iload_n 1, 1) := by decide +kernel
theorem dX0_spillsInto_2 : decode cX0_spillsInto 2 = .ok (.invokevirtual 59, 3) := by decide +kernel
theorem dX0_spillsInto_5 : decode cX0_spillsInto 5 = .ok (.aload_n 0, 1) := by decide +kernel
theorem dX0_spillsInto_6 : decode cX0_spillsInto 6 = .ok (.getfield 22, 3) := by decide +kernel
theorem dX0_spillsInto_9 : decode cX0_spillsInto 9 = .ok (.iload_n 1, 1) := by decide +kernel
theorem dX0_spillsInto_10 : decode cX0_spillsInto 10 = .ok (.iaload, 1) := by decide +kernel
theorem dX0_spillsInto_11 : decode cX0_spillsInto 11 = .ok (.ireturn, 1) := by decide +kernel
theorem dX0_rankOf_0 : decode cX0_rankOf 0 = .ok (.aload_n 0, 1) := by decide +kernel
theorem dX0_rankOf_1 : decode cX0_rankOf 1 = .ok (.iload_n 1, 1) := by decide +kernel
theorem dX0_rankOf_2 : decode cX0_rankOf 2 = .ok (.invokevirtual 59, 3) := by decide +kernel
theorem dX0_rankOf_5 : decode cX0_rankOf 5 = .ok (.aload_n 0, 1) := by decide +kernel
theorem dX0_rankOf_6 : decode cX0_rankOf 6 = .ok (.iload_n 1, 1) := by decide +kernel
theorem dX0_rankOf_7 : decode cX0_rankOf 7 = .ok (.invokevirtual 110, 3) := by decide +kernel
theorem dX0_rankOf_10 : decode cX0_rankOf 10 = .ok (.ireturn, 1) := by decide +kernel
theorem dX0_knotAt_0 : decode cX0_knotAt 0 = .ok (.iload_n 1, 1) := by decide +kernel
theorem dX0_knotAt_1 : decode cX0_knotAt 1 = .ok (.invokestatic 41, 3) := by decide +kernel
theorem dX0_knotAt_4 : decode cX0_knotAt 4 = .ok (.aload_n 0, 1) := by decide +kernel
theorem dX0_knotAt_5 : decode cX0_knotAt 5 = .ok (.iload_n 1, 1) := by decide +kernel
theorem dX0_knotAt_6 : decode cX0_knotAt 6 = .ok (.iload_n 2, 1) := by decide +kernel
theorem dX0_knotAt_7 : decode cX0_knotAt 7 = .ok (.invokevirtual 113, 3) := by decide +kernel
theorem dX0_knotAt_10 : decode cX0_knotAt 10 = .ok (.istore_n 3, 1) := by decide +kernel
theorem dX0_knotAt_11 : decode cX0_knotAt 11 = .ok (.iload_n 3, 1) := by decide +kernel
theorem dX0_knotAt_12 : decode cX0_knotAt 12 = .ok (.iconst (-1), 1) := by decide +kernel
theorem dX0_knotAt_13 : decode cX0_knotAt 13 = .ok (.if_icmp .ne 13, 3) := by decide +kernel
theorem dX0_knotAt_16 : decode cX0_knotAt 16 = .ok (.new 116, 3) := by decide +kernel
theorem dX0_knotAt_19 : decode cX0_knotAt 19 = .ok (.dup, 1) := by decide +kernel
theorem dX0_knotAt_20 : decode cX0_knotAt 20 = .ok (.ldc 118, 2) := by decide +kernel
theorem dX0_knotAt_22 : decode cX0_knotAt 22 = .ok (.invokespecial 120, 3) := by decide +kernel
theorem dX0_knotAt_25 : decode cX0_knotAt 25 = .ok (.athrow, 1) := by decide +kernel
theorem dX0_knotAt_26 : decode cX0_knotAt 26 = .ok (.iload_n 3, 1) := by decide +kernel
theorem dX0_knotAt_27 : decode cX0_knotAt 27 = .ok (.ireturn, 1) := by decide +kernel
theorem dX0_formOf_0 : decode cX0_formOf 0 = .ok (.aload_n 0, 1) := by decide +kernel
theorem dX0_formOf_1 : decode cX0_formOf 1 = .ok (.iload_n 1, 1) := by decide +kernel
theorem dX0_formOf_2 : decode cX0_formOf 2 = .ok (.invokevirtual 59, 3) := by decide +kernel
theorem dX0_formOf_5 : decode cX0_formOf 5 = .ok (.iload_n 2, 1) := by decide +kernel
theorem dX0_formOf_6 : decode cX0_formOf 6 = .ok (.invokestatic 62, 3) := by decide +kernel
theorem dX0_formOf_9 : decode cX0_formOf 9 = .ok (.aload_n 0, 1) := by decide +kernel
theorem dX0_formOf_10 : decode cX0_formOf 10 = .ok (.iload_n 1, 1) := by decide +kernel
theorem dX0_formOf_11 : decode cX0_formOf 11 = .ok (.iload_n 2, 1) := by decide +kernel
theorem dX0_formOf_12 : decode cX0_formOf 12 = .ok (.invokevirtual 104, 3) := by decide +kernel
theorem dX0_formOf_15 : decode cX0_formOf 15 = .ok (.ireturn, 1) := by decide +kernel
theorem dX0_spills_0 : decode cX0_spills 0 = .ok (.aload_n 0, 1) := by decide +kernel
theorem dX0_spills_1 : decode cX0_spills 1 = .ok (.iload_n 1, 1) := by decide +kernel
theorem dX0_spills_2 : decode cX0_spills 2 = .ok (.invokevirtual 59, 3) := by decide +kernel
theorem dX0_spills_5 : decode cX0_spills 5 = .ok (.iload_n 2, 1) := by decide +kernel
theorem dX0_spills_6 : decode cX0_spills 6 = .ok (.invokestatic 62, 3) := by decide +kernel
theorem dX0_spills_9 : decode cX0_spills 9 = .ok (.iload_n 1, 1) := by decide +kernel
theorem dX0_spills_10 : decode cX0_spills 10 = .ok (.istore_n 3, 1) := by decide +kernel
theorem dX0_spills_11 : decode cX0_spills 11 = .ok (.iconst 0, 1) := by decide +kernel
theorem dX0_spills_12 : decode cX0_spills 12 = .ok (.istore 4, 2) := by decide +kernel
theorem dX0_spills_14 : decode cX0_spills 14 = .ok (.iload 4, 2) := by decide +kernel
theorem dX0_spills_16 : decode cX0_spills 16 = .ok (.bipush 16, 2) := by decide +kernel
theorem dX0_spills_18 : decode cX0_spills 18 = .ok (.if_icmp .ge 25, 3) := by decide +kernel
theorem dX0_spills_21 : decode cX0_spills 21 = .ok (.aload_n 0, 1) := by decide +kernel
theorem dX0_spills_22 : decode cX0_spills 22 = .ok (.iload_n 3, 1) := by decide +kernel
theorem dX0_spills_23 : decode cX0_spills 23 = .ok (.iload_n 2, 1) := by decide +kernel
theorem dX0_spills_24 : decode cX0_spills 24 = .ok (.invokevirtual 121, 3) := by decide +kernel
theorem dX0_spills_27 : decode cX0_spills 27 = .ok (.ifCond .eq 16, 3) := by decide +kernel
theorem dX0_spills_30 : decode cX0_spills 30 = .ok (.aload_n 0, 1) := by decide +kernel
theorem dX0_spills_31 : decode cX0_spills 31 = .ok (.getfield 22, 3) := by decide +kernel
theorem dX0_spills_34 : decode cX0_spills 34 = .ok (.iload_n 3, 1) := by decide +kernel
theorem dX0_spills_35 : decode cX0_spills 35 = .ok (.iaload, 1) := by decide +kernel
theorem dX0_spills_36 : decode cX0_spills 36 = .ok (.istore_n 3, 1) := by decide +kernel
theorem dX0_spills_37 : decode cX0_spills 37 = .ok (.iinc 4 1, 3) := by decide +kernel
theorem dX0_spills_40 : decode cX0_spills 40 = .ok (.goto (-26), 3) := by decide +kernel
theorem dX0_spills_43 : decode cX0_spills 43 = .ok (.iload 4, 2) := by decide +kernel
theorem dX0_spills_45 : decode cX0_spills 45 = .ok (.ireturn, 1) := by decide +kernel
theorem dX0_fallsApartAt_0 : decode cX0_fallsApartAt 0 = .ok (.aload_n 0, 1) := by decide +kernel
theorem dX0_fallsApartAt_1 : decode cX0_fallsApartAt 1 = .ok (.iload_n 1, 1) := by decide +kernel
theorem dX0_fallsApartAt_2 : decode cX0_fallsApartAt 2 = .ok (.invokevirtual 59, 3) := by decide +kernel
theorem dX0_fallsApartAt_5 : decode cX0_fallsApartAt 5 = .ok (.iload_n 1, 1) := by decide +kernel
theorem dX0_fallsApartAt_6 : decode cX0_fallsApartAt 6 = .ok (.istore_n 2, 1) := by decide +kernel
theorem dX0_fallsApartAt_7 : decode cX0_fallsApartAt 7 = .ok (.iconst 0, 1) := by decide +kernel
theorem dX0_fallsApartAt_8 : decode cX0_fallsApartAt 8 = .ok (.istore_n 3, 1) := by decide +kernel
theorem dX0_fallsApartAt_9 : decode cX0_fallsApartAt 9 = .ok (.iconst 0, 1) := by decide +kernel
theorem dX0_fallsApartAt_10 : decode cX0_fallsApartAt 10 = .ok (.istore 4, 2) := by decide +kernel
theorem dX0_fallsApartAt_12 : decode cX0_fallsApartAt 12 = .ok (.iload 4, 2) := by decide +kernel
theorem dX0_fallsApartAt_14 : decode cX0_fallsApartAt 14 = .ok (.bipush 16, 2) := by decide +kernel
theorem dX0_fallsApartAt_16 : decode cX0_fallsApartAt 16 = .ok (.if_icmp .ge 46, 3) := by decide +kernel
theorem dX0_fallsApartAt_19 : decode cX0_fallsApartAt 19 = .ok (.aload_n 0, 1) := by decide +kernel
theorem dX0_fallsApartAt_20 : decode cX0_fallsApartAt 20 = .ok (.iload_n 2, 1) := by decide +kernel
theorem dX0_fallsApartAt_21 : decode cX0_fallsApartAt 21 = .ok (.invokevirtual 125, 3) := by decide +kernel
theorem dX0_fallsApartAt_24 : decode cX0_fallsApartAt 24 = .ok (.ifCond .eq 38, 3) := by decide +kernel
theorem dX0_fallsApartAt_27 : decode cX0_fallsApartAt 27 = .ok (.aload_n 0, 1) := by decide +kernel
theorem dX0_fallsApartAt_28 : decode cX0_fallsApartAt 28 = .ok (.getfield 19, 3) := by decide +kernel
theorem dX0_fallsApartAt_31 : decode cX0_fallsApartAt 31 = .ok (.iload_n 2, 1) := by decide +kernel
theorem dX0_fallsApartAt_32 : decode cX0_fallsApartAt 32 = .ok (.iaload, 1) := by decide +kernel
theorem dX0_fallsApartAt_33 : decode cX0_fallsApartAt 33 = .ok (.ifCond .ne 5, 3) := by decide +kernel
theorem dX0_fallsApartAt_36 : decode cX0_fallsApartAt 36 = .ok (.iconst 0, 1) := by decide +kernel
theorem dX0_fallsApartAt_37 : decode cX0_fallsApartAt 37 = .ok (.ireturn, 1) := by decide +kernel
theorem dX0_fallsApartAt_38 : decode cX0_fallsApartAt 38 = .ok (.iload_n 3, 1) := by decide +kernel
theorem dX0_fallsApartAt_39 : decode cX0_fallsApartAt 39 = .ok (.aload_n 0, 1) := by decide +kernel
theorem dX0_fallsApartAt_40 : decode cX0_fallsApartAt 40 = .ok (.getfield 19, 3) := by decide +kernel
theorem dX0_fallsApartAt_43 : decode cX0_fallsApartAt 43 = .ok (.iload_n 2, 1) := by decide +kernel
theorem dX0_fallsApartAt_44 : decode cX0_fallsApartAt 44 = .ok (.iaload, 1) := by decide +kernel
theorem dX0_fallsApartAt_45 : decode cX0_fallsApartAt 45 = .ok (.invokestatic 129, 3) := by decide +kernel
theorem dX0_fallsApartAt_48 : decode cX0_fallsApartAt 48 = .ok (.istore_n 3, 1) := by decide +kernel
theorem dX0_fallsApartAt_49 : decode cX0_fallsApartAt 49 = .ok (.aload_n 0, 1) := by decide +kernel
theorem dX0_fallsApartAt_50 : decode cX0_fallsApartAt 50 = .ok (.getfield 22, 3) := by decide +kernel
theorem dX0_fallsApartAt_53 : decode cX0_fallsApartAt 53 = .ok (.iload_n 2, 1) := by decide +kernel
theorem dX0_fallsApartAt_54 : decode cX0_fallsApartAt 54 = .ok (.iaload, 1) := by decide +kernel
theorem dX0_fallsApartAt_55 : decode cX0_fallsApartAt 55 = .ok (.istore_n 2, 1) := by decide +kernel
theorem dX0_fallsApartAt_56 : decode cX0_fallsApartAt 56 = .ok (.iinc 4 1, 3) := by decide +kernel
theorem dX0_fallsApartAt_59 : decode cX0_fallsApartAt 59 = .ok (.goto (-47), 3) := by decide +kernel
theorem dX0_fallsApartAt_62 : decode cX0_fallsApartAt 62 = .ok (.iload_n 3, 1) := by decide +kernel
theorem dX0_fallsApartAt_63 : decode cX0_fallsApartAt 63 = .ok (.ireturn, 1) := by decide +kernel
theorem dX0_lines_0 : decode cX0_lines 0 = .ok (.aload_n 0, 1) := by decide +kernel
theorem dX0_lines_1 : decode cX0_lines 1 = .ok (.getfield 32, 3) := by decide +kernel
theorem dX0_lines_4 : decode cX0_lines 4 = .ok (.ireturn, 1) := by decide +kernel
theorem dX0_ropesOf_0 : decode cX0_ropesOf 0 = .ok (.aload_n 0, 1) := by decide +kernel
theorem dX0_ropesOf_1 : decode cX0_ropesOf 1 = .ok (.iload_n 1, 1) := by decide +kernel
theorem dX0_ropesOf_2 : decode cX0_ropesOf 2 = .ok (.invokevirtual 82, 3) := by decide +kernel
theorem dX0_ropesOf_5 : decode cX0_ropesOf 5 = .ok (.aload_n 0, 1) := by decide +kernel
theorem dX0_ropesOf_6 : decode cX0_ropesOf 6 = .ok (.getfield 29, 3) := by decide +kernel
theorem dX0_ropesOf_9 : decode cX0_ropesOf 9 = .ok (.iload_n 1, 1) := by decide +kernel
theorem dX0_ropesOf_10 : decode cX0_ropesOf 10 = .ok (.iaload, 1) := by decide +kernel
theorem dX0_ropesOf_11 : decode cX0_ropesOf 11 = .ok (.ireturn, 1) := by decide +kernel
theorem dX0_knotOf_0 : decode cX0_knotOf 0 = .ok (.aload_n 0, 1) := by decide +kernel
theorem dX0_knotOf_1 : decode cX0_knotOf 1 = .ok (.iload_n 1, 1) := by decide +kernel
theorem dX0_knotOf_2 : decode cX0_knotOf 2 = .ok (.iload_n 2, 1) := by decide +kernel
theorem dX0_knotOf_3 : decode cX0_knotOf 3 = .ok (.invokevirtual 90, 3) := by decide +kernel
theorem dX0_knotOf_6 : decode cX0_knotOf 6 = .ok (.aload_n 0, 1) := by decide +kernel
theorem dX0_knotOf_7 : decode cX0_knotOf 7 = .ok (.getfield 35, 3) := by decide +kernel
theorem dX0_knotOf_10 : decode cX0_knotOf 10 = .ok (.iload_n 1, 1) := by decide +kernel
theorem dX0_knotOf_11 : decode cX0_knotOf 11 = .ok (.iload_n 2, 1) := by decide +kernel
theorem dX0_knotOf_12 : decode cX0_knotOf 12 = .ok (.invokestatic 97, 3) := by decide +kernel
theorem dX0_knotOf_15 : decode cX0_knotOf 15 = .ok (.iaload, 1) := by decide +kernel
theorem dX0_knotOf_16 : decode cX0_knotOf 16 = .ok (.ireturn, 1) := by decide +kernel
theorem dX0_strengthAt_0 : decode cX0_strengthAt 0 = .ok (.aload_n 0, 1) := by decide +kernel
theorem dX0_strengthAt_1 : decode cX0_strengthAt 1 = .ok (.iload_n 1, 1) := by decide +kernel
theorem dX0_strengthAt_2 : decode cX0_strengthAt 2 = .ok (.iload_n 2, 1) := by decide +kernel
theorem dX0_strengthAt_3 : decode cX0_strengthAt 3 = .ok (.invokevirtual 90, 3) := by decide +kernel
theorem dX0_strengthAt_6 : decode cX0_strengthAt 6 = .ok (.aload_n 0, 1) := by decide +kernel
theorem dX0_strengthAt_7 : decode cX0_strengthAt 7 = .ok (.iload_n 1, 1) := by decide +kernel
theorem dX0_strengthAt_8 : decode cX0_strengthAt 8 = .ok (.iload_n 2, 1) := by decide +kernel
theorem dX0_strengthAt_9 : decode cX0_strengthAt 9 = .ok (.invokevirtual 134, 3) := by decide +kernel
theorem dX0_strengthAt_12 : decode cX0_strengthAt 12 = .ok (.ireturn, 1) := by decide +kernel
theorem dX0_weakestPlace_0 : decode cX0_weakestPlace 0 = .ok (.aload_n 0, 1) := by decide +kernel
theorem dX0_weakestPlace_1 : decode cX0_weakestPlace 1 = .ok (.iload_n 1, 1) := by decide +kernel
theorem dX0_weakestPlace_2 : decode cX0_weakestPlace 2 = .ok (.invokevirtual 82, 3) := by decide +kernel
theorem dX0_weakestPlace_5 : decode cX0_weakestPlace 5 = .ok (.iconst (-1), 1) := by decide +kernel
theorem dX0_weakestPlace_6 : decode cX0_weakestPlace 6 = .ok (.istore_n 2, 1) := by decide +kernel
theorem dX0_weakestPlace_7 : decode cX0_weakestPlace 7 = .ok (.ldc 139, 2) := by decide +kernel
theorem dX0_weakestPlace_9 : decode cX0_weakestPlace 9 = .ok (.istore_n 3, 1) := by decide +kernel
theorem dX0_weakestPlace_10 : decode cX0_weakestPlace 10 = .ok (.iconst 0, 1) := by decide +kernel
theorem dX0_weakestPlace_11 : decode cX0_weakestPlace 11 = .ok (.istore 4, 2) := by decide +kernel
theorem dX0_weakestPlace_13 : decode cX0_weakestPlace 13 = .ok (.iload 4, 2) := by decide +kernel
theorem dX0_weakestPlace_15 : decode cX0_weakestPlace 15 = .ok (.aload_n 0, 1) := by decide +kernel
theorem dX0_weakestPlace_16 : decode cX0_weakestPlace 16 = .ok (.getfield 29, 3) := by decide +kernel
theorem dX0_weakestPlace_19 : decode cX0_weakestPlace 19 = .ok (.iload_n 1, 1) := by decide +kernel
theorem dX0_weakestPlace_20 : decode cX0_weakestPlace 20 = .ok (.iaload, 1) := by decide +kernel
theorem dX0_weakestPlace_21 : decode cX0_weakestPlace 21 = .ok (.if_icmp .ge 30, 3) := by decide +kernel
theorem dX0_weakestPlace_24 : decode cX0_weakestPlace 24 = .ok (.aload_n 0, 1) := by decide +kernel
theorem dX0_weakestPlace_25 : decode cX0_weakestPlace 25 = .ok (.iload_n 1, 1) := by decide +kernel
theorem dX0_weakestPlace_26 : decode cX0_weakestPlace 26 = .ok (.iload 4, 2) := by decide +kernel
theorem dX0_weakestPlace_28 : decode cX0_weakestPlace 28 = .ok (.invokevirtual 134, 3) := by decide +kernel
theorem dX0_weakestPlace_31 : decode cX0_weakestPlace 31 = .ok (.istore 5, 2) := by decide +kernel
theorem dX0_weakestPlace_33 : decode cX0_weakestPlace 33 = .ok (.iload 5, 2) := by decide +kernel
theorem dX0_weakestPlace_35 : decode cX0_weakestPlace 35 = .ok (.iload_n 3, 1) := by decide +kernel
theorem dX0_weakestPlace_36 : decode cX0_weakestPlace 36 = .ok (.if_icmp .ge 9, 3) := by decide +kernel
theorem dX0_weakestPlace_39 : decode cX0_weakestPlace 39 = .ok (.iload 4, 2) := by decide +kernel
theorem dX0_weakestPlace_41 : decode cX0_weakestPlace 41 = .ok (.istore_n 2, 1) := by decide +kernel
theorem dX0_weakestPlace_42 : decode cX0_weakestPlace 42 = .ok (.iload 5, 2) := by decide +kernel
theorem dX0_weakestPlace_44 : decode cX0_weakestPlace 44 = .ok (.istore_n 3, 1) := by decide +kernel
theorem dX0_weakestPlace_45 : decode cX0_weakestPlace 45 = .ok (.iinc 4 1, 3) := by decide +kernel
theorem dX0_weakestPlace_48 : decode cX0_weakestPlace 48 = .ok (.goto (-35), 3) := by decide +kernel
theorem dX0_weakestPlace_51 : decode cX0_weakestPlace 51 = .ok (.iload_n 2, 1) := by decide +kernel
theorem dX0_weakestPlace_52 : decode cX0_weakestPlace 52 = .ok (.ireturn, 1) := by decide +kernel
theorem dX0_holds_0 : decode cX0_holds 0 = .ok (.aload_n 0, 1) := by decide +kernel
theorem dX0_holds_1 : decode cX0_holds 1 = .ok (.iload_n 1, 1) := by decide +kernel
theorem dX0_holds_2 : decode cX0_holds 2 = .ok (.invokevirtual 82, 3) := by decide +kernel
theorem dX0_holds_5 : decode cX0_holds 5 = .ok (.iload_n 2, 1) := by decide +kernel
theorem dX0_holds_6 : decode cX0_holds 6 = .ok (.invokestatic 62, 3) := by decide +kernel
theorem dX0_holds_9 : decode cX0_holds 9 = .ok (.aload_n 0, 1) := by decide +kernel
theorem dX0_holds_10 : decode cX0_holds 10 = .ok (.iload_n 1, 1) := by decide +kernel
theorem dX0_holds_11 : decode cX0_holds 11 = .ok (.invokevirtual 140, 3) := by decide +kernel
theorem dX0_holds_14 : decode cX0_holds 14 = .ok (.ifCond .ne 17, 3) := by decide +kernel
theorem dX0_holds_17 : decode cX0_holds 17 = .ok (.aload_n 0, 1) := by decide +kernel
theorem dX0_holds_18 : decode cX0_holds 18 = .ok (.iload_n 1, 1) := by decide +kernel
theorem dX0_holds_19 : decode cX0_holds 19 = .ok (.iload_n 2, 1) := by decide +kernel
theorem dX0_holds_20 : decode cX0_holds 20 = .ok (.invokevirtual 101, 3) := by decide +kernel
theorem dX0_holds_23 : decode cX0_holds 23 = .ok (.iconst (-1), 1) := by decide +kernel
theorem dX0_holds_24 : decode cX0_holds 24 = .ok (.if_icmp .ne 7, 3) := by decide +kernel
theorem dX0_holds_27 : decode cX0_holds 27 = .ok (.iconst 1, 1) := by decide +kernel
theorem dX0_holds_28 : decode cX0_holds 28 = .ok (.goto 4, 3) := by decide +kernel
theorem dX0_holds_31 : decode cX0_holds 31 = .ok (.iconst 0, 1) := by decide +kernel
theorem dX0_holds_32 : decode cX0_holds 32 = .ok (.ireturn, 1) := by decide +kernel
theorem dX0_holdsUpTo_0 : decode cX0_holdsUpTo 0 = .ok (.aload_n 0, 1) := by decide +kernel
theorem dX0_holdsUpTo_1 : decode cX0_holdsUpTo 1 = .ok (.iload_n 1, 1) := by decide +kernel
theorem dX0_holdsUpTo_2 : decode cX0_holdsUpTo 2 = .ok (.invokevirtual 82, 3) := by decide +kernel
theorem dX0_holdsUpTo_5 : decode cX0_holdsUpTo 5 = .ok (.aload_n 0, 1) := by decide +kernel
theorem dX0_holdsUpTo_6 : decode cX0_holdsUpTo 6 = .ok (.iload_n 1, 1) := by decide +kernel
theorem dX0_holdsUpTo_7 : decode cX0_holdsUpTo 7 = .ok (.iconst (-1), 1) := by decide +kernel
theorem dX0_holdsUpTo_8 : decode cX0_holdsUpTo 8 = .ok (.iconst (-1), 1) := by decide +kernel
theorem dX0_holdsUpTo_9 : decode cX0_holdsUpTo 9 = .ok (.invokevirtual 143, 3) := by decide +kernel
theorem dX0_holdsUpTo_12 : decode cX0_holdsUpTo 12 = .ok (.ireturn, 1) := by decide +kernel
theorem dX0_wouldGiveWay_0 : decode cX0_wouldGiveWay 0 = .ok (.aload_n 0, 1) := by decide +kernel
theorem dX0_wouldGiveWay_1 : decode cX0_wouldGiveWay 1 = .ok (.iload_n 1, 1) := by decide +kernel
theorem dX0_wouldGiveWay_2 : decode cX0_wouldGiveWay 2 = .ok (.invokevirtual 82, 3) := by decide +kernel
theorem dX0_wouldGiveWay_5 : decode cX0_wouldGiveWay 5 = .ok (.iload_n 2, 1) := by decide +kernel
theorem dX0_wouldGiveWay_6 : decode cX0_wouldGiveWay 6 = .ok (.invokestatic 62, 3) := by decide +kernel
theorem dX0_wouldGiveWay_9 : decode cX0_wouldGiveWay 9 = .ok (.aload_n 0, 1) := by decide +kernel
theorem dX0_wouldGiveWay_10 : decode cX0_wouldGiveWay 10 = .ok (.iload_n 1, 1) := by decide +kernel
theorem dX0_wouldGiveWay_11 : decode cX0_wouldGiveWay 11 = .ok (.iload_n 2, 1) := by decide +kernel
theorem dX0_wouldGiveWay_12 : decode cX0_wouldGiveWay 12 = .ok (.invokevirtual 101, 3) := by decide +kernel
theorem dX0_wouldGiveWay_15 : decode cX0_wouldGiveWay 15 = .ok (.ireturn, 1) := by decide +kernel
theorem dX0_bestKnot_0 : decode cX0_bestKnot 0 = .ok (.aload_n 0, 1) := by decide +kernel
theorem dX0_bestKnot_1 : decode cX0_bestKnot 1 = .ok (.iload_n 1, 1) := by decide +kernel
theorem dX0_bestKnot_2 : decode cX0_bestKnot 2 = .ok (.iload_n 2, 1) := by decide +kernel
theorem dX0_bestKnot_3 : decode cX0_bestKnot 3 = .ok (.invokevirtual 90, 3) := by decide +kernel
theorem dX0_bestKnot_6 : decode cX0_bestKnot 6 = .ok (.iload_n 2, 1) := by decide +kernel
theorem dX0_bestKnot_7 : decode cX0_bestKnot 7 = .ok (.invokestatic 93, 3) := by decide +kernel
theorem dX0_bestKnot_10 : decode cX0_bestKnot 10 = .ok (.istore_n 3, 1) := by decide +kernel
theorem dX0_bestKnot_11 : decode cX0_bestKnot 11 = .ok (.aload_n 0, 1) := by decide +kernel
theorem dX0_bestKnot_12 : decode cX0_bestKnot 12 = .ok (.iload_n 3, 1) := by decide +kernel
theorem dX0_bestKnot_13 : decode cX0_bestKnot 13 = .ok (.invokevirtual 107, 3) := by decide +kernel
theorem dX0_bestKnot_16 : decode cX0_bestKnot 16 = .ok (.istore 4, 2) := by decide +kernel
theorem dX0_bestKnot_18 : decode cX0_bestKnot 18 = .ok (.iconst (-1), 1) := by decide +kernel
theorem dX0_bestKnot_19 : decode cX0_bestKnot 19 = .ok (.istore 5, 2) := by decide +kernel
theorem dX0_bestKnot_21 : decode cX0_bestKnot 21 = .ok (.iconst (-1), 1) := by decide +kernel
theorem dX0_bestKnot_22 : decode cX0_bestKnot 22 = .ok (.istore 6, 2) := by decide +kernel
theorem dX0_bestKnot_24 : decode cX0_bestKnot 24 = .ok (.iconst 0, 1) := by decide +kernel
theorem dX0_bestKnot_25 : decode cX0_bestKnot 25 = .ok (.istore 7, 2) := by decide +kernel
theorem dX0_bestKnot_27 : decode cX0_bestKnot 27 = .ok (.iload 7, 2) := by decide +kernel
theorem dX0_bestKnot_29 : decode cX0_bestKnot 29 = .ok (.iload 4, 2) := by decide +kernel
theorem dX0_bestKnot_31 : decode cX0_bestKnot 31 = .ok (.if_icmp .ge 43, 3) := by decide +kernel
theorem dX0_bestKnot_34 : decode cX0_bestKnot 34 = .ok (.aload_n 0, 1) := by decide +kernel
theorem dX0_bestKnot_35 : decode cX0_bestKnot 35 = .ok (.iload_n 3, 1) := by decide +kernel
theorem dX0_bestKnot_36 : decode cX0_bestKnot 36 = .ok (.iload 7, 2) := by decide +kernel
theorem dX0_bestKnot_38 : decode cX0_bestKnot 38 = .ok (.invokevirtual 113, 3) := by decide +kernel
theorem dX0_bestKnot_41 : decode cX0_bestKnot 41 = .ok (.istore 8, 2) := by decide +kernel
theorem dX0_bestKnot_43 : decode cX0_bestKnot 43 = .ok (.aload_n 0, 1) := by decide +kernel
theorem dX0_bestKnot_44 : decode cX0_bestKnot 44 = .ok (.iload_n 1, 1) := by decide +kernel
theorem dX0_bestKnot_45 : decode cX0_bestKnot 45 = .ok (.iload_n 2, 1) := by decide +kernel
theorem dX0_bestKnot_46 : decode cX0_bestKnot 46 = .ok (.iload 8, 2) := by decide +kernel
theorem dX0_bestKnot_48 : decode cX0_bestKnot 48 = .ok (.invokevirtual 143, 3) := by decide +kernel
theorem dX0_bestKnot_51 : decode cX0_bestKnot 51 = .ok (.istore 9, 2) := by decide +kernel
theorem dX0_bestKnot_53 : decode cX0_bestKnot 53 = .ok (.iload 9, 2) := by decide +kernel
theorem dX0_bestKnot_55 : decode cX0_bestKnot 55 = .ok (.iload 6, 2) := by decide +kernel
theorem dX0_bestKnot_57 : decode cX0_bestKnot 57 = .ok (.if_icmp .le 11, 3) := by decide +kernel
theorem dX0_bestKnot_60 : decode cX0_bestKnot 60 = .ok (.iload 8, 2) := by decide +kernel
theorem dX0_bestKnot_62 : decode cX0_bestKnot 62 = .ok (.istore 5, 2) := by decide +kernel
theorem dX0_bestKnot_64 : decode cX0_bestKnot 64 = .ok (.iload 9, 2) := by decide +kernel
theorem dX0_bestKnot_66 : decode cX0_bestKnot 66 = .ok (.istore 6, 2) := by decide +kernel
theorem dX0_bestKnot_68 : decode cX0_bestKnot 68 = .ok (.iinc 7 1, 3) := by decide +kernel
theorem dX0_bestKnot_71 : decode cX0_bestKnot 71 = .ok (.goto (-44), 3) := by decide +kernel
theorem dX0_bestKnot_74 : decode cX0_bestKnot 74 = .ok (.iload 5, 2) := by decide +kernel
theorem dX0_bestKnot_76 : decode cX0_bestKnot 76 = .ok (.ireturn, 1) := by decide +kernel
theorem dX0_strongestLine_0 : decode cX0_strongestLine 0 = .ok (.iconst (-1), 1) := by decide +kernel
theorem dX0_strongestLine_1 : decode cX0_strongestLine 1 = .ok (.istore_n 1, 1) := by decide +kernel
theorem dX0_strongestLine_2 : decode cX0_strongestLine 2 = .ok (.iconst (-1), 1) := by decide +kernel
theorem dX0_strongestLine_3 : decode cX0_strongestLine 3 = .ok (.istore_n 2, 1) := by decide +kernel
theorem dX0_strongestLine_4 : decode cX0_strongestLine 4 = .ok (.iconst 0, 1) := by decide +kernel
theorem dX0_strongestLine_5 : decode cX0_strongestLine 5 = .ok (.istore_n 3, 1) := by decide +kernel
theorem dX0_strongestLine_6 : decode cX0_strongestLine 6 = .ok (.iload_n 3, 1) := by decide +kernel
theorem dX0_strongestLine_7 : decode cX0_strongestLine 7 = .ok (.aload_n 0, 1) := by decide +kernel
theorem dX0_strongestLine_8 : decode cX0_strongestLine 8 = .ok (.getfield 32, 3) := by decide +kernel
theorem dX0_strongestLine_11 : decode cX0_strongestLine 11 = .ok (.if_icmp .ge 27, 3) := by decide +kernel
theorem dX0_strongestLine_14 : decode cX0_strongestLine 14 = .ok (.aload_n 0, 1) := by decide +kernel
theorem dX0_strongestLine_15 : decode cX0_strongestLine 15 = .ok (.iload_n 3, 1) := by decide +kernel
theorem dX0_strongestLine_16 : decode cX0_strongestLine 16 = .ok (.invokevirtual 147, 3) := by decide +kernel
theorem dX0_strongestLine_19 : decode cX0_strongestLine 19 = .ok (.istore 4, 2) := by decide +kernel
theorem dX0_strongestLine_21 : decode cX0_strongestLine 21 = .ok (.iload 4, 2) := by decide +kernel
theorem dX0_strongestLine_23 : decode cX0_strongestLine 23 = .ok (.iload_n 2, 1) := by decide +kernel
theorem dX0_strongestLine_24 : decode cX0_strongestLine 24 = .ok (.if_icmp .le 8, 3) := by decide +kernel
theorem dX0_strongestLine_27 : decode cX0_strongestLine 27 = .ok (.iload_n 3, 1) := by decide +kernel
theorem dX0_strongestLine_28 : decode cX0_strongestLine 28 = .ok (.istore_n 1, 1) := by decide +kernel
theorem dX0_strongestLine_29 : decode cX0_strongestLine 29 = .ok (.iload 4, 2) := by decide +kernel
theorem dX0_strongestLine_31 : decode cX0_strongestLine 31 = .ok (.istore_n 2, 1) := by decide +kernel
theorem dX0_strongestLine_32 : decode cX0_strongestLine 32 = .ok (.iinc 3 1, 3) := by decide +kernel
theorem dX0_strongestLine_35 : decode cX0_strongestLine 35 = .ok (.goto (-29), 3) := by decide +kernel
theorem dX0_strongestLine_38 : decode cX0_strongestLine 38 = .ok (.iload_n 1, 1) := by decide +kernel
theorem dX0_strongestLine_39 : decode cX0_strongestLine 39 = .ok (.ireturn, 1) := by decide +kernel
theorem dX0_meanEfficiency_0 : decode cX0_meanEfficiency 0 = .ok (.aload_n 0, 1) := by decide +kernel
theorem dX0_meanEfficiency_1 : decode cX0_meanEfficiency 1 = .ok (.getfield 25, 3) := by decide +kernel
theorem dX0_meanEfficiency_4 : decode cX0_meanEfficiency 4 = .ok (.ifCond .ne 5, 3) := by decide +kernel
theorem dX0_meanEfficiency_7 : decode cX0_meanEfficiency 7 = .ok (.dconst 0, 1) := by decide +kernel
theorem dX0_meanEfficiency_8 : decode cX0_meanEfficiency 8 = .ok (.dreturn, 1) := by decide +kernel
theorem dX0_meanEfficiency_9 : decode cX0_meanEfficiency 9 = .ok (.iconst 0, 1) := by decide +kernel
theorem dX0_meanEfficiency_10 : decode cX0_meanEfficiency 10 = .ok (.istore_n 1, 1) := by decide +kernel
theorem dX0_meanEfficiency_11 : decode cX0_meanEfficiency 11 = .ok (.iconst 0, 1) := by decide +kernel
theorem dX0_meanEfficiency_12 : decode cX0_meanEfficiency 12 = .ok (.istore_n 2, 1) := by decide +kernel
theorem dX0_meanEfficiency_13 : decode cX0_meanEfficiency 13 = .ok (.iload_n 2, 1) := by decide +kernel
theorem dX0_meanEfficiency_14 : decode cX0_meanEfficiency 14 = .ok (.aload_n 0, 1) := by decide +kernel
theorem dX0_meanEfficiency_15 : decode cX0_meanEfficiency 15 = .ok (.getfield 25, 3) := by decide +kernel
theorem dX0_meanEfficiency_18 : decode cX0_meanEfficiency 18 = .ok (.if_icmp .ge 18, 3) := by decide +kernel
theorem dX0_meanEfficiency_21 : decode cX0_meanEfficiency 21 = .ok (.iload_n 1, 1) := by decide +kernel
theorem dX0_meanEfficiency_22 : decode cX0_meanEfficiency 22 = .ok (.aload_n 0, 1) := by decide +kernel
theorem dX0_meanEfficiency_23 : decode cX0_meanEfficiency 23 = .ok (.getfield 13, 3) := by decide +kernel
theorem dX0_meanEfficiency_26 : decode cX0_meanEfficiency 26 = .ok (.iload_n 2, 1) := by decide +kernel
theorem dX0_meanEfficiency_27 : decode cX0_meanEfficiency 27 = .ok (.iaload, 1) := by decide +kernel
theorem dX0_meanEfficiency_28 : decode cX0_meanEfficiency 28 = .ok (.iadd, 1) := by decide +kernel
theorem dX0_meanEfficiency_29 : decode cX0_meanEfficiency 29 = .ok (.istore_n 1, 1) := by decide +kernel
theorem dX0_meanEfficiency_30 : decode cX0_meanEfficiency 30 = .ok (.iinc 2 1, 3) := by decide +kernel
theorem dX0_meanEfficiency_33 : decode cX0_meanEfficiency 33 = .ok (.goto (-20), 3) := by decide +kernel
theorem dX0_meanEfficiency_36 : decode cX0_meanEfficiency 36 = .ok (.iload_n 1, 1) := by decide +kernel
theorem dX0_meanEfficiency_37 : decode cX0_meanEfficiency 37 = .ok (.i2d, 1) := by decide +kernel
theorem dX0_meanEfficiency_38 : decode cX0_meanEfficiency 38 = .ok (.aload_n 0, 1) := by decide +kernel
theorem dX0_meanEfficiency_39 : decode cX0_meanEfficiency 39 = .ok (.getfield 25, 3) := by decide +kernel
theorem dX0_meanEfficiency_42 : decode cX0_meanEfficiency 42 = .ok (.i2d, 1) := by decide +kernel
theorem dX0_meanEfficiency_43 : decode cX0_meanEfficiency 43 = .ok (.ddiv, 1) := by decide +kernel
theorem dX0_meanEfficiency_44 : decode cX0_meanEfficiency 44 = .ok (.dreturn, 1) := by decide +kernel
theorem dX0_digest_0 : decode cX0_digest 0 = .ok (.ldc2_w 150, 3) := by decide +kernel
theorem dX0_digest_3 : decode cX0_digest 3 = .ok (.lstore_n 1, 1) := by decide +kernel
theorem dX0_digest_4 : decode cX0_digest 4 = .ok (.lload_n 1, 1) := by decide +kernel
theorem dX0_digest_5 : decode cX0_digest 5 = .ok (.aload_n 0, 1) := by decide +kernel
theorem dX0_digest_6 : decode cX0_digest 6 = .ok (.getfield 25, 3) := by decide +kernel
theorem dX0_digest_9 : decode cX0_digest 9 = .ok (.invokestatic 152, 3) := by decide +kernel
theorem dX0_digest_12 : decode cX0_digest 12 = .ok (.lstore_n 1, 1) := by decide +kernel
theorem dX0_digest_13 : decode cX0_digest 13 = .ok (.lload_n 1, 1) := by decide +kernel
theorem dX0_digest_14 : decode cX0_digest 14 = .ok (.aload_n 0, 1) := by decide +kernel
theorem dX0_digest_15 : decode cX0_digest 15 = .ok (.getfield 32, 3) := by decide +kernel
theorem dX0_digest_18 : decode cX0_digest 18 = .ok (.invokestatic 152, 3) := by decide +kernel
theorem dX0_digest_21 : decode cX0_digest 21 = .ok (.lstore_n 1, 1) := by decide +kernel
theorem dX0_digest_22 : decode cX0_digest 22 = .ok (.lload_n 1, 1) := by decide +kernel
theorem dX0_digest_23 : decode cX0_digest 23 = .ok (.aload_n 0, 1) := by decide +kernel
theorem dX0_digest_24 : decode cX0_digest 24 = .ok (.invokevirtual 156, 3) := by decide +kernel
theorem dX0_digest_27 : decode cX0_digest 27 = .ok (.invokestatic 152, 3) := by decide +kernel
theorem dX0_digest_30 : decode cX0_digest 30 = .ok (.lstore_n 1, 1) := by decide +kernel
theorem dX0_digest_31 : decode cX0_digest 31 = .ok (.iconst 0, 1) := by decide +kernel
theorem dX0_digest_32 : decode cX0_digest 32 = .ok (.istore_n 3, 1) := by decide +kernel
theorem dX0_digest_33 : decode cX0_digest 33 = .ok (.iload_n 3, 1) := by decide +kernel
theorem dX0_digest_34 : decode cX0_digest 34 = .ok (.aload_n 0, 1) := by decide +kernel
theorem dX0_digest_35 : decode cX0_digest 35 = .ok (.getfield 25, 3) := by decide +kernel
theorem dX0_digest_38 : decode cX0_digest 38 = .ok (.if_icmp .ge 16, 3) := by decide +kernel
theorem dX0_digest_41 : decode cX0_digest 41 = .ok (.aload_n 0, 1) := by decide +kernel
theorem dX0_digest_42 : decode cX0_digest 42 = .ok (.lload_n 1, 1) := by decide +kernel
theorem dX0_digest_43 : decode cX0_digest 43 = .ok (.iload_n 3, 1) := by decide +kernel
theorem dX0_digest_44 : decode cX0_digest 44 = .ok (.invokevirtual 160, 3) := by decide +kernel
theorem dX0_digest_47 : decode cX0_digest 47 = .ok (.lstore_n 1, 1) := by decide +kernel
theorem dX0_digest_48 : decode cX0_digest 48 = .ok (.iinc 3 1, 3) := by decide +kernel
theorem dX0_digest_51 : decode cX0_digest 51 = .ok (.goto (-18), 3) := by decide +kernel
theorem dX0_digest_54 : decode cX0_digest 54 = .ok (.iconst 0, 1) := by decide +kernel
theorem dX0_digest_55 : decode cX0_digest 55 = .ok (.istore_n 3, 1) := by decide +kernel
theorem dX0_digest_56 : decode cX0_digest 56 = .ok (.iload_n 3, 1) := by decide +kernel
theorem dX0_digest_57 : decode cX0_digest 57 = .ok (.aload_n 0, 1) := by decide +kernel
theorem dX0_digest_58 : decode cX0_digest 58 = .ok (.getfield 32, 3) := by decide +kernel
theorem dX0_digest_61 : decode cX0_digest 61 = .ok (.if_icmp .ge 16, 3) := by decide +kernel
theorem dX0_digest_64 : decode cX0_digest 64 = .ok (.aload_n 0, 1) := by decide +kernel
theorem dX0_digest_65 : decode cX0_digest 65 = .ok (.lload_n 1, 1) := by decide +kernel
theorem dX0_digest_66 : decode cX0_digest 66 = .ok (.iload_n 3, 1) := by decide +kernel
theorem dX0_digest_67 : decode cX0_digest 67 = .ok (.invokevirtual 163, 3) := by decide +kernel
theorem dX0_digest_70 : decode cX0_digest 70 = .ok (.lstore_n 1, 1) := by decide +kernel
theorem dX0_digest_71 : decode cX0_digest 71 = .ok (.iinc 3 1, 3) := by decide +kernel
theorem dX0_digest_74 : decode cX0_digest 74 = .ok (.goto (-18), 3) := by decide +kernel
theorem dX0_digest_77 : decode cX0_digest 77 = .ok (.lload_n 1, 1) := by decide +kernel
theorem dX0_digest_78 : decode cX0_digest 78 = .ok (.lreturn, 1) := by decide +kernel
theorem dX0_digestWithKnot_0 : decode cX0_digestWithKnot 0 = .ok (.lload_n 1, 1) := by decide +kernel
theorem dX0_digestWithKnot_1 : decode cX0_digestWithKnot 1 = .ok (.lstore 4, 2) := by decide +kernel
theorem dX0_digestWithKnot_3 : decode cX0_digestWithKnot 3 = .ok (.lload 4, 2) := by decide +kernel
theorem dX0_digestWithKnot_5 : decode cX0_digestWithKnot 5 = .ok (.aload_n 0, 1) := by decide +kernel
theorem dX0_digestWithKnot_6 : decode cX0_digestWithKnot 6 = .ok (.iload_n 3, 1) := by decide +kernel
theorem dX0_digestWithKnot_7 : decode cX0_digestWithKnot 7 = .ok (.invokevirtual 166, 3) := by decide +kernel
theorem dX0_digestWithKnot_10 : decode cX0_digestWithKnot 10 = .ok (.invokestatic 152, 3) := by decide +kernel
theorem dX0_digestWithKnot_13 : decode cX0_digestWithKnot 13 = .ok (.lstore 4, 2) := by decide +kernel
theorem dX0_digestWithKnot_15 : decode cX0_digestWithKnot 15 = .ok (.lload 4, 2) := by decide +kernel
theorem dX0_digestWithKnot_17 : decode cX0_digestWithKnot 17 = .ok (.aload_n 0, 1) := by decide +kernel
theorem dX0_digestWithKnot_18 : decode cX0_digestWithKnot 18 = .ok (.iload_n 3, 1) := by decide +kernel
theorem dX0_digestWithKnot_19 : decode cX0_digestWithKnot 19 = .ok (.invokevirtual 169, 3) := by decide +kernel
theorem dX0_digestWithKnot_22 : decode cX0_digestWithKnot 22 = .ok (.invokestatic 152, 3) := by decide +kernel
theorem dX0_digestWithKnot_25 : decode cX0_digestWithKnot 25 = .ok (.lstore 4, 2) := by decide +kernel
theorem dX0_digestWithKnot_27 : decode cX0_digestWithKnot 27 = .ok (.lload 4, 2) := by decide +kernel
theorem dX0_digestWithKnot_29 : decode cX0_digestWithKnot 29 = .ok (.aload_n 0, 1) := by decide +kernel
theorem dX0_digestWithKnot_30 : decode cX0_digestWithKnot 30 = .ok (.iload_n 3, 1) := by decide +kernel
theorem dX0_digestWithKnot_31 : decode cX0_digestWithKnot 31 = .ok (.invokevirtual 172, 3) := by decide +kernel
theorem dX0_digestWithKnot_34 : decode cX0_digestWithKnot 34 = .ok (.invokestatic 152, 3) := by decide +kernel
theorem dX0_digestWithKnot_37 : decode cX0_digestWithKnot 37 = .ok (.lstore 4, 2) := by decide +kernel
theorem dX0_digestWithKnot_39 : decode cX0_digestWithKnot 39 = .ok (.lload 4, 2) := by decide +kernel
theorem dX0_digestWithKnot_41 : decode cX0_digestWithKnot 41 = .ok (.aload_n 0, 1) := by decide +kernel
theorem dX0_digestWithKnot_42 : decode cX0_digestWithKnot 42 = .ok (.iload_n 3, 1) := by decide +kernel
theorem dX0_digestWithKnot_43 : decode cX0_digestWithKnot 43 = .ok (.invokevirtual 175, 3) := by decide +kernel
theorem dX0_digestWithKnot_46 : decode cX0_digestWithKnot 46 = .ok (.invokestatic 152, 3) := by decide +kernel
theorem dX0_digestWithKnot_49 : decode cX0_digestWithKnot 49 = .ok (.lstore 4, 2) := by decide +kernel
theorem dX0_digestWithKnot_51 : decode cX0_digestWithKnot 51 = .ok (.lload 4, 2) := by decide +kernel
theorem dX0_digestWithKnot_53 : decode cX0_digestWithKnot 53 = .ok (.aload_n 0, 1) := by decide +kernel
theorem dX0_digestWithKnot_54 : decode cX0_digestWithKnot 54 = .ok (.iload_n 3, 1) := by decide +kernel
theorem dX0_digestWithKnot_55 : decode cX0_digestWithKnot 55 = .ok (.invokevirtual 178, 3) := by decide +kernel
theorem dX0_digestWithKnot_58 : decode cX0_digestWithKnot 58 = .ok (.invokestatic 152, 3) := by decide +kernel
theorem dX0_digestWithKnot_61 : decode cX0_digestWithKnot 61 = .ok (.lstore 4, 2) := by decide +kernel
theorem dX0_digestWithKnot_63 : decode cX0_digestWithKnot 63 = .ok (.lload 4, 2) := by decide +kernel
theorem dX0_digestWithKnot_65 : decode cX0_digestWithKnot 65 = .ok (.aload_n 0, 1) := by decide +kernel
theorem dX0_digestWithKnot_66 : decode cX0_digestWithKnot 66 = .ok (.iload_n 3, 1) := by decide +kernel
theorem dX0_digestWithKnot_67 : decode cX0_digestWithKnot 67 = .ok (.invokevirtual 181, 3) := by decide +kernel
theorem dX0_digestWithKnot_70 : decode cX0_digestWithKnot 70 = .ok (.invokestatic 152, 3) := by decide +kernel
theorem dX0_digestWithKnot_73 : decode cX0_digestWithKnot 73 = .ok (.lstore 4, 2) := by decide +kernel
theorem dX0_digestWithKnot_75 : decode cX0_digestWithKnot 75 = .ok (.lload 4, 2) := by decide +kernel
theorem dX0_digestWithKnot_77 : decode cX0_digestWithKnot 77 = .ok (.aload_n 0, 1) := by decide +kernel
theorem dX0_digestWithKnot_78 : decode cX0_digestWithKnot 78 = .ok (.iload_n 3, 1) := by decide +kernel
theorem dX0_digestWithKnot_79 : decode cX0_digestWithKnot 79 = .ok (.invokevirtual 184, 3) := by decide +kernel
theorem dX0_digestWithKnot_82 : decode cX0_digestWithKnot 82 = .ok (.invokestatic 152, 3) := by decide +kernel
theorem dX0_digestWithKnot_85 : decode cX0_digestWithKnot 85 = .ok (.lreturn, 1) := by decide +kernel
theorem dX0_digestWithLine_0 : decode cX0_digestWithLine 0 = .ok (.lload_n 1, 1) := by decide +kernel
theorem dX0_digestWithLine_1 : decode cX0_digestWithLine 1 = .ok (.lstore 4, 2) := by decide +kernel
theorem dX0_digestWithLine_3 : decode cX0_digestWithLine 3 = .ok (.lload 4, 2) := by decide +kernel
theorem dX0_digestWithLine_5 : decode cX0_digestWithLine 5 = .ok (.aload_n 0, 1) := by decide +kernel
theorem dX0_digestWithLine_6 : decode cX0_digestWithLine 6 = .ok (.iload_n 3, 1) := by decide +kernel
theorem dX0_digestWithLine_7 : decode cX0_digestWithLine 7 = .ok (.invokevirtual 187, 3) := by decide +kernel
theorem dX0_digestWithLine_10 : decode cX0_digestWithLine 10 = .ok (.invokestatic 152, 3) := by decide +kernel
theorem dX0_digestWithLine_13 : decode cX0_digestWithLine 13 = .ok (.lstore 4, 2) := by decide +kernel
theorem dX0_digestWithLine_15 : decode cX0_digestWithLine 15 = .ok (.lload 4, 2) := by decide +kernel
theorem dX0_digestWithLine_17 : decode cX0_digestWithLine 17 = .ok (.aload_n 0, 1) := by decide +kernel
theorem dX0_digestWithLine_18 : decode cX0_digestWithLine 18 = .ok (.iload_n 3, 1) := by decide +kernel
theorem dX0_digestWithLine_19 : decode cX0_digestWithLine 19 = .ok (.invokevirtual 147, 3) := by decide +kernel
theorem dX0_digestWithLine_22 : decode cX0_digestWithLine 22 = .ok (.invokestatic 152, 3) := by decide +kernel
theorem dX0_digestWithLine_25 : decode cX0_digestWithLine 25 = .ok (.lstore 4, 2) := by decide +kernel
theorem dX0_digestWithLine_27 : decode cX0_digestWithLine 27 = .ok (.lload 4, 2) := by decide +kernel
theorem dX0_digestWithLine_29 : decode cX0_digestWithLine 29 = .ok (.aload_n 0, 1) := by decide +kernel
theorem dX0_digestWithLine_30 : decode cX0_digestWithLine 30 = .ok (.iload_n 3, 1) := by decide +kernel
theorem dX0_digestWithLine_31 : decode cX0_digestWithLine 31 = .ok (.invokevirtual 190, 3) := by decide +kernel
theorem dX0_digestWithLine_34 : decode cX0_digestWithLine 34 = .ok (.invokestatic 152, 3) := by decide +kernel
theorem dX0_digestWithLine_37 : decode cX0_digestWithLine 37 = .ok (.lstore 4, 2) := by decide +kernel
theorem dX0_digestWithLine_39 : decode cX0_digestWithLine 39 = .ok (.iconst 0, 1) := by decide +kernel
theorem dX0_digestWithLine_40 : decode cX0_digestWithLine 40 = .ok (.istore 6, 2) := by decide +kernel
theorem dX0_digestWithLine_42 : decode cX0_digestWithLine 42 = .ok (.iload 6, 2) := by decide +kernel
theorem dX0_digestWithLine_44 : decode cX0_digestWithLine 44 = .ok (.aload_n 0, 1) := by decide +kernel
theorem dX0_digestWithLine_45 : decode cX0_digestWithLine 45 = .ok (.getfield 29, 3) := by decide +kernel
theorem dX0_digestWithLine_48 : decode cX0_digestWithLine 48 = .ok (.iload_n 3, 1) := by decide +kernel
theorem dX0_digestWithLine_49 : decode cX0_digestWithLine 49 = .ok (.iaload, 1) := by decide +kernel
theorem dX0_digestWithLine_50 : decode cX0_digestWithLine 50 = .ok (.if_icmp .ge 37, 3) := by decide +kernel
theorem dX0_digestWithLine_53 : decode cX0_digestWithLine 53 = .ok (.lload 4, 2) := by decide +kernel
theorem dX0_digestWithLine_55 : decode cX0_digestWithLine 55 = .ok (.aload_n 0, 1) := by decide +kernel
theorem dX0_digestWithLine_56 : decode cX0_digestWithLine 56 = .ok (.iload_n 3, 1) := by decide +kernel
theorem dX0_digestWithLine_57 : decode cX0_digestWithLine 57 = .ok (.iload 6, 2) := by decide +kernel
theorem dX0_digestWithLine_59 : decode cX0_digestWithLine 59 = .ok (.invokevirtual 193, 3) := by decide +kernel
theorem dX0_digestWithLine_62 : decode cX0_digestWithLine 62 = .ok (.invokestatic 152, 3) := by decide +kernel
theorem dX0_digestWithLine_65 : decode cX0_digestWithLine 65 = .ok (.lstore 4, 2) := by decide +kernel
theorem dX0_digestWithLine_67 : decode cX0_digestWithLine 67 = .ok (.lload 4, 2) := by decide +kernel
theorem dX0_digestWithLine_69 : decode cX0_digestWithLine 69 = .ok (.aload_n 0, 1) := by decide +kernel
theorem dX0_digestWithLine_70 : decode cX0_digestWithLine 70 = .ok (.iload_n 3, 1) := by decide +kernel
theorem dX0_digestWithLine_71 : decode cX0_digestWithLine 71 = .ok (.iload 6, 2) := by decide +kernel
theorem dX0_digestWithLine_73 : decode cX0_digestWithLine 73 = .ok (.invokevirtual 196, 3) := by decide +kernel
theorem dX0_digestWithLine_76 : decode cX0_digestWithLine 76 = .ok (.invokestatic 152, 3) := by decide +kernel
theorem dX0_digestWithLine_79 : decode cX0_digestWithLine 79 = .ok (.lstore 4, 2) := by decide +kernel
theorem dX0_digestWithLine_81 : decode cX0_digestWithLine 81 = .ok (.iinc 6 1, 3) := by decide +kernel
theorem dX0_digestWithLine_84 : decode cX0_digestWithLine 84 = .ok (.goto (-42), 3) := by decide +kernel
theorem dX0_digestWithLine_87 : decode cX0_digestWithLine 87 = .ok (.lload 4, 2) := by decide +kernel
theorem dX0_digestWithLine_89 : decode cX0_digestWithLine 89 = .ok (.lreturn, 1) := by decide +kernel
theorem dX0_digestWith_0 : decode cX0_digestWith 0 = .ok (.lload_n 0, 1) := by decide +kernel
theorem dX0_digestWith_1 : decode cX0_digestWith 1 = .ok (.ldc2_w 199, 3) := by decide +kernel
theorem dX0_digestWith_4 : decode cX0_digestWith 4 = .ok (.lmul, 1) := by decide +kernel
theorem dX0_digestWith_5 : decode cX0_digestWith 5 = .ok (.iload_n 2, 1) := by decide +kernel
theorem dX0_digestWith_6 : decode cX0_digestWith 6 = .ok (.i2l, 1) := by decide +kernel
theorem dX0_digestWith_7 : decode cX0_digestWith 7 = .ok (.ladd, 1) := by decide +kernel
theorem dX0_digestWith_8 : decode cX0_digestWith 8 = .ok (.lreturn, 1) := by decide +kernel
theorem dX0_checkKind_0 : decode cX0_checkKind 0 = .ok (.iload_n 0, 1) := by decide +kernel
theorem dX0_checkKind_1 : decode cX0_checkKind 1 = .ok (.ifCond .eq 18, 3) := by decide +kernel
theorem dX0_checkKind_4 : decode cX0_checkKind 4 = .ok (.iload_n 0, 1) := by decide +kernel
theorem dX0_checkKind_5 : decode cX0_checkKind 5 = .ok (.iconst 1, 1) := by decide +kernel
theorem dX0_checkKind_6 : decode cX0_checkKind 6 = .ok (.if_icmp .eq 13, 3) := by decide +kernel
theorem dX0_checkKind_9 : decode cX0_checkKind 9 = .ok (.new 116, 3) := by decide +kernel
theorem dX0_checkKind_12 : decode cX0_checkKind 12 = .ok (.dup, 1) := by decide +kernel
theorem dX0_checkKind_13 : decode cX0_checkKind 13 = .ok (.ldc 201, 2) := by decide +kernel
theorem dX0_checkKind_15 : decode cX0_checkKind 15 = .ok (.invokespecial 120, 3) := by decide +kernel
theorem dX0_checkKind_18 : decode cX0_checkKind 18 = .ok (.athrow, 1) := by decide +kernel
theorem dX0_checkKind_19 : decode cX0_checkKind 19 = .ok (.return_, 1) := by decide +kernel
theorem dX0_checkKnot_0 : decode cX0_checkKnot 0 = .ok (.aload_n 0, 1) := by decide +kernel
theorem dX0_checkKnot_1 : decode cX0_checkKnot 1 = .ok (.iload_n 1, 1) := by decide +kernel
theorem dX0_checkKnot_2 : decode cX0_checkKnot 2 = .ok (.invokevirtual 125, 3) := by decide +kernel
theorem dX0_checkKnot_5 : decode cX0_checkKnot 5 = .ok (.ifCond .ne 13, 3) := by decide +kernel
theorem dX0_checkKnot_8 : decode cX0_checkKnot 8 = .ok (.new 116, 3) := by decide +kernel
theorem dX0_checkKnot_11 : decode cX0_checkKnot 11 = .ok (.dup, 1) := by decide +kernel
theorem dX0_checkKnot_12 : decode cX0_checkKnot 12 = .ok (.ldc 203, 2) := by decide +kernel
theorem dX0_checkKnot_14 : decode cX0_checkKnot 14 = .ok (.invokespecial 120, 3) := by decide +kernel
theorem dX0_checkKnot_17 : decode cX0_checkKnot 17 = .ok (.athrow, 1) := by decide +kernel
theorem dX0_checkKnot_18 : decode cX0_checkKnot 18 = .ok (.return_, 1) := by decide +kernel
theorem dX0_checkOfKind_0 : decode cX0_checkOfKind 0 = .ok (.aload_n 0, 1) := by decide +kernel
theorem dX0_checkOfKind_1 : decode cX0_checkOfKind 1 = .ok (.getfield 9, 3) := by decide +kernel
theorem dX0_checkOfKind_4 : decode cX0_checkOfKind 4 = .ok (.iload_n 1, 1) := by decide +kernel
theorem dX0_checkOfKind_5 : decode cX0_checkOfKind 5 = .ok (.iaload, 1) := by decide +kernel
theorem dX0_checkOfKind_6 : decode cX0_checkOfKind 6 = .ok (.iload_n 2, 1) := by decide +kernel
theorem dX0_checkOfKind_7 : decode cX0_checkOfKind 7 = .ok (.if_icmp .eq 13, 3) := by decide +kernel
theorem dX0_checkOfKind_10 : decode cX0_checkOfKind 10 = .ok (.new 45, 3) := by decide +kernel
theorem dX0_checkOfKind_13 : decode cX0_checkOfKind 13 = .ok (.dup, 1) := by decide +kernel
theorem dX0_checkOfKind_14 : decode cX0_checkOfKind 14 = .ok (.ldc 205, 2) := by decide +kernel
theorem dX0_checkOfKind_16 : decode cX0_checkOfKind 16 = .ok (.invokespecial 49, 3) := by decide +kernel
theorem dX0_checkOfKind_19 : decode cX0_checkOfKind 19 = .ok (.athrow, 1) := by decide +kernel
theorem dX0_checkOfKind_20 : decode cX0_checkOfKind 20 = .ok (.return_, 1) := by decide +kernel
theorem dX0_checkLoad_0 : decode cX0_checkLoad 0 = .ok (.iload_n 0, 1) := by decide +kernel
theorem dX0_checkLoad_1 : decode cX0_checkLoad 1 = .ok (.iconst 1, 1) := by decide +kernel
theorem dX0_checkLoad_2 : decode cX0_checkLoad 2 = .ok (.if_icmp .lt 10, 3) := by decide +kernel
theorem dX0_checkLoad_5 : decode cX0_checkLoad 5 = .ok (.iload_n 0, 1) := by decide +kernel
theorem dX0_checkLoad_6 : decode cX0_checkLoad 6 = .ok (.sipush 999, 3) := by decide +kernel
theorem dX0_checkLoad_9 : decode cX0_checkLoad 9 = .ok (.if_icmp .le 13, 3) := by decide +kernel
theorem dX0_checkLoad_12 : decode cX0_checkLoad 12 = .ok (.new 45, 3) := by decide +kernel
theorem dX0_checkLoad_15 : decode cX0_checkLoad 15 = .ok (.dup, 1) := by decide +kernel
theorem dX0_checkLoad_16 : decode cX0_checkLoad 16 = .ok (.ldc 207, 2) := by decide +kernel
theorem dX0_checkLoad_18 : decode cX0_checkLoad 18 = .ok (.invokespecial 49, 3) := by decide +kernel
theorem dX0_checkLoad_21 : decode cX0_checkLoad 21 = .ok (.athrow, 1) := by decide +kernel
theorem dX0_checkLoad_22 : decode cX0_checkLoad 22 = .ok (.return_, 1) := by decide +kernel
theorem dX0_checkStrength_0 : decode cX0_checkStrength 0 = .ok (.iload_n 0, 1) := by decide +kernel
theorem dX0_checkStrength_1 : decode cX0_checkStrength 1 = .ok (.iconst 1, 1) := by decide +kernel
theorem dX0_checkStrength_2 : decode cX0_checkStrength 2 = .ok (.if_icmp .lt 10, 3) := by decide +kernel
theorem dX0_checkStrength_5 : decode cX0_checkStrength 5 = .ok (.iload_n 0, 1) := by decide +kernel
theorem dX0_checkStrength_6 : decode cX0_checkStrength 6 = .ok (.sipush 999, 3) := by decide +kernel
theorem dX0_checkStrength_9 : decode cX0_checkStrength 9 = .ok (.if_icmp .le 13, 3) := by decide +kernel
theorem dX0_checkStrength_12 : decode cX0_checkStrength 12 = .ok (.new 45, 3) := by decide +kernel
theorem dX0_checkStrength_15 : decode cX0_checkStrength 15 = .ok (.dup, 1) := by decide +kernel
theorem dX0_checkStrength_16 : decode cX0_checkStrength 16 = .ok (.ldc 209, 2) := by decide +kernel
theorem dX0_checkStrength_18 : decode cX0_checkStrength 18 = .ok (.invokespecial 49, 3) := by decide +kernel
theorem dX0_checkStrength_21 : decode cX0_checkStrength 21 = .ok (.athrow, 1) := by decide +kernel
theorem dX0_checkStrength_22 : decode cX0_checkStrength 22 = .ok (.return_, 1) := by decide +kernel
theorem dX0_checkLine_0 : decode cX0_checkLine 0 = .ok (.iload_n 1, 1) := by decide +kernel
theorem dX0_checkLine_1 : decode cX0_checkLine 1 = .ok (.ifCond .lt 11, 3) := by decide +kernel
theorem dX0_checkLine_4 : decode cX0_checkLine 4 = .ok (.iload_n 1, 1) := by decide +kernel
theorem dX0_checkLine_5 : decode cX0_checkLine 5 = .ok (.aload_n 0, 1) := by decide +kernel
theorem dX0_checkLine_6 : decode cX0_checkLine 6 = .ok (.getfield 32, 3) := by decide +kernel
theorem dX0_checkLine_9 : decode cX0_checkLine 9 = .ok (.if_icmp .lt 13, 3) := by decide +kernel
theorem dX0_checkLine_12 : decode cX0_checkLine 12 = .ok (.new 116, 3) := by decide +kernel
theorem dX0_checkLine_15 : decode cX0_checkLine 15 = .ok (.dup, 1) := by decide +kernel
theorem dX0_checkLine_16 : decode cX0_checkLine 16 = .ok (.ldc 211, 2) := by decide +kernel
theorem dX0_checkLine_18 : decode cX0_checkLine 18 = .ok (.invokespecial 120, 3) := by decide +kernel
theorem dX0_checkLine_21 : decode cX0_checkLine 21 = .ok (.athrow, 1) := by decide +kernel
theorem dX0_checkLine_22 : decode cX0_checkLine 22 = .ok (.return_, 1) := by decide +kernel
theorem dX0_checkPlace_0 : decode cX0_checkPlace 0 = .ok (.aload_n 0, 1) := by decide +kernel
theorem dX0_checkPlace_1 : decode cX0_checkPlace 1 = .ok (.iload_n 1, 1) := by decide +kernel
theorem dX0_checkPlace_2 : decode cX0_checkPlace 2 = .ok (.invokevirtual 82, 3) := by decide +kernel
theorem dX0_checkPlace_5 : decode cX0_checkPlace 5 = .ok (.iload_n 2, 1) := by decide +kernel
theorem dX0_checkPlace_6 : decode cX0_checkPlace 6 = .ok (.ifCond .lt 13, 3) := by decide +kernel
theorem dX0_checkPlace_9 : decode cX0_checkPlace 9 = .ok (.iload_n 2, 1) := by decide +kernel
theorem dX0_checkPlace_10 : decode cX0_checkPlace 10 = .ok (.aload_n 0, 1) := by decide +kernel
theorem dX0_checkPlace_11 : decode cX0_checkPlace 11 = .ok (.getfield 29, 3) := by decide +kernel
theorem dX0_checkPlace_14 : decode cX0_checkPlace 14 = .ok (.iload_n 1, 1) := by decide +kernel
theorem dX0_checkPlace_15 : decode cX0_checkPlace 15 = .ok (.iaload, 1) := by decide +kernel
theorem dX0_checkPlace_16 : decode cX0_checkPlace 16 = .ok (.if_icmp .lt 13, 3) := by decide +kernel
theorem dX0_checkPlace_19 : decode cX0_checkPlace 19 = .ok (.new 116, 3) := by decide +kernel
theorem dX0_checkPlace_22 : decode cX0_checkPlace 22 = .ok (.dup, 1) := by decide +kernel
theorem dX0_checkPlace_23 : decode cX0_checkPlace 23 = .ok (.ldc 213, 2) := by decide +kernel
theorem dX0_checkPlace_25 : decode cX0_checkPlace 25 = .ok (.invokespecial 120, 3) := by decide +kernel
theorem dX0_checkPlace_28 : decode cX0_checkPlace 28 = .ok (.athrow, 1) := by decide +kernel
theorem dX0_checkPlace_29 : decode cX0_checkPlace 29 = .ok (.return_, 1) := by decide +kernel
theorem dX0_checkNotGone_0 : decode cX0_checkNotGone 0 = .ok (.aload_n 0, 1) := by decide +kernel
theorem dX0_checkNotGone_1 : decode cX0_checkNotGone 1 = .ok (.iload_n 1, 1) := by decide +kernel
theorem dX0_checkNotGone_2 : decode cX0_checkNotGone 2 = .ok (.invokevirtual 140, 3) := by decide +kernel
theorem dX0_checkNotGone_5 : decode cX0_checkNotGone 5 = .ok (.ifCond .eq 13, 3) := by decide +kernel
theorem dX0_checkNotGone_8 : decode cX0_checkNotGone 8 = .ok (.new 54, 3) := by decide +kernel
theorem dX0_checkNotGone_11 : decode cX0_checkNotGone 11 = .ok (.dup, 1) := by decide +kernel
theorem dX0_checkNotGone_12 : decode cX0_checkNotGone 12 = .ok (.ldc 215, 2) := by decide +kernel
theorem dX0_checkNotGone_14 : decode cX0_checkNotGone 14 = .ok (.invokespecial 58, 3) := by decide +kernel
theorem dX0_checkNotGone_17 : decode cX0_checkNotGone 17 = .ok (.athrow, 1) := by decide +kernel
theorem dX0_checkNotGone_18 : decode cX0_checkNotGone 18 = .ok (.return_, 1) := by decide +kernel
theorem dX0_isKnot_0 : decode cX0_isKnot 0 = .ok (.iload_n 1, 1) := by decide +kernel
theorem dX0_isKnot_1 : decode cX0_isKnot 1 = .ok (.ifCond .lt 15, 3) := by decide +kernel
theorem dX0_isKnot_4 : decode cX0_isKnot 4 = .ok (.iload_n 1, 1) := by decide +kernel
theorem dX0_isKnot_5 : decode cX0_isKnot 5 = .ok (.aload_n 0, 1) := by decide +kernel
theorem dX0_isKnot_6 : decode cX0_isKnot 6 = .ok (.getfield 25, 3) := by decide +kernel
theorem dX0_isKnot_9 : decode cX0_isKnot 9 = .ok (.if_icmp .ge 7, 3) := by decide +kernel
theorem dX0_isKnot_12 : decode cX0_isKnot 12 = .ok (.iconst 1, 1) := by decide +kernel
theorem dX0_isKnot_13 : decode cX0_isKnot 13 = .ok (.goto 4, 3) := by decide +kernel
theorem dX0_isKnot_16 : decode cX0_isKnot 16 = .ok (.iconst 0, 1) := by decide +kernel
theorem dX0_isKnot_17 : decode cX0_isKnot 17 = .ok (.ireturn, 1) := by decide +kernel
theorem dX0_countOfKind_0 : decode cX0_countOfKind 0 = .ok (.iconst 0, 1) := by decide +kernel
theorem dX0_countOfKind_1 : decode cX0_countOfKind 1 = .ok (.istore_n 2, 1) := by decide +kernel
theorem dX0_countOfKind_2 : decode cX0_countOfKind 2 = .ok (.iconst 0, 1) := by decide +kernel
theorem dX0_countOfKind_3 : decode cX0_countOfKind 3 = .ok (.istore_n 3, 1) := by decide +kernel
theorem dX0_countOfKind_4 : decode cX0_countOfKind 4 = .ok (.iload_n 3, 1) := by decide +kernel
theorem dX0_countOfKind_5 : decode cX0_countOfKind 5 = .ok (.aload_n 0, 1) := by decide +kernel
theorem dX0_countOfKind_6 : decode cX0_countOfKind 6 = .ok (.getfield 25, 3) := by decide +kernel
theorem dX0_countOfKind_9 : decode cX0_countOfKind 9 = .ok (.if_icmp .ge 22, 3) := by decide +kernel
theorem dX0_countOfKind_12 : decode cX0_countOfKind 12 = .ok (.aload_n 0, 1) := by decide +kernel
theorem dX0_countOfKind_13 : decode cX0_countOfKind 13 = .ok (.getfield 9, 3) := by decide +kernel
theorem dX0_countOfKind_16 : decode cX0_countOfKind 16 = .ok (.iload_n 3, 1) := by decide +kernel
theorem dX0_countOfKind_17 : decode cX0_countOfKind 17 = .ok (.iaload, 1) := by decide +kernel
theorem dX0_countOfKind_18 : decode cX0_countOfKind 18 = .ok (.iload_n 1, 1) := by decide +kernel
theorem dX0_countOfKind_19 : decode cX0_countOfKind 19 = .ok (.if_icmp .ne 6, 3) := by decide +kernel
theorem dX0_countOfKind_22 : decode cX0_countOfKind 22 = .ok (.iinc 2 1, 3) := by decide +kernel
theorem dX0_countOfKind_25 : decode cX0_countOfKind 25 = .ok (.iinc 3 1, 3) := by decide +kernel
theorem dX0_countOfKind_28 : decode cX0_countOfKind 28 = .ok (.goto (-24), 3) := by decide +kernel
theorem dX0_countOfKind_31 : decode cX0_countOfKind 31 = .ok (.iload_n 2, 1) := by decide +kernel
theorem dX0_countOfKind_32 : decode cX0_countOfKind 32 = .ok (.ireturn, 1) := by decide +kernel
theorem dX0_rankInKind_0 : decode cX0_rankInKind 0 = .ok (.iconst 0, 1) := by decide +kernel
theorem dX0_rankInKind_1 : decode cX0_rankInKind 1 = .ok (.istore_n 2, 1) := by decide +kernel
theorem dX0_rankInKind_2 : decode cX0_rankInKind 2 = .ok (.iconst 0, 1) := by decide +kernel
theorem dX0_rankInKind_3 : decode cX0_rankInKind 3 = .ok (.istore_n 3, 1) := by decide +kernel
theorem dX0_rankInKind_4 : decode cX0_rankInKind 4 = .ok (.iload_n 3, 1) := by decide +kernel
theorem dX0_rankInKind_5 : decode cX0_rankInKind 5 = .ok (.aload_n 0, 1) := by decide +kernel
theorem dX0_rankInKind_6 : decode cX0_rankInKind 6 = .ok (.getfield 25, 3) := by decide +kernel
theorem dX0_rankInKind_9 : decode cX0_rankInKind 9 = .ok (.if_icmp .ge 36, 3) := by decide +kernel
theorem dX0_rankInKind_12 : decode cX0_rankInKind 12 = .ok (.aload_n 0, 1) := by decide +kernel
theorem dX0_rankInKind_13 : decode cX0_rankInKind 13 = .ok (.getfield 9, 3) := by decide +kernel
theorem dX0_rankInKind_16 : decode cX0_rankInKind 16 = .ok (.iload_n 3, 1) := by decide +kernel
theorem dX0_rankInKind_17 : decode cX0_rankInKind 17 = .ok (.iaload, 1) := by decide +kernel
theorem dX0_rankInKind_18 : decode cX0_rankInKind 18 = .ok (.aload_n 0, 1) := by decide +kernel
theorem dX0_rankInKind_19 : decode cX0_rankInKind 19 = .ok (.getfield 9, 3) := by decide +kernel
theorem dX0_rankInKind_22 : decode cX0_rankInKind 22 = .ok (.iload_n 1, 1) := by decide +kernel
theorem dX0_rankInKind_23 : decode cX0_rankInKind 23 = .ok (.iaload, 1) := by decide +kernel
theorem dX0_rankInKind_24 : decode cX0_rankInKind 24 = .ok (.if_icmp .ne 15, 3) := by decide +kernel
theorem dX0_rankInKind_27 : decode cX0_rankInKind 27 = .ok (.aload_n 0, 1) := by decide +kernel
theorem dX0_rankInKind_28 : decode cX0_rankInKind 28 = .ok (.iload_n 3, 1) := by decide +kernel
theorem dX0_rankInKind_29 : decode cX0_rankInKind 29 = .ok (.iload_n 1, 1) := by decide +kernel
theorem dX0_rankInKind_30 : decode cX0_rankInKind 30 = .ok (.invokevirtual 217, 3) := by decide +kernel
theorem dX0_rankInKind_33 : decode cX0_rankInKind 33 = .ok (.ifCond .eq 6, 3) := by decide +kernel
theorem dX0_rankInKind_36 : decode cX0_rankInKind 36 = .ok (.iinc 2 1, 3) := by decide +kernel
theorem dX0_rankInKind_39 : decode cX0_rankInKind 39 = .ok (.iinc 3 1, 3) := by decide +kernel
theorem dX0_rankInKind_42 : decode cX0_rankInKind 42 = .ok (.goto (-38), 3) := by decide +kernel
theorem dX0_rankInKind_45 : decode cX0_rankInKind 45 = .ok (.iload_n 2, 1) := by decide +kernel
theorem dX0_rankInKind_46 : decode cX0_rankInKind 46 = .ok (.ireturn, 1) := by decide +kernel
theorem dX0_isAheadOf_0 : decode cX0_isAheadOf 0 = .ok (.aload_n 0, 1) := by decide +kernel
theorem dX0_isAheadOf_1 : decode cX0_isAheadOf 1 = .ok (.getfield 13, 3) := by decide +kernel
theorem dX0_isAheadOf_4 : decode cX0_isAheadOf 4 = .ok (.iload_n 1, 1) := by decide +kernel
theorem dX0_isAheadOf_5 : decode cX0_isAheadOf 5 = .ok (.iaload, 1) := by decide +kernel
theorem dX0_isAheadOf_6 : decode cX0_isAheadOf 6 = .ok (.aload_n 0, 1) := by decide +kernel
theorem dX0_isAheadOf_7 : decode cX0_isAheadOf 7 = .ok (.getfield 13, 3) := by decide +kernel
theorem dX0_isAheadOf_10 : decode cX0_isAheadOf 10 = .ok (.iload_n 2, 1) := by decide +kernel
theorem dX0_isAheadOf_11 : decode cX0_isAheadOf 11 = .ok (.iaload, 1) := by decide +kernel
theorem dX0_isAheadOf_12 : decode cX0_isAheadOf 12 = .ok (.if_icmp .eq 24, 3) := by decide +kernel
theorem dX0_isAheadOf_15 : decode cX0_isAheadOf 15 = .ok (.aload_n 0, 1) := by decide +kernel
theorem dX0_isAheadOf_16 : decode cX0_isAheadOf 16 = .ok (.getfield 13, 3) := by decide +kernel
theorem dX0_isAheadOf_19 : decode cX0_isAheadOf 19 = .ok (.iload_n 1, 1) := by decide +kernel
theorem dX0_isAheadOf_20 : decode cX0_isAheadOf 20 = .ok (.iaload, 1) := by decide +kernel
theorem dX0_isAheadOf_21 : decode cX0_isAheadOf 21 = .ok (.aload_n 0, 1) := by decide +kernel
theorem dX0_isAheadOf_22 : decode cX0_isAheadOf 22 = .ok (.getfield 13, 3) := by decide +kernel
theorem dX0_isAheadOf_25 : decode cX0_isAheadOf 25 = .ok (.iload_n 2, 1) := by decide +kernel
theorem dX0_isAheadOf_26 : decode cX0_isAheadOf 26 = .ok (.iaload, 1) := by decide +kernel
theorem dX0_isAheadOf_27 : decode cX0_isAheadOf 27 = .ok (.if_icmp .le 7, 3) := by decide +kernel
theorem dX0_isAheadOf_30 : decode cX0_isAheadOf 30 = .ok (.iconst 1, 1) := by decide +kernel
theorem dX0_isAheadOf_31 : decode cX0_isAheadOf 31 = .ok (.goto 4, 3) := by decide +kernel
theorem dX0_isAheadOf_34 : decode cX0_isAheadOf 34 = .ok (.iconst 0, 1) := by decide +kernel
theorem dX0_isAheadOf_35 : decode cX0_isAheadOf 35 = .ok (.ireturn, 1) := by decide +kernel
theorem dX0_isAheadOf_36 : decode cX0_isAheadOf 36 = .ok (.aload_n 0, 1) := by decide +kernel
theorem dX0_isAheadOf_37 : decode cX0_isAheadOf 37 = .ok (.getfield 16, 3) := by decide +kernel
theorem dX0_isAheadOf_40 : decode cX0_isAheadOf 40 = .ok (.iload_n 1, 1) := by decide +kernel
theorem dX0_isAheadOf_41 : decode cX0_isAheadOf 41 = .ok (.iaload, 1) := by decide +kernel
theorem dX0_isAheadOf_42 : decode cX0_isAheadOf 42 = .ok (.aload_n 0, 1) := by decide +kernel
theorem dX0_isAheadOf_43 : decode cX0_isAheadOf 43 = .ok (.getfield 16, 3) := by decide +kernel
theorem dX0_isAheadOf_46 : decode cX0_isAheadOf 46 = .ok (.iload_n 2, 1) := by decide +kernel
theorem dX0_isAheadOf_47 : decode cX0_isAheadOf 47 = .ok (.iaload, 1) := by decide +kernel
theorem dX0_isAheadOf_48 : decode cX0_isAheadOf 48 = .ok (.if_icmp .eq 24, 3) := by decide +kernel
theorem dX0_isAheadOf_51 : decode cX0_isAheadOf 51 = .ok (.aload_n 0, 1) := by decide +kernel
theorem dX0_isAheadOf_52 : decode cX0_isAheadOf 52 = .ok (.getfield 16, 3) := by decide +kernel
theorem dX0_isAheadOf_55 : decode cX0_isAheadOf 55 = .ok (.iload_n 1, 1) := by decide +kernel
theorem dX0_isAheadOf_56 : decode cX0_isAheadOf 56 = .ok (.iaload, 1) := by decide +kernel
theorem dX0_isAheadOf_57 : decode cX0_isAheadOf 57 = .ok (.aload_n 0, 1) := by decide +kernel
theorem dX0_isAheadOf_58 : decode cX0_isAheadOf 58 = .ok (.getfield 16, 3) := by decide +kernel
theorem dX0_isAheadOf_61 : decode cX0_isAheadOf 61 = .ok (.iload_n 2, 1) := by decide +kernel
theorem dX0_isAheadOf_62 : decode cX0_isAheadOf 62 = .ok (.iaload, 1) := by decide +kernel
theorem dX0_isAheadOf_63 : decode cX0_isAheadOf 63 = .ok (.if_icmp .ge 7, 3) := by decide +kernel
theorem dX0_isAheadOf_66 : decode cX0_isAheadOf 66 = .ok (.iconst 1, 1) := by decide +kernel
theorem dX0_isAheadOf_67 : decode cX0_isAheadOf 67 = .ok (.goto 4, 3) := by decide +kernel
theorem dX0_isAheadOf_70 : decode cX0_isAheadOf 70 = .ok (.iconst 0, 1) := by decide +kernel
theorem dX0_isAheadOf_71 : decode cX0_isAheadOf 71 = .ok (.ireturn, 1) := by decide +kernel
theorem dX0_isAheadOf_72 : decode cX0_isAheadOf 72 = .ok (.iload_n 1, 1) := by decide +kernel
theorem dX0_isAheadOf_73 : decode cX0_isAheadOf 73 = .ok (.iload_n 2, 1) := by decide +kernel
theorem dX0_isAheadOf_74 : decode cX0_isAheadOf 74 = .ok (.if_icmp .ge 7, 3) := by decide +kernel
theorem dX0_isAheadOf_77 : decode cX0_isAheadOf 77 = .ok (.iconst 1, 1) := by decide +kernel
theorem dX0_isAheadOf_78 : decode cX0_isAheadOf 78 = .ok (.goto 4, 3) := by decide +kernel
theorem dX0_isAheadOf_81 : decode cX0_isAheadOf 81 = .ok (.iconst 0, 1) := by decide +kernel
theorem dX0_isAheadOf_82 : decode cX0_isAheadOf 82 = .ok (.ireturn, 1) := by decide +kernel
theorem dX0_knotWithRank_0 : decode cX0_knotWithRank 0 = .ok (.iconst 0, 1) := by decide +kernel
theorem dX0_knotWithRank_1 : decode cX0_knotWithRank 1 = .ok (.istore_n 3, 1) := by decide +kernel
theorem dX0_knotWithRank_2 : decode cX0_knotWithRank 2 = .ok (.iload_n 3, 1) := by decide +kernel
theorem dX0_knotWithRank_3 : decode cX0_knotWithRank 3 = .ok (.aload_n 0, 1) := by decide +kernel
theorem dX0_knotWithRank_4 : decode cX0_knotWithRank 4 = .ok (.getfield 25, 3) := by decide +kernel
theorem dX0_knotWithRank_7 : decode cX0_knotWithRank 7 = .ok (.if_icmp .ge 30, 3) := by decide +kernel
theorem dX0_knotWithRank_10 : decode cX0_knotWithRank 10 = .ok (.aload_n 0, 1) := by decide +kernel
theorem dX0_knotWithRank_11 : decode cX0_knotWithRank 11 = .ok (.getfield 9, 3) := by decide +kernel
theorem dX0_knotWithRank_14 : decode cX0_knotWithRank 14 = .ok (.iload_n 3, 1) := by decide +kernel
theorem dX0_knotWithRank_15 : decode cX0_knotWithRank 15 = .ok (.iaload, 1) := by decide +kernel
theorem dX0_knotWithRank_16 : decode cX0_knotWithRank 16 = .ok (.iload_n 1, 1) := by decide +kernel
theorem dX0_knotWithRank_17 : decode cX0_knotWithRank 17 = .ok (.if_icmp .ne 14, 3) := by decide +kernel
theorem dX0_knotWithRank_20 : decode cX0_knotWithRank 20 = .ok (.aload_n 0, 1) := by decide +kernel
theorem dX0_knotWithRank_21 : decode cX0_knotWithRank 21 = .ok (.iload_n 3, 1) := by decide +kernel
theorem dX0_knotWithRank_22 : decode cX0_knotWithRank 22 = .ok (.invokevirtual 110, 3) := by decide +kernel
theorem dX0_knotWithRank_25 : decode cX0_knotWithRank 25 = .ok (.iload_n 2, 1) := by decide +kernel
theorem dX0_knotWithRank_26 : decode cX0_knotWithRank 26 = .ok (.if_icmp .ne 5, 3) := by decide +kernel
theorem dX0_knotWithRank_29 : decode cX0_knotWithRank 29 = .ok (.iload_n 3, 1) := by decide +kernel
theorem dX0_knotWithRank_30 : decode cX0_knotWithRank 30 = .ok (.ireturn, 1) := by decide +kernel
theorem dX0_knotWithRank_31 : decode cX0_knotWithRank 31 = .ok (.iinc 3 1, 3) := by decide +kernel
theorem dX0_knotWithRank_34 : decode cX0_knotWithRank 34 = .ok (.goto (-32), 3) := by decide +kernel
theorem dX0_knotWithRank_37 : decode cX0_knotWithRank 37 = .ok (.iconst (-1), 1) := by decide +kernel
theorem dX0_knotWithRank_38 : decode cX0_knotWithRank 38 = .ok (.ireturn, 1) := by decide +kernel
theorem dX0_spillsUnder_0 : decode cX0_spillsUnder 0 = .ok (.aload_n 0, 1) := by decide +kernel
theorem dX0_spillsUnder_1 : decode cX0_spillsUnder 1 = .ok (.iload_n 1, 1) := by decide +kernel
theorem dX0_spillsUnder_2 : decode cX0_spillsUnder 2 = .ok (.invokevirtual 125, 3) := by decide +kernel
theorem dX0_spillsUnder_5 : decode cX0_spillsUnder 5 = .ok (.ifCond .eq 26, 3) := by decide +kernel
theorem dX0_spillsUnder_8 : decode cX0_spillsUnder 8 = .ok (.aload_n 0, 1) := by decide +kernel
theorem dX0_spillsUnder_9 : decode cX0_spillsUnder 9 = .ok (.getfield 19, 3) := by decide +kernel
theorem dX0_spillsUnder_12 : decode cX0_spillsUnder 12 = .ok (.iload_n 1, 1) := by decide +kernel
theorem dX0_spillsUnder_13 : decode cX0_spillsUnder 13 = .ok (.iaload, 1) := by decide +kernel
theorem dX0_spillsUnder_14 : decode cX0_spillsUnder 14 = .ok (.ifCond .eq 17, 3) := by decide +kernel
theorem dX0_spillsUnder_17 : decode cX0_spillsUnder 17 = .ok (.aload_n 0, 1) := by decide +kernel
theorem dX0_spillsUnder_18 : decode cX0_spillsUnder 18 = .ok (.getfield 19, 3) := by decide +kernel
theorem dX0_spillsUnder_21 : decode cX0_spillsUnder 21 = .ok (.iload_n 1, 1) := by decide +kernel
theorem dX0_spillsUnder_22 : decode cX0_spillsUnder 22 = .ok (.iaload, 1) := by decide +kernel
theorem dX0_spillsUnder_23 : decode cX0_spillsUnder 23 = .ok (.iload_n 2, 1) := by decide +kernel
theorem dX0_spillsUnder_24 : decode cX0_spillsUnder 24 = .ok (.if_icmp .gt 7, 3) := by decide +kernel
theorem dX0_spillsUnder_27 : decode cX0_spillsUnder 27 = .ok (.iconst 1, 1) := by decide +kernel
theorem dX0_spillsUnder_28 : decode cX0_spillsUnder 28 = .ok (.goto 4, 3) := by decide +kernel
theorem dX0_spillsUnder_31 : decode cX0_spillsUnder 31 = .ok (.iconst 0, 1) := by decide +kernel
theorem dX0_spillsUnder_32 : decode cX0_spillsUnder 32 = .ok (.ireturn, 1) := by decide +kernel
theorem dX0_formUnder_0 : decode cX0_formUnder 0 = .ok (.iload_n 1, 1) := by decide +kernel
theorem dX0_formUnder_1 : decode cX0_formUnder 1 = .ok (.istore_n 3, 1) := by decide +kernel
theorem dX0_formUnder_2 : decode cX0_formUnder 2 = .ok (.iconst 0, 1) := by decide +kernel
theorem dX0_formUnder_3 : decode cX0_formUnder 3 = .ok (.istore 4, 2) := by decide +kernel
theorem dX0_formUnder_5 : decode cX0_formUnder 5 = .ok (.iload 4, 2) := by decide +kernel
theorem dX0_formUnder_7 : decode cX0_formUnder 7 = .ok (.bipush 16, 2) := by decide +kernel
theorem dX0_formUnder_9 : decode cX0_formUnder 9 = .ok (.if_icmp .ge 25, 3) := by decide +kernel
theorem dX0_formUnder_12 : decode cX0_formUnder 12 = .ok (.aload_n 0, 1) := by decide +kernel
theorem dX0_formUnder_13 : decode cX0_formUnder 13 = .ok (.iload_n 3, 1) := by decide +kernel
theorem dX0_formUnder_14 : decode cX0_formUnder 14 = .ok (.iload_n 2, 1) := by decide +kernel
theorem dX0_formUnder_15 : decode cX0_formUnder 15 = .ok (.invokevirtual 121, 3) := by decide +kernel
theorem dX0_formUnder_18 : decode cX0_formUnder 18 = .ok (.ifCond .eq 16, 3) := by decide +kernel
theorem dX0_formUnder_21 : decode cX0_formUnder 21 = .ok (.aload_n 0, 1) := by decide +kernel
theorem dX0_formUnder_22 : decode cX0_formUnder 22 = .ok (.getfield 22, 3) := by decide +kernel
theorem dX0_formUnder_25 : decode cX0_formUnder 25 = .ok (.iload_n 3, 1) := by decide +kernel
theorem dX0_formUnder_26 : decode cX0_formUnder 26 = .ok (.iaload, 1) := by decide +kernel
theorem dX0_formUnder_27 : decode cX0_formUnder 27 = .ok (.istore_n 3, 1) := by decide +kernel
theorem dX0_formUnder_28 : decode cX0_formUnder 28 = .ok (.iinc 4 1, 3) := by decide +kernel
theorem dX0_formUnder_31 : decode cX0_formUnder 31 = .ok (.goto (-26), 3) := by decide +kernel
theorem dX0_formUnder_34 : decode cX0_formUnder 34 = .ok (.iload_n 3, 1) := by decide +kernel
theorem dX0_formUnder_35 : decode cX0_formUnder 35 = .ok (.ireturn, 1) := by decide +kernel
theorem dX0_slot_0 : decode cX0_slot 0 = .ok (.iload_n 0, 1) := by decide +kernel
theorem dX0_slot_1 : decode cX0_slot 1 = .ok (.iconst 5, 1) := by decide +kernel
theorem dX0_slot_2 : decode cX0_slot 2 = .ok (.imul, 1) := by decide +kernel
theorem dX0_slot_3 : decode cX0_slot 3 = .ok (.iload_n 1, 1) := by decide +kernel
theorem dX0_slot_4 : decode cX0_slot 4 = .ok (.iadd, 1) := by decide +kernel
theorem dX0_slot_5 : decode cX0_slot 5 = .ok (.ireturn, 1) := by decide +kernel
theorem dX0_kindDueAt_0 : decode cX0_kindDueAt 0 = .ok (.iload_n 0, 1) := by decide +kernel
theorem dX0_kindDueAt_1 : decode cX0_kindDueAt 1 = .ok (.ifCond .ne 7, 3) := by decide +kernel
theorem dX0_kindDueAt_4 : decode cX0_kindDueAt 4 = .ok (.iconst 1, 1) := by decide +kernel
theorem dX0_kindDueAt_5 : decode cX0_kindDueAt 5 = .ok (.goto 4, 3) := by decide +kernel
theorem dX0_kindDueAt_8 : decode cX0_kindDueAt 8 = .ok (.iconst 0, 1) := by decide +kernel
theorem dX0_kindDueAt_9 : decode cX0_kindDueAt 9 = .ok (.ireturn, 1) := by decide +kernel
theorem dX0_isGone_0 : decode cX0_isGone 0 = .ok (.aload_n 0, 1) := by decide +kernel
theorem dX0_isGone_1 : decode cX0_isGone 1 = .ok (.getfield 29, 3) := by decide +kernel
theorem dX0_isGone_4 : decode cX0_isGone 4 = .ok (.iload_n 1, 1) := by decide +kernel
theorem dX0_isGone_5 : decode cX0_isGone 5 = .ok (.iaload, 1) := by decide +kernel
theorem dX0_isGone_6 : decode cX0_isGone 6 = .ok (.ifCond .ne 7, 3) := by decide +kernel
theorem dX0_isGone_9 : decode cX0_isGone 9 = .ok (.iconst 1, 1) := by decide +kernel
theorem dX0_isGone_10 : decode cX0_isGone 10 = .ok (.goto 4, 3) := by decide +kernel
theorem dX0_isGone_13 : decode cX0_isGone 13 = .ok (.iconst 0, 1) := by decide +kernel
theorem dX0_isGone_14 : decode cX0_isGone 14 = .ok (.ireturn, 1) := by decide +kernel
theorem dX0_appendRope_0 : decode cX0_appendRope 0 = .ok (.iload_n 1, 1) := by decide +kernel
theorem dX0_appendRope_1 : decode cX0_appendRope 1 = .ok (.aload_n 0, 1) := by decide +kernel
theorem dX0_appendRope_2 : decode cX0_appendRope 2 = .ok (.getfield 29, 3) := by decide +kernel
theorem dX0_appendRope_5 : decode cX0_appendRope 5 = .ok (.iload_n 1, 1) := by decide +kernel
theorem dX0_appendRope_6 : decode cX0_appendRope 6 = .ok (.iaload, 1) := by decide +kernel
theorem dX0_appendRope_7 : decode cX0_appendRope 7 = .ok (.invokestatic 97, 3) := by decide +kernel
theorem dX0_appendRope_10 : decode cX0_appendRope 10 = .ok (.istore 4, 2) := by decide +kernel
theorem dX0_appendRope_12 : decode cX0_appendRope 12 = .ok (.aload_n 0, 1) := by decide +kernel
theorem dX0_appendRope_13 : decode cX0_appendRope 13 = .ok (.getfield 35, 3) := by decide +kernel
theorem dX0_appendRope_16 : decode cX0_appendRope 16 = .ok (.iload 4, 2) := by decide +kernel
theorem dX0_appendRope_18 : decode cX0_appendRope 18 = .ok (.iload_n 2, 1) := by decide +kernel
theorem dX0_appendRope_19 : decode cX0_appendRope 19 = .ok (.iastore, 1) := by decide +kernel
theorem dX0_appendRope_20 : decode cX0_appendRope 20 = .ok (.aload_n 0, 1) := by decide +kernel
theorem dX0_appendRope_21 : decode cX0_appendRope 21 = .ok (.getfield 38, 3) := by decide +kernel
theorem dX0_appendRope_24 : decode cX0_appendRope 24 = .ok (.iload 4, 2) := by decide +kernel
theorem dX0_appendRope_26 : decode cX0_appendRope 26 = .ok (.iload_n 3, 1) := by decide +kernel
theorem dX0_appendRope_27 : decode cX0_appendRope 27 = .ok (.iastore, 1) := by decide +kernel
theorem dX0_appendRope_28 : decode cX0_appendRope 28 = .ok (.aload_n 0, 1) := by decide +kernel
theorem dX0_appendRope_29 : decode cX0_appendRope 29 = .ok (.getfield 29, 3) := by decide +kernel
theorem dX0_appendRope_32 : decode cX0_appendRope 32 = .ok (.iload_n 1, 1) := by decide +kernel
theorem dX0_appendRope_33 : decode cX0_appendRope 33 = .ok (.dup2, 1) := by decide +kernel
theorem dX0_appendRope_34 : decode cX0_appendRope 34 = .ok (.iaload, 1) := by decide +kernel
theorem dX0_appendRope_35 : decode cX0_appendRope 35 = .ok (.iconst 1, 1) := by decide +kernel
theorem dX0_appendRope_36 : decode cX0_appendRope 36 = .ok (.iadd, 1) := by decide +kernel
theorem dX0_appendRope_37 : decode cX0_appendRope 37 = .ok (.iastore, 1) := by decide +kernel
theorem dX0_appendRope_38 : decode cX0_appendRope 38 = .ok (.return_, 1) := by decide +kernel
theorem dX0_strengthWith_0 : decode cX0_strengthWith 0 = .ok (.aload_n 0, 1) := by decide +kernel
theorem dX0_strengthWith_1 : decode cX0_strengthWith 1 = .ok (.getfield 38, 3) := by decide +kernel
theorem dX0_strengthWith_4 : decode cX0_strengthWith 4 = .ok (.iload_n 1, 1) := by decide +kernel
theorem dX0_strengthWith_5 : decode cX0_strengthWith 5 = .ok (.iload_n 2, 1) := by decide +kernel
theorem dX0_strengthWith_6 : decode cX0_strengthWith 6 = .ok (.invokestatic 97, 3) := by decide +kernel
theorem dX0_strengthWith_9 : decode cX0_strengthWith 9 = .ok (.iaload, 1) := by decide +kernel
theorem dX0_strengthWith_10 : decode cX0_strengthWith 10 = .ok (.istore 4, 2) := by decide +kernel
theorem dX0_strengthWith_12 : decode cX0_strengthWith 12 = .ok (.iload_n 2, 1) := by decide +kernel
theorem dX0_strengthWith_13 : decode cX0_strengthWith 13 = .ok (.ifCond .le 22, 3) := by decide +kernel
theorem dX0_strengthWith_16 : decode cX0_strengthWith 16 = .ok (.iload 4, 2) := by decide +kernel
theorem dX0_strengthWith_18 : decode cX0_strengthWith 18 = .ok (.aload_n 0, 1) := by decide +kernel
theorem dX0_strengthWith_19 : decode cX0_strengthWith 19 = .ok (.getfield 38, 3) := by decide +kernel
theorem dX0_strengthWith_22 : decode cX0_strengthWith 22 = .ok (.iload_n 1, 1) := by decide +kernel
theorem dX0_strengthWith_23 : decode cX0_strengthWith 23 = .ok (.iload_n 2, 1) := by decide +kernel
theorem dX0_strengthWith_24 : decode cX0_strengthWith 24 = .ok (.iconst 1, 1) := by decide +kernel
theorem dX0_strengthWith_25 : decode cX0_strengthWith 25 = .ok (.isub, 1) := by decide +kernel
theorem dX0_strengthWith_26 : decode cX0_strengthWith 26 = .ok (.invokestatic 97, 3) := by decide +kernel
theorem dX0_strengthWith_29 : decode cX0_strengthWith 29 = .ok (.iaload, 1) := by decide +kernel
theorem dX0_strengthWith_30 : decode cX0_strengthWith 30 = .ok (.invokestatic 220, 3) := by decide +kernel
theorem dX0_strengthWith_33 : decode cX0_strengthWith 33 = .ok (.istore 4, 2) := by decide +kernel
theorem dX0_strengthWith_35 : decode cX0_strengthWith 35 = .ok (.iload 4, 2) := by decide +kernel
theorem dX0_strengthWith_37 : decode cX0_strengthWith 37 = .ok (.aload_n 0, 1) := by decide +kernel
theorem dX0_strengthWith_38 : decode cX0_strengthWith 38 = .ok (.getfield 13, 3) := by decide +kernel
theorem dX0_strengthWith_41 : decode cX0_strengthWith 41 = .ok (.iload_n 3, 1) := by decide +kernel
theorem dX0_strengthWith_42 : decode cX0_strengthWith 42 = .ok (.iaload, 1) := by decide +kernel
theorem dX0_strengthWith_43 : decode cX0_strengthWith 43 = .ok (.imul, 1) := by decide +kernel
theorem dX0_strengthWith_44 : decode cX0_strengthWith 44 = .ok (.bipush 100, 2) := by decide +kernel
theorem dX0_strengthWith_46 : decode cX0_strengthWith 46 = .ok (.idiv, 1) := by decide +kernel
theorem dX0_strengthWith_47 : decode cX0_strengthWith 47 = .ok (.ireturn, 1) := by decide +kernel
theorem dX0_currentStrength_0 : decode cX0_currentStrength 0 = .ok (.aload_n 0, 1) := by decide +kernel
theorem dX0_currentStrength_1 : decode cX0_currentStrength 1 = .ok (.iload_n 1, 1) := by decide +kernel
theorem dX0_currentStrength_2 : decode cX0_currentStrength 2 = .ok (.iload_n 2, 1) := by decide +kernel
theorem dX0_currentStrength_3 : decode cX0_currentStrength 3 = .ok (.aload_n 0, 1) := by decide +kernel
theorem dX0_currentStrength_4 : decode cX0_currentStrength 4 = .ok (.getfield 35, 3) := by decide +kernel
theorem dX0_currentStrength_7 : decode cX0_currentStrength 7 = .ok (.iload_n 1, 1) := by decide +kernel
theorem dX0_currentStrength_8 : decode cX0_currentStrength 8 = .ok (.iload_n 2, 1) := by decide +kernel
theorem dX0_currentStrength_9 : decode cX0_currentStrength 9 = .ok (.invokestatic 97, 3) := by decide +kernel
theorem dX0_currentStrength_12 : decode cX0_currentStrength 12 = .ok (.iaload, 1) := by decide +kernel
theorem dX0_currentStrength_13 : decode cX0_currentStrength 13 = .ok (.invokevirtual 223, 3) := by decide +kernel
theorem dX0_currentStrength_16 : decode cX0_currentStrength 16 = .ok (.ireturn, 1) := by decide +kernel
theorem dX0_placeHolds_0 : decode cX0_placeHolds 0 = .ok (.aload_n 0, 1) := by decide +kernel
theorem dX0_placeHolds_1 : decode cX0_placeHolds 1 = .ok (.aload_n 0, 1) := by decide +kernel
theorem dX0_placeHolds_2 : decode cX0_placeHolds 2 = .ok (.getfield 35, 3) := by decide +kernel
theorem dX0_placeHolds_5 : decode cX0_placeHolds 5 = .ok (.iload_n 1, 1) := by decide +kernel
theorem dX0_placeHolds_6 : decode cX0_placeHolds 6 = .ok (.iload_n 2, 1) := by decide +kernel
theorem dX0_placeHolds_7 : decode cX0_placeHolds 7 = .ok (.invokestatic 97, 3) := by decide +kernel
theorem dX0_placeHolds_10 : decode cX0_placeHolds 10 = .ok (.iaload, 1) := by decide +kernel
theorem dX0_placeHolds_11 : decode cX0_placeHolds 11 = .ok (.iload_n 3, 1) := by decide +kernel
theorem dX0_placeHolds_12 : decode cX0_placeHolds 12 = .ok (.invokevirtual 104, 3) := by decide +kernel
theorem dX0_placeHolds_15 : decode cX0_placeHolds 15 = .ok (.istore 4, 2) := by decide +kernel
theorem dX0_placeHolds_17 : decode cX0_placeHolds 17 = .ok (.aload_n 0, 1) := by decide +kernel
theorem dX0_placeHolds_18 : decode cX0_placeHolds 18 = .ok (.iload 4, 2) := by decide +kernel
theorem dX0_placeHolds_20 : decode cX0_placeHolds 20 = .ok (.invokevirtual 125, 3) := by decide +kernel
theorem dX0_placeHolds_23 : decode cX0_placeHolds 23 = .ok (.ifCond .eq 19, 3) := by decide +kernel
theorem dX0_placeHolds_26 : decode cX0_placeHolds 26 = .ok (.aload_n 0, 1) := by decide +kernel
theorem dX0_placeHolds_27 : decode cX0_placeHolds 27 = .ok (.iload_n 1, 1) := by decide +kernel
theorem dX0_placeHolds_28 : decode cX0_placeHolds 28 = .ok (.iload_n 2, 1) := by decide +kernel
theorem dX0_placeHolds_29 : decode cX0_placeHolds 29 = .ok (.iload 4, 2) := by decide +kernel
theorem dX0_placeHolds_31 : decode cX0_placeHolds 31 = .ok (.invokevirtual 223, 3) := by decide +kernel
theorem dX0_placeHolds_34 : decode cX0_placeHolds 34 = .ok (.iload_n 3, 1) := by decide +kernel
theorem dX0_placeHolds_35 : decode cX0_placeHolds 35 = .ok (.if_icmp .lt 7, 3) := by decide +kernel
theorem dX0_placeHolds_38 : decode cX0_placeHolds 38 = .ok (.iconst 1, 1) := by decide +kernel
theorem dX0_placeHolds_39 : decode cX0_placeHolds 39 = .ok (.goto 4, 3) := by decide +kernel
theorem dX0_placeHolds_42 : decode cX0_placeHolds 42 = .ok (.iconst 0, 1) := by decide +kernel
theorem dX0_placeHolds_43 : decode cX0_placeHolds 43 = .ok (.ireturn, 1) := by decide +kernel
theorem dX0_firstPlaceToGiveWay_0 : decode cX0_firstPlaceToGiveWay 0 = .ok (.iconst 0, 1) := by decide +kernel
theorem dX0_firstPlaceToGiveWay_1 : decode cX0_firstPlaceToGiveWay 1 = .ok (.istore_n 3, 1) := by decide +kernel
theorem dX0_firstPlaceToGiveWay_2 : decode cX0_firstPlaceToGiveWay 2 = .ok (.iload_n 3, 1) := by decide +kernel
theorem dX0_firstPlaceToGiveWay_3 : decode cX0_firstPlaceToGiveWay 3 = .ok (.aload_n 0, 1) := by decide +kernel
theorem dX0_firstPlaceToGiveWay_4 : decode cX0_firstPlaceToGiveWay 4 = .ok (.getfield 29, 3) := by decide +kernel
theorem dX0_firstPlaceToGiveWay_7 : decode cX0_firstPlaceToGiveWay 7 = .ok (.iload_n 1, 1) := by decide +kernel
theorem dX0_firstPlaceToGiveWay_8 : decode cX0_firstPlaceToGiveWay 8 = .ok (.iaload, 1) := by decide +kernel
theorem dX0_firstPlaceToGiveWay_9 : decode cX0_firstPlaceToGiveWay 9 = .ok (.if_icmp .ge 21, 3) := by decide +kernel
theorem dX0_firstPlaceToGiveWay_12 : decode cX0_firstPlaceToGiveWay 12 = .ok (.aload_n 0, 1) := by decide +kernel
theorem dX0_firstPlaceToGiveWay_13 : decode cX0_firstPlaceToGiveWay 13 = .ok (.iload_n 1, 1) := by decide +kernel
theorem dX0_firstPlaceToGiveWay_14 : decode cX0_firstPlaceToGiveWay 14 = .ok (.iload_n 3, 1) := by decide +kernel
theorem dX0_firstPlaceToGiveWay_15 : decode cX0_firstPlaceToGiveWay 15 = .ok (.iload_n 2, 1) := by decide +kernel
theorem dX0_firstPlaceToGiveWay_16 : decode cX0_firstPlaceToGiveWay 16 = .ok (.invokevirtual 226, 3) := by decide +kernel
theorem dX0_firstPlaceToGiveWay_19 : decode cX0_firstPlaceToGiveWay 19 = .ok (.ifCond .ne 5, 3) := by decide +kernel
theorem dX0_firstPlaceToGiveWay_22 : decode cX0_firstPlaceToGiveWay 22 = .ok (.iload_n 3, 1) := by decide +kernel
theorem dX0_firstPlaceToGiveWay_23 : decode cX0_firstPlaceToGiveWay 23 = .ok (.ireturn, 1) := by decide +kernel
theorem dX0_firstPlaceToGiveWay_24 : decode cX0_firstPlaceToGiveWay 24 = .ok (.iinc 3 1, 3) := by decide +kernel
theorem dX0_firstPlaceToGiveWay_27 : decode cX0_firstPlaceToGiveWay 27 = .ok (.goto (-25), 3) := by decide +kernel
theorem dX0_firstPlaceToGiveWay_30 : decode cX0_firstPlaceToGiveWay 30 = .ok (.iconst (-1), 1) := by decide +kernel
theorem dX0_firstPlaceToGiveWay_31 : decode cX0_firstPlaceToGiveWay 31 = .ok (.ireturn, 1) := by decide +kernel
theorem dX0_loadHeldWith_0 : decode cX0_loadHeldWith 0 = .ok (.aload_n 0, 1) := by decide +kernel
theorem dX0_loadHeldWith_1 : decode cX0_loadHeldWith 1 = .ok (.iload_n 1, 1) := by decide +kernel
theorem dX0_loadHeldWith_2 : decode cX0_loadHeldWith 2 = .ok (.invokevirtual 140, 3) := by decide +kernel
theorem dX0_loadHeldWith_5 : decode cX0_loadHeldWith 5 = .ok (.ifCond .eq 5, 3) := by decide +kernel
theorem dX0_loadHeldWith_8 : decode cX0_loadHeldWith 8 = .ok (.iconst 0, 1) := by decide +kernel
theorem dX0_loadHeldWith_9 : decode cX0_loadHeldWith 9 = .ok (.ireturn, 1) := by decide +kernel
theorem dX0_loadHeldWith_10 : decode cX0_loadHeldWith 10 = .ok (.sipush 999, 3) := by decide +kernel
theorem dX0_loadHeldWith_13 : decode cX0_loadHeldWith 13 = .ok (.istore 4, 2) := by decide +kernel
theorem dX0_loadHeldWith_15 : decode cX0_loadHeldWith 15 = .ok (.iconst 0, 1) := by decide +kernel
theorem dX0_loadHeldWith_16 : decode cX0_loadHeldWith 16 = .ok (.istore 5, 2) := by decide +kernel
theorem dX0_loadHeldWith_18 : decode cX0_loadHeldWith 18 = .ok (.iload 5, 2) := by decide +kernel
theorem dX0_loadHeldWith_20 : decode cX0_loadHeldWith 20 = .ok (.aload_n 0, 1) := by decide +kernel
theorem dX0_loadHeldWith_21 : decode cX0_loadHeldWith 21 = .ok (.getfield 29, 3) := by decide +kernel
theorem dX0_loadHeldWith_24 : decode cX0_loadHeldWith 24 = .ok (.iload_n 1, 1) := by decide +kernel
theorem dX0_loadHeldWith_25 : decode cX0_loadHeldWith 25 = .ok (.iaload, 1) := by decide +kernel
theorem dX0_loadHeldWith_26 : decode cX0_loadHeldWith 26 = .ok (.if_icmp .ge 48, 3) := by decide +kernel
theorem dX0_loadHeldWith_29 : decode cX0_loadHeldWith 29 = .ok (.iload 5, 2) := by decide +kernel
theorem dX0_loadHeldWith_31 : decode cX0_loadHeldWith 31 = .ok (.iload_n 2, 1) := by decide +kernel
theorem dX0_loadHeldWith_32 : decode cX0_loadHeldWith 32 = .ok (.if_icmp .ne 7, 3) := by decide +kernel
theorem dX0_loadHeldWith_35 : decode cX0_loadHeldWith 35 = .ok (.iload_n 3, 1) := by decide +kernel
theorem dX0_loadHeldWith_36 : decode cX0_loadHeldWith 36 = .ok (.goto 14, 3) := by decide +kernel
theorem dX0_loadHeldWith_39 : decode cX0_loadHeldWith 39 = .ok (.aload_n 0, 1) := by decide +kernel
theorem dX0_loadHeldWith_40 : decode cX0_loadHeldWith 40 = .ok (.getfield 35, 3) := by decide +kernel
theorem dX0_loadHeldWith_43 : decode cX0_loadHeldWith 43 = .ok (.iload_n 1, 1) := by decide +kernel
theorem dX0_loadHeldWith_44 : decode cX0_loadHeldWith 44 = .ok (.iload 5, 2) := by decide +kernel
theorem dX0_loadHeldWith_46 : decode cX0_loadHeldWith 46 = .ok (.invokestatic 97, 3) := by decide +kernel
theorem dX0_loadHeldWith_49 : decode cX0_loadHeldWith 49 = .ok (.iaload, 1) := by decide +kernel
theorem dX0_loadHeldWith_50 : decode cX0_loadHeldWith 50 = .ok (.istore 6, 2) := by decide +kernel
theorem dX0_loadHeldWith_52 : decode cX0_loadHeldWith 52 = .ok (.iload 4, 2) := by decide +kernel
theorem dX0_loadHeldWith_54 : decode cX0_loadHeldWith 54 = .ok (.aload_n 0, 1) := by decide +kernel
theorem dX0_loadHeldWith_55 : decode cX0_loadHeldWith 55 = .ok (.iload_n 1, 1) := by decide +kernel
theorem dX0_loadHeldWith_56 : decode cX0_loadHeldWith 56 = .ok (.iload 5, 2) := by decide +kernel
theorem dX0_loadHeldWith_58 : decode cX0_loadHeldWith 58 = .ok (.iload 6, 2) := by decide +kernel
theorem dX0_loadHeldWith_60 : decode cX0_loadHeldWith 60 = .ok (.invokevirtual 230, 3) := by decide +kernel
theorem dX0_loadHeldWith_63 : decode cX0_loadHeldWith 63 = .ok (.invokestatic 220, 3) := by decide +kernel
theorem dX0_loadHeldWith_66 : decode cX0_loadHeldWith 66 = .ok (.istore 4, 2) := by decide +kernel
theorem dX0_loadHeldWith_68 : decode cX0_loadHeldWith 68 = .ok (.iinc 5 1, 3) := by decide +kernel
theorem dX0_loadHeldWith_71 : decode cX0_loadHeldWith 71 = .ok (.goto (-53), 3) := by decide +kernel
theorem dX0_loadHeldWith_74 : decode cX0_loadHeldWith 74 = .ok (.iload 4, 2) := by decide +kernel
theorem dX0_loadHeldWith_76 : decode cX0_loadHeldWith 76 = .ok (.ireturn, 1) := by decide +kernel
theorem dX0_loadHeldAt_0 : decode cX0_loadHeldAt 0 = .ok (.iconst 0, 1) := by decide +kernel
theorem dX0_loadHeldAt_1 : decode cX0_loadHeldAt 1 = .ok (.istore 4, 2) := by decide +kernel
theorem dX0_loadHeldAt_3 : decode cX0_loadHeldAt 3 = .ok (.iload_n 3, 1) := by decide +kernel
theorem dX0_loadHeldAt_4 : decode cX0_loadHeldAt 4 = .ok (.istore 5, 2) := by decide +kernel
theorem dX0_loadHeldAt_6 : decode cX0_loadHeldAt 6 = .ok (.iconst 0, 1) := by decide +kernel
theorem dX0_loadHeldAt_7 : decode cX0_loadHeldAt 7 = .ok (.istore 6, 2) := by decide +kernel
theorem dX0_loadHeldAt_9 : decode cX0_loadHeldAt 9 = .ok (.iload 6, 2) := by decide +kernel
theorem dX0_loadHeldAt_11 : decode cX0_loadHeldAt 11 = .ok (.bipush 16, 2) := by decide +kernel
theorem dX0_loadHeldAt_13 : decode cX0_loadHeldAt 13 = .ok (.if_icmp .ge 90, 3) := by decide +kernel
theorem dX0_loadHeldAt_16 : decode cX0_loadHeldAt 16 = .ok (.aload_n 0, 1) := by decide +kernel
theorem dX0_loadHeldAt_17 : decode cX0_loadHeldAt 17 = .ok (.iload 5, 2) := by decide +kernel
theorem dX0_loadHeldAt_19 : decode cX0_loadHeldAt 19 = .ok (.invokevirtual 125, 3) := by decide +kernel
theorem dX0_loadHeldAt_22 : decode cX0_loadHeldAt 22 = .ok (.ifCond .eq 81, 3) := by decide +kernel
theorem dX0_loadHeldAt_25 : decode cX0_loadHeldAt 25 = .ok (.aload_n 0, 1) := by decide +kernel
theorem dX0_loadHeldAt_26 : decode cX0_loadHeldAt 26 = .ok (.getfield 19, 3) := by decide +kernel
theorem dX0_loadHeldAt_29 : decode cX0_loadHeldAt 29 = .ok (.iload 5, 2) := by decide +kernel
theorem dX0_loadHeldAt_31 : decode cX0_loadHeldAt 31 = .ok (.iaload, 1) := by decide +kernel
theorem dX0_loadHeldAt_32 : decode cX0_loadHeldAt 32 = .ok (.ifCond .ne 9, 3) := by decide +kernel
theorem dX0_loadHeldAt_35 : decode cX0_loadHeldAt 35 = .ok (.sipush 999, 3) := by decide +kernel
theorem dX0_loadHeldAt_38 : decode cX0_loadHeldAt 38 = .ok (.goto 12, 3) := by decide +kernel
theorem dX0_loadHeldAt_41 : decode cX0_loadHeldAt 41 = .ok (.aload_n 0, 1) := by decide +kernel
theorem dX0_loadHeldAt_42 : decode cX0_loadHeldAt 42 = .ok (.getfield 19, 3) := by decide +kernel
theorem dX0_loadHeldAt_45 : decode cX0_loadHeldAt 45 = .ok (.iload 5, 2) := by decide +kernel
theorem dX0_loadHeldAt_47 : decode cX0_loadHeldAt 47 = .ok (.iaload, 1) := by decide +kernel
theorem dX0_loadHeldAt_48 : decode cX0_loadHeldAt 48 = .ok (.iconst 1, 1) := by decide +kernel
theorem dX0_loadHeldAt_49 : decode cX0_loadHeldAt 49 = .ok (.isub, 1) := by decide +kernel
theorem dX0_loadHeldAt_50 : decode cX0_loadHeldAt 50 = .ok (.istore 7, 2) := by decide +kernel
theorem dX0_loadHeldAt_52 : decode cX0_loadHeldAt 52 = .ok (.iload 7, 2) := by decide +kernel
theorem dX0_loadHeldAt_54 : decode cX0_loadHeldAt 54 = .ok (.iload 4, 2) := by decide +kernel
theorem dX0_loadHeldAt_56 : decode cX0_loadHeldAt 56 = .ok (.if_icmp .le 32, 3) := by decide +kernel
theorem dX0_loadHeldAt_59 : decode cX0_loadHeldAt 59 = .ok (.aload_n 0, 1) := by decide +kernel
theorem dX0_loadHeldAt_60 : decode cX0_loadHeldAt 60 = .ok (.iload_n 1, 1) := by decide +kernel
theorem dX0_loadHeldAt_61 : decode cX0_loadHeldAt 61 = .ok (.iload_n 2, 1) := by decide +kernel
theorem dX0_loadHeldAt_62 : decode cX0_loadHeldAt 62 = .ok (.iload 5, 2) := by decide +kernel
theorem dX0_loadHeldAt_64 : decode cX0_loadHeldAt 64 = .ok (.invokevirtual 223, 3) := by decide +kernel
theorem dX0_loadHeldAt_67 : decode cX0_loadHeldAt 67 = .ok (.istore 8, 2) := by decide +kernel
theorem dX0_loadHeldAt_69 : decode cX0_loadHeldAt 69 = .ok (.iload 8, 2) := by decide +kernel
theorem dX0_loadHeldAt_71 : decode cX0_loadHeldAt 71 = .ok (.iload 7, 2) := by decide +kernel
theorem dX0_loadHeldAt_73 : decode cX0_loadHeldAt 73 = .ok (.if_icmp .ge 11, 3) := by decide +kernel
theorem dX0_loadHeldAt_76 : decode cX0_loadHeldAt 76 = .ok (.iload 4, 2) := by decide +kernel
theorem dX0_loadHeldAt_78 : decode cX0_loadHeldAt 78 = .ok (.iload 8, 2) := by decide +kernel
theorem dX0_loadHeldAt_80 : decode cX0_loadHeldAt 80 = .ok (.invokestatic 129, 3) := by decide +kernel
theorem dX0_loadHeldAt_83 : decode cX0_loadHeldAt 83 = .ok (.ireturn, 1) := by decide +kernel
theorem dX0_loadHeldAt_84 : decode cX0_loadHeldAt 84 = .ok (.iload 7, 2) := by decide +kernel
theorem dX0_loadHeldAt_86 : decode cX0_loadHeldAt 86 = .ok (.istore 4, 2) := by decide +kernel
theorem dX0_loadHeldAt_88 : decode cX0_loadHeldAt 88 = .ok (.aload_n 0, 1) := by decide +kernel
theorem dX0_loadHeldAt_89 : decode cX0_loadHeldAt 89 = .ok (.getfield 22, 3) := by decide +kernel
theorem dX0_loadHeldAt_92 : decode cX0_loadHeldAt 92 = .ok (.iload 5, 2) := by decide +kernel
theorem dX0_loadHeldAt_94 : decode cX0_loadHeldAt 94 = .ok (.iaload, 1) := by decide +kernel
theorem dX0_loadHeldAt_95 : decode cX0_loadHeldAt 95 = .ok (.istore 5, 2) := by decide +kernel
theorem dX0_loadHeldAt_97 : decode cX0_loadHeldAt 97 = .ok (.iinc 6 1, 3) := by decide +kernel
theorem dX0_loadHeldAt_100 : decode cX0_loadHeldAt 100 = .ok (.goto (-91), 3) := by decide +kernel
theorem dX0_loadHeldAt_103 : decode cX0_loadHeldAt 103 = .ok (.iload 4, 2) := by decide +kernel
theorem dX0_loadHeldAt_105 : decode cX0_loadHeldAt 105 = .ok (.ireturn, 1) := by decide +kernel
end
section
theorem dX1_init_0 : decode cX1_init 0 = .ok (.aload_n 0, 1) := by decide +kernel
theorem dX1_init_1 : decode cX1_init 1 = .ok (.invokespecial 1, 3) := by decide +kernel
theorem dX1_init_4 : decode cX1_init 4 = .ok (.aload_n 0, 1) := by decide +kernel
theorem dX1_init_5 : decode cX1_init 5 = .ok (.bipush 16, 2) := by decide +kernel
theorem dX1_init_7 : decode cX1_init 7 = .ok (.newarray .int, 2) := by decide +kernel
theorem dX1_init_9 : decode cX1_init 9 = .ok (.putfield 9, 3) := by decide +kernel
theorem dX1_init_12 : decode cX1_init 12 = .ok (.aload_n 0, 1) := by decide +kernel
theorem dX1_init_13 : decode cX1_init 13 = .ok (.bipush 16, 2) := by decide +kernel
theorem dX1_init_15 : decode cX1_init 15 = .ok (.newarray .int, 2) := by decide +kernel
theorem dX1_init_17 : decode cX1_init 17 = .ok (.putfield 13, 3) := by decide +kernel
theorem dX1_init_20 : decode cX1_init 20 = .ok (.aload_n 0, 1) := by decide +kernel
theorem dX1_init_21 : decode cX1_init 21 = .ok (.bipush 16, 2) := by decide +kernel
theorem dX1_init_23 : decode cX1_init 23 = .ok (.newarray .int, 2) := by decide +kernel
theorem dX1_init_25 : decode cX1_init 25 = .ok (.putfield 16, 3) := by decide +kernel
theorem dX1_init_28 : decode cX1_init 28 = .ok (.aload_n 0, 1) := by decide +kernel
theorem dX1_init_29 : decode cX1_init 29 = .ok (.bipush 16, 2) := by decide +kernel
theorem dX1_init_31 : decode cX1_init 31 = .ok (.newarray .int, 2) := by decide +kernel
theorem dX1_init_33 : decode cX1_init 33 = .ok (.putfield 19, 3) := by decide +kernel
theorem dX1_init_36 : decode cX1_init 36 = .ok (.aload_n 0, 1) := by decide +kernel
theorem dX1_init_37 : decode cX1_init 37 = .ok (.bipush 16, 2) := by decide +kernel
theorem dX1_init_39 : decode cX1_init 39 = .ok (.newarray .int, 2) := by decide +kernel
theorem dX1_init_41 : decode cX1_init 41 = .ok (.putfield 22, 3) := by decide +kernel
theorem dX1_init_44 : decode cX1_init 44 = .ok (.aload_n 0, 1) := by decide +kernel
theorem dX1_init_45 : decode cX1_init 45 = .ok (.bipush 6, 2) := by decide +kernel
theorem dX1_init_47 : decode cX1_init 47 = .ok (.newarray .int, 2) := by decide +kernel
theorem dX1_init_49 : decode cX1_init 49 = .ok (.putfield 25, 3) := by decide +kernel
theorem dX1_init_52 : decode cX1_init 52 = .ok (.aload_n 0, 1) := by decide +kernel
theorem dX1_init_53 : decode cX1_init 53 = .ok (.bipush 30, 2) := by decide +kernel
theorem dX1_init_55 : decode cX1_init 55 = .ok (.newarray .int, 2) := by decide +kernel
theorem dX1_init_57 : decode cX1_init 57 = .ok (.putfield 28, 3) := by decide +kernel
theorem dX1_init_60 : decode cX1_init 60 = .ok (.aload_n 0, 1) := by decide +kernel
theorem dX1_init_61 : decode cX1_init 61 = .ok (.bipush 30, 2) := by decide +kernel
theorem dX1_init_63 : decode cX1_init 63 = .ok (.newarray .int, 2) := by decide +kernel
theorem dX1_init_65 : decode cX1_init 65 = .ok (.putfield 31, 3) := by decide +kernel
theorem dX1_init_68 : decode cX1_init 68 = .ok (.return_, 1) := by decide +kernel
theorem dX1_thrown_0 : decode cX1_thrown 0 = .ok (.aload_n 0, 1) := by decide +kernel
theorem dX1_thrown_1 : decode cX1_thrown 1 = .ok (.getfield 34, 3) := by decide +kernel
theorem dX1_thrown_4 : decode cX1_thrown 4 = .ok (.ireturn, 1) := by decide +kernel
theorem dX1_no_0 : decode cX1_no 0 = .ok (.aload_n 0, 1) := by decide +kernel
theorem dX1_no_1 : decode cX1_no 1 = .ok (.iload_n 1, 1) := by decide +kernel
theorem dX1_no_2 : decode cX1_no 2 = .ok (.putfield 34, 3) := by decide +kernel
theorem dX1_no_5 : decode cX1_no 5 = .ok (.iconst 0, 1) := by decide +kernel
theorem dX1_no_6 : decode cX1_no 6 = .ok (.ireturn, 1) := by decide +kernel
theorem dX1_ok_0 : decode cX1_ok 0 = .ok (.aload_n 0, 1) := by decide +kernel
theorem dX1_ok_1 : decode cX1_ok 1 = .ok (.iconst 0, 1) := by decide +kernel
theorem dX1_ok_2 : decode cX1_ok 2 = .ok (.putfield 34, 3) := by decide +kernel
theorem dX1_ok_5 : decode cX1_ok 5 = .ok (.iload_n 1, 1) := by decide +kernel
theorem dX1_ok_6 : decode cX1_ok 6 = .ok (.ireturn, 1) := by decide +kernel
theorem dX1_isIn_0 : decode cX1_isIn 0 = .ok (.iload_n 0, 1) := by decide +kernel
theorem dX1_isIn_1 : decode cX1_isIn 1 = .ok (.iload_n 1, 1) := by decide +kernel
theorem dX1_isIn_2 : decode cX1_isIn 2 = .ok (.if_icmp .lt 12, 3) := by decide +kernel
theorem dX1_isIn_5 : decode cX1_isIn 5 = .ok (.iload_n 0, 1) := by decide +kernel
theorem dX1_isIn_6 : decode cX1_isIn 6 = .ok (.iload_n 2, 1) := by decide +kernel
theorem dX1_isIn_7 : decode cX1_isIn 7 = .ok (.if_icmp .gt 7, 3) := by decide +kernel
theorem dX1_isIn_10 : decode cX1_isIn 10 = .ok (.iconst 1, 1) := by decide +kernel
theorem dX1_isIn_11 : decode cX1_isIn 11 = .ok (.goto 4, 3) := by decide +kernel
theorem dX1_isIn_14 : decode cX1_isIn 14 = .ok (.iconst 0, 1) := by decide +kernel
theorem dX1_isIn_15 : decode cX1_isIn 15 = .ok (.ireturn, 1) := by decide +kernel
theorem dX1_isKnot_0 : decode cX1_isKnot 0 = .ok (.iload_n 1, 1) := by decide +kernel
theorem dX1_isKnot_1 : decode cX1_isKnot 1 = .ok (.iconst 0, 1) := by decide +kernel
theorem dX1_isKnot_2 : decode cX1_isKnot 2 = .ok (.aload_n 0, 1) := by decide +kernel
theorem dX1_isKnot_3 : decode cX1_isKnot 3 = .ok (.getfield 38, 3) := by decide +kernel
theorem dX1_isKnot_6 : decode cX1_isKnot 6 = .ok (.iconst 1, 1) := by decide +kernel
theorem dX1_isKnot_7 : decode cX1_isKnot 7 = .ok (.isub, 1) := by decide +kernel
theorem dX1_isKnot_8 : decode cX1_isKnot 8 = .ok (.invokestatic 41, 3) := by decide +kernel
theorem dX1_isKnot_11 : decode cX1_isKnot 11 = .ok (.ireturn, 1) := by decide +kernel
theorem dX1_isLine_0 : decode cX1_isLine 0 = .ok (.iload_n 1, 1) := by decide +kernel
theorem dX1_isLine_1 : decode cX1_isLine 1 = .ok (.iconst 0, 1) := by decide +kernel
theorem dX1_isLine_2 : decode cX1_isLine 2 = .ok (.aload_n 0, 1) := by decide +kernel
theorem dX1_isLine_3 : decode cX1_isLine 3 = .ok (.getfield 45, 3) := by decide +kernel
theorem dX1_isLine_6 : decode cX1_isLine 6 = .ok (.iconst 1, 1) := by decide +kernel
theorem dX1_isLine_7 : decode cX1_isLine 7 = .ok (.isub, 1) := by decide +kernel
theorem dX1_isLine_8 : decode cX1_isLine 8 = .ok (.invokestatic 41, 3) := by decide +kernel
theorem dX1_isLine_11 : decode cX1_isLine 11 = .ok (.ireturn, 1) := by decide +kernel
theorem dX1_isPlace_0 : decode cX1_isPlace 0 = .ok (.aload_n 0, 1) := by decide +kernel
theorem dX1_isPlace_1 : decode cX1_isPlace 1 = .ok (.iload_n 1, 1) := by decide +kernel
theorem dX1_isPlace_2 : decode cX1_isPlace 2 = .ok (.invokevirtual 48, 3) := by decide +kernel
theorem dX1_isPlace_5 : decode cX1_isPlace 5 = .ok (.ifCond .eq 23, 3) := by decide +kernel
theorem dX1_isPlace_8 : decode cX1_isPlace 8 = .ok (.iload_n 2, 1) := by decide +kernel
theorem dX1_isPlace_9 : decode cX1_isPlace 9 = .ok (.iconst 0, 1) := by decide +kernel
theorem dX1_isPlace_10 : decode cX1_isPlace 10 = .ok (.aload_n 0, 1) := by decide +kernel
theorem dX1_isPlace_11 : decode cX1_isPlace 11 = .ok (.getfield 25, 3) := by decide +kernel
theorem dX1_isPlace_14 : decode cX1_isPlace 14 = .ok (.iload_n 1, 1) := by decide +kernel
theorem dX1_isPlace_15 : decode cX1_isPlace 15 = .ok (.iaload, 1) := by decide +kernel
theorem dX1_isPlace_16 : decode cX1_isPlace 16 = .ok (.iconst 1, 1) := by decide +kernel
theorem dX1_isPlace_17 : decode cX1_isPlace 17 = .ok (.isub, 1) := by decide +kernel
theorem dX1_isPlace_18 : decode cX1_isPlace 18 = .ok (.invokestatic 41, 3) := by decide +kernel
theorem dX1_isPlace_21 : decode cX1_isPlace 21 = .ok (.ifCond .eq 7, 3) := by decide +kernel
theorem dX1_isPlace_24 : decode cX1_isPlace 24 = .ok (.iconst 1, 1) := by decide +kernel
theorem dX1_isPlace_25 : decode cX1_isPlace 25 = .ok (.goto 4, 3) := by decide +kernel
theorem dX1_isPlace_28 : decode cX1_isPlace 28 = .ok (.iconst 0, 1) := by decide +kernel
theorem dX1_isPlace_29 : decode cX1_isPlace 29 = .ok (.ireturn, 1) := by decide +kernel
theorem dX1_isLoad_0 : decode cX1_isLoad 0 = .ok (.iload_n 0, 1) := by decide +kernel
theorem dX1_isLoad_1 : decode cX1_isLoad 1 = .ok (.iconst 1, 1) := by decide +kernel
theorem dX1_isLoad_2 : decode cX1_isLoad 2 = .ok (.sipush 999, 3) := by decide +kernel
theorem dX1_isLoad_5 : decode cX1_isLoad 5 = .ok (.invokestatic 41, 3) := by decide +kernel
theorem dX1_isLoad_8 : decode cX1_isLoad 8 = .ok (.ireturn, 1) := by decide +kernel
theorem dX1_kindAt_0 : decode cX1_kindAt 0 = .ok (.iload_n 0, 1) := by decide +kernel
theorem dX1_kindAt_1 : decode cX1_kindAt 1 = .ok (.ifCond .ne 7, 3) := by decide +kernel
theorem dX1_kindAt_4 : decode cX1_kindAt 4 = .ok (.iconst 1, 1) := by decide +kernel
theorem dX1_kindAt_5 : decode cX1_kindAt 5 = .ok (.goto 4, 3) := by decide +kernel
theorem dX1_kindAt_8 : decode cX1_kindAt 8 = .ok (.iconst 0, 1) := by decide +kernel
theorem dX1_kindAt_9 : decode cX1_kindAt 9 = .ok (.ireturn, 1) := by decide +kernel
theorem dX1_goes_0 : decode cX1_goes 0 = .ok (.aload_n 0, 1) := by decide +kernel
theorem dX1_goes_1 : decode cX1_goes 1 = .ok (.getfield 19, 3) := by decide +kernel
theorem dX1_goes_4 : decode cX1_goes 4 = .ok (.iload_n 1, 1) := by decide +kernel
theorem dX1_goes_5 : decode cX1_goes 5 = .ok (.iaload, 1) := by decide +kernel
theorem dX1_goes_6 : decode cX1_goes 6 = .ok (.ifCond .le 17, 3) := by decide +kernel
theorem dX1_goes_9 : decode cX1_goes 9 = .ok (.aload_n 0, 1) := by decide +kernel
theorem dX1_goes_10 : decode cX1_goes 10 = .ok (.getfield 19, 3) := by decide +kernel
theorem dX1_goes_13 : decode cX1_goes 13 = .ok (.iload_n 1, 1) := by decide +kernel
theorem dX1_goes_14 : decode cX1_goes 14 = .ok (.iaload, 1) := by decide +kernel
theorem dX1_goes_15 : decode cX1_goes 15 = .ok (.iload_n 2, 1) := by decide +kernel
theorem dX1_goes_16 : decode cX1_goes 16 = .ok (.if_icmp .gt 7, 3) := by decide +kernel
theorem dX1_goes_19 : decode cX1_goes 19 = .ok (.iconst 1, 1) := by decide +kernel
theorem dX1_goes_20 : decode cX1_goes 20 = .ok (.goto 4, 3) := by decide +kernel
theorem dX1_goes_23 : decode cX1_goes 23 = .ok (.iconst 0, 1) := by decide +kernel
theorem dX1_goes_24 : decode cX1_goes 24 = .ok (.ireturn, 1) := by decide +kernel
theorem dX1_form_0 : decode cX1_form 0 = .ok (.iload_n 1, 1) := by decide +kernel
theorem dX1_form_1 : decode cX1_form 1 = .ok (.istore_n 3, 1) := by decide +kernel
theorem dX1_form_2 : decode cX1_form 2 = .ok (.iload_n 3, 1) := by decide +kernel
theorem dX1_form_3 : decode cX1_form 3 = .ok (.iconst (-1), 1) := by decide +kernel
theorem dX1_form_4 : decode cX1_form 4 = .ok (.if_icmp .eq 22, 3) := by decide +kernel
theorem dX1_form_7 : decode cX1_form 7 = .ok (.aload_n 0, 1) := by decide +kernel
theorem dX1_form_8 : decode cX1_form 8 = .ok (.iload_n 3, 1) := by decide +kernel
theorem dX1_form_9 : decode cX1_form 9 = .ok (.iload_n 2, 1) := by decide +kernel
theorem dX1_form_10 : decode cX1_form 10 = .ok (.invokevirtual 52, 3) := by decide +kernel
theorem dX1_form_13 : decode cX1_form 13 = .ok (.ifCond .eq 13, 3) := by decide +kernel
theorem dX1_form_16 : decode cX1_form 16 = .ok (.aload_n 0, 1) := by decide +kernel
theorem dX1_form_17 : decode cX1_form 17 = .ok (.getfield 22, 3) := by decide +kernel
theorem dX1_form_20 : decode cX1_form 20 = .ok (.iload_n 3, 1) := by decide +kernel
theorem dX1_form_21 : decode cX1_form 21 = .ok (.iaload, 1) := by decide +kernel
theorem dX1_form_22 : decode cX1_form 22 = .ok (.istore_n 3, 1) := by decide +kernel
theorem dX1_form_23 : decode cX1_form 23 = .ok (.goto (-21), 3) := by decide +kernel
theorem dX1_form_26 : decode cX1_form 26 = .ok (.iload_n 3, 1) := by decide +kernel
theorem dX1_form_27 : decode cX1_form 27 = .ok (.ireturn, 1) := by decide +kernel
theorem dX1_often_0 : decode cX1_often 0 = .ok (.iconst 0, 1) := by decide +kernel
theorem dX1_often_1 : decode cX1_often 1 = .ok (.istore_n 3, 1) := by decide +kernel
theorem dX1_often_2 : decode cX1_often 2 = .ok (.iload_n 1, 1) := by decide +kernel
theorem dX1_often_3 : decode cX1_often 3 = .ok (.istore 4, 2) := by decide +kernel
theorem dX1_often_5 : decode cX1_often 5 = .ok (.iload 4, 2) := by decide +kernel
theorem dX1_often_7 : decode cX1_often 7 = .ok (.iconst (-1), 1) := by decide +kernel
theorem dX1_often_8 : decode cX1_often 8 = .ok (.if_icmp .eq 28, 3) := by decide +kernel
theorem dX1_often_11 : decode cX1_often 11 = .ok (.aload_n 0, 1) := by decide +kernel
theorem dX1_often_12 : decode cX1_often 12 = .ok (.iload 4, 2) := by decide +kernel
theorem dX1_often_14 : decode cX1_often 14 = .ok (.iload_n 2, 1) := by decide +kernel
theorem dX1_often_15 : decode cX1_often 15 = .ok (.invokevirtual 52, 3) := by decide +kernel
theorem dX1_often_18 : decode cX1_often 18 = .ok (.ifCond .eq 18, 3) := by decide +kernel
theorem dX1_often_21 : decode cX1_often 21 = .ok (.iinc 3 1, 3) := by decide +kernel
theorem dX1_often_24 : decode cX1_often 24 = .ok (.aload_n 0, 1) := by decide +kernel
theorem dX1_often_25 : decode cX1_often 25 = .ok (.getfield 22, 3) := by decide +kernel
theorem dX1_often_28 : decode cX1_often 28 = .ok (.iload 4, 2) := by decide +kernel
theorem dX1_often_30 : decode cX1_often 30 = .ok (.iaload, 1) := by decide +kernel
theorem dX1_often_31 : decode cX1_often 31 = .ok (.istore 4, 2) := by decide +kernel
theorem dX1_often_33 : decode cX1_often 33 = .ok (.goto (-28), 3) := by decide +kernel
theorem dX1_often_36 : decode cX1_often 36 = .ok (.iload_n 3, 1) := by decide +kernel
theorem dX1_often_37 : decode cX1_often 37 = .ok (.ireturn, 1) := by decide +kernel
theorem dX1_apart_0 : decode cX1_apart 0 = .ok (.iconst 0, 1) := by decide +kernel
theorem dX1_apart_1 : decode cX1_apart 1 = .ok (.istore_n 2, 1) := by decide +kernel
theorem dX1_apart_2 : decode cX1_apart 2 = .ok (.iload_n 1, 1) := by decide +kernel
theorem dX1_apart_3 : decode cX1_apart 3 = .ok (.istore_n 3, 1) := by decide +kernel
theorem dX1_apart_4 : decode cX1_apart 4 = .ok (.iload_n 3, 1) := by decide +kernel
theorem dX1_apart_5 : decode cX1_apart 5 = .ok (.iconst (-1), 1) := by decide +kernel
theorem dX1_apart_6 : decode cX1_apart 6 = .ok (.if_icmp .eq 35, 3) := by decide +kernel
theorem dX1_apart_9 : decode cX1_apart 9 = .ok (.aload_n 0, 1) := by decide +kernel
theorem dX1_apart_10 : decode cX1_apart 10 = .ok (.getfield 19, 3) := by decide +kernel
theorem dX1_apart_13 : decode cX1_apart 13 = .ok (.iload_n 3, 1) := by decide +kernel
theorem dX1_apart_14 : decode cX1_apart 14 = .ok (.iaload, 1) := by decide +kernel
theorem dX1_apart_15 : decode cX1_apart 15 = .ok (.ifCond .ne 5, 3) := by decide +kernel
theorem dX1_apart_18 : decode cX1_apart 18 = .ok (.iconst 0, 1) := by decide +kernel
theorem dX1_apart_19 : decode cX1_apart 19 = .ok (.ireturn, 1) := by decide +kernel
theorem dX1_apart_20 : decode cX1_apart 20 = .ok (.iload_n 2, 1) := by decide +kernel
theorem dX1_apart_21 : decode cX1_apart 21 = .ok (.aload_n 0, 1) := by decide +kernel
theorem dX1_apart_22 : decode cX1_apart 22 = .ok (.getfield 19, 3) := by decide +kernel
theorem dX1_apart_25 : decode cX1_apart 25 = .ok (.iload_n 3, 1) := by decide +kernel
theorem dX1_apart_26 : decode cX1_apart 26 = .ok (.iaload, 1) := by decide +kernel
theorem dX1_apart_27 : decode cX1_apart 27 = .ok (.invokestatic 56, 3) := by decide +kernel
theorem dX1_apart_30 : decode cX1_apart 30 = .ok (.istore_n 2, 1) := by decide +kernel
theorem dX1_apart_31 : decode cX1_apart 31 = .ok (.aload_n 0, 1) := by decide +kernel
theorem dX1_apart_32 : decode cX1_apart 32 = .ok (.getfield 22, 3) := by decide +kernel
theorem dX1_apart_35 : decode cX1_apart 35 = .ok (.iload_n 3, 1) := by decide +kernel
theorem dX1_apart_36 : decode cX1_apart 36 = .ok (.iaload, 1) := by decide +kernel
theorem dX1_apart_37 : decode cX1_apart 37 = .ok (.istore_n 3, 1) := by decide +kernel
theorem dX1_apart_38 : decode cX1_apart 38 = .ok (.goto (-34), 3) := by decide +kernel
theorem dX1_apart_41 : decode cX1_apart 41 = .ok (.iload_n 2, 1) := by decide +kernel
theorem dX1_apart_42 : decode cX1_apart 42 = .ok (.ireturn, 1) := by decide +kernel
theorem dX1_isAhead_0 : decode cX1_isAhead 0 = .ok (.aload_n 0, 1) := by decide +kernel
theorem dX1_isAhead_1 : decode cX1_isAhead 1 = .ok (.getfield 9, 3) := by decide +kernel
theorem dX1_isAhead_4 : decode cX1_isAhead 4 = .ok (.iload_n 1, 1) := by decide +kernel
theorem dX1_isAhead_5 : decode cX1_isAhead 5 = .ok (.iaload, 1) := by decide +kernel
theorem dX1_isAhead_6 : decode cX1_isAhead 6 = .ok (.aload_n 0, 1) := by decide +kernel
theorem dX1_isAhead_7 : decode cX1_isAhead 7 = .ok (.getfield 9, 3) := by decide +kernel
theorem dX1_isAhead_10 : decode cX1_isAhead 10 = .ok (.iload_n 2, 1) := by decide +kernel
theorem dX1_isAhead_11 : decode cX1_isAhead 11 = .ok (.iaload, 1) := by decide +kernel
theorem dX1_isAhead_12 : decode cX1_isAhead 12 = .ok (.if_icmp .eq 5, 3) := by decide +kernel
theorem dX1_isAhead_15 : decode cX1_isAhead 15 = .ok (.iconst 0, 1) := by decide +kernel
theorem dX1_isAhead_16 : decode cX1_isAhead 16 = .ok (.ireturn, 1) := by decide +kernel
theorem dX1_isAhead_17 : decode cX1_isAhead 17 = .ok (.aload_n 0, 1) := by decide +kernel
theorem dX1_isAhead_18 : decode cX1_isAhead 18 = .ok (.getfield 13, 3) := by decide +kernel
theorem dX1_isAhead_21 : decode cX1_isAhead 21 = .ok (.iload_n 1, 1) := by decide +kernel
theorem dX1_isAhead_22 : decode cX1_isAhead 22 = .ok (.iaload, 1) := by decide +kernel
theorem dX1_isAhead_23 : decode cX1_isAhead 23 = .ok (.aload_n 0, 1) := by decide +kernel
theorem dX1_isAhead_24 : decode cX1_isAhead 24 = .ok (.getfield 13, 3) := by decide +kernel
theorem dX1_isAhead_27 : decode cX1_isAhead 27 = .ok (.iload_n 2, 1) := by decide +kernel
theorem dX1_isAhead_28 : decode cX1_isAhead 28 = .ok (.iaload, 1) := by decide +kernel
theorem dX1_isAhead_29 : decode cX1_isAhead 29 = .ok (.if_icmp .eq 24, 3) := by decide +kernel
theorem dX1_isAhead_32 : decode cX1_isAhead 32 = .ok (.aload_n 0, 1) := by decide +kernel
theorem dX1_isAhead_33 : decode cX1_isAhead 33 = .ok (.getfield 13, 3) := by decide +kernel
theorem dX1_isAhead_36 : decode cX1_isAhead 36 = .ok (.iload_n 1, 1) := by decide +kernel
theorem dX1_isAhead_37 : decode cX1_isAhead 37 = .ok (.iaload, 1) := by decide +kernel
theorem dX1_isAhead_38 : decode cX1_isAhead 38 = .ok (.aload_n 0, 1) := by decide +kernel
theorem dX1_isAhead_39 : decode cX1_isAhead 39 = .ok (.getfield 13, 3) := by decide +kernel
theorem dX1_isAhead_42 : decode cX1_isAhead 42 = .ok (.iload_n 2, 1) := by decide +kernel
theorem dX1_isAhead_43 : decode cX1_isAhead 43 = .ok (.iaload, 1) := by decide +kernel
theorem dX1_isAhead_44 : decode cX1_isAhead 44 = .ok (.if_icmp .le 7, 3) := by decide +kernel
theorem dX1_isAhead_47 : decode cX1_isAhead 47 = .ok (.iconst 1, 1) := by decide +kernel
theorem dX1_isAhead_48 : decode cX1_isAhead 48 = .ok (.goto 4, 3) := by decide +kernel
theorem dX1_isAhead_51 : decode cX1_isAhead 51 = .ok (.iconst 0, 1) := by decide +kernel
theorem dX1_isAhead_52 : decode cX1_isAhead 52 = .ok (.ireturn, 1) := by decide +kernel
theorem dX1_isAhead_53 : decode cX1_isAhead 53 = .ok (.aload_n 0, 1) := by decide +kernel
theorem dX1_isAhead_54 : decode cX1_isAhead 54 = .ok (.getfield 16, 3) := by decide +kernel
theorem dX1_isAhead_57 : decode cX1_isAhead 57 = .ok (.iload_n 1, 1) := by decide +kernel
theorem dX1_isAhead_58 : decode cX1_isAhead 58 = .ok (.iaload, 1) := by decide +kernel
theorem dX1_isAhead_59 : decode cX1_isAhead 59 = .ok (.aload_n 0, 1) := by decide +kernel
theorem dX1_isAhead_60 : decode cX1_isAhead 60 = .ok (.getfield 16, 3) := by decide +kernel
theorem dX1_isAhead_63 : decode cX1_isAhead 63 = .ok (.iload_n 2, 1) := by decide +kernel
theorem dX1_isAhead_64 : decode cX1_isAhead 64 = .ok (.iaload, 1) := by decide +kernel
theorem dX1_isAhead_65 : decode cX1_isAhead 65 = .ok (.if_icmp .lt 23, 3) := by decide +kernel
theorem dX1_isAhead_68 : decode cX1_isAhead 68 = .ok (.aload_n 0, 1) := by decide +kernel
theorem dX1_isAhead_69 : decode cX1_isAhead 69 = .ok (.getfield 16, 3) := by decide +kernel
theorem dX1_isAhead_72 : decode cX1_isAhead 72 = .ok (.iload_n 1, 1) := by decide +kernel
theorem dX1_isAhead_73 : decode cX1_isAhead 73 = .ok (.iaload, 1) := by decide +kernel
theorem dX1_isAhead_74 : decode cX1_isAhead 74 = .ok (.aload_n 0, 1) := by decide +kernel
theorem dX1_isAhead_75 : decode cX1_isAhead 75 = .ok (.getfield 16, 3) := by decide +kernel
theorem dX1_isAhead_78 : decode cX1_isAhead 78 = .ok (.iload_n 2, 1) := by decide +kernel
theorem dX1_isAhead_79 : decode cX1_isAhead 79 = .ok (.iaload, 1) := by decide +kernel
theorem dX1_isAhead_80 : decode cX1_isAhead 80 = .ok (.if_icmp .ne 12, 3) := by decide +kernel
theorem dX1_isAhead_83 : decode cX1_isAhead 83 = .ok (.iload_n 1, 1) := by decide +kernel
theorem dX1_isAhead_84 : decode cX1_isAhead 84 = .ok (.iload_n 2, 1) := by decide +kernel
theorem dX1_isAhead_85 : decode cX1_isAhead 85 = .ok (.if_icmp .ge 7, 3) := by decide +kernel
theorem dX1_isAhead_88 : decode cX1_isAhead 88 = .ok (.iconst 1, 1) := by decide +kernel
theorem dX1_isAhead_89 : decode cX1_isAhead 89 = .ok (.goto 4, 3) := by decide +kernel
theorem dX1_isAhead_92 : decode cX1_isAhead 92 = .ok (.iconst 0, 1) := by decide +kernel
theorem dX1_isAhead_93 : decode cX1_isAhead 93 = .ok (.ireturn, 1) := by decide +kernel
theorem dX1_rank_0 : decode cX1_rank 0 = .ok (.iconst 0, 1) := by decide +kernel
theorem dX1_rank_1 : decode cX1_rank 1 = .ok (.istore_n 2, 1) := by decide +kernel
theorem dX1_rank_2 : decode cX1_rank 2 = .ok (.iconst 0, 1) := by decide +kernel
theorem dX1_rank_3 : decode cX1_rank 3 = .ok (.istore_n 3, 1) := by decide +kernel
theorem dX1_rank_4 : decode cX1_rank 4 = .ok (.iload_n 3, 1) := by decide +kernel
theorem dX1_rank_5 : decode cX1_rank 5 = .ok (.aload_n 0, 1) := by decide +kernel
theorem dX1_rank_6 : decode cX1_rank 6 = .ok (.getfield 38, 3) := by decide +kernel
theorem dX1_rank_9 : decode cX1_rank 9 = .ok (.if_icmp .ge 26, 3) := by decide +kernel
theorem dX1_rank_12 : decode cX1_rank 12 = .ok (.iload_n 2, 1) := by decide +kernel
theorem dX1_rank_13 : decode cX1_rank 13 = .ok (.aload_n 0, 1) := by decide +kernel
theorem dX1_rank_14 : decode cX1_rank 14 = .ok (.iload_n 3, 1) := by decide +kernel
theorem dX1_rank_15 : decode cX1_rank 15 = .ok (.iload_n 1, 1) := by decide +kernel
theorem dX1_rank_16 : decode cX1_rank 16 = .ok (.invokevirtual 62, 3) := by decide +kernel
theorem dX1_rank_19 : decode cX1_rank 19 = .ok (.ifCond .eq 7, 3) := by decide +kernel
theorem dX1_rank_22 : decode cX1_rank 22 = .ok (.iconst 1, 1) := by decide +kernel
theorem dX1_rank_23 : decode cX1_rank 23 = .ok (.goto 4, 3) := by decide +kernel
theorem dX1_rank_26 : decode cX1_rank 26 = .ok (.iconst 0, 1) := by decide +kernel
theorem dX1_rank_27 : decode cX1_rank 27 = .ok (.iadd, 1) := by decide +kernel
theorem dX1_rank_28 : decode cX1_rank 28 = .ok (.istore_n 2, 1) := by decide +kernel
theorem dX1_rank_29 : decode cX1_rank 29 = .ok (.iinc 3 1, 3) := by decide +kernel
theorem dX1_rank_32 : decode cX1_rank 32 = .ok (.goto (-28), 3) := by decide +kernel
theorem dX1_rank_35 : decode cX1_rank 35 = .ok (.iload_n 2, 1) := by decide +kernel
theorem dX1_rank_36 : decode cX1_rank 36 = .ok (.ireturn, 1) := by decide +kernel
theorem dX1_strength_0 : decode cX1_strength 0 = .ok (.aload_n 0, 1) := by decide +kernel
theorem dX1_strength_1 : decode cX1_strength 1 = .ok (.getfield 28, 3) := by decide +kernel
theorem dX1_strength_4 : decode cX1_strength 4 = .ok (.iconst 5, 1) := by decide +kernel
theorem dX1_strength_5 : decode cX1_strength 5 = .ok (.iload_n 1, 1) := by decide +kernel
theorem dX1_strength_6 : decode cX1_strength 6 = .ok (.imul, 1) := by decide +kernel
theorem dX1_strength_7 : decode cX1_strength 7 = .ok (.iload_n 2, 1) := by decide +kernel
theorem dX1_strength_8 : decode cX1_strength 8 = .ok (.iadd, 1) := by decide +kernel
theorem dX1_strength_9 : decode cX1_strength 9 = .ok (.iaload, 1) := by decide +kernel
theorem dX1_strength_10 : decode cX1_strength 10 = .ok (.istore 4, 2) := by decide +kernel
theorem dX1_strength_12 : decode cX1_strength 12 = .ok (.iload_n 2, 1) := by decide +kernel
theorem dX1_strength_13 : decode cX1_strength 13 = .ok (.ifCond .le 22, 3) := by decide +kernel
theorem dX1_strength_16 : decode cX1_strength 16 = .ok (.iload 4, 2) := by decide +kernel
theorem dX1_strength_18 : decode cX1_strength 18 = .ok (.aload_n 0, 1) := by decide +kernel
theorem dX1_strength_19 : decode cX1_strength 19 = .ok (.getfield 28, 3) := by decide +kernel
theorem dX1_strength_22 : decode cX1_strength 22 = .ok (.iconst 5, 1) := by decide +kernel
theorem dX1_strength_23 : decode cX1_strength 23 = .ok (.iload_n 1, 1) := by decide +kernel
theorem dX1_strength_24 : decode cX1_strength 24 = .ok (.imul, 1) := by decide +kernel
theorem dX1_strength_25 : decode cX1_strength 25 = .ok (.iload_n 2, 1) := by decide +kernel
theorem dX1_strength_26 : decode cX1_strength 26 = .ok (.iadd, 1) := by decide +kernel
theorem dX1_strength_27 : decode cX1_strength 27 = .ok (.iconst 1, 1) := by decide +kernel
theorem dX1_strength_28 : decode cX1_strength 28 = .ok (.isub, 1) := by decide +kernel
theorem dX1_strength_29 : decode cX1_strength 29 = .ok (.iaload, 1) := by decide +kernel
theorem dX1_strength_30 : decode cX1_strength 30 = .ok (.invokestatic 65, 3) := by decide +kernel
theorem dX1_strength_33 : decode cX1_strength 33 = .ok (.istore 4, 2) := by decide +kernel
theorem dX1_strength_35 : decode cX1_strength 35 = .ok (.iload 4, 2) := by decide +kernel
theorem dX1_strength_37 : decode cX1_strength 37 = .ok (.aload_n 0, 1) := by decide +kernel
theorem dX1_strength_38 : decode cX1_strength 38 = .ok (.getfield 13, 3) := by decide +kernel
theorem dX1_strength_41 : decode cX1_strength 41 = .ok (.iload_n 3, 1) := by decide +kernel
theorem dX1_strength_42 : decode cX1_strength 42 = .ok (.iaload, 1) := by decide +kernel
theorem dX1_strength_43 : decode cX1_strength 43 = .ok (.imul, 1) := by decide +kernel
theorem dX1_strength_44 : decode cX1_strength 44 = .ok (.bipush 100, 2) := by decide +kernel
theorem dX1_strength_46 : decode cX1_strength 46 = .ok (.idiv, 1) := by decide +kernel
theorem dX1_strength_47 : decode cX1_strength 47 = .ok (.ireturn, 1) := by decide +kernel
theorem dX1_placeHolds_0 : decode cX1_placeHolds 0 = .ok (.aload_n 0, 1) := by decide +kernel
theorem dX1_placeHolds_1 : decode cX1_placeHolds 1 = .ok (.aload_n 0, 1) := by decide +kernel
theorem dX1_placeHolds_2 : decode cX1_placeHolds 2 = .ok (.getfield 31, 3) := by decide +kernel
theorem dX1_placeHolds_5 : decode cX1_placeHolds 5 = .ok (.iconst 5, 1) := by decide +kernel
theorem dX1_placeHolds_6 : decode cX1_placeHolds 6 = .ok (.iload_n 1, 1) := by decide +kernel
theorem dX1_placeHolds_7 : decode cX1_placeHolds 7 = .ok (.imul, 1) := by decide +kernel
theorem dX1_placeHolds_8 : decode cX1_placeHolds 8 = .ok (.iload_n 2, 1) := by decide +kernel
theorem dX1_placeHolds_9 : decode cX1_placeHolds 9 = .ok (.iadd, 1) := by decide +kernel
theorem dX1_placeHolds_10 : decode cX1_placeHolds 10 = .ok (.iaload, 1) := by decide +kernel
theorem dX1_placeHolds_11 : decode cX1_placeHolds 11 = .ok (.iload_n 3, 1) := by decide +kernel
theorem dX1_placeHolds_12 : decode cX1_placeHolds 12 = .ok (.invokevirtual 68, 3) := by decide +kernel
theorem dX1_placeHolds_15 : decode cX1_placeHolds 15 = .ok (.istore 4, 2) := by decide +kernel
theorem dX1_placeHolds_17 : decode cX1_placeHolds 17 = .ok (.iload 4, 2) := by decide +kernel
theorem dX1_placeHolds_19 : decode cX1_placeHolds 19 = .ok (.iconst (-1), 1) := by decide +kernel
theorem dX1_placeHolds_20 : decode cX1_placeHolds 20 = .ok (.if_icmp .eq 19, 3) := by decide +kernel
theorem dX1_placeHolds_23 : decode cX1_placeHolds 23 = .ok (.aload_n 0, 1) := by decide +kernel
theorem dX1_placeHolds_24 : decode cX1_placeHolds 24 = .ok (.iload_n 1, 1) := by decide +kernel
theorem dX1_placeHolds_25 : decode cX1_placeHolds 25 = .ok (.iload_n 2, 1) := by decide +kernel
theorem dX1_placeHolds_26 : decode cX1_placeHolds 26 = .ok (.iload 4, 2) := by decide +kernel
theorem dX1_placeHolds_28 : decode cX1_placeHolds 28 = .ok (.invokevirtual 71, 3) := by decide +kernel
theorem dX1_placeHolds_31 : decode cX1_placeHolds 31 = .ok (.iload_n 3, 1) := by decide +kernel
theorem dX1_placeHolds_32 : decode cX1_placeHolds 32 = .ok (.if_icmp .lt 7, 3) := by decide +kernel
theorem dX1_placeHolds_35 : decode cX1_placeHolds 35 = .ok (.iconst 1, 1) := by decide +kernel
theorem dX1_placeHolds_36 : decode cX1_placeHolds 36 = .ok (.goto 4, 3) := by decide +kernel
theorem dX1_placeHolds_39 : decode cX1_placeHolds 39 = .ok (.iconst 0, 1) := by decide +kernel
theorem dX1_placeHolds_40 : decode cX1_placeHolds 40 = .ok (.ireturn, 1) := by decide +kernel
theorem dX1_giving_0 : decode cX1_giving 0 = .ok (.iconst 0, 1) := by decide +kernel
theorem dX1_giving_1 : decode cX1_giving 1 = .ok (.istore_n 3, 1) := by decide +kernel
theorem dX1_giving_2 : decode cX1_giving 2 = .ok (.iload_n 3, 1) := by decide +kernel
theorem dX1_giving_3 : decode cX1_giving 3 = .ok (.aload_n 0, 1) := by decide +kernel
theorem dX1_giving_4 : decode cX1_giving 4 = .ok (.getfield 25, 3) := by decide +kernel
theorem dX1_giving_7 : decode cX1_giving 7 = .ok (.iload_n 1, 1) := by decide +kernel
theorem dX1_giving_8 : decode cX1_giving 8 = .ok (.iaload, 1) := by decide +kernel
theorem dX1_giving_9 : decode cX1_giving 9 = .ok (.if_icmp .ge 21, 3) := by decide +kernel
theorem dX1_giving_12 : decode cX1_giving 12 = .ok (.aload_n 0, 1) := by decide +kernel
theorem dX1_giving_13 : decode cX1_giving 13 = .ok (.iload_n 1, 1) := by decide +kernel
theorem dX1_giving_14 : decode cX1_giving 14 = .ok (.iload_n 3, 1) := by decide +kernel
theorem dX1_giving_15 : decode cX1_giving 15 = .ok (.iload_n 2, 1) := by decide +kernel
theorem dX1_giving_16 : decode cX1_giving 16 = .ok (.invokevirtual 75, 3) := by decide +kernel
theorem dX1_giving_19 : decode cX1_giving 19 = .ok (.ifCond .ne 5, 3) := by decide +kernel
theorem dX1_giving_22 : decode cX1_giving 22 = .ok (.iload_n 3, 1) := by decide +kernel
theorem dX1_giving_23 : decode cX1_giving 23 = .ok (.ireturn, 1) := by decide +kernel
theorem dX1_giving_24 : decode cX1_giving 24 = .ok (.iinc 3 1, 3) := by decide +kernel
theorem dX1_giving_27 : decode cX1_giving 27 = .ok (.goto (-25), 3) := by decide +kernel
theorem dX1_giving_30 : decode cX1_giving 30 = .ok (.iconst (-1), 1) := by decide +kernel
theorem dX1_giving_31 : decode cX1_giving 31 = .ok (.ireturn, 1) := by decide +kernel
theorem dX1_placeUpTo_0 : decode cX1_placeUpTo 0 = .ok (.iconst 0, 1) := by decide +kernel
theorem dX1_placeUpTo_1 : decode cX1_placeUpTo 1 = .ok (.istore_n 3, 1) := by decide +kernel
theorem dX1_placeUpTo_2 : decode cX1_placeUpTo 2 = .ok (.aload_n 0, 1) := by decide +kernel
theorem dX1_placeUpTo_3 : decode cX1_placeUpTo 3 = .ok (.getfield 31, 3) := by decide +kernel
theorem dX1_placeUpTo_6 : decode cX1_placeUpTo 6 = .ok (.iconst 5, 1) := by decide +kernel
theorem dX1_placeUpTo_7 : decode cX1_placeUpTo 7 = .ok (.iload_n 1, 1) := by decide +kernel
theorem dX1_placeUpTo_8 : decode cX1_placeUpTo 8 = .ok (.imul, 1) := by decide +kernel
theorem dX1_placeUpTo_9 : decode cX1_placeUpTo 9 = .ok (.iload_n 2, 1) := by decide +kernel
theorem dX1_placeUpTo_10 : decode cX1_placeUpTo 10 = .ok (.iadd, 1) := by decide +kernel
theorem dX1_placeUpTo_11 : decode cX1_placeUpTo 11 = .ok (.iaload, 1) := by decide +kernel
theorem dX1_placeUpTo_12 : decode cX1_placeUpTo 12 = .ok (.istore 4, 2) := by decide +kernel
theorem dX1_placeUpTo_14 : decode cX1_placeUpTo 14 = .ok (.iload 4, 2) := by decide +kernel
theorem dX1_placeUpTo_16 : decode cX1_placeUpTo 16 = .ok (.iconst (-1), 1) := by decide +kernel
theorem dX1_placeUpTo_17 : decode cX1_placeUpTo 17 = .ok (.if_icmp .eq 90, 3) := by decide +kernel
theorem dX1_placeUpTo_20 : decode cX1_placeUpTo 20 = .ok (.aload_n 0, 1) := by decide +kernel
theorem dX1_placeUpTo_21 : decode cX1_placeUpTo 21 = .ok (.getfield 19, 3) := by decide +kernel
theorem dX1_placeUpTo_24 : decode cX1_placeUpTo 24 = .ok (.iload 4, 2) := by decide +kernel
theorem dX1_placeUpTo_26 : decode cX1_placeUpTo 26 = .ok (.iaload, 1) := by decide +kernel
theorem dX1_placeUpTo_27 : decode cX1_placeUpTo 27 = .ok (.ifCond .ne 9, 3) := by decide +kernel
theorem dX1_placeUpTo_30 : decode cX1_placeUpTo 30 = .ok (.sipush 999, 3) := by decide +kernel
theorem dX1_placeUpTo_33 : decode cX1_placeUpTo 33 = .ok (.goto 12, 3) := by decide +kernel
theorem dX1_placeUpTo_36 : decode cX1_placeUpTo 36 = .ok (.aload_n 0, 1) := by decide +kernel
theorem dX1_placeUpTo_37 : decode cX1_placeUpTo 37 = .ok (.getfield 19, 3) := by decide +kernel
theorem dX1_placeUpTo_40 : decode cX1_placeUpTo 40 = .ok (.iload 4, 2) := by decide +kernel
theorem dX1_placeUpTo_42 : decode cX1_placeUpTo 42 = .ok (.iaload, 1) := by decide +kernel
theorem dX1_placeUpTo_43 : decode cX1_placeUpTo 43 = .ok (.iconst 1, 1) := by decide +kernel
theorem dX1_placeUpTo_44 : decode cX1_placeUpTo 44 = .ok (.isub, 1) := by decide +kernel
theorem dX1_placeUpTo_45 : decode cX1_placeUpTo 45 = .ok (.istore 5, 2) := by decide +kernel
theorem dX1_placeUpTo_47 : decode cX1_placeUpTo 47 = .ok (.iload 5, 2) := by decide +kernel
theorem dX1_placeUpTo_49 : decode cX1_placeUpTo 49 = .ok (.iload_n 3, 1) := by decide +kernel
theorem dX1_placeUpTo_50 : decode cX1_placeUpTo 50 = .ok (.if_icmp .gt 6, 3) := by decide +kernel
theorem dX1_placeUpTo_53 : decode cX1_placeUpTo 53 = .ok (.goto 42, 3) := by decide +kernel
theorem dX1_placeUpTo_56 : decode cX1_placeUpTo 56 = .ok (.aload_n 0, 1) := by decide +kernel
theorem dX1_placeUpTo_57 : decode cX1_placeUpTo 57 = .ok (.iload_n 1, 1) := by decide +kernel
theorem dX1_placeUpTo_58 : decode cX1_placeUpTo 58 = .ok (.iload_n 2, 1) := by decide +kernel
theorem dX1_placeUpTo_59 : decode cX1_placeUpTo 59 = .ok (.iload 4, 2) := by decide +kernel
theorem dX1_placeUpTo_61 : decode cX1_placeUpTo 61 = .ok (.invokevirtual 71, 3) := by decide +kernel
theorem dX1_placeUpTo_64 : decode cX1_placeUpTo 64 = .ok (.istore 6, 2) := by decide +kernel
theorem dX1_placeUpTo_66 : decode cX1_placeUpTo 66 = .ok (.iload 6, 2) := by decide +kernel
theorem dX1_placeUpTo_68 : decode cX1_placeUpTo 68 = .ok (.iload 5, 2) := by decide +kernel
theorem dX1_placeUpTo_70 : decode cX1_placeUpTo 70 = .ok (.if_icmp .ge 10, 3) := by decide +kernel
theorem dX1_placeUpTo_73 : decode cX1_placeUpTo 73 = .ok (.iload_n 3, 1) := by decide +kernel
theorem dX1_placeUpTo_74 : decode cX1_placeUpTo 74 = .ok (.iload 6, 2) := by decide +kernel
theorem dX1_placeUpTo_76 : decode cX1_placeUpTo 76 = .ok (.invokestatic 56, 3) := by decide +kernel
theorem dX1_placeUpTo_79 : decode cX1_placeUpTo 79 = .ok (.ireturn, 1) := by decide +kernel
theorem dX1_placeUpTo_80 : decode cX1_placeUpTo 80 = .ok (.iload 5, 2) := by decide +kernel
theorem dX1_placeUpTo_82 : decode cX1_placeUpTo 82 = .ok (.istore_n 3, 1) := by decide +kernel
theorem dX1_placeUpTo_83 : decode cX1_placeUpTo 83 = .ok (.iload 5, 2) := by decide +kernel
theorem dX1_placeUpTo_85 : decode cX1_placeUpTo 85 = .ok (.sipush 999, 3) := by decide +kernel
theorem dX1_placeUpTo_88 : decode cX1_placeUpTo 88 = .ok (.if_icmp .ne 7, 3) := by decide +kernel
theorem dX1_placeUpTo_91 : decode cX1_placeUpTo 91 = .ok (.sipush 999, 3) := by decide +kernel
theorem dX1_placeUpTo_94 : decode cX1_placeUpTo 94 = .ok (.ireturn, 1) := by decide +kernel
theorem dX1_placeUpTo_95 : decode cX1_placeUpTo 95 = .ok (.aload_n 0, 1) := by decide +kernel
theorem dX1_placeUpTo_96 : decode cX1_placeUpTo 96 = .ok (.getfield 22, 3) := by decide +kernel
theorem dX1_placeUpTo_99 : decode cX1_placeUpTo 99 = .ok (.iload 4, 2) := by decide +kernel
theorem dX1_placeUpTo_101 : decode cX1_placeUpTo 101 = .ok (.iaload, 1) := by decide +kernel
theorem dX1_placeUpTo_102 : decode cX1_placeUpTo 102 = .ok (.istore 4, 2) := by decide +kernel
theorem dX1_placeUpTo_104 : decode cX1_placeUpTo 104 = .ok (.goto (-90), 3) := by decide +kernel
theorem dX1_placeUpTo_107 : decode cX1_placeUpTo 107 = .ok (.iload_n 3, 1) := by decide +kernel
theorem dX1_placeUpTo_108 : decode cX1_placeUpTo 108 = .ok (.ireturn, 1) := by decide +kernel
theorem dX1_upTo_0 : decode cX1_upTo 0 = .ok (.aload_n 0, 1) := by decide +kernel
theorem dX1_upTo_1 : decode cX1_upTo 1 = .ok (.getfield 25, 3) := by decide +kernel
theorem dX1_upTo_4 : decode cX1_upTo 4 = .ok (.iload_n 1, 1) := by decide +kernel
theorem dX1_upTo_5 : decode cX1_upTo 5 = .ok (.iaload, 1) := by decide +kernel
theorem dX1_upTo_6 : decode cX1_upTo 6 = .ok (.ifCond .ne 7, 3) := by decide +kernel
theorem dX1_upTo_9 : decode cX1_upTo 9 = .ok (.iconst 0, 1) := by decide +kernel
theorem dX1_upTo_10 : decode cX1_upTo 10 = .ok (.goto 6, 3) := by decide +kernel
theorem dX1_upTo_13 : decode cX1_upTo 13 = .ok (.sipush 999, 3) := by decide +kernel
theorem dX1_upTo_16 : decode cX1_upTo 16 = .ok (.istore_n 2, 1) := by decide +kernel
theorem dX1_upTo_17 : decode cX1_upTo 17 = .ok (.iconst 0, 1) := by decide +kernel
theorem dX1_upTo_18 : decode cX1_upTo 18 = .ok (.istore_n 3, 1) := by decide +kernel
theorem dX1_upTo_19 : decode cX1_upTo 19 = .ok (.iload_n 3, 1) := by decide +kernel
theorem dX1_upTo_20 : decode cX1_upTo 20 = .ok (.aload_n 0, 1) := by decide +kernel
theorem dX1_upTo_21 : decode cX1_upTo 21 = .ok (.getfield 25, 3) := by decide +kernel
theorem dX1_upTo_24 : decode cX1_upTo 24 = .ok (.iload_n 1, 1) := by decide +kernel
theorem dX1_upTo_25 : decode cX1_upTo 25 = .ok (.iaload, 1) := by decide +kernel
theorem dX1_upTo_26 : decode cX1_upTo 26 = .ok (.if_icmp .ge 20, 3) := by decide +kernel
theorem dX1_upTo_29 : decode cX1_upTo 29 = .ok (.iload_n 2, 1) := by decide +kernel
theorem dX1_upTo_30 : decode cX1_upTo 30 = .ok (.aload_n 0, 1) := by decide +kernel
theorem dX1_upTo_31 : decode cX1_upTo 31 = .ok (.iload_n 1, 1) := by decide +kernel
theorem dX1_upTo_32 : decode cX1_upTo 32 = .ok (.iload_n 3, 1) := by decide +kernel
theorem dX1_upTo_33 : decode cX1_upTo 33 = .ok (.invokevirtual 78, 3) := by decide +kernel
theorem dX1_upTo_36 : decode cX1_upTo 36 = .ok (.invokestatic 65, 3) := by decide +kernel
theorem dX1_upTo_39 : decode cX1_upTo 39 = .ok (.istore_n 2, 1) := by decide +kernel
theorem dX1_upTo_40 : decode cX1_upTo 40 = .ok (.iinc 3 1, 3) := by decide +kernel
theorem dX1_upTo_43 : decode cX1_upTo 43 = .ok (.goto (-24), 3) := by decide +kernel
theorem dX1_upTo_46 : decode cX1_upTo 46 = .ok (.iload_n 2, 1) := by decide +kernel
theorem dX1_upTo_47 : decode cX1_upTo 47 = .ok (.ireturn, 1) := by decide +kernel
theorem dX1_weakest_0 : decode cX1_weakest 0 = .ok (.iconst (-1), 1) := by decide +kernel
theorem dX1_weakest_1 : decode cX1_weakest 1 = .ok (.istore_n 2, 1) := by decide +kernel
theorem dX1_weakest_2 : decode cX1_weakest 2 = .ok (.iconst 0, 1) := by decide +kernel
theorem dX1_weakest_3 : decode cX1_weakest 3 = .ok (.istore_n 3, 1) := by decide +kernel
theorem dX1_weakest_4 : decode cX1_weakest 4 = .ok (.iload_n 3, 1) := by decide +kernel
theorem dX1_weakest_5 : decode cX1_weakest 5 = .ok (.aload_n 0, 1) := by decide +kernel
theorem dX1_weakest_6 : decode cX1_weakest 6 = .ok (.getfield 25, 3) := by decide +kernel
theorem dX1_weakest_9 : decode cX1_weakest 9 = .ok (.iload_n 1, 1) := by decide +kernel
theorem dX1_weakest_10 : decode cX1_weakest 10 = .ok (.iaload, 1) := by decide +kernel
theorem dX1_weakest_11 : decode cX1_weakest 11 = .ok (.if_icmp .ge 31, 3) := by decide +kernel
theorem dX1_weakest_14 : decode cX1_weakest 14 = .ok (.iload_n 2, 1) := by decide +kernel
theorem dX1_weakest_15 : decode cX1_weakest 15 = .ok (.iconst (-1), 1) := by decide +kernel
theorem dX1_weakest_16 : decode cX1_weakest 16 = .ok (.if_icmp .eq 18, 3) := by decide +kernel
theorem dX1_weakest_19 : decode cX1_weakest 19 = .ok (.aload_n 0, 1) := by decide +kernel
theorem dX1_weakest_20 : decode cX1_weakest 20 = .ok (.iload_n 1, 1) := by decide +kernel
theorem dX1_weakest_21 : decode cX1_weakest 21 = .ok (.iload_n 3, 1) := by decide +kernel
theorem dX1_weakest_22 : decode cX1_weakest 22 = .ok (.invokevirtual 81, 3) := by decide +kernel
theorem dX1_weakest_25 : decode cX1_weakest 25 = .ok (.aload_n 0, 1) := by decide +kernel
theorem dX1_weakest_26 : decode cX1_weakest 26 = .ok (.iload_n 1, 1) := by decide +kernel
theorem dX1_weakest_27 : decode cX1_weakest 27 = .ok (.iload_n 2, 1) := by decide +kernel
theorem dX1_weakest_28 : decode cX1_weakest 28 = .ok (.invokevirtual 81, 3) := by decide +kernel
theorem dX1_weakest_31 : decode cX1_weakest 31 = .ok (.if_icmp .ge 5, 3) := by decide +kernel
theorem dX1_weakest_34 : decode cX1_weakest 34 = .ok (.iload_n 3, 1) := by decide +kernel
theorem dX1_weakest_35 : decode cX1_weakest 35 = .ok (.istore_n 2, 1) := by decide +kernel
theorem dX1_weakest_36 : decode cX1_weakest 36 = .ok (.iinc 3 1, 3) := by decide +kernel
theorem dX1_weakest_39 : decode cX1_weakest 39 = .ok (.goto (-35), 3) := by decide +kernel
theorem dX1_weakest_42 : decode cX1_weakest 42 = .ok (.iload_n 2, 1) := by decide +kernel
theorem dX1_weakest_43 : decode cX1_weakest 43 = .ok (.ireturn, 1) := by decide +kernel
theorem dX1_now_0 : decode cX1_now 0 = .ok (.aload_n 0, 1) := by decide +kernel
theorem dX1_now_1 : decode cX1_now 1 = .ok (.iload_n 1, 1) := by decide +kernel
theorem dX1_now_2 : decode cX1_now 2 = .ok (.iload_n 2, 1) := by decide +kernel
theorem dX1_now_3 : decode cX1_now 3 = .ok (.aload_n 0, 1) := by decide +kernel
theorem dX1_now_4 : decode cX1_now 4 = .ok (.getfield 31, 3) := by decide +kernel
theorem dX1_now_7 : decode cX1_now 7 = .ok (.iconst 5, 1) := by decide +kernel
theorem dX1_now_8 : decode cX1_now 8 = .ok (.iload_n 1, 1) := by decide +kernel
theorem dX1_now_9 : decode cX1_now 9 = .ok (.imul, 1) := by decide +kernel
theorem dX1_now_10 : decode cX1_now 10 = .ok (.iload_n 2, 1) := by decide +kernel
theorem dX1_now_11 : decode cX1_now 11 = .ok (.iadd, 1) := by decide +kernel
theorem dX1_now_12 : decode cX1_now 12 = .ok (.iaload, 1) := by decide +kernel
theorem dX1_now_13 : decode cX1_now 13 = .ok (.invokevirtual 71, 3) := by decide +kernel
theorem dX1_now_16 : decode cX1_now 16 = .ok (.ireturn, 1) := by decide +kernel
theorem dX1_strongest_0 : decode cX1_strongest 0 = .ok (.iconst (-1), 1) := by decide +kernel
theorem dX1_strongest_1 : decode cX1_strongest 1 = .ok (.istore_n 1, 1) := by decide +kernel
theorem dX1_strongest_2 : decode cX1_strongest 2 = .ok (.iconst 0, 1) := by decide +kernel
theorem dX1_strongest_3 : decode cX1_strongest 3 = .ok (.istore_n 2, 1) := by decide +kernel
theorem dX1_strongest_4 : decode cX1_strongest 4 = .ok (.iload_n 2, 1) := by decide +kernel
theorem dX1_strongest_5 : decode cX1_strongest 5 = .ok (.aload_n 0, 1) := by decide +kernel
theorem dX1_strongest_6 : decode cX1_strongest 6 = .ok (.getfield 45, 3) := by decide +kernel
theorem dX1_strongest_9 : decode cX1_strongest 9 = .ok (.if_icmp .ge 29, 3) := by decide +kernel
theorem dX1_strongest_12 : decode cX1_strongest 12 = .ok (.iload_n 1, 1) := by decide +kernel
theorem dX1_strongest_13 : decode cX1_strongest 13 = .ok (.iconst (-1), 1) := by decide +kernel
theorem dX1_strongest_14 : decode cX1_strongest 14 = .ok (.if_icmp .eq 16, 3) := by decide +kernel
theorem dX1_strongest_17 : decode cX1_strongest 17 = .ok (.aload_n 0, 1) := by decide +kernel
theorem dX1_strongest_18 : decode cX1_strongest 18 = .ok (.iload_n 2, 1) := by decide +kernel
theorem dX1_strongest_19 : decode cX1_strongest 19 = .ok (.invokevirtual 84, 3) := by decide +kernel
theorem dX1_strongest_22 : decode cX1_strongest 22 = .ok (.aload_n 0, 1) := by decide +kernel
theorem dX1_strongest_23 : decode cX1_strongest 23 = .ok (.iload_n 1, 1) := by decide +kernel
theorem dX1_strongest_24 : decode cX1_strongest 24 = .ok (.invokevirtual 84, 3) := by decide +kernel
theorem dX1_strongest_27 : decode cX1_strongest 27 = .ok (.if_icmp .le 5, 3) := by decide +kernel
theorem dX1_strongest_30 : decode cX1_strongest 30 = .ok (.iload_n 2, 1) := by decide +kernel
theorem dX1_strongest_31 : decode cX1_strongest 31 = .ok (.istore_n 1, 1) := by decide +kernel
theorem dX1_strongest_32 : decode cX1_strongest 32 = .ok (.iinc 2 1, 3) := by decide +kernel
theorem dX1_strongest_35 : decode cX1_strongest 35 = .ok (.goto (-31), 3) := by decide +kernel
theorem dX1_strongest_38 : decode cX1_strongest 38 = .ok (.iload_n 1, 1) := by decide +kernel
theorem dX1_strongest_39 : decode cX1_strongest 39 = .ok (.ireturn, 1) := by decide +kernel
theorem dX1_addKnot_0 : decode cX1_addKnot 0 = .ok (.aload_n 0, 1) := by decide +kernel
theorem dX1_addKnot_1 : decode cX1_addKnot 1 = .ok (.iconst 0, 1) := by decide +kernel
theorem dX1_addKnot_2 : decode cX1_addKnot 2 = .ok (.putfield 34, 3) := by decide +kernel
theorem dX1_addKnot_5 : decode cX1_addKnot 5 = .ok (.iload_n 1, 1) := by decide +kernel
theorem dX1_addKnot_6 : decode cX1_addKnot 6 = .ok (.iconst 0, 1) := by decide +kernel
theorem dX1_addKnot_7 : decode cX1_addKnot 7 = .ok (.iconst 1, 1) := by decide +kernel
theorem dX1_addKnot_8 : decode cX1_addKnot 8 = .ok (.invokestatic 41, 3) := by decide +kernel
theorem dX1_addKnot_11 : decode cX1_addKnot 11 = .ok (.ifCond .ne 9, 3) := by decide +kernel
theorem dX1_addKnot_14 : decode cX1_addKnot 14 = .ok (.aload_n 0, 1) := by decide +kernel
theorem dX1_addKnot_15 : decode cX1_addKnot 15 = .ok (.iconst 1, 1) := by decide +kernel
theorem dX1_addKnot_16 : decode cX1_addKnot 16 = .ok (.invokevirtual 88, 3) := by decide +kernel
theorem dX1_addKnot_19 : decode cX1_addKnot 19 = .ok (.ireturn, 1) := by decide +kernel
theorem dX1_addKnot_20 : decode cX1_addKnot 20 = .ok (.iload_n 2, 1) := by decide +kernel
theorem dX1_addKnot_21 : decode cX1_addKnot 21 = .ok (.bipush 10, 2) := by decide +kernel
theorem dX1_addKnot_23 : decode cX1_addKnot 23 = .ok (.bipush 100, 2) := by decide +kernel
theorem dX1_addKnot_25 : decode cX1_addKnot 25 = .ok (.invokestatic 41, 3) := by decide +kernel
theorem dX1_addKnot_28 : decode cX1_addKnot 28 = .ok (.ifCond .eq 13, 3) := by decide +kernel
theorem dX1_addKnot_31 : decode cX1_addKnot 31 = .ok (.iload_n 3, 1) := by decide +kernel
theorem dX1_addKnot_32 : decode cX1_addKnot 32 = .ok (.iconst 1, 1) := by decide +kernel
theorem dX1_addKnot_33 : decode cX1_addKnot 33 = .ok (.bipush 9, 2) := by decide +kernel
theorem dX1_addKnot_35 : decode cX1_addKnot 35 = .ok (.invokestatic 41, 3) := by decide +kernel
theorem dX1_addKnot_38 : decode cX1_addKnot 38 = .ok (.ifCond .ne 9, 3) := by decide +kernel
theorem dX1_addKnot_41 : decode cX1_addKnot 41 = .ok (.aload_n 0, 1) := by decide +kernel
theorem dX1_addKnot_42 : decode cX1_addKnot 42 = .ok (.iconst 2, 1) := by decide +kernel
theorem dX1_addKnot_43 : decode cX1_addKnot 43 = .ok (.invokevirtual 88, 3) := by decide +kernel
theorem dX1_addKnot_46 : decode cX1_addKnot 46 = .ok (.ireturn, 1) := by decide +kernel
theorem dX1_addKnot_47 : decode cX1_addKnot 47 = .ok (.aload_n 0, 1) := by decide +kernel
theorem dX1_addKnot_48 : decode cX1_addKnot 48 = .ok (.getfield 38, 3) := by decide +kernel
theorem dX1_addKnot_51 : decode cX1_addKnot 51 = .ok (.bipush 16, 2) := by decide +kernel
theorem dX1_addKnot_53 : decode cX1_addKnot 53 = .ok (.if_icmp .ne 9, 3) := by decide +kernel
theorem dX1_addKnot_56 : decode cX1_addKnot 56 = .ok (.aload_n 0, 1) := by decide +kernel
theorem dX1_addKnot_57 : decode cX1_addKnot 57 = .ok (.iconst 3, 1) := by decide +kernel
theorem dX1_addKnot_58 : decode cX1_addKnot 58 = .ok (.invokevirtual 88, 3) := by decide +kernel
theorem dX1_addKnot_61 : decode cX1_addKnot 61 = .ok (.ireturn, 1) := by decide +kernel
theorem dX1_addKnot_62 : decode cX1_addKnot 62 = .ok (.aload_n 0, 1) := by decide +kernel
theorem dX1_addKnot_63 : decode cX1_addKnot 63 = .ok (.getfield 9, 3) := by decide +kernel
theorem dX1_addKnot_66 : decode cX1_addKnot 66 = .ok (.aload_n 0, 1) := by decide +kernel
theorem dX1_addKnot_67 : decode cX1_addKnot 67 = .ok (.getfield 38, 3) := by decide +kernel
theorem dX1_addKnot_70 : decode cX1_addKnot 70 = .ok (.iload_n 1, 1) := by decide +kernel
theorem dX1_addKnot_71 : decode cX1_addKnot 71 = .ok (.iastore, 1) := by decide +kernel
theorem dX1_addKnot_72 : decode cX1_addKnot 72 = .ok (.aload_n 0, 1) := by decide +kernel
theorem dX1_addKnot_73 : decode cX1_addKnot 73 = .ok (.getfield 13, 3) := by decide +kernel
theorem dX1_addKnot_76 : decode cX1_addKnot 76 = .ok (.aload_n 0, 1) := by decide +kernel
theorem dX1_addKnot_77 : decode cX1_addKnot 77 = .ok (.getfield 38, 3) := by decide +kernel
theorem dX1_addKnot_80 : decode cX1_addKnot 80 = .ok (.iload_n 2, 1) := by decide +kernel
theorem dX1_addKnot_81 : decode cX1_addKnot 81 = .ok (.iastore, 1) := by decide +kernel
theorem dX1_addKnot_82 : decode cX1_addKnot 82 = .ok (.aload_n 0, 1) := by decide +kernel
theorem dX1_addKnot_83 : decode cX1_addKnot 83 = .ok (.getfield 16, 3) := by decide +kernel
theorem dX1_addKnot_86 : decode cX1_addKnot 86 = .ok (.aload_n 0, 1) := by decide +kernel
theorem dX1_addKnot_87 : decode cX1_addKnot 87 = .ok (.getfield 38, 3) := by decide +kernel
theorem dX1_addKnot_90 : decode cX1_addKnot 90 = .ok (.iload_n 3, 1) := by decide +kernel
theorem dX1_addKnot_91 : decode cX1_addKnot 91 = .ok (.iastore, 1) := by decide +kernel
theorem dX1_addKnot_92 : decode cX1_addKnot 92 = .ok (.aload_n 0, 1) := by decide +kernel
theorem dX1_addKnot_93 : decode cX1_addKnot 93 = .ok (.getfield 19, 3) := by decide +kernel
theorem dX1_addKnot_96 : decode cX1_addKnot 96 = .ok (.aload_n 0, 1) := by decide +kernel
theorem dX1_addKnot_97 : decode cX1_addKnot 97 = .ok (.getfield 38, 3) := by decide +kernel
theorem dX1_addKnot_100 : decode cX1_addKnot 100 = .ok (.iconst 0, 1) := by decide +kernel
theorem dX1_addKnot_101 : decode cX1_addKnot 101 = .ok (.iastore, 1) := by decide +kernel
theorem dX1_addKnot_102 : decode cX1_addKnot 102 = .ok (.aload_n 0, 1) := by decide +kernel
theorem dX1_addKnot_103 : decode cX1_addKnot 103 = .ok (.getfield 22, 3) := by decide +kernel
theorem dX1_addKnot_106 : decode cX1_addKnot 106 = .ok (.aload_n 0, 1) := by decide +kernel
theorem dX1_addKnot_107 : decode cX1_addKnot 107 = .ok (.getfield 38, 3) := by decide +kernel
theorem dX1_addKnot_110 : decode cX1_addKnot 110 = .ok (.iconst (-1), 1) := by decide +kernel
theorem dX1_addKnot_111 : decode cX1_addKnot 111 = .ok (.iastore, 1) := by decide +kernel
theorem dX1_addKnot_112 : decode cX1_addKnot 112 = .ok (.aload_n 0, 1) := by decide +kernel
theorem dX1_addKnot_113 : decode cX1_addKnot 113 = .ok (.dup, 1) := by decide +kernel
theorem dX1_addKnot_114 : decode cX1_addKnot 114 = .ok (.getfield 38, 3) := by decide +kernel
theorem dX1_addKnot_117 : decode cX1_addKnot 117 = .ok (.iconst 1, 1) := by decide +kernel
theorem dX1_addKnot_118 : decode cX1_addKnot 118 = .ok (.iadd, 1) := by decide +kernel
theorem dX1_addKnot_119 : decode cX1_addKnot 119 = .ok (.putfield 38, 3) := by decide +kernel
theorem dX1_addKnot_122 : decode cX1_addKnot 122 = .ok (.aload_n 0, 1) := by decide +kernel
theorem dX1_addKnot_123 : decode cX1_addKnot 123 = .ok (.getfield 38, 3) := by decide +kernel
theorem dX1_addKnot_126 : decode cX1_addKnot 126 = .ok (.iconst 1, 1) := by decide +kernel
theorem dX1_addKnot_127 : decode cX1_addKnot 127 = .ok (.isub, 1) := by decide +kernel
theorem dX1_addKnot_128 : decode cX1_addKnot 128 = .ok (.ireturn, 1) := by decide +kernel
theorem dX1_setSpill_0 : decode cX1_setSpill 0 = .ok (.aload_n 0, 1) := by decide +kernel
theorem dX1_setSpill_1 : decode cX1_setSpill 1 = .ok (.iconst 0, 1) := by decide +kernel
theorem dX1_setSpill_2 : decode cX1_setSpill 2 = .ok (.putfield 34, 3) := by decide +kernel
theorem dX1_setSpill_5 : decode cX1_setSpill 5 = .ok (.aload_n 0, 1) := by decide +kernel
theorem dX1_setSpill_6 : decode cX1_setSpill 6 = .ok (.iload_n 1, 1) := by decide +kernel
theorem dX1_setSpill_7 : decode cX1_setSpill 7 = .ok (.invokevirtual 91, 3) := by decide +kernel
theorem dX1_setSpill_10 : decode cX1_setSpill 10 = .ok (.ifCond .ne 9, 3) := by decide +kernel
theorem dX1_setSpill_13 : decode cX1_setSpill 13 = .ok (.aload_n 0, 1) := by decide +kernel
theorem dX1_setSpill_14 : decode cX1_setSpill 14 = .ok (.iconst 1, 1) := by decide +kernel
theorem dX1_setSpill_15 : decode cX1_setSpill 15 = .ok (.invokevirtual 88, 3) := by decide +kernel
theorem dX1_setSpill_18 : decode cX1_setSpill 18 = .ok (.ireturn, 1) := by decide +kernel
theorem dX1_setSpill_19 : decode cX1_setSpill 19 = .ok (.iload_n 2, 1) := by decide +kernel
theorem dX1_setSpill_20 : decode cX1_setSpill 20 = .ok (.invokestatic 94, 3) := by decide +kernel
theorem dX1_setSpill_23 : decode cX1_setSpill 23 = .ok (.ifCond .eq 34, 3) := by decide +kernel
theorem dX1_setSpill_26 : decode cX1_setSpill 26 = .ok (.iload_n 3, 1) := by decide +kernel
theorem dX1_setSpill_27 : decode cX1_setSpill 27 = .ok (.iconst (-1), 1) := by decide +kernel
theorem dX1_setSpill_28 : decode cX1_setSpill 28 = .ok (.iload_n 1, 1) := by decide +kernel
theorem dX1_setSpill_29 : decode cX1_setSpill 29 = .ok (.iconst 1, 1) := by decide +kernel
theorem dX1_setSpill_30 : decode cX1_setSpill 30 = .ok (.isub, 1) := by decide +kernel
theorem dX1_setSpill_31 : decode cX1_setSpill 31 = .ok (.invokestatic 41, 3) := by decide +kernel
theorem dX1_setSpill_34 : decode cX1_setSpill 34 = .ok (.ifCond .eq 23, 3) := by decide +kernel
theorem dX1_setSpill_37 : decode cX1_setSpill 37 = .ok (.iload_n 3, 1) := by decide +kernel
theorem dX1_setSpill_38 : decode cX1_setSpill 38 = .ok (.iconst (-1), 1) := by decide +kernel
theorem dX1_setSpill_39 : decode cX1_setSpill 39 = .ok (.if_icmp .eq 24, 3) := by decide +kernel
theorem dX1_setSpill_42 : decode cX1_setSpill 42 = .ok (.aload_n 0, 1) := by decide +kernel
theorem dX1_setSpill_43 : decode cX1_setSpill 43 = .ok (.getfield 9, 3) := by decide +kernel
theorem dX1_setSpill_46 : decode cX1_setSpill 46 = .ok (.iload_n 3, 1) := by decide +kernel
theorem dX1_setSpill_47 : decode cX1_setSpill 47 = .ok (.iaload, 1) := by decide +kernel
theorem dX1_setSpill_48 : decode cX1_setSpill 48 = .ok (.aload_n 0, 1) := by decide +kernel
theorem dX1_setSpill_49 : decode cX1_setSpill 49 = .ok (.getfield 9, 3) := by decide +kernel
theorem dX1_setSpill_52 : decode cX1_setSpill 52 = .ok (.iload_n 1, 1) := by decide +kernel
theorem dX1_setSpill_53 : decode cX1_setSpill 53 = .ok (.iaload, 1) := by decide +kernel
theorem dX1_setSpill_54 : decode cX1_setSpill 54 = .ok (.if_icmp .eq 9, 3) := by decide +kernel
theorem dX1_setSpill_57 : decode cX1_setSpill 57 = .ok (.aload_n 0, 1) := by decide +kernel
theorem dX1_setSpill_58 : decode cX1_setSpill 58 = .ok (.iconst 2, 1) := by decide +kernel
theorem dX1_setSpill_59 : decode cX1_setSpill 59 = .ok (.invokevirtual 88, 3) := by decide +kernel
theorem dX1_setSpill_62 : decode cX1_setSpill 62 = .ok (.ireturn, 1) := by decide +kernel
theorem dX1_setSpill_63 : decode cX1_setSpill 63 = .ok (.aload_n 0, 1) := by decide +kernel
theorem dX1_setSpill_64 : decode cX1_setSpill 64 = .ok (.getfield 19, 3) := by decide +kernel
theorem dX1_setSpill_67 : decode cX1_setSpill 67 = .ok (.iload_n 1, 1) := by decide +kernel
theorem dX1_setSpill_68 : decode cX1_setSpill 68 = .ok (.iaload, 1) := by decide +kernel
theorem dX1_setSpill_69 : decode cX1_setSpill 69 = .ok (.istore 4, 2) := by decide +kernel
theorem dX1_setSpill_71 : decode cX1_setSpill 71 = .ok (.aload_n 0, 1) := by decide +kernel
theorem dX1_setSpill_72 : decode cX1_setSpill 72 = .ok (.getfield 19, 3) := by decide +kernel
theorem dX1_setSpill_75 : decode cX1_setSpill 75 = .ok (.iload_n 1, 1) := by decide +kernel
theorem dX1_setSpill_76 : decode cX1_setSpill 76 = .ok (.iload_n 2, 1) := by decide +kernel
theorem dX1_setSpill_77 : decode cX1_setSpill 77 = .ok (.iastore, 1) := by decide +kernel
theorem dX1_setSpill_78 : decode cX1_setSpill 78 = .ok (.aload_n 0, 1) := by decide +kernel
theorem dX1_setSpill_79 : decode cX1_setSpill 79 = .ok (.getfield 22, 3) := by decide +kernel
theorem dX1_setSpill_82 : decode cX1_setSpill 82 = .ok (.iload_n 1, 1) := by decide +kernel
theorem dX1_setSpill_83 : decode cX1_setSpill 83 = .ok (.iload_n 3, 1) := by decide +kernel
theorem dX1_setSpill_84 : decode cX1_setSpill 84 = .ok (.iastore, 1) := by decide +kernel
theorem dX1_setSpill_85 : decode cX1_setSpill 85 = .ok (.iload 4, 2) := by decide +kernel
theorem dX1_setSpill_87 : decode cX1_setSpill 87 = .ok (.ireturn, 1) := by decide +kernel
theorem dX1_tie_0 : decode cX1_tie 0 = .ok (.aload_n 0, 1) := by decide +kernel
theorem dX1_tie_1 : decode cX1_tie 1 = .ok (.iconst 0, 1) := by decide +kernel
theorem dX1_tie_2 : decode cX1_tie 2 = .ok (.putfield 34, 3) := by decide +kernel
theorem dX1_tie_5 : decode cX1_tie 5 = .ok (.aload_n 0, 1) := by decide +kernel
theorem dX1_tie_6 : decode cX1_tie 6 = .ok (.iload_n 1, 1) := by decide +kernel
theorem dX1_tie_7 : decode cX1_tie 7 = .ok (.invokevirtual 91, 3) := by decide +kernel
theorem dX1_tie_10 : decode cX1_tie 10 = .ok (.ifCond .ne 9, 3) := by decide +kernel
theorem dX1_tie_13 : decode cX1_tie 13 = .ok (.aload_n 0, 1) := by decide +kernel
theorem dX1_tie_14 : decode cX1_tie 14 = .ok (.iconst 1, 1) := by decide +kernel
theorem dX1_tie_15 : decode cX1_tie 15 = .ok (.invokevirtual 88, 3) := by decide +kernel
theorem dX1_tie_18 : decode cX1_tie 18 = .ok (.ireturn, 1) := by decide +kernel
theorem dX1_tie_19 : decode cX1_tie 19 = .ok (.aload_n 0, 1) := by decide +kernel
theorem dX1_tie_20 : decode cX1_tie 20 = .ok (.getfield 9, 3) := by decide +kernel
theorem dX1_tie_23 : decode cX1_tie 23 = .ok (.iload_n 1, 1) := by decide +kernel
theorem dX1_tie_24 : decode cX1_tie 24 = .ok (.iaload, 1) := by decide +kernel
theorem dX1_tie_25 : decode cX1_tie 25 = .ok (.iconst 1, 1) := by decide +kernel
theorem dX1_tie_26 : decode cX1_tie 26 = .ok (.if_icmp .ne 10, 3) := by decide +kernel
theorem dX1_tie_29 : decode cX1_tie 29 = .ok (.iload_n 2, 1) := by decide +kernel
theorem dX1_tie_30 : decode cX1_tie 30 = .ok (.invokestatic 94, 3) := by decide +kernel
theorem dX1_tie_33 : decode cX1_tie 33 = .ok (.ifCond .ne 9, 3) := by decide +kernel
theorem dX1_tie_36 : decode cX1_tie 36 = .ok (.aload_n 0, 1) := by decide +kernel
theorem dX1_tie_37 : decode cX1_tie 37 = .ok (.iconst 2, 1) := by decide +kernel
theorem dX1_tie_38 : decode cX1_tie 38 = .ok (.invokevirtual 88, 3) := by decide +kernel
theorem dX1_tie_41 : decode cX1_tie 41 = .ok (.ireturn, 1) := by decide +kernel
theorem dX1_tie_42 : decode cX1_tie 42 = .ok (.aload_n 0, 1) := by decide +kernel
theorem dX1_tie_43 : decode cX1_tie 43 = .ok (.getfield 45, 3) := by decide +kernel
theorem dX1_tie_46 : decode cX1_tie 46 = .ok (.bipush 6, 2) := by decide +kernel
theorem dX1_tie_48 : decode cX1_tie 48 = .ok (.if_icmp .ne 9, 3) := by decide +kernel
theorem dX1_tie_51 : decode cX1_tie 51 = .ok (.aload_n 0, 1) := by decide +kernel
theorem dX1_tie_52 : decode cX1_tie 52 = .ok (.iconst 3, 1) := by decide +kernel
theorem dX1_tie_53 : decode cX1_tie 53 = .ok (.invokevirtual 88, 3) := by decide +kernel
theorem dX1_tie_56 : decode cX1_tie 56 = .ok (.ireturn, 1) := by decide +kernel
theorem dX1_tie_57 : decode cX1_tie 57 = .ok (.aload_n 0, 1) := by decide +kernel
theorem dX1_tie_58 : decode cX1_tie 58 = .ok (.getfield 25, 3) := by decide +kernel
theorem dX1_tie_61 : decode cX1_tie 61 = .ok (.aload_n 0, 1) := by decide +kernel
theorem dX1_tie_62 : decode cX1_tie 62 = .ok (.getfield 45, 3) := by decide +kernel
theorem dX1_tie_65 : decode cX1_tie 65 = .ok (.iconst 1, 1) := by decide +kernel
theorem dX1_tie_66 : decode cX1_tie 66 = .ok (.iastore, 1) := by decide +kernel
theorem dX1_tie_67 : decode cX1_tie 67 = .ok (.aload_n 0, 1) := by decide +kernel
theorem dX1_tie_68 : decode cX1_tie 68 = .ok (.getfield 28, 3) := by decide +kernel
theorem dX1_tie_71 : decode cX1_tie 71 = .ok (.iconst 5, 1) := by decide +kernel
theorem dX1_tie_72 : decode cX1_tie 72 = .ok (.aload_n 0, 1) := by decide +kernel
theorem dX1_tie_73 : decode cX1_tie 73 = .ok (.getfield 45, 3) := by decide +kernel
theorem dX1_tie_76 : decode cX1_tie 76 = .ok (.imul, 1) := by decide +kernel
theorem dX1_tie_77 : decode cX1_tie 77 = .ok (.iload_n 2, 1) := by decide +kernel
theorem dX1_tie_78 : decode cX1_tie 78 = .ok (.iastore, 1) := by decide +kernel
theorem dX1_tie_79 : decode cX1_tie 79 = .ok (.aload_n 0, 1) := by decide +kernel
theorem dX1_tie_80 : decode cX1_tie 80 = .ok (.getfield 31, 3) := by decide +kernel
theorem dX1_tie_83 : decode cX1_tie 83 = .ok (.iconst 5, 1) := by decide +kernel
theorem dX1_tie_84 : decode cX1_tie 84 = .ok (.aload_n 0, 1) := by decide +kernel
theorem dX1_tie_85 : decode cX1_tie 85 = .ok (.getfield 45, 3) := by decide +kernel
theorem dX1_tie_88 : decode cX1_tie 88 = .ok (.imul, 1) := by decide +kernel
theorem dX1_tie_89 : decode cX1_tie 89 = .ok (.iload_n 1, 1) := by decide +kernel
theorem dX1_tie_90 : decode cX1_tie 90 = .ok (.iastore, 1) := by decide +kernel
theorem dX1_tie_91 : decode cX1_tie 91 = .ok (.aload_n 0, 1) := by decide +kernel
theorem dX1_tie_92 : decode cX1_tie 92 = .ok (.dup, 1) := by decide +kernel
theorem dX1_tie_93 : decode cX1_tie 93 = .ok (.getfield 45, 3) := by decide +kernel
theorem dX1_tie_96 : decode cX1_tie 96 = .ok (.iconst 1, 1) := by decide +kernel
theorem dX1_tie_97 : decode cX1_tie 97 = .ok (.iadd, 1) := by decide +kernel
theorem dX1_tie_98 : decode cX1_tie 98 = .ok (.putfield 45, 3) := by decide +kernel
theorem dX1_tie_101 : decode cX1_tie 101 = .ok (.aload_n 0, 1) := by decide +kernel
theorem dX1_tie_102 : decode cX1_tie 102 = .ok (.getfield 45, 3) := by decide +kernel
theorem dX1_tie_105 : decode cX1_tie 105 = .ok (.iconst 1, 1) := by decide +kernel
theorem dX1_tie_106 : decode cX1_tie 106 = .ok (.isub, 1) := by decide +kernel
theorem dX1_tie_107 : decode cX1_tie 107 = .ok (.ireturn, 1) := by decide +kernel
theorem dX1_join_0 : decode cX1_join 0 = .ok (.aload_n 0, 1) := by decide +kernel
theorem dX1_join_1 : decode cX1_join 1 = .ok (.iconst 0, 1) := by decide +kernel
theorem dX1_join_2 : decode cX1_join 2 = .ok (.putfield 34, 3) := by decide +kernel
theorem dX1_join_5 : decode cX1_join 5 = .ok (.aload_n 0, 1) := by decide +kernel
theorem dX1_join_6 : decode cX1_join 6 = .ok (.iload_n 1, 1) := by decide +kernel
theorem dX1_join_7 : decode cX1_join 7 = .ok (.invokevirtual 48, 3) := by decide +kernel
theorem dX1_join_10 : decode cX1_join 10 = .ok (.ifCond .eq 11, 3) := by decide +kernel
theorem dX1_join_13 : decode cX1_join 13 = .ok (.aload_n 0, 1) := by decide +kernel
theorem dX1_join_14 : decode cX1_join 14 = .ok (.iload_n 2, 1) := by decide +kernel
theorem dX1_join_15 : decode cX1_join 15 = .ok (.invokevirtual 91, 3) := by decide +kernel
theorem dX1_join_18 : decode cX1_join 18 = .ok (.ifCond .ne 9, 3) := by decide +kernel
theorem dX1_join_21 : decode cX1_join 21 = .ok (.aload_n 0, 1) := by decide +kernel
theorem dX1_join_22 : decode cX1_join 22 = .ok (.iconst 1, 1) := by decide +kernel
theorem dX1_join_23 : decode cX1_join 23 = .ok (.invokevirtual 88, 3) := by decide +kernel
theorem dX1_join_26 : decode cX1_join 26 = .ok (.ireturn, 1) := by decide +kernel
theorem dX1_join_27 : decode cX1_join 27 = .ok (.aload_n 0, 1) := by decide +kernel
theorem dX1_join_28 : decode cX1_join 28 = .ok (.getfield 9, 3) := by decide +kernel
theorem dX1_join_31 : decode cX1_join 31 = .ok (.iload_n 2, 1) := by decide +kernel
theorem dX1_join_32 : decode cX1_join 32 = .ok (.iaload, 1) := by decide +kernel
theorem dX1_join_33 : decode cX1_join 33 = .ok (.ifCond .ne 10, 3) := by decide +kernel
theorem dX1_join_36 : decode cX1_join 36 = .ok (.iload_n 3, 1) := by decide +kernel
theorem dX1_join_37 : decode cX1_join 37 = .ok (.invokestatic 94, 3) := by decide +kernel
theorem dX1_join_40 : decode cX1_join 40 = .ok (.ifCond .ne 9, 3) := by decide +kernel
theorem dX1_join_43 : decode cX1_join 43 = .ok (.aload_n 0, 1) := by decide +kernel
theorem dX1_join_44 : decode cX1_join 44 = .ok (.iconst 2, 1) := by decide +kernel
theorem dX1_join_45 : decode cX1_join 45 = .ok (.invokevirtual 88, 3) := by decide +kernel
theorem dX1_join_48 : decode cX1_join 48 = .ok (.ireturn, 1) := by decide +kernel
theorem dX1_join_49 : decode cX1_join 49 = .ok (.aload_n 0, 1) := by decide +kernel
theorem dX1_join_50 : decode cX1_join 50 = .ok (.getfield 25, 3) := by decide +kernel
theorem dX1_join_53 : decode cX1_join 53 = .ok (.iload_n 1, 1) := by decide +kernel
theorem dX1_join_54 : decode cX1_join 54 = .ok (.iaload, 1) := by decide +kernel
theorem dX1_join_55 : decode cX1_join 55 = .ok (.ifCond .eq 13, 3) := by decide +kernel
theorem dX1_join_58 : decode cX1_join 58 = .ok (.aload_n 0, 1) := by decide +kernel
theorem dX1_join_59 : decode cX1_join 59 = .ok (.getfield 25, 3) := by decide +kernel
theorem dX1_join_62 : decode cX1_join 62 = .ok (.iload_n 1, 1) := by decide +kernel
theorem dX1_join_63 : decode cX1_join 63 = .ok (.iaload, 1) := by decide +kernel
theorem dX1_join_64 : decode cX1_join 64 = .ok (.iconst 5, 1) := by decide +kernel
theorem dX1_join_65 : decode cX1_join 65 = .ok (.if_icmp .ne 9, 3) := by decide +kernel
theorem dX1_join_68 : decode cX1_join 68 = .ok (.aload_n 0, 1) := by decide +kernel
theorem dX1_join_69 : decode cX1_join 69 = .ok (.iconst 3, 1) := by decide +kernel
theorem dX1_join_70 : decode cX1_join 70 = .ok (.invokevirtual 88, 3) := by decide +kernel
theorem dX1_join_73 : decode cX1_join 73 = .ok (.ireturn, 1) := by decide +kernel
theorem dX1_join_74 : decode cX1_join 74 = .ok (.aload_n 0, 1) := by decide +kernel
theorem dX1_join_75 : decode cX1_join 75 = .ok (.getfield 28, 3) := by decide +kernel
theorem dX1_join_78 : decode cX1_join 78 = .ok (.iconst 5, 1) := by decide +kernel
theorem dX1_join_79 : decode cX1_join 79 = .ok (.iload_n 1, 1) := by decide +kernel
theorem dX1_join_80 : decode cX1_join 80 = .ok (.imul, 1) := by decide +kernel
theorem dX1_join_81 : decode cX1_join 81 = .ok (.aload_n 0, 1) := by decide +kernel
theorem dX1_join_82 : decode cX1_join 82 = .ok (.getfield 25, 3) := by decide +kernel
theorem dX1_join_85 : decode cX1_join 85 = .ok (.iload_n 1, 1) := by decide +kernel
theorem dX1_join_86 : decode cX1_join 86 = .ok (.iaload, 1) := by decide +kernel
theorem dX1_join_87 : decode cX1_join 87 = .ok (.iadd, 1) := by decide +kernel
theorem dX1_join_88 : decode cX1_join 88 = .ok (.iload_n 3, 1) := by decide +kernel
theorem dX1_join_89 : decode cX1_join 89 = .ok (.iastore, 1) := by decide +kernel
theorem dX1_join_90 : decode cX1_join 90 = .ok (.aload_n 0, 1) := by decide +kernel
theorem dX1_join_91 : decode cX1_join 91 = .ok (.getfield 31, 3) := by decide +kernel
theorem dX1_join_94 : decode cX1_join 94 = .ok (.iconst 5, 1) := by decide +kernel
theorem dX1_join_95 : decode cX1_join 95 = .ok (.iload_n 1, 1) := by decide +kernel
theorem dX1_join_96 : decode cX1_join 96 = .ok (.imul, 1) := by decide +kernel
theorem dX1_join_97 : decode cX1_join 97 = .ok (.aload_n 0, 1) := by decide +kernel
theorem dX1_join_98 : decode cX1_join 98 = .ok (.getfield 25, 3) := by decide +kernel
theorem dX1_join_101 : decode cX1_join 101 = .ok (.iload_n 1, 1) := by decide +kernel
theorem dX1_join_102 : decode cX1_join 102 = .ok (.iaload, 1) := by decide +kernel
theorem dX1_join_103 : decode cX1_join 103 = .ok (.iadd, 1) := by decide +kernel
theorem dX1_join_104 : decode cX1_join 104 = .ok (.iload_n 2, 1) := by decide +kernel
theorem dX1_join_105 : decode cX1_join 105 = .ok (.iastore, 1) := by decide +kernel
theorem dX1_join_106 : decode cX1_join 106 = .ok (.aload_n 0, 1) := by decide +kernel
theorem dX1_join_107 : decode cX1_join 107 = .ok (.getfield 25, 3) := by decide +kernel
theorem dX1_join_110 : decode cX1_join 110 = .ok (.iload_n 1, 1) := by decide +kernel
theorem dX1_join_111 : decode cX1_join 111 = .ok (.dup2, 1) := by decide +kernel
theorem dX1_join_112 : decode cX1_join 112 = .ok (.iaload, 1) := by decide +kernel
theorem dX1_join_113 : decode cX1_join 113 = .ok (.iconst 1, 1) := by decide +kernel
theorem dX1_join_114 : decode cX1_join 114 = .ok (.iadd, 1) := by decide +kernel
theorem dX1_join_115 : decode cX1_join 115 = .ok (.iastore, 1) := by decide +kernel
theorem dX1_join_116 : decode cX1_join 116 = .ok (.aload_n 0, 1) := by decide +kernel
theorem dX1_join_117 : decode cX1_join 117 = .ok (.getfield 25, 3) := by decide +kernel
theorem dX1_join_120 : decode cX1_join 120 = .ok (.iload_n 1, 1) := by decide +kernel
theorem dX1_join_121 : decode cX1_join 121 = .ok (.iaload, 1) := by decide +kernel
theorem dX1_join_122 : decode cX1_join 122 = .ok (.ireturn, 1) := by decide +kernel
theorem dX1_retie_0 : decode cX1_retie 0 = .ok (.aload_n 0, 1) := by decide +kernel
theorem dX1_retie_1 : decode cX1_retie 1 = .ok (.iconst 0, 1) := by decide +kernel
theorem dX1_retie_2 : decode cX1_retie 2 = .ok (.putfield 34, 3) := by decide +kernel
theorem dX1_retie_5 : decode cX1_retie 5 = .ok (.aload_n 0, 1) := by decide +kernel
theorem dX1_retie_6 : decode cX1_retie 6 = .ok (.iload_n 1, 1) := by decide +kernel
theorem dX1_retie_7 : decode cX1_retie 7 = .ok (.iload_n 2, 1) := by decide +kernel
theorem dX1_retie_8 : decode cX1_retie 8 = .ok (.invokevirtual 97, 3) := by decide +kernel
theorem dX1_retie_11 : decode cX1_retie 11 = .ok (.ifCond .eq 11, 3) := by decide +kernel
theorem dX1_retie_14 : decode cX1_retie 14 = .ok (.aload_n 0, 1) := by decide +kernel
theorem dX1_retie_15 : decode cX1_retie 15 = .ok (.iload_n 3, 1) := by decide +kernel
theorem dX1_retie_16 : decode cX1_retie 16 = .ok (.invokevirtual 91, 3) := by decide +kernel
theorem dX1_retie_19 : decode cX1_retie 19 = .ok (.ifCond .ne 9, 3) := by decide +kernel
theorem dX1_retie_22 : decode cX1_retie 22 = .ok (.aload_n 0, 1) := by decide +kernel
theorem dX1_retie_23 : decode cX1_retie 23 = .ok (.iconst 1, 1) := by decide +kernel
theorem dX1_retie_24 : decode cX1_retie 24 = .ok (.invokevirtual 88, 3) := by decide +kernel
theorem dX1_retie_27 : decode cX1_retie 27 = .ok (.ireturn, 1) := by decide +kernel
theorem dX1_retie_28 : decode cX1_retie 28 = .ok (.aload_n 0, 1) := by decide +kernel
theorem dX1_retie_29 : decode cX1_retie 29 = .ok (.getfield 9, 3) := by decide +kernel
theorem dX1_retie_32 : decode cX1_retie 32 = .ok (.iload_n 3, 1) := by decide +kernel
theorem dX1_retie_33 : decode cX1_retie 33 = .ok (.iaload, 1) := by decide +kernel
theorem dX1_retie_34 : decode cX1_retie 34 = .ok (.iload_n 2, 1) := by decide +kernel
theorem dX1_retie_35 : decode cX1_retie 35 = .ok (.invokestatic 100, 3) := by decide +kernel
theorem dX1_retie_38 : decode cX1_retie 38 = .ok (.if_icmp .eq 9, 3) := by decide +kernel
theorem dX1_retie_41 : decode cX1_retie 41 = .ok (.aload_n 0, 1) := by decide +kernel
theorem dX1_retie_42 : decode cX1_retie 42 = .ok (.iconst 2, 1) := by decide +kernel
theorem dX1_retie_43 : decode cX1_retie 43 = .ok (.invokevirtual 88, 3) := by decide +kernel
theorem dX1_retie_46 : decode cX1_retie 46 = .ok (.ireturn, 1) := by decide +kernel
theorem dX1_retie_47 : decode cX1_retie 47 = .ok (.aload_n 0, 1) := by decide +kernel
theorem dX1_retie_48 : decode cX1_retie 48 = .ok (.getfield 31, 3) := by decide +kernel
theorem dX1_retie_51 : decode cX1_retie 51 = .ok (.iconst 5, 1) := by decide +kernel
theorem dX1_retie_52 : decode cX1_retie 52 = .ok (.iload_n 1, 1) := by decide +kernel
theorem dX1_retie_53 : decode cX1_retie 53 = .ok (.imul, 1) := by decide +kernel
theorem dX1_retie_54 : decode cX1_retie 54 = .ok (.iload_n 2, 1) := by decide +kernel
theorem dX1_retie_55 : decode cX1_retie 55 = .ok (.iadd, 1) := by decide +kernel
theorem dX1_retie_56 : decode cX1_retie 56 = .ok (.iaload, 1) := by decide +kernel
theorem dX1_retie_57 : decode cX1_retie 57 = .ok (.istore 4, 2) := by decide +kernel
theorem dX1_retie_59 : decode cX1_retie 59 = .ok (.aload_n 0, 1) := by decide +kernel
theorem dX1_retie_60 : decode cX1_retie 60 = .ok (.getfield 31, 3) := by decide +kernel
theorem dX1_retie_63 : decode cX1_retie 63 = .ok (.iconst 5, 1) := by decide +kernel
theorem dX1_retie_64 : decode cX1_retie 64 = .ok (.iload_n 1, 1) := by decide +kernel
theorem dX1_retie_65 : decode cX1_retie 65 = .ok (.imul, 1) := by decide +kernel
theorem dX1_retie_66 : decode cX1_retie 66 = .ok (.iload_n 2, 1) := by decide +kernel
theorem dX1_retie_67 : decode cX1_retie 67 = .ok (.iadd, 1) := by decide +kernel
theorem dX1_retie_68 : decode cX1_retie 68 = .ok (.iload_n 3, 1) := by decide +kernel
theorem dX1_retie_69 : decode cX1_retie 69 = .ok (.iastore, 1) := by decide +kernel
theorem dX1_retie_70 : decode cX1_retie 70 = .ok (.iload 4, 2) := by decide +kernel
theorem dX1_retie_72 : decode cX1_retie 72 = .ok (.ireturn, 1) := by decide +kernel
theorem dX1_pull_0 : decode cX1_pull 0 = .ok (.aload_n 0, 1) := by decide +kernel
theorem dX1_pull_1 : decode cX1_pull 1 = .ok (.iconst 0, 1) := by decide +kernel
theorem dX1_pull_2 : decode cX1_pull 2 = .ok (.putfield 34, 3) := by decide +kernel
theorem dX1_pull_5 : decode cX1_pull 5 = .ok (.aload_n 0, 1) := by decide +kernel
theorem dX1_pull_6 : decode cX1_pull 6 = .ok (.iload_n 1, 1) := by decide +kernel
theorem dX1_pull_7 : decode cX1_pull 7 = .ok (.invokevirtual 48, 3) := by decide +kernel
theorem dX1_pull_10 : decode cX1_pull 10 = .ok (.ifCond .ne 9, 3) := by decide +kernel
theorem dX1_pull_13 : decode cX1_pull 13 = .ok (.aload_n 0, 1) := by decide +kernel
theorem dX1_pull_14 : decode cX1_pull 14 = .ok (.iconst 1, 1) := by decide +kernel
theorem dX1_pull_15 : decode cX1_pull 15 = .ok (.invokevirtual 88, 3) := by decide +kernel
theorem dX1_pull_18 : decode cX1_pull 18 = .ok (.ireturn, 1) := by decide +kernel
theorem dX1_pull_19 : decode cX1_pull 19 = .ok (.iload_n 2, 1) := by decide +kernel
theorem dX1_pull_20 : decode cX1_pull 20 = .ok (.invokestatic 94, 3) := by decide +kernel
theorem dX1_pull_23 : decode cX1_pull 23 = .ok (.ifCond .ne 9, 3) := by decide +kernel
theorem dX1_pull_26 : decode cX1_pull 26 = .ok (.aload_n 0, 1) := by decide +kernel
theorem dX1_pull_27 : decode cX1_pull 27 = .ok (.iconst 2, 1) := by decide +kernel
theorem dX1_pull_28 : decode cX1_pull 28 = .ok (.invokevirtual 88, 3) := by decide +kernel
theorem dX1_pull_31 : decode cX1_pull 31 = .ok (.ireturn, 1) := by decide +kernel
theorem dX1_pull_32 : decode cX1_pull 32 = .ok (.aload_n 0, 1) := by decide +kernel
theorem dX1_pull_33 : decode cX1_pull 33 = .ok (.getfield 25, 3) := by decide +kernel
theorem dX1_pull_36 : decode cX1_pull 36 = .ok (.iload_n 1, 1) := by decide +kernel
theorem dX1_pull_37 : decode cX1_pull 37 = .ok (.iaload, 1) := by decide +kernel
theorem dX1_pull_38 : decode cX1_pull 38 = .ok (.ifCond .ne 9, 3) := by decide +kernel
theorem dX1_pull_41 : decode cX1_pull 41 = .ok (.aload_n 0, 1) := by decide +kernel
theorem dX1_pull_42 : decode cX1_pull 42 = .ok (.iconst 3, 1) := by decide +kernel
theorem dX1_pull_43 : decode cX1_pull 43 = .ok (.invokevirtual 88, 3) := by decide +kernel
theorem dX1_pull_46 : decode cX1_pull 46 = .ok (.ireturn, 1) := by decide +kernel
theorem dX1_pull_47 : decode cX1_pull 47 = .ok (.aload_n 0, 1) := by decide +kernel
theorem dX1_pull_48 : decode cX1_pull 48 = .ok (.iload_n 1, 1) := by decide +kernel
theorem dX1_pull_49 : decode cX1_pull 49 = .ok (.iload_n 2, 1) := by decide +kernel
theorem dX1_pull_50 : decode cX1_pull 50 = .ok (.invokevirtual 103, 3) := by decide +kernel
theorem dX1_pull_53 : decode cX1_pull 53 = .ok (.istore_n 3, 1) := by decide +kernel
theorem dX1_pull_54 : decode cX1_pull 54 = .ok (.iload_n 3, 1) := by decide +kernel
theorem dX1_pull_55 : decode cX1_pull 55 = .ok (.iconst (-1), 1) := by decide +kernel
theorem dX1_pull_56 : decode cX1_pull 56 = .ok (.if_icmp .eq 10, 3) := by decide +kernel
theorem dX1_pull_59 : decode cX1_pull 59 = .ok (.aload_n 0, 1) := by decide +kernel
theorem dX1_pull_60 : decode cX1_pull 60 = .ok (.getfield 25, 3) := by decide +kernel
theorem dX1_pull_63 : decode cX1_pull 63 = .ok (.iload_n 1, 1) := by decide +kernel
theorem dX1_pull_64 : decode cX1_pull 64 = .ok (.iload_n 3, 1) := by decide +kernel
theorem dX1_pull_65 : decode cX1_pull 65 = .ok (.iastore, 1) := by decide +kernel
theorem dX1_pull_66 : decode cX1_pull 66 = .ok (.iconst 0, 1) := by decide +kernel
theorem dX1_pull_67 : decode cX1_pull 67 = .ok (.istore 4, 2) := by decide +kernel
theorem dX1_pull_69 : decode cX1_pull 69 = .ok (.iload 4, 2) := by decide +kernel
theorem dX1_pull_71 : decode cX1_pull 71 = .ok (.aload_n 0, 1) := by decide +kernel
theorem dX1_pull_72 : decode cX1_pull 72 = .ok (.getfield 25, 3) := by decide +kernel
theorem dX1_pull_75 : decode cX1_pull 75 = .ok (.iload_n 1, 1) := by decide +kernel
theorem dX1_pull_76 : decode cX1_pull 76 = .ok (.iaload, 1) := by decide +kernel
theorem dX1_pull_77 : decode cX1_pull 77 = .ok (.if_icmp .ge 36, 3) := by decide +kernel
theorem dX1_pull_80 : decode cX1_pull 80 = .ok (.aload_n 0, 1) := by decide +kernel
theorem dX1_pull_81 : decode cX1_pull 81 = .ok (.getfield 31, 3) := by decide +kernel
theorem dX1_pull_84 : decode cX1_pull 84 = .ok (.iconst 5, 1) := by decide +kernel
theorem dX1_pull_85 : decode cX1_pull 85 = .ok (.iload_n 1, 1) := by decide +kernel
theorem dX1_pull_86 : decode cX1_pull 86 = .ok (.imul, 1) := by decide +kernel
theorem dX1_pull_87 : decode cX1_pull 87 = .ok (.iload 4, 2) := by decide +kernel
theorem dX1_pull_89 : decode cX1_pull 89 = .ok (.iadd, 1) := by decide +kernel
theorem dX1_pull_90 : decode cX1_pull 90 = .ok (.aload_n 0, 1) := by decide +kernel
theorem dX1_pull_91 : decode cX1_pull 91 = .ok (.aload_n 0, 1) := by decide +kernel
theorem dX1_pull_92 : decode cX1_pull 92 = .ok (.getfield 31, 3) := by decide +kernel
theorem dX1_pull_95 : decode cX1_pull 95 = .ok (.iconst 5, 1) := by decide +kernel
theorem dX1_pull_96 : decode cX1_pull 96 = .ok (.iload_n 1, 1) := by decide +kernel
theorem dX1_pull_97 : decode cX1_pull 97 = .ok (.imul, 1) := by decide +kernel
theorem dX1_pull_98 : decode cX1_pull 98 = .ok (.iload 4, 2) := by decide +kernel
theorem dX1_pull_100 : decode cX1_pull 100 = .ok (.iadd, 1) := by decide +kernel
theorem dX1_pull_101 : decode cX1_pull 101 = .ok (.iaload, 1) := by decide +kernel
theorem dX1_pull_102 : decode cX1_pull 102 = .ok (.iload_n 2, 1) := by decide +kernel
theorem dX1_pull_103 : decode cX1_pull 103 = .ok (.invokevirtual 68, 3) := by decide +kernel
theorem dX1_pull_106 : decode cX1_pull 106 = .ok (.iastore, 1) := by decide +kernel
theorem dX1_pull_107 : decode cX1_pull 107 = .ok (.iinc 4 1, 3) := by decide +kernel
theorem dX1_pull_110 : decode cX1_pull 110 = .ok (.goto (-41), 3) := by decide +kernel
theorem dX1_pull_113 : decode cX1_pull 113 = .ok (.iload_n 3, 1) := by decide +kernel
theorem dX1_pull_114 : decode cX1_pull 114 = .ok (.ireturn, 1) := by decide +kernel
theorem dX1_knots_0 : decode cX1_knots 0 = .ok (.aload_n 0, 1) := by decide +kernel
theorem dX1_knots_1 : decode cX1_knots 1 = .ok (.aload_n 0, 1) := by decide +kernel
theorem dX1_knots_2 : decode cX1_knots 2 = .ok (.getfield 38, 3) := by decide +kernel
theorem dX1_knots_5 : decode cX1_knots 5 = .ok (.invokevirtual 106, 3) := by decide +kernel
theorem dX1_knots_8 : decode cX1_knots 8 = .ok (.ireturn, 1) := by decide +kernel
theorem dX1_many_0 : decode cX1_many 0 = .ok (.iconst 0, 1) := by decide +kernel
theorem dX1_many_1 : decode cX1_many 1 = .ok (.istore_n 2, 1) := by decide +kernel
theorem dX1_many_2 : decode cX1_many 2 = .ok (.iconst 0, 1) := by decide +kernel
theorem dX1_many_3 : decode cX1_many 3 = .ok (.istore_n 3, 1) := by decide +kernel
theorem dX1_many_4 : decode cX1_many 4 = .ok (.iload_n 3, 1) := by decide +kernel
theorem dX1_many_5 : decode cX1_many 5 = .ok (.aload_n 0, 1) := by decide +kernel
theorem dX1_many_6 : decode cX1_many 6 = .ok (.getfield 38, 3) := by decide +kernel
theorem dX1_many_9 : decode cX1_many 9 = .ok (.if_icmp .ge 27, 3) := by decide +kernel
theorem dX1_many_12 : decode cX1_many 12 = .ok (.iload_n 2, 1) := by decide +kernel
theorem dX1_many_13 : decode cX1_many 13 = .ok (.aload_n 0, 1) := by decide +kernel
theorem dX1_many_14 : decode cX1_many 14 = .ok (.getfield 9, 3) := by decide +kernel
theorem dX1_many_17 : decode cX1_many 17 = .ok (.iload_n 3, 1) := by decide +kernel
theorem dX1_many_18 : decode cX1_many 18 = .ok (.iaload, 1) := by decide +kernel
theorem dX1_many_19 : decode cX1_many 19 = .ok (.iload_n 1, 1) := by decide +kernel
theorem dX1_many_20 : decode cX1_many 20 = .ok (.if_icmp .ne 7, 3) := by decide +kernel
theorem dX1_many_23 : decode cX1_many 23 = .ok (.iconst 1, 1) := by decide +kernel
theorem dX1_many_24 : decode cX1_many 24 = .ok (.goto 4, 3) := by decide +kernel
theorem dX1_many_27 : decode cX1_many 27 = .ok (.iconst 0, 1) := by decide +kernel
theorem dX1_many_28 : decode cX1_many 28 = .ok (.iadd, 1) := by decide +kernel
theorem dX1_many_29 : decode cX1_many 29 = .ok (.istore_n 2, 1) := by decide +kernel
theorem dX1_many_30 : decode cX1_many 30 = .ok (.iinc 3 1, 3) := by decide +kernel
theorem dX1_many_33 : decode cX1_many 33 = .ok (.goto (-29), 3) := by decide +kernel
theorem dX1_many_36 : decode cX1_many 36 = .ok (.iload_n 2, 1) := by decide +kernel
theorem dX1_many_37 : decode cX1_many 37 = .ok (.ireturn, 1) := by decide +kernel
theorem dX1_knotsOf_0 : decode cX1_knotsOf 0 = .ok (.aload_n 0, 1) := by decide +kernel
theorem dX1_knotsOf_1 : decode cX1_knotsOf 1 = .ok (.iconst 0, 1) := by decide +kernel
theorem dX1_knotsOf_2 : decode cX1_knotsOf 2 = .ok (.putfield 34, 3) := by decide +kernel
theorem dX1_knotsOf_5 : decode cX1_knotsOf 5 = .ok (.iload_n 1, 1) := by decide +kernel
theorem dX1_knotsOf_6 : decode cX1_knotsOf 6 = .ok (.iconst 0, 1) := by decide +kernel
theorem dX1_knotsOf_7 : decode cX1_knotsOf 7 = .ok (.iconst 1, 1) := by decide +kernel
theorem dX1_knotsOf_8 : decode cX1_knotsOf 8 = .ok (.invokestatic 41, 3) := by decide +kernel
theorem dX1_knotsOf_11 : decode cX1_knotsOf 11 = .ok (.ifCond .eq 11, 3) := by decide +kernel
theorem dX1_knotsOf_14 : decode cX1_knotsOf 14 = .ok (.aload_n 0, 1) := by decide +kernel
theorem dX1_knotsOf_15 : decode cX1_knotsOf 15 = .ok (.iload_n 1, 1) := by decide +kernel
theorem dX1_knotsOf_16 : decode cX1_knotsOf 16 = .ok (.invokevirtual 109, 3) := by decide +kernel
theorem dX1_knotsOf_19 : decode cX1_knotsOf 19 = .ok (.goto 8, 3) := by decide +kernel
theorem dX1_knotsOf_22 : decode cX1_knotsOf 22 = .ok (.aload_n 0, 1) := by decide +kernel
theorem dX1_knotsOf_23 : decode cX1_knotsOf 23 = .ok (.iconst 1, 1) := by decide +kernel
theorem dX1_knotsOf_24 : decode cX1_knotsOf 24 = .ok (.invokevirtual 88, 3) := by decide +kernel
theorem dX1_knotsOf_27 : decode cX1_knotsOf 27 = .ok (.ireturn, 1) := by decide +kernel
theorem dX1_of_0 : decode cX1_of 0 = .ok (.aload_n 0, 1) := by decide +kernel
theorem dX1_of_1 : decode cX1_of 1 = .ok (.iconst 0, 1) := by decide +kernel
theorem dX1_of_2 : decode cX1_of 2 = .ok (.putfield 34, 3) := by decide +kernel
theorem dX1_of_5 : decode cX1_of 5 = .ok (.aload_n 0, 1) := by decide +kernel
theorem dX1_of_6 : decode cX1_of 6 = .ok (.iload_n 1, 1) := by decide +kernel
theorem dX1_of_7 : decode cX1_of 7 = .ok (.invokevirtual 91, 3) := by decide +kernel
theorem dX1_of_10 : decode cX1_of 10 = .ok (.ifCond .eq 9, 3) := by decide +kernel
theorem dX1_of_13 : decode cX1_of 13 = .ok (.aload_n 2, 1) := by decide +kernel
theorem dX1_of_14 : decode cX1_of 14 = .ok (.iload_n 1, 1) := by decide +kernel
theorem dX1_of_15 : decode cX1_of 15 = .ok (.iaload, 1) := by decide +kernel
theorem dX1_of_16 : decode cX1_of 16 = .ok (.goto 8, 3) := by decide +kernel
theorem dX1_of_19 : decode cX1_of 19 = .ok (.aload_n 0, 1) := by decide +kernel
theorem dX1_of_20 : decode cX1_of 20 = .ok (.iconst 1, 1) := by decide +kernel
theorem dX1_of_21 : decode cX1_of 21 = .ok (.invokevirtual 88, 3) := by decide +kernel
theorem dX1_of_24 : decode cX1_of 24 = .ok (.ireturn, 1) := by decide +kernel
theorem dX1_kindOf_0 : decode cX1_kindOf 0 = .ok (.aload_n 0, 1) := by decide +kernel
theorem dX1_kindOf_1 : decode cX1_kindOf 1 = .ok (.iload_n 1, 1) := by decide +kernel
theorem dX1_kindOf_2 : decode cX1_kindOf 2 = .ok (.aload_n 0, 1) := by decide +kernel
theorem dX1_kindOf_3 : decode cX1_kindOf 3 = .ok (.getfield 9, 3) := by decide +kernel
theorem dX1_kindOf_6 : decode cX1_kindOf 6 = .ok (.invokevirtual 112, 3) := by decide +kernel
theorem dX1_kindOf_9 : decode cX1_kindOf 9 = .ok (.ireturn, 1) := by decide +kernel
theorem dX1_efficiencyOf_0 : decode cX1_efficiencyOf 0 = .ok (.aload_n 0, 1) := by decide +kernel
theorem dX1_efficiencyOf_1 : decode cX1_efficiencyOf 1 = .ok (.iload_n 1, 1) := by decide +kernel
theorem dX1_efficiencyOf_2 : decode cX1_efficiencyOf 2 = .ok (.aload_n 0, 1) := by decide +kernel
theorem dX1_efficiencyOf_3 : decode cX1_efficiencyOf 3 = .ok (.getfield 13, 3) := by decide +kernel
theorem dX1_efficiencyOf_6 : decode cX1_efficiencyOf 6 = .ok (.invokevirtual 112, 3) := by decide +kernel
theorem dX1_efficiencyOf_9 : decode cX1_efficiencyOf 9 = .ok (.ireturn, 1) := by decide +kernel
theorem dX1_crossingsOf_0 : decode cX1_crossingsOf 0 = .ok (.aload_n 0, 1) := by decide +kernel
theorem dX1_crossingsOf_1 : decode cX1_crossingsOf 1 = .ok (.iload_n 1, 1) := by decide +kernel
theorem dX1_crossingsOf_2 : decode cX1_crossingsOf 2 = .ok (.aload_n 0, 1) := by decide +kernel
theorem dX1_crossingsOf_3 : decode cX1_crossingsOf 3 = .ok (.getfield 16, 3) := by decide +kernel
theorem dX1_crossingsOf_6 : decode cX1_crossingsOf 6 = .ok (.invokevirtual 112, 3) := by decide +kernel
theorem dX1_crossingsOf_9 : decode cX1_crossingsOf 9 = .ok (.ireturn, 1) := by decide +kernel
theorem dX1_spillsAt_0 : decode cX1_spillsAt 0 = .ok (.aload_n 0, 1) := by decide +kernel
theorem dX1_spillsAt_1 : decode cX1_spillsAt 1 = .ok (.iload_n 1, 1) := by decide +kernel
theorem dX1_spillsAt_2 : decode cX1_spillsAt 2 = .ok (.aload_n 0, 1) := by decide +kernel
theorem dX1_spillsAt_3 : decode cX1_spillsAt 3 = .ok (.getfield 19, 3) := by decide +kernel
theorem dX1_spillsAt_6 : decode cX1_spillsAt 6 = .ok (.invokevirtual 112, 3) := by decide +kernel
theorem dX1_spillsAt_9 : decode cX1_spillsAt 9 = .ok (.ireturn, 1) := by decide +kernel
theorem dX1_spillsInto_0 : decode cX1_spillsInto 0 = .ok (.aload_n 0, 1) := by decide +kernel
theorem dX1_spillsInto_1 : decode cX1_spillsInto 1 = .ok (.iload_n 1, 1) := by decide +kernel
theorem dX1_spillsInto_2 : decode cX1_spillsInto 2 = .ok (.aload_n 0, 1) := by decide +kernel
theorem dX1_spillsInto_3 : decode cX1_spillsInto 3 = .ok (.getfield 22, 3) := by decide +kernel
theorem dX1_spillsInto_6 : decode cX1_spillsInto 6 = .ok (.invokevirtual 112, 3) := by decide +kernel
theorem dX1_spillsInto_9 : decode cX1_spillsInto 9 = .ok (.ireturn, 1) := by decide +kernel
theorem dX1_rankOf_0 : decode cX1_rankOf 0 = .ok (.aload_n 0, 1) := by decide +kernel
theorem dX1_rankOf_1 : decode cX1_rankOf 1 = .ok (.iconst 0, 1) := by decide +kernel
theorem dX1_rankOf_2 : decode cX1_rankOf 2 = .ok (.putfield 34, 3) := by decide +kernel
theorem dX1_rankOf_5 : decode cX1_rankOf 5 = .ok (.aload_n 0, 1) := by decide +kernel
theorem dX1_rankOf_6 : decode cX1_rankOf 6 = .ok (.iload_n 1, 1) := by decide +kernel
theorem dX1_rankOf_7 : decode cX1_rankOf 7 = .ok (.invokevirtual 91, 3) := by decide +kernel
theorem dX1_rankOf_10 : decode cX1_rankOf 10 = .ok (.ifCond .eq 11, 3) := by decide +kernel
theorem dX1_rankOf_13 : decode cX1_rankOf 13 = .ok (.aload_n 0, 1) := by decide +kernel
theorem dX1_rankOf_14 : decode cX1_rankOf 14 = .ok (.iload_n 1, 1) := by decide +kernel
theorem dX1_rankOf_15 : decode cX1_rankOf 15 = .ok (.invokevirtual 116, 3) := by decide +kernel
theorem dX1_rankOf_18 : decode cX1_rankOf 18 = .ok (.goto 8, 3) := by decide +kernel
theorem dX1_rankOf_21 : decode cX1_rankOf 21 = .ok (.aload_n 0, 1) := by decide +kernel
theorem dX1_rankOf_22 : decode cX1_rankOf 22 = .ok (.iconst 1, 1) := by decide +kernel
theorem dX1_rankOf_23 : decode cX1_rankOf 23 = .ok (.invokevirtual 88, 3) := by decide +kernel
theorem dX1_rankOf_26 : decode cX1_rankOf 26 = .ok (.ireturn, 1) := by decide +kernel
theorem dX1_knotAt_0 : decode cX1_knotAt 0 = .ok (.aload_n 0, 1) := by decide +kernel
theorem dX1_knotAt_1 : decode cX1_knotAt 1 = .ok (.iconst 0, 1) := by decide +kernel
theorem dX1_knotAt_2 : decode cX1_knotAt 2 = .ok (.putfield 34, 3) := by decide +kernel
theorem dX1_knotAt_5 : decode cX1_knotAt 5 = .ok (.iconst 0, 1) := by decide +kernel
theorem dX1_knotAt_6 : decode cX1_knotAt 6 = .ok (.istore_n 3, 1) := by decide +kernel
theorem dX1_knotAt_7 : decode cX1_knotAt 7 = .ok (.iload_n 3, 1) := by decide +kernel
theorem dX1_knotAt_8 : decode cX1_knotAt 8 = .ok (.aload_n 0, 1) := by decide +kernel
theorem dX1_knotAt_9 : decode cX1_knotAt 9 = .ok (.getfield 38, 3) := by decide +kernel
theorem dX1_knotAt_12 : decode cX1_knotAt 12 = .ok (.if_icmp .ge 30, 3) := by decide +kernel
theorem dX1_knotAt_15 : decode cX1_knotAt 15 = .ok (.aload_n 0, 1) := by decide +kernel
theorem dX1_knotAt_16 : decode cX1_knotAt 16 = .ok (.getfield 9, 3) := by decide +kernel
theorem dX1_knotAt_19 : decode cX1_knotAt 19 = .ok (.iload_n 3, 1) := by decide +kernel
theorem dX1_knotAt_20 : decode cX1_knotAt 20 = .ok (.iaload, 1) := by decide +kernel
theorem dX1_knotAt_21 : decode cX1_knotAt 21 = .ok (.iload_n 1, 1) := by decide +kernel
theorem dX1_knotAt_22 : decode cX1_knotAt 22 = .ok (.if_icmp .ne 14, 3) := by decide +kernel
theorem dX1_knotAt_25 : decode cX1_knotAt 25 = .ok (.aload_n 0, 1) := by decide +kernel
theorem dX1_knotAt_26 : decode cX1_knotAt 26 = .ok (.iload_n 3, 1) := by decide +kernel
theorem dX1_knotAt_27 : decode cX1_knotAt 27 = .ok (.invokevirtual 116, 3) := by decide +kernel
theorem dX1_knotAt_30 : decode cX1_knotAt 30 = .ok (.iload_n 2, 1) := by decide +kernel
theorem dX1_knotAt_31 : decode cX1_knotAt 31 = .ok (.if_icmp .ne 5, 3) := by decide +kernel
theorem dX1_knotAt_34 : decode cX1_knotAt 34 = .ok (.iload_n 3, 1) := by decide +kernel
theorem dX1_knotAt_35 : decode cX1_knotAt 35 = .ok (.ireturn, 1) := by decide +kernel
theorem dX1_knotAt_36 : decode cX1_knotAt 36 = .ok (.iinc 3 1, 3) := by decide +kernel
theorem dX1_knotAt_39 : decode cX1_knotAt 39 = .ok (.goto (-32), 3) := by decide +kernel
theorem dX1_knotAt_42 : decode cX1_knotAt 42 = .ok (.aload_n 0, 1) := by decide +kernel
theorem dX1_knotAt_43 : decode cX1_knotAt 43 = .ok (.iconst 1, 1) := by decide +kernel
theorem dX1_knotAt_44 : decode cX1_knotAt 44 = .ok (.invokevirtual 88, 3) := by decide +kernel
theorem dX1_knotAt_47 : decode cX1_knotAt 47 = .ok (.ireturn, 1) := by decide +kernel
theorem dX1_isLoaded_0 : decode cX1_isLoaded 0 = .ok (.aload_n 0, 1) := by decide +kernel
theorem dX1_isLoaded_1 : decode cX1_isLoaded 1 = .ok (.aload_n 0, 1) := by decide +kernel
theorem dX1_isLoaded_2 : decode cX1_isLoaded 2 = .ok (.iload_n 1, 1) := by decide +kernel
theorem dX1_isLoaded_3 : decode cX1_isLoaded 3 = .ok (.invokevirtual 91, 3) := by decide +kernel
theorem dX1_isLoaded_6 : decode cX1_isLoaded 6 = .ok (.ifCond .ne 7, 3) := by decide +kernel
theorem dX1_isLoaded_9 : decode cX1_isLoaded 9 = .ok (.iconst 1, 1) := by decide +kernel
theorem dX1_isLoaded_10 : decode cX1_isLoaded 10 = .ok (.goto 15, 3) := by decide +kernel
theorem dX1_isLoaded_13 : decode cX1_isLoaded 13 = .ok (.iload_n 2, 1) := by decide +kernel
theorem dX1_isLoaded_14 : decode cX1_isLoaded 14 = .ok (.invokestatic 94, 3) := by decide +kernel
theorem dX1_isLoaded_17 : decode cX1_isLoaded 17 = .ok (.ifCond .eq 7, 3) := by decide +kernel
theorem dX1_isLoaded_20 : decode cX1_isLoaded 20 = .ok (.iconst 0, 1) := by decide +kernel
theorem dX1_isLoaded_21 : decode cX1_isLoaded 21 = .ok (.goto 4, 3) := by decide +kernel
theorem dX1_isLoaded_24 : decode cX1_isLoaded 24 = .ok (.iconst 2, 1) := by decide +kernel
theorem dX1_isLoaded_25 : decode cX1_isLoaded 25 = .ok (.putfield 34, 3) := by decide +kernel
theorem dX1_isLoaded_28 : decode cX1_isLoaded 28 = .ok (.aload_n 0, 1) := by decide +kernel
theorem dX1_isLoaded_29 : decode cX1_isLoaded 29 = .ok (.getfield 34, 3) := by decide +kernel
theorem dX1_isLoaded_32 : decode cX1_isLoaded 32 = .ok (.ifCond .ne 7, 3) := by decide +kernel
theorem dX1_isLoaded_35 : decode cX1_isLoaded 35 = .ok (.iconst 1, 1) := by decide +kernel
theorem dX1_isLoaded_36 : decode cX1_isLoaded 36 = .ok (.goto 4, 3) := by decide +kernel
theorem dX1_isLoaded_39 : decode cX1_isLoaded 39 = .ok (.iconst 0, 1) := by decide +kernel
theorem dX1_isLoaded_40 : decode cX1_isLoaded 40 = .ok (.ireturn, 1) := by decide +kernel
theorem dX1_formOf_0 : decode cX1_formOf 0 = .ok (.aload_n 0, 1) := by decide +kernel
theorem dX1_formOf_1 : decode cX1_formOf 1 = .ok (.iload_n 1, 1) := by decide +kernel
theorem dX1_formOf_2 : decode cX1_formOf 2 = .ok (.iload_n 2, 1) := by decide +kernel
theorem dX1_formOf_3 : decode cX1_formOf 3 = .ok (.invokevirtual 119, 3) := by decide +kernel
theorem dX1_formOf_6 : decode cX1_formOf 6 = .ok (.ifCond .eq 12, 3) := by decide +kernel
theorem dX1_formOf_9 : decode cX1_formOf 9 = .ok (.aload_n 0, 1) := by decide +kernel
theorem dX1_formOf_10 : decode cX1_formOf 10 = .ok (.iload_n 1, 1) := by decide +kernel
theorem dX1_formOf_11 : decode cX1_formOf 11 = .ok (.iload_n 2, 1) := by decide +kernel
theorem dX1_formOf_12 : decode cX1_formOf 12 = .ok (.invokevirtual 68, 3) := by decide +kernel
theorem dX1_formOf_15 : decode cX1_formOf 15 = .ok (.goto 4, 3) := by decide +kernel
theorem dX1_formOf_18 : decode cX1_formOf 18 = .ok (.iconst 0, 1) := by decide +kernel
theorem dX1_formOf_19 : decode cX1_formOf 19 = .ok (.ireturn, 1) := by decide +kernel
theorem dX1_spills_0 : decode cX1_spills 0 = .ok (.aload_n 0, 1) := by decide +kernel
theorem dX1_spills_1 : decode cX1_spills 1 = .ok (.iload_n 1, 1) := by decide +kernel
theorem dX1_spills_2 : decode cX1_spills 2 = .ok (.iload_n 2, 1) := by decide +kernel
theorem dX1_spills_3 : decode cX1_spills 3 = .ok (.invokevirtual 119, 3) := by decide +kernel
theorem dX1_spills_6 : decode cX1_spills 6 = .ok (.ifCond .eq 12, 3) := by decide +kernel
theorem dX1_spills_9 : decode cX1_spills 9 = .ok (.aload_n 0, 1) := by decide +kernel
theorem dX1_spills_10 : decode cX1_spills 10 = .ok (.iload_n 1, 1) := by decide +kernel
theorem dX1_spills_11 : decode cX1_spills 11 = .ok (.iload_n 2, 1) := by decide +kernel
theorem dX1_spills_12 : decode cX1_spills 12 = .ok (.invokevirtual 122, 3) := by decide +kernel
theorem dX1_spills_15 : decode cX1_spills 15 = .ok (.goto 4, 3) := by decide +kernel
theorem dX1_spills_18 : decode cX1_spills 18 = .ok (.iconst 0, 1) := by decide +kernel
theorem dX1_spills_19 : decode cX1_spills 19 = .ok (.ireturn, 1) := by decide +kernel
theorem dX1_fallsApartAt_0 : decode cX1_fallsApartAt 0 = .ok (.aload_n 0, 1) := by decide +kernel
theorem dX1_fallsApartAt_1 : decode cX1_fallsApartAt 1 = .ok (.iconst 0, 1) := by decide +kernel
theorem dX1_fallsApartAt_2 : decode cX1_fallsApartAt 2 = .ok (.putfield 34, 3) := by decide +kernel
theorem dX1_fallsApartAt_5 : decode cX1_fallsApartAt 5 = .ok (.aload_n 0, 1) := by decide +kernel
theorem dX1_fallsApartAt_6 : decode cX1_fallsApartAt 6 = .ok (.iload_n 1, 1) := by decide +kernel
theorem dX1_fallsApartAt_7 : decode cX1_fallsApartAt 7 = .ok (.invokevirtual 91, 3) := by decide +kernel
theorem dX1_fallsApartAt_10 : decode cX1_fallsApartAt 10 = .ok (.ifCond .eq 11, 3) := by decide +kernel
theorem dX1_fallsApartAt_13 : decode cX1_fallsApartAt 13 = .ok (.aload_n 0, 1) := by decide +kernel
theorem dX1_fallsApartAt_14 : decode cX1_fallsApartAt 14 = .ok (.iload_n 1, 1) := by decide +kernel
theorem dX1_fallsApartAt_15 : decode cX1_fallsApartAt 15 = .ok (.invokevirtual 125, 3) := by decide +kernel
theorem dX1_fallsApartAt_18 : decode cX1_fallsApartAt 18 = .ok (.goto 8, 3) := by decide +kernel
theorem dX1_fallsApartAt_21 : decode cX1_fallsApartAt 21 = .ok (.aload_n 0, 1) := by decide +kernel
theorem dX1_fallsApartAt_22 : decode cX1_fallsApartAt 22 = .ok (.iconst 1, 1) := by decide +kernel
theorem dX1_fallsApartAt_23 : decode cX1_fallsApartAt 23 = .ok (.invokevirtual 88, 3) := by decide +kernel
theorem dX1_fallsApartAt_26 : decode cX1_fallsApartAt 26 = .ok (.ireturn, 1) := by decide +kernel
theorem dX1_lines_0 : decode cX1_lines 0 = .ok (.aload_n 0, 1) := by decide +kernel
theorem dX1_lines_1 : decode cX1_lines 1 = .ok (.aload_n 0, 1) := by decide +kernel
theorem dX1_lines_2 : decode cX1_lines 2 = .ok (.getfield 45, 3) := by decide +kernel
theorem dX1_lines_5 : decode cX1_lines 5 = .ok (.invokevirtual 106, 3) := by decide +kernel
theorem dX1_lines_8 : decode cX1_lines 8 = .ok (.ireturn, 1) := by decide +kernel
theorem dX1_ropesOf_0 : decode cX1_ropesOf 0 = .ok (.aload_n 0, 1) := by decide +kernel
theorem dX1_ropesOf_1 : decode cX1_ropesOf 1 = .ok (.iconst 0, 1) := by decide +kernel
theorem dX1_ropesOf_2 : decode cX1_ropesOf 2 = .ok (.putfield 34, 3) := by decide +kernel
theorem dX1_ropesOf_5 : decode cX1_ropesOf 5 = .ok (.aload_n 0, 1) := by decide +kernel
theorem dX1_ropesOf_6 : decode cX1_ropesOf 6 = .ok (.iload_n 1, 1) := by decide +kernel
theorem dX1_ropesOf_7 : decode cX1_ropesOf 7 = .ok (.invokevirtual 48, 3) := by decide +kernel
theorem dX1_ropesOf_10 : decode cX1_ropesOf 10 = .ok (.ifCond .eq 12, 3) := by decide +kernel
theorem dX1_ropesOf_13 : decode cX1_ropesOf 13 = .ok (.aload_n 0, 1) := by decide +kernel
theorem dX1_ropesOf_14 : decode cX1_ropesOf 14 = .ok (.getfield 25, 3) := by decide +kernel
theorem dX1_ropesOf_17 : decode cX1_ropesOf 17 = .ok (.iload_n 1, 1) := by decide +kernel
theorem dX1_ropesOf_18 : decode cX1_ropesOf 18 = .ok (.iaload, 1) := by decide +kernel
theorem dX1_ropesOf_19 : decode cX1_ropesOf 19 = .ok (.goto 8, 3) := by decide +kernel
theorem dX1_ropesOf_22 : decode cX1_ropesOf 22 = .ok (.aload_n 0, 1) := by decide +kernel
theorem dX1_ropesOf_23 : decode cX1_ropesOf 23 = .ok (.iconst 1, 1) := by decide +kernel
theorem dX1_ropesOf_24 : decode cX1_ropesOf 24 = .ok (.invokevirtual 88, 3) := by decide +kernel
theorem dX1_ropesOf_27 : decode cX1_ropesOf 27 = .ok (.ireturn, 1) := by decide +kernel
theorem dX1_knotOf_0 : decode cX1_knotOf 0 = .ok (.aload_n 0, 1) := by decide +kernel
theorem dX1_knotOf_1 : decode cX1_knotOf 1 = .ok (.iconst 0, 1) := by decide +kernel
theorem dX1_knotOf_2 : decode cX1_knotOf 2 = .ok (.putfield 34, 3) := by decide +kernel
theorem dX1_knotOf_5 : decode cX1_knotOf 5 = .ok (.aload_n 0, 1) := by decide +kernel
theorem dX1_knotOf_6 : decode cX1_knotOf 6 = .ok (.iload_n 1, 1) := by decide +kernel
theorem dX1_knotOf_7 : decode cX1_knotOf 7 = .ok (.iload_n 2, 1) := by decide +kernel
theorem dX1_knotOf_8 : decode cX1_knotOf 8 = .ok (.invokevirtual 97, 3) := by decide +kernel
theorem dX1_knotOf_11 : decode cX1_knotOf 11 = .ok (.ifCond .eq 16, 3) := by decide +kernel
theorem dX1_knotOf_14 : decode cX1_knotOf 14 = .ok (.aload_n 0, 1) := by decide +kernel
theorem dX1_knotOf_15 : decode cX1_knotOf 15 = .ok (.getfield 31, 3) := by decide +kernel
theorem dX1_knotOf_18 : decode cX1_knotOf 18 = .ok (.iconst 5, 1) := by decide +kernel
theorem dX1_knotOf_19 : decode cX1_knotOf 19 = .ok (.iload_n 1, 1) := by decide +kernel
theorem dX1_knotOf_20 : decode cX1_knotOf 20 = .ok (.imul, 1) := by decide +kernel
theorem dX1_knotOf_21 : decode cX1_knotOf 21 = .ok (.iload_n 2, 1) := by decide +kernel
theorem dX1_knotOf_22 : decode cX1_knotOf 22 = .ok (.iadd, 1) := by decide +kernel
theorem dX1_knotOf_23 : decode cX1_knotOf 23 = .ok (.iaload, 1) := by decide +kernel
theorem dX1_knotOf_24 : decode cX1_knotOf 24 = .ok (.goto 8, 3) := by decide +kernel
theorem dX1_knotOf_27 : decode cX1_knotOf 27 = .ok (.aload_n 0, 1) := by decide +kernel
theorem dX1_knotOf_28 : decode cX1_knotOf 28 = .ok (.iconst 1, 1) := by decide +kernel
theorem dX1_knotOf_29 : decode cX1_knotOf 29 = .ok (.invokevirtual 88, 3) := by decide +kernel
theorem dX1_knotOf_32 : decode cX1_knotOf 32 = .ok (.ireturn, 1) := by decide +kernel
theorem dX1_strengthAt_0 : decode cX1_strengthAt 0 = .ok (.aload_n 0, 1) := by decide +kernel
theorem dX1_strengthAt_1 : decode cX1_strengthAt 1 = .ok (.iconst 0, 1) := by decide +kernel
theorem dX1_strengthAt_2 : decode cX1_strengthAt 2 = .ok (.putfield 34, 3) := by decide +kernel
theorem dX1_strengthAt_5 : decode cX1_strengthAt 5 = .ok (.aload_n 0, 1) := by decide +kernel
theorem dX1_strengthAt_6 : decode cX1_strengthAt 6 = .ok (.iload_n 1, 1) := by decide +kernel
theorem dX1_strengthAt_7 : decode cX1_strengthAt 7 = .ok (.iload_n 2, 1) := by decide +kernel
theorem dX1_strengthAt_8 : decode cX1_strengthAt 8 = .ok (.invokevirtual 97, 3) := by decide +kernel
theorem dX1_strengthAt_11 : decode cX1_strengthAt 11 = .ok (.ifCond .eq 12, 3) := by decide +kernel
theorem dX1_strengthAt_14 : decode cX1_strengthAt 14 = .ok (.aload_n 0, 1) := by decide +kernel
theorem dX1_strengthAt_15 : decode cX1_strengthAt 15 = .ok (.iload_n 1, 1) := by decide +kernel
theorem dX1_strengthAt_16 : decode cX1_strengthAt 16 = .ok (.iload_n 2, 1) := by decide +kernel
theorem dX1_strengthAt_17 : decode cX1_strengthAt 17 = .ok (.invokevirtual 81, 3) := by decide +kernel
theorem dX1_strengthAt_20 : decode cX1_strengthAt 20 = .ok (.goto 8, 3) := by decide +kernel
theorem dX1_strengthAt_23 : decode cX1_strengthAt 23 = .ok (.aload_n 0, 1) := by decide +kernel
theorem dX1_strengthAt_24 : decode cX1_strengthAt 24 = .ok (.iconst 1, 1) := by decide +kernel
theorem dX1_strengthAt_25 : decode cX1_strengthAt 25 = .ok (.invokevirtual 88, 3) := by decide +kernel
theorem dX1_strengthAt_28 : decode cX1_strengthAt 28 = .ok (.ireturn, 1) := by decide +kernel
theorem dX1_weakestPlace_0 : decode cX1_weakestPlace 0 = .ok (.aload_n 0, 1) := by decide +kernel
theorem dX1_weakestPlace_1 : decode cX1_weakestPlace 1 = .ok (.iconst 0, 1) := by decide +kernel
theorem dX1_weakestPlace_2 : decode cX1_weakestPlace 2 = .ok (.putfield 34, 3) := by decide +kernel
theorem dX1_weakestPlace_5 : decode cX1_weakestPlace 5 = .ok (.aload_n 0, 1) := by decide +kernel
theorem dX1_weakestPlace_6 : decode cX1_weakestPlace 6 = .ok (.iload_n 1, 1) := by decide +kernel
theorem dX1_weakestPlace_7 : decode cX1_weakestPlace 7 = .ok (.invokevirtual 48, 3) := by decide +kernel
theorem dX1_weakestPlace_10 : decode cX1_weakestPlace 10 = .ok (.ifCond .eq 11, 3) := by decide +kernel
theorem dX1_weakestPlace_13 : decode cX1_weakestPlace 13 = .ok (.aload_n 0, 1) := by decide +kernel
theorem dX1_weakestPlace_14 : decode cX1_weakestPlace 14 = .ok (.iload_n 1, 1) := by decide +kernel
theorem dX1_weakestPlace_15 : decode cX1_weakestPlace 15 = .ok (.invokevirtual 128, 3) := by decide +kernel
theorem dX1_weakestPlace_18 : decode cX1_weakestPlace 18 = .ok (.goto 8, 3) := by decide +kernel
theorem dX1_weakestPlace_21 : decode cX1_weakestPlace 21 = .ok (.aload_n 0, 1) := by decide +kernel
theorem dX1_weakestPlace_22 : decode cX1_weakestPlace 22 = .ok (.iconst 1, 1) := by decide +kernel
theorem dX1_weakestPlace_23 : decode cX1_weakestPlace 23 = .ok (.invokevirtual 88, 3) := by decide +kernel
theorem dX1_weakestPlace_26 : decode cX1_weakestPlace 26 = .ok (.ireturn, 1) := by decide +kernel
theorem dX1_isPulled_0 : decode cX1_isPulled 0 = .ok (.aload_n 0, 1) := by decide +kernel
theorem dX1_isPulled_1 : decode cX1_isPulled 1 = .ok (.aload_n 0, 1) := by decide +kernel
theorem dX1_isPulled_2 : decode cX1_isPulled 2 = .ok (.iload_n 1, 1) := by decide +kernel
theorem dX1_isPulled_3 : decode cX1_isPulled 3 = .ok (.invokevirtual 48, 3) := by decide +kernel
theorem dX1_isPulled_6 : decode cX1_isPulled 6 = .ok (.ifCond .ne 7, 3) := by decide +kernel
theorem dX1_isPulled_9 : decode cX1_isPulled 9 = .ok (.iconst 1, 1) := by decide +kernel
theorem dX1_isPulled_10 : decode cX1_isPulled 10 = .ok (.goto 15, 3) := by decide +kernel
theorem dX1_isPulled_13 : decode cX1_isPulled 13 = .ok (.iload_n 2, 1) := by decide +kernel
theorem dX1_isPulled_14 : decode cX1_isPulled 14 = .ok (.invokestatic 94, 3) := by decide +kernel
theorem dX1_isPulled_17 : decode cX1_isPulled 17 = .ok (.ifCond .eq 7, 3) := by decide +kernel
theorem dX1_isPulled_20 : decode cX1_isPulled 20 = .ok (.iconst 0, 1) := by decide +kernel
theorem dX1_isPulled_21 : decode cX1_isPulled 21 = .ok (.goto 4, 3) := by decide +kernel
theorem dX1_isPulled_24 : decode cX1_isPulled 24 = .ok (.iconst 2, 1) := by decide +kernel
theorem dX1_isPulled_25 : decode cX1_isPulled 25 = .ok (.putfield 34, 3) := by decide +kernel
theorem dX1_isPulled_28 : decode cX1_isPulled 28 = .ok (.aload_n 0, 1) := by decide +kernel
theorem dX1_isPulled_29 : decode cX1_isPulled 29 = .ok (.getfield 34, 3) := by decide +kernel
theorem dX1_isPulled_32 : decode cX1_isPulled 32 = .ok (.ifCond .ne 7, 3) := by decide +kernel
theorem dX1_isPulled_35 : decode cX1_isPulled 35 = .ok (.iconst 1, 1) := by decide +kernel
theorem dX1_isPulled_36 : decode cX1_isPulled 36 = .ok (.goto 4, 3) := by decide +kernel
theorem dX1_isPulled_39 : decode cX1_isPulled 39 = .ok (.iconst 0, 1) := by decide +kernel
theorem dX1_isPulled_40 : decode cX1_isPulled 40 = .ok (.ireturn, 1) := by decide +kernel
theorem dX1_holds_0 : decode cX1_holds 0 = .ok (.aload_n 0, 1) := by decide +kernel
theorem dX1_holds_1 : decode cX1_holds 1 = .ok (.iload_n 1, 1) := by decide +kernel
theorem dX1_holds_2 : decode cX1_holds 2 = .ok (.iload_n 2, 1) := by decide +kernel
theorem dX1_holds_3 : decode cX1_holds 3 = .ok (.invokevirtual 131, 3) := by decide +kernel
theorem dX1_holds_6 : decode cX1_holds 6 = .ok (.ifCond .eq 26, 3) := by decide +kernel
theorem dX1_holds_9 : decode cX1_holds 9 = .ok (.aload_n 0, 1) := by decide +kernel
theorem dX1_holds_10 : decode cX1_holds 10 = .ok (.getfield 25, 3) := by decide +kernel
theorem dX1_holds_13 : decode cX1_holds 13 = .ok (.iload_n 1, 1) := by decide +kernel
theorem dX1_holds_14 : decode cX1_holds 14 = .ok (.iaload, 1) := by decide +kernel
theorem dX1_holds_15 : decode cX1_holds 15 = .ok (.ifCond .le 17, 3) := by decide +kernel
theorem dX1_holds_18 : decode cX1_holds 18 = .ok (.aload_n 0, 1) := by decide +kernel
theorem dX1_holds_19 : decode cX1_holds 19 = .ok (.iload_n 1, 1) := by decide +kernel
theorem dX1_holds_20 : decode cX1_holds 20 = .ok (.iload_n 2, 1) := by decide +kernel
theorem dX1_holds_21 : decode cX1_holds 21 = .ok (.invokevirtual 103, 3) := by decide +kernel
theorem dX1_holds_24 : decode cX1_holds 24 = .ok (.iconst (-1), 1) := by decide +kernel
theorem dX1_holds_25 : decode cX1_holds 25 = .ok (.if_icmp .ne 7, 3) := by decide +kernel
theorem dX1_holds_28 : decode cX1_holds 28 = .ok (.iconst 1, 1) := by decide +kernel
theorem dX1_holds_29 : decode cX1_holds 29 = .ok (.goto 4, 3) := by decide +kernel
theorem dX1_holds_32 : decode cX1_holds 32 = .ok (.iconst 0, 1) := by decide +kernel
theorem dX1_holds_33 : decode cX1_holds 33 = .ok (.ireturn, 1) := by decide +kernel
theorem dX1_holdsUpTo_0 : decode cX1_holdsUpTo 0 = .ok (.aload_n 0, 1) := by decide +kernel
theorem dX1_holdsUpTo_1 : decode cX1_holdsUpTo 1 = .ok (.iconst 0, 1) := by decide +kernel
theorem dX1_holdsUpTo_2 : decode cX1_holdsUpTo 2 = .ok (.putfield 34, 3) := by decide +kernel
theorem dX1_holdsUpTo_5 : decode cX1_holdsUpTo 5 = .ok (.aload_n 0, 1) := by decide +kernel
theorem dX1_holdsUpTo_6 : decode cX1_holdsUpTo 6 = .ok (.iload_n 1, 1) := by decide +kernel
theorem dX1_holdsUpTo_7 : decode cX1_holdsUpTo 7 = .ok (.invokevirtual 48, 3) := by decide +kernel
theorem dX1_holdsUpTo_10 : decode cX1_holdsUpTo 10 = .ok (.ifCond .eq 11, 3) := by decide +kernel
theorem dX1_holdsUpTo_13 : decode cX1_holdsUpTo 13 = .ok (.aload_n 0, 1) := by decide +kernel
theorem dX1_holdsUpTo_14 : decode cX1_holdsUpTo 14 = .ok (.iload_n 1, 1) := by decide +kernel
theorem dX1_holdsUpTo_15 : decode cX1_holdsUpTo 15 = .ok (.invokevirtual 84, 3) := by decide +kernel
theorem dX1_holdsUpTo_18 : decode cX1_holdsUpTo 18 = .ok (.goto 8, 3) := by decide +kernel
theorem dX1_holdsUpTo_21 : decode cX1_holdsUpTo 21 = .ok (.aload_n 0, 1) := by decide +kernel
theorem dX1_holdsUpTo_22 : decode cX1_holdsUpTo 22 = .ok (.iconst 1, 1) := by decide +kernel
theorem dX1_holdsUpTo_23 : decode cX1_holdsUpTo 23 = .ok (.invokevirtual 88, 3) := by decide +kernel
theorem dX1_holdsUpTo_26 : decode cX1_holdsUpTo 26 = .ok (.ireturn, 1) := by decide +kernel
theorem dX1_wouldGiveWay_0 : decode cX1_wouldGiveWay 0 = .ok (.aload_n 0, 1) := by decide +kernel
theorem dX1_wouldGiveWay_1 : decode cX1_wouldGiveWay 1 = .ok (.iload_n 1, 1) := by decide +kernel
theorem dX1_wouldGiveWay_2 : decode cX1_wouldGiveWay 2 = .ok (.iload_n 2, 1) := by decide +kernel
theorem dX1_wouldGiveWay_3 : decode cX1_wouldGiveWay 3 = .ok (.invokevirtual 131, 3) := by decide +kernel
theorem dX1_wouldGiveWay_6 : decode cX1_wouldGiveWay 6 = .ok (.ifCond .eq 12, 3) := by decide +kernel
theorem dX1_wouldGiveWay_9 : decode cX1_wouldGiveWay 9 = .ok (.aload_n 0, 1) := by decide +kernel
theorem dX1_wouldGiveWay_10 : decode cX1_wouldGiveWay 10 = .ok (.iload_n 1, 1) := by decide +kernel
theorem dX1_wouldGiveWay_11 : decode cX1_wouldGiveWay 11 = .ok (.iload_n 2, 1) := by decide +kernel
theorem dX1_wouldGiveWay_12 : decode cX1_wouldGiveWay 12 = .ok (.invokevirtual 103, 3) := by decide +kernel
theorem dX1_wouldGiveWay_15 : decode cX1_wouldGiveWay 15 = .ok (.goto 4, 3) := by decide +kernel
theorem dX1_wouldGiveWay_18 : decode cX1_wouldGiveWay 18 = .ok (.iconst 0, 1) := by decide +kernel
theorem dX1_wouldGiveWay_19 : decode cX1_wouldGiveWay 19 = .ok (.ireturn, 1) := by decide +kernel
theorem dX1_best_0 : decode cX1_best 0 = .ok (.aload_n 0, 1) := by decide +kernel
theorem dX1_best_1 : decode cX1_best 1 = .ok (.getfield 31, 3) := by decide +kernel
theorem dX1_best_4 : decode cX1_best 4 = .ok (.iconst 5, 1) := by decide +kernel
theorem dX1_best_5 : decode cX1_best 5 = .ok (.iload_n 1, 1) := by decide +kernel
theorem dX1_best_6 : decode cX1_best 6 = .ok (.imul, 1) := by decide +kernel
theorem dX1_best_7 : decode cX1_best 7 = .ok (.iload_n 2, 1) := by decide +kernel
theorem dX1_best_8 : decode cX1_best 8 = .ok (.iadd, 1) := by decide +kernel
theorem dX1_best_9 : decode cX1_best 9 = .ok (.iaload, 1) := by decide +kernel
theorem dX1_best_10 : decode cX1_best 10 = .ok (.istore_n 3, 1) := by decide +kernel
theorem dX1_best_11 : decode cX1_best 11 = .ok (.iconst (-1), 1) := by decide +kernel
theorem dX1_best_12 : decode cX1_best 12 = .ok (.istore 4, 2) := by decide +kernel
theorem dX1_best_14 : decode cX1_best 14 = .ok (.iconst 0, 1) := by decide +kernel
theorem dX1_best_15 : decode cX1_best 15 = .ok (.istore 5, 2) := by decide +kernel
theorem dX1_best_17 : decode cX1_best 17 = .ok (.iconst 0, 1) := by decide +kernel
theorem dX1_best_18 : decode cX1_best 18 = .ok (.istore 6, 2) := by decide +kernel
theorem dX1_best_20 : decode cX1_best 20 = .ok (.iload 6, 2) := by decide +kernel
theorem dX1_best_22 : decode cX1_best 22 = .ok (.aload_n 0, 1) := by decide +kernel
theorem dX1_best_23 : decode cX1_best 23 = .ok (.getfield 38, 3) := by decide +kernel
theorem dX1_best_26 : decode cX1_best 26 = .ok (.if_icmp .ge 91, 3) := by decide +kernel
theorem dX1_best_29 : decode cX1_best 29 = .ok (.aload_n 0, 1) := by decide +kernel
theorem dX1_best_30 : decode cX1_best 30 = .ok (.getfield 9, 3) := by decide +kernel
theorem dX1_best_33 : decode cX1_best 33 = .ok (.iload 6, 2) := by decide +kernel
theorem dX1_best_35 : decode cX1_best 35 = .ok (.iaload, 1) := by decide +kernel
theorem dX1_best_36 : decode cX1_best 36 = .ok (.iload_n 2, 1) := by decide +kernel
theorem dX1_best_37 : decode cX1_best 37 = .ok (.invokestatic 100, 3) := by decide +kernel
theorem dX1_best_40 : decode cX1_best 40 = .ok (.if_icmp .eq 6, 3) := by decide +kernel
theorem dX1_best_43 : decode cX1_best 43 = .ok (.goto 68, 3) := by decide +kernel
theorem dX1_best_46 : decode cX1_best 46 = .ok (.aload_n 0, 1) := by decide +kernel
theorem dX1_best_47 : decode cX1_best 47 = .ok (.getfield 31, 3) := by decide +kernel
theorem dX1_best_50 : decode cX1_best 50 = .ok (.iconst 5, 1) := by decide +kernel
theorem dX1_best_51 : decode cX1_best 51 = .ok (.iload_n 1, 1) := by decide +kernel
theorem dX1_best_52 : decode cX1_best 52 = .ok (.imul, 1) := by decide +kernel
theorem dX1_best_53 : decode cX1_best 53 = .ok (.iload_n 2, 1) := by decide +kernel
theorem dX1_best_54 : decode cX1_best 54 = .ok (.iadd, 1) := by decide +kernel
theorem dX1_best_55 : decode cX1_best 55 = .ok (.iload 6, 2) := by decide +kernel
theorem dX1_best_57 : decode cX1_best 57 = .ok (.iastore, 1) := by decide +kernel
theorem dX1_best_58 : decode cX1_best 58 = .ok (.aload_n 0, 1) := by decide +kernel
theorem dX1_best_59 : decode cX1_best 59 = .ok (.iload_n 1, 1) := by decide +kernel
theorem dX1_best_60 : decode cX1_best 60 = .ok (.invokevirtual 84, 3) := by decide +kernel
theorem dX1_best_63 : decode cX1_best 63 = .ok (.istore 7, 2) := by decide +kernel
theorem dX1_best_65 : decode cX1_best 65 = .ok (.iload 4, 2) := by decide +kernel
theorem dX1_best_67 : decode cX1_best 67 = .ok (.iconst (-1), 1) := by decide +kernel
theorem dX1_best_68 : decode cX1_best 68 = .ok (.if_icmp .eq 35, 3) := by decide +kernel
theorem dX1_best_71 : decode cX1_best 71 = .ok (.iload 7, 2) := by decide +kernel
theorem dX1_best_73 : decode cX1_best 73 = .ok (.iload 5, 2) := by decide +kernel
theorem dX1_best_75 : decode cX1_best 75 = .ok (.if_icmp .lt 36, 3) := by decide +kernel
theorem dX1_best_78 : decode cX1_best 78 = .ok (.iload 7, 2) := by decide +kernel
theorem dX1_best_80 : decode cX1_best 80 = .ok (.iload 5, 2) := by decide +kernel
theorem dX1_best_82 : decode cX1_best 82 = .ok (.if_icmp .ne 21, 3) := by decide +kernel
theorem dX1_best_85 : decode cX1_best 85 = .ok (.aload_n 0, 1) := by decide +kernel
theorem dX1_best_86 : decode cX1_best 86 = .ok (.iload 4, 2) := by decide +kernel
theorem dX1_best_88 : decode cX1_best 88 = .ok (.invokevirtual 116, 3) := by decide +kernel
theorem dX1_best_91 : decode cX1_best 91 = .ok (.aload_n 0, 1) := by decide +kernel
theorem dX1_best_92 : decode cX1_best 92 = .ok (.iload 6, 2) := by decide +kernel
theorem dX1_best_94 : decode cX1_best 94 = .ok (.invokevirtual 116, 3) := by decide +kernel
theorem dX1_best_97 : decode cX1_best 97 = .ok (.if_icmp .ge 6, 3) := by decide +kernel
theorem dX1_best_100 : decode cX1_best 100 = .ok (.goto 11, 3) := by decide +kernel
theorem dX1_best_103 : decode cX1_best 103 = .ok (.iload 6, 2) := by decide +kernel
theorem dX1_best_105 : decode cX1_best 105 = .ok (.istore 4, 2) := by decide +kernel
theorem dX1_best_107 : decode cX1_best 107 = .ok (.iload 7, 2) := by decide +kernel
theorem dX1_best_109 : decode cX1_best 109 = .ok (.istore 5, 2) := by decide +kernel
theorem dX1_best_111 : decode cX1_best 111 = .ok (.iinc 6 1, 3) := by decide +kernel
theorem dX1_best_114 : decode cX1_best 114 = .ok (.goto (-94), 3) := by decide +kernel
theorem dX1_best_117 : decode cX1_best 117 = .ok (.aload_n 0, 1) := by decide +kernel
theorem dX1_best_118 : decode cX1_best 118 = .ok (.getfield 31, 3) := by decide +kernel
theorem dX1_best_121 : decode cX1_best 121 = .ok (.iconst 5, 1) := by decide +kernel
theorem dX1_best_122 : decode cX1_best 122 = .ok (.iload_n 1, 1) := by decide +kernel
theorem dX1_best_123 : decode cX1_best 123 = .ok (.imul, 1) := by decide +kernel
theorem dX1_best_124 : decode cX1_best 124 = .ok (.iload_n 2, 1) := by decide +kernel
theorem dX1_best_125 : decode cX1_best 125 = .ok (.iadd, 1) := by decide +kernel
theorem dX1_best_126 : decode cX1_best 126 = .ok (.iload_n 3, 1) := by decide +kernel
theorem dX1_best_127 : decode cX1_best 127 = .ok (.iastore, 1) := by decide +kernel
theorem dX1_best_128 : decode cX1_best 128 = .ok (.iload 4, 2) := by decide +kernel
theorem dX1_best_130 : decode cX1_best 130 = .ok (.ireturn, 1) := by decide +kernel
theorem dX1_bestKnot_0 : decode cX1_bestKnot 0 = .ok (.aload_n 0, 1) := by decide +kernel
theorem dX1_bestKnot_1 : decode cX1_bestKnot 1 = .ok (.iconst 0, 1) := by decide +kernel
theorem dX1_bestKnot_2 : decode cX1_bestKnot 2 = .ok (.putfield 34, 3) := by decide +kernel
theorem dX1_bestKnot_5 : decode cX1_bestKnot 5 = .ok (.aload_n 0, 1) := by decide +kernel
theorem dX1_bestKnot_6 : decode cX1_bestKnot 6 = .ok (.iload_n 1, 1) := by decide +kernel
theorem dX1_bestKnot_7 : decode cX1_bestKnot 7 = .ok (.iload_n 2, 1) := by decide +kernel
theorem dX1_bestKnot_8 : decode cX1_bestKnot 8 = .ok (.invokevirtual 97, 3) := by decide +kernel
theorem dX1_bestKnot_11 : decode cX1_bestKnot 11 = .ok (.ifCond .eq 12, 3) := by decide +kernel
theorem dX1_bestKnot_14 : decode cX1_bestKnot 14 = .ok (.aload_n 0, 1) := by decide +kernel
theorem dX1_bestKnot_15 : decode cX1_bestKnot 15 = .ok (.iload_n 1, 1) := by decide +kernel
theorem dX1_bestKnot_16 : decode cX1_bestKnot 16 = .ok (.iload_n 2, 1) := by decide +kernel
theorem dX1_bestKnot_17 : decode cX1_bestKnot 17 = .ok (.invokevirtual 134, 3) := by decide +kernel
theorem dX1_bestKnot_20 : decode cX1_bestKnot 20 = .ok (.goto 8, 3) := by decide +kernel
theorem dX1_bestKnot_23 : decode cX1_bestKnot 23 = .ok (.aload_n 0, 1) := by decide +kernel
theorem dX1_bestKnot_24 : decode cX1_bestKnot 24 = .ok (.iconst 1, 1) := by decide +kernel
theorem dX1_bestKnot_25 : decode cX1_bestKnot 25 = .ok (.invokevirtual 88, 3) := by decide +kernel
theorem dX1_bestKnot_28 : decode cX1_bestKnot 28 = .ok (.ireturn, 1) := by decide +kernel
theorem dX1_strongestLine_0 : decode cX1_strongestLine 0 = .ok (.aload_n 0, 1) := by decide +kernel
theorem dX1_strongestLine_1 : decode cX1_strongestLine 1 = .ok (.aload_n 0, 1) := by decide +kernel
theorem dX1_strongestLine_2 : decode cX1_strongestLine 2 = .ok (.invokevirtual 137, 3) := by decide +kernel
theorem dX1_strongestLine_5 : decode cX1_strongestLine 5 = .ok (.invokevirtual 106, 3) := by decide +kernel
theorem dX1_strongestLine_8 : decode cX1_strongestLine 8 = .ok (.ireturn, 1) := by decide +kernel
theorem dX1_meanEfficiency_0 : decode cX1_meanEfficiency 0 = .ok (.aload_n 0, 1) := by decide +kernel
theorem dX1_meanEfficiency_1 : decode cX1_meanEfficiency 1 = .ok (.iconst 0, 1) := by decide +kernel
theorem dX1_meanEfficiency_2 : decode cX1_meanEfficiency 2 = .ok (.putfield 34, 3) := by decide +kernel
theorem dX1_meanEfficiency_5 : decode cX1_meanEfficiency 5 = .ok (.iconst 0, 1) := by decide +kernel
theorem dX1_meanEfficiency_6 : decode cX1_meanEfficiency 6 = .ok (.istore_n 1, 1) := by decide +kernel
theorem dX1_meanEfficiency_7 : decode cX1_meanEfficiency 7 = .ok (.iconst 0, 1) := by decide +kernel
theorem dX1_meanEfficiency_8 : decode cX1_meanEfficiency 8 = .ok (.istore_n 2, 1) := by decide +kernel
theorem dX1_meanEfficiency_9 : decode cX1_meanEfficiency 9 = .ok (.iload_n 2, 1) := by decide +kernel
theorem dX1_meanEfficiency_10 : decode cX1_meanEfficiency 10 = .ok (.aload_n 0, 1) := by decide +kernel
theorem dX1_meanEfficiency_11 : decode cX1_meanEfficiency 11 = .ok (.getfield 38, 3) := by decide +kernel
theorem dX1_meanEfficiency_14 : decode cX1_meanEfficiency 14 = .ok (.if_icmp .ge 18, 3) := by decide +kernel
theorem dX1_meanEfficiency_17 : decode cX1_meanEfficiency 17 = .ok (.iload_n 1, 1) := by decide +kernel
theorem dX1_meanEfficiency_18 : decode cX1_meanEfficiency 18 = .ok (.aload_n 0, 1) := by decide +kernel
theorem dX1_meanEfficiency_19 : decode cX1_meanEfficiency 19 = .ok (.getfield 13, 3) := by decide +kernel
theorem dX1_meanEfficiency_22 : decode cX1_meanEfficiency 22 = .ok (.iload_n 2, 1) := by decide +kernel
theorem dX1_meanEfficiency_23 : decode cX1_meanEfficiency 23 = .ok (.iaload, 1) := by decide +kernel
theorem dX1_meanEfficiency_24 : decode cX1_meanEfficiency 24 = .ok (.iadd, 1) := by decide +kernel
theorem dX1_meanEfficiency_25 : decode cX1_meanEfficiency 25 = .ok (.istore_n 1, 1) := by decide +kernel
theorem dX1_meanEfficiency_26 : decode cX1_meanEfficiency 26 = .ok (.iinc 2 1, 3) := by decide +kernel
theorem dX1_meanEfficiency_29 : decode cX1_meanEfficiency 29 = .ok (.goto (-20), 3) := by decide +kernel
theorem dX1_meanEfficiency_32 : decode cX1_meanEfficiency 32 = .ok (.aload_n 0, 1) := by decide +kernel
theorem dX1_meanEfficiency_33 : decode cX1_meanEfficiency 33 = .ok (.getfield 38, 3) := by decide +kernel
theorem dX1_meanEfficiency_36 : decode cX1_meanEfficiency 36 = .ok (.ifCond .ne 7, 3) := by decide +kernel
theorem dX1_meanEfficiency_39 : decode cX1_meanEfficiency 39 = .ok (.dconst 0, 1) := by decide +kernel
theorem dX1_meanEfficiency_40 : decode cX1_meanEfficiency 40 = .ok (.goto 11, 3) := by decide +kernel
theorem dX1_meanEfficiency_43 : decode cX1_meanEfficiency 43 = .ok (.iload_n 1, 1) := by decide +kernel
theorem dX1_meanEfficiency_44 : decode cX1_meanEfficiency 44 = .ok (.i2d, 1) := by decide +kernel
theorem dX1_meanEfficiency_45 : decode cX1_meanEfficiency 45 = .ok (.aload_n 0, 1) := by decide +kernel
theorem dX1_meanEfficiency_46 : decode cX1_meanEfficiency 46 = .ok (.getfield 38, 3) := by decide +kernel
theorem dX1_meanEfficiency_49 : decode cX1_meanEfficiency 49 = .ok (.i2d, 1) := by decide +kernel
theorem dX1_meanEfficiency_50 : decode cX1_meanEfficiency 50 = .ok (.ddiv, 1) := by decide +kernel
theorem dX1_meanEfficiency_51 : decode cX1_meanEfficiency 51 = .ok (.dreturn, 1) := by decide +kernel
theorem dX1_digest_0 : decode cX1_digest 0 = .ok (.aload_n 0, 1) := by decide +kernel
theorem dX1_digest_1 : decode cX1_digest 1 = .ok (.iconst 0, 1) := by decide +kernel
theorem dX1_digest_2 : decode cX1_digest 2 = .ok (.putfield 34, 3) := by decide +kernel
theorem dX1_digest_5 : decode cX1_digest 5 = .ok (.ldc2_w 141, 3) := by decide +kernel
theorem dX1_digest_8 : decode cX1_digest 8 = .ok (.aload_n 0, 1) := by decide +kernel
theorem dX1_digest_9 : decode cX1_digest 9 = .ok (.getfield 38, 3) := by decide +kernel
theorem dX1_digest_12 : decode cX1_digest 12 = .ok (.i2l, 1) := by decide +kernel
theorem dX1_digest_13 : decode cX1_digest 13 = .ok (.ladd, 1) := by decide +kernel
theorem dX1_digest_14 : decode cX1_digest 14 = .ok (.ldc2_w 143, 3) := by decide +kernel
theorem dX1_digest_17 : decode cX1_digest 17 = .ok (.lmul, 1) := by decide +kernel
theorem dX1_digest_18 : decode cX1_digest 18 = .ok (.aload_n 0, 1) := by decide +kernel
theorem dX1_digest_19 : decode cX1_digest 19 = .ok (.getfield 45, 3) := by decide +kernel
theorem dX1_digest_22 : decode cX1_digest 22 = .ok (.i2l, 1) := by decide +kernel
theorem dX1_digest_23 : decode cX1_digest 23 = .ok (.ladd, 1) := by decide +kernel
theorem dX1_digest_24 : decode cX1_digest 24 = .ok (.ldc2_w 143, 3) := by decide +kernel
theorem dX1_digest_27 : decode cX1_digest 27 = .ok (.lmul, 1) := by decide +kernel
theorem dX1_digest_28 : decode cX1_digest 28 = .ok (.aload_n 0, 1) := by decide +kernel
theorem dX1_digest_29 : decode cX1_digest 29 = .ok (.invokevirtual 137, 3) := by decide +kernel
theorem dX1_digest_32 : decode cX1_digest 32 = .ok (.i2l, 1) := by decide +kernel
theorem dX1_digest_33 : decode cX1_digest 33 = .ok (.ladd, 1) := by decide +kernel
theorem dX1_digest_34 : decode cX1_digest 34 = .ok (.lstore_n 1, 1) := by decide +kernel
theorem dX1_digest_35 : decode cX1_digest 35 = .ok (.iconst 0, 1) := by decide +kernel
theorem dX1_digest_36 : decode cX1_digest 36 = .ok (.istore_n 3, 1) := by decide +kernel
theorem dX1_digest_37 : decode cX1_digest 37 = .ok (.iload_n 3, 1) := by decide +kernel
theorem dX1_digest_38 : decode cX1_digest 38 = .ok (.aload_n 0, 1) := by decide +kernel
theorem dX1_digest_39 : decode cX1_digest 39 = .ok (.getfield 38, 3) := by decide +kernel
theorem dX1_digest_42 : decode cX1_digest 42 = .ok (.if_icmp .ge 119, 3) := by decide +kernel
theorem dX1_digest_45 : decode cX1_digest 45 = .ok (.bipush 7, 2) := by decide +kernel
theorem dX1_digest_47 : decode cX1_digest 47 = .ok (.newarray .int, 2) := by decide +kernel
theorem dX1_digest_49 : decode cX1_digest 49 = .ok (.dup, 1) := by decide +kernel
theorem dX1_digest_50 : decode cX1_digest 50 = .ok (.iconst 0, 1) := by decide +kernel
theorem dX1_digest_51 : decode cX1_digest 51 = .ok (.aload_n 0, 1) := by decide +kernel
theorem dX1_digest_52 : decode cX1_digest 52 = .ok (.getfield 9, 3) := by decide +kernel
theorem dX1_digest_55 : decode cX1_digest 55 = .ok (.iload_n 3, 1) := by decide +kernel
theorem dX1_digest_56 : decode cX1_digest 56 = .ok (.iaload, 1) := by decide +kernel
theorem dX1_digest_57 : decode cX1_digest 57 = .ok (.iastore, 1) := by decide +kernel
theorem dX1_digest_58 : decode cX1_digest 58 = .ok (.dup, 1) := by decide +kernel
theorem dX1_digest_59 : decode cX1_digest 59 = .ok (.iconst 1, 1) := by decide +kernel
theorem dX1_digest_60 : decode cX1_digest 60 = .ok (.aload_n 0, 1) := by decide +kernel
theorem dX1_digest_61 : decode cX1_digest 61 = .ok (.getfield 13, 3) := by decide +kernel
theorem dX1_digest_64 : decode cX1_digest 64 = .ok (.iload_n 3, 1) := by decide +kernel
theorem dX1_digest_65 : decode cX1_digest 65 = .ok (.iaload, 1) := by decide +kernel
theorem dX1_digest_66 : decode cX1_digest 66 = .ok (.iastore, 1) := by decide +kernel
theorem dX1_digest_67 : decode cX1_digest 67 = .ok (.dup, 1) := by decide +kernel
theorem dX1_digest_68 : decode cX1_digest 68 = .ok (.iconst 2, 1) := by decide +kernel
theorem dX1_digest_69 : decode cX1_digest 69 = .ok (.aload_n 0, 1) := by decide +kernel
theorem dX1_digest_70 : decode cX1_digest 70 = .ok (.getfield 16, 3) := by decide +kernel
theorem dX1_digest_73 : decode cX1_digest 73 = .ok (.iload_n 3, 1) := by decide +kernel
theorem dX1_digest_74 : decode cX1_digest 74 = .ok (.iaload, 1) := by decide +kernel
theorem dX1_digest_75 : decode cX1_digest 75 = .ok (.iastore, 1) := by decide +kernel
theorem dX1_digest_76 : decode cX1_digest 76 = .ok (.dup, 1) := by decide +kernel
theorem dX1_digest_77 : decode cX1_digest 77 = .ok (.iconst 3, 1) := by decide +kernel
theorem dX1_digest_78 : decode cX1_digest 78 = .ok (.aload_n 0, 1) := by decide +kernel
theorem dX1_digest_79 : decode cX1_digest 79 = .ok (.getfield 19, 3) := by decide +kernel
theorem dX1_digest_82 : decode cX1_digest 82 = .ok (.iload_n 3, 1) := by decide +kernel
theorem dX1_digest_83 : decode cX1_digest 83 = .ok (.iaload, 1) := by decide +kernel
theorem dX1_digest_84 : decode cX1_digest 84 = .ok (.iastore, 1) := by decide +kernel
theorem dX1_digest_85 : decode cX1_digest 85 = .ok (.dup, 1) := by decide +kernel
theorem dX1_digest_86 : decode cX1_digest 86 = .ok (.iconst 4, 1) := by decide +kernel
theorem dX1_digest_87 : decode cX1_digest 87 = .ok (.aload_n 0, 1) := by decide +kernel
theorem dX1_digest_88 : decode cX1_digest 88 = .ok (.getfield 22, 3) := by decide +kernel
theorem dX1_digest_91 : decode cX1_digest 91 = .ok (.iload_n 3, 1) := by decide +kernel
theorem dX1_digest_92 : decode cX1_digest 92 = .ok (.iaload, 1) := by decide +kernel
theorem dX1_digest_93 : decode cX1_digest 93 = .ok (.iastore, 1) := by decide +kernel
theorem dX1_digest_94 : decode cX1_digest 94 = .ok (.dup, 1) := by decide +kernel
theorem dX1_digest_95 : decode cX1_digest 95 = .ok (.iconst 5, 1) := by decide +kernel
theorem dX1_digest_96 : decode cX1_digest 96 = .ok (.aload_n 0, 1) := by decide +kernel
theorem dX1_digest_97 : decode cX1_digest 97 = .ok (.iload_n 3, 1) := by decide +kernel
theorem dX1_digest_98 : decode cX1_digest 98 = .ok (.invokevirtual 116, 3) := by decide +kernel
theorem dX1_digest_101 : decode cX1_digest 101 = .ok (.iastore, 1) := by decide +kernel
theorem dX1_digest_102 : decode cX1_digest 102 = .ok (.dup, 1) := by decide +kernel
theorem dX1_digest_103 : decode cX1_digest 103 = .ok (.bipush 6, 2) := by decide +kernel
theorem dX1_digest_105 : decode cX1_digest 105 = .ok (.aload_n 0, 1) := by decide +kernel
theorem dX1_digest_106 : decode cX1_digest 106 = .ok (.iload_n 3, 1) := by decide +kernel
theorem dX1_digest_107 : decode cX1_digest 107 = .ok (.invokevirtual 125, 3) := by decide +kernel
theorem dX1_digest_110 : decode cX1_digest 110 = .ok (.iastore, 1) := by decide +kernel
theorem dX1_digest_111 : decode cX1_digest 111 = .ok (.astore 4, 2) := by decide +kernel
theorem dX1_digest_113 : decode cX1_digest 113 = .ok (.aload 4, 2) := by decide +kernel
theorem dX1_digest_115 : decode cX1_digest 115 = .ok (.astore 5, 2) := by decide +kernel
theorem dX1_digest_117 : decode cX1_digest 117 = .ok (.aload 5, 2) := by decide +kernel
theorem dX1_digest_119 : decode cX1_digest 119 = .ok (.arraylength, 1) := by decide +kernel
theorem dX1_digest_120 : decode cX1_digest 120 = .ok (.istore 6, 2) := by decide +kernel
theorem dX1_digest_122 : decode cX1_digest 122 = .ok (.iconst 0, 1) := by decide +kernel
theorem dX1_digest_123 : decode cX1_digest 123 = .ok (.istore 7, 2) := by decide +kernel
theorem dX1_digest_125 : decode cX1_digest 125 = .ok (.iload 7, 2) := by decide +kernel
theorem dX1_digest_127 : decode cX1_digest 127 = .ok (.iload 6, 2) := by decide +kernel
theorem dX1_digest_129 : decode cX1_digest 129 = .ok (.if_icmp .ge 26, 3) := by decide +kernel
theorem dX1_digest_132 : decode cX1_digest 132 = .ok (.aload 5, 2) := by decide +kernel
theorem dX1_digest_134 : decode cX1_digest 134 = .ok (.iload 7, 2) := by decide +kernel
theorem dX1_digest_136 : decode cX1_digest 136 = .ok (.iaload, 1) := by decide +kernel
theorem dX1_digest_137 : decode cX1_digest 137 = .ok (.istore 8, 2) := by decide +kernel
theorem dX1_digest_139 : decode cX1_digest 139 = .ok (.lload_n 1, 1) := by decide +kernel
theorem dX1_digest_140 : decode cX1_digest 140 = .ok (.ldc2_w 143, 3) := by decide +kernel
theorem dX1_digest_143 : decode cX1_digest 143 = .ok (.lmul, 1) := by decide +kernel
theorem dX1_digest_144 : decode cX1_digest 144 = .ok (.iload 8, 2) := by decide +kernel
theorem dX1_digest_146 : decode cX1_digest 146 = .ok (.i2l, 1) := by decide +kernel
theorem dX1_digest_147 : decode cX1_digest 147 = .ok (.ladd, 1) := by decide +kernel
theorem dX1_digest_148 : decode cX1_digest 148 = .ok (.lstore_n 1, 1) := by decide +kernel
theorem dX1_digest_149 : decode cX1_digest 149 = .ok (.iinc 7 1, 3) := by decide +kernel
theorem dX1_digest_152 : decode cX1_digest 152 = .ok (.goto (-27), 3) := by decide +kernel
theorem dX1_digest_155 : decode cX1_digest 155 = .ok (.iinc 3 1, 3) := by decide +kernel
theorem dX1_digest_158 : decode cX1_digest 158 = .ok (.goto (-121), 3) := by decide +kernel
theorem dX1_digest_161 : decode cX1_digest 161 = .ok (.iconst 0, 1) := by decide +kernel
theorem dX1_digest_162 : decode cX1_digest 162 = .ok (.istore_n 3, 1) := by decide +kernel
theorem dX1_digest_163 : decode cX1_digest 163 = .ok (.iload_n 3, 1) := by decide +kernel
theorem dX1_digest_164 : decode cX1_digest 164 = .ok (.aload_n 0, 1) := by decide +kernel
theorem dX1_digest_165 : decode cX1_digest 165 = .ok (.getfield 45, 3) := by decide +kernel
theorem dX1_digest_168 : decode cX1_digest 168 = .ok (.if_icmp .ge 97, 3) := by decide +kernel
theorem dX1_digest_171 : decode cX1_digest 171 = .ok (.lload_n 1, 1) := by decide +kernel
theorem dX1_digest_172 : decode cX1_digest 172 = .ok (.ldc2_w 143, 3) := by decide +kernel
theorem dX1_digest_175 : decode cX1_digest 175 = .ok (.lmul, 1) := by decide +kernel
theorem dX1_digest_176 : decode cX1_digest 176 = .ok (.aload_n 0, 1) := by decide +kernel
theorem dX1_digest_177 : decode cX1_digest 177 = .ok (.getfield 25, 3) := by decide +kernel
theorem dX1_digest_180 : decode cX1_digest 180 = .ok (.iload_n 3, 1) := by decide +kernel
theorem dX1_digest_181 : decode cX1_digest 181 = .ok (.iaload, 1) := by decide +kernel
theorem dX1_digest_182 : decode cX1_digest 182 = .ok (.i2l, 1) := by decide +kernel
theorem dX1_digest_183 : decode cX1_digest 183 = .ok (.ladd, 1) := by decide +kernel
theorem dX1_digest_184 : decode cX1_digest 184 = .ok (.ldc2_w 143, 3) := by decide +kernel
theorem dX1_digest_187 : decode cX1_digest 187 = .ok (.lmul, 1) := by decide +kernel
theorem dX1_digest_188 : decode cX1_digest 188 = .ok (.aload_n 0, 1) := by decide +kernel
theorem dX1_digest_189 : decode cX1_digest 189 = .ok (.iload_n 3, 1) := by decide +kernel
theorem dX1_digest_190 : decode cX1_digest 190 = .ok (.invokevirtual 84, 3) := by decide +kernel
theorem dX1_digest_193 : decode cX1_digest 193 = .ok (.i2l, 1) := by decide +kernel
theorem dX1_digest_194 : decode cX1_digest 194 = .ok (.ladd, 1) := by decide +kernel
theorem dX1_digest_195 : decode cX1_digest 195 = .ok (.ldc2_w 143, 3) := by decide +kernel
theorem dX1_digest_198 : decode cX1_digest 198 = .ok (.lmul, 1) := by decide +kernel
theorem dX1_digest_199 : decode cX1_digest 199 = .ok (.aload_n 0, 1) := by decide +kernel
theorem dX1_digest_200 : decode cX1_digest 200 = .ok (.iload_n 3, 1) := by decide +kernel
theorem dX1_digest_201 : decode cX1_digest 201 = .ok (.invokevirtual 128, 3) := by decide +kernel
theorem dX1_digest_204 : decode cX1_digest 204 = .ok (.i2l, 1) := by decide +kernel
theorem dX1_digest_205 : decode cX1_digest 205 = .ok (.ladd, 1) := by decide +kernel
theorem dX1_digest_206 : decode cX1_digest 206 = .ok (.lstore_n 1, 1) := by decide +kernel
theorem dX1_digest_207 : decode cX1_digest 207 = .ok (.iconst 0, 1) := by decide +kernel
theorem dX1_digest_208 : decode cX1_digest 208 = .ok (.istore 4, 2) := by decide +kernel
theorem dX1_digest_210 : decode cX1_digest 210 = .ok (.iload 4, 2) := by decide +kernel
theorem dX1_digest_212 : decode cX1_digest 212 = .ok (.aload_n 0, 1) := by decide +kernel
theorem dX1_digest_213 : decode cX1_digest 213 = .ok (.getfield 25, 3) := by decide +kernel
theorem dX1_digest_216 : decode cX1_digest 216 = .ok (.iload_n 3, 1) := by decide +kernel
theorem dX1_digest_217 : decode cX1_digest 217 = .ok (.iaload, 1) := by decide +kernel
theorem dX1_digest_218 : decode cX1_digest 218 = .ok (.if_icmp .ge 41, 3) := by decide +kernel
theorem dX1_digest_221 : decode cX1_digest 221 = .ok (.lload_n 1, 1) := by decide +kernel
theorem dX1_digest_222 : decode cX1_digest 222 = .ok (.ldc2_w 143, 3) := by decide +kernel
theorem dX1_digest_225 : decode cX1_digest 225 = .ok (.lmul, 1) := by decide +kernel
theorem dX1_digest_226 : decode cX1_digest 226 = .ok (.aload_n 0, 1) := by decide +kernel
theorem dX1_digest_227 : decode cX1_digest 227 = .ok (.getfield 31, 3) := by decide +kernel
theorem dX1_digest_230 : decode cX1_digest 230 = .ok (.iconst 5, 1) := by decide +kernel
theorem dX1_digest_231 : decode cX1_digest 231 = .ok (.iload_n 3, 1) := by decide +kernel
theorem dX1_digest_232 : decode cX1_digest 232 = .ok (.imul, 1) := by decide +kernel
theorem dX1_digest_233 : decode cX1_digest 233 = .ok (.iload 4, 2) := by decide +kernel
theorem dX1_digest_235 : decode cX1_digest 235 = .ok (.iadd, 1) := by decide +kernel
theorem dX1_digest_236 : decode cX1_digest 236 = .ok (.iaload, 1) := by decide +kernel
theorem dX1_digest_237 : decode cX1_digest 237 = .ok (.i2l, 1) := by decide +kernel
theorem dX1_digest_238 : decode cX1_digest 238 = .ok (.ladd, 1) := by decide +kernel
theorem dX1_digest_239 : decode cX1_digest 239 = .ok (.ldc2_w 143, 3) := by decide +kernel
theorem dX1_digest_242 : decode cX1_digest 242 = .ok (.lmul, 1) := by decide +kernel
theorem dX1_digest_243 : decode cX1_digest 243 = .ok (.aload_n 0, 1) := by decide +kernel
theorem dX1_digest_244 : decode cX1_digest 244 = .ok (.iload_n 3, 1) := by decide +kernel
theorem dX1_digest_245 : decode cX1_digest 245 = .ok (.iload 4, 2) := by decide +kernel
theorem dX1_digest_247 : decode cX1_digest 247 = .ok (.invokevirtual 81, 3) := by decide +kernel
theorem dX1_digest_250 : decode cX1_digest 250 = .ok (.i2l, 1) := by decide +kernel
theorem dX1_digest_251 : decode cX1_digest 251 = .ok (.ladd, 1) := by decide +kernel
theorem dX1_digest_252 : decode cX1_digest 252 = .ok (.lstore_n 1, 1) := by decide +kernel
theorem dX1_digest_253 : decode cX1_digest 253 = .ok (.iinc 4 1, 3) := by decide +kernel
theorem dX1_digest_256 : decode cX1_digest 256 = .ok (.goto (-46), 3) := by decide +kernel
theorem dX1_digest_259 : decode cX1_digest 259 = .ok (.iinc 3 1, 3) := by decide +kernel
theorem dX1_digest_262 : decode cX1_digest 262 = .ok (.goto (-99), 3) := by decide +kernel
theorem dX1_digest_265 : decode cX1_digest 265 = .ok (.lload_n 1, 1) := by decide +kernel
theorem dX1_digest_266 : decode cX1_digest 266 = .ok (.lreturn, 1) := by decide +kernel
end
section
/-! the rack's walks: worlds, contracts' words, calls, loops -/
theorem kr_good {ws : List Cond} (h : ∀ w ∈ ws, w ∈ kr_all) : GoodIn kr_all ws := fun w hw => ⟨h w hw, good_of_word (List.mem_filter.mp (h w hw)).2⟩
theorem kr_gV {own C : String} {idx n : Nat} {y : MethodName} {b : ByteArray} {r : Option FieldType} (h1 : Cond.methodLink own idx y ∈ kr_all) (h2 : Cond.instanceMethod y ∈ kr_all) (h3 : Cond.selects C y y ∈ kr_all) (h4 : Cond.initialized C ∈ kr_all) (h5 : Cond.code y b n r ∈ kr_all) : GoodIn kr_all (wsV own idx C y (Cond.code y b n r :: kr_all)) := by
  refine kr_good (fun w hw => ?_)
  unfold wsV at hw
  rcases List.mem_append.mp hw with h | h
  · simp only [List.mem_cons, List.not_mem_nil, or_false] at h
    rcases h with rfl | rfl | rfl | rfl <;> assumption
  · rcases List.mem_cons.mp h with rfl | h
    · exact h5
    · exact h
theorem kr_gS {own : String} {idx n : Nat} {y : MethodName} {b : ByteArray} {r : Option FieldType} (h1 : Cond.methodLink own idx y ∈ kr_all) (h2 : Cond.static y ∈ kr_all) (h4 : Cond.initialized own ∈ kr_all) (h5 : Cond.code y b n r ∈ kr_all) : GoodIn kr_all (wsS own idx y (Cond.code y b n r :: kr_all)) := by
  refine kr_good (fun w hw => ?_)
  unfold wsS at hw
  rcases List.mem_append.mp hw with h | h
  · simp only [List.mem_cons, List.not_mem_nil, or_false] at h
    rcases h with rfl | rfl | rfl <;> assumption
  · rcases List.mem_cons.mp h with rfl | h
    · exact h5
    · exact h
theorem kr_gC {n : Nat} {y : MethodName} {b : ByteArray} {r : Option FieldType} (h5 : Cond.code y b n r ∈ kr_all) : GoodIn kr_all (Cond.code y b n r :: kr_all) := kr_good (fun w hw => by
  rcases List.mem_cons.mp hw with rfl | h
  · exact h5
  · exact h)
/-- a row of rows, one replaced -/
def kr_up (A : Nat → Nat → Int32) (i : Nat) (f : Nat → Int32) : Nat → Nat → Int32 := fun j => if j = i then f else A j
abbrev kr_W0 (cy : ClassId) (h : Nat) (a : Nat → Nat) (N L : Nat) (A : Nat → Nat → Int32) : va_W :=
  [(h, .inr (0, [.ref (a 0), .ref (a 1), .ref (a 2), .ref (a 3), .ref (a 4), .int (nI N), .ref (a 5), .int (nI L), .ref (a 6), .ref (a 7)])), (a 0, .inl (cy, 16, .inl (A 0))), (a 1, .inl (cy, 16, .inl (A 1))), (a 2, .inl (cy, 16, .inl (A 2))), (a 3, .inl (cy, 16, .inl (A 3))), (a 4, .inl (cy, 16, .inl (A 4))), (a 5, .inl (cy, 6, .inl (A 5))), (a 6, .inl (cy, 30, .inl (A 6))), (a 7, .inl (cy, 30, .inl (A 7)))]
abbrev kr_W1 (cy : ClassId) (h : Nat) (a : Nat → Nat) (th : Int32) (N L : Nat) (A : Nat → Nat → Int32) : va_W :=
  [(h, .inr (1, [.int th, .int (nI N), .ref (a 0), .ref (a 1), .ref (a 2), .ref (a 3), .ref (a 4), .int (nI L), .ref (a 5), .ref (a 7), .ref (a 6)])), (a 0, .inl (cy, 16, .inl (A 0))), (a 1, .inl (cy, 16, .inl (A 1))), (a 2, .inl (cy, 16, .inl (A 2))), (a 3, .inl (cy, 16, .inl (A 3))), (a 4, .inl (cy, 16, .inl (A 4))), (a 5, .inl (cy, 6, .inl (A 5))), (a 6, .inl (cy, 30, .inl (A 6))), (a 7, .inl (cy, 30, .inl (A 7)))]
/-- the heap holds the world -/
def kr_R (D : va_G) (ws : va_W) (cy : ClassId) (U : State) : Prop := va_P D vwCl ws U.heap ∧ va_K D vwCl [(cy, .int)] U
theorem kr_bl {D : va_G} {ws : va_W} {cy : ClassId} {av : List Value} : FrameBlind (va_Pc av (kr_R D ws cy)) := fun a U g mk q => ⟨q.1, q.2.1, va_K.moved (u := U) (U := U.calling g mk a) (Vm.Alike.refl U.vm) q.2.2⟩
theorem kr_blT {av : List Value} : FrameBlind (va_Pc av (fun _ => True)) := fun _ _ _ _ q => q
theorem kr_pr {D : va_G} {ws : va_W} {cy : ClassId} {av : List Value} {H : Heap} {s : State} (hP : va_P D vwCl ws H) (hK : va_K D vwCl [(cy, .int)] s) : ∀ U : State, U.heap = H → s.WarmedH U.vm → va_Pc av (kr_R D ws cy) av.toArray U := fun U hU hW => ⟨rfl, by rw [hU]; exact hP, va_K.moved hW.alike hK⟩
theorem kr_pv0 {D : va_G} {cy : ClassId} {h : Nat} {a : Nat → Nat} {N L : Nat} {A : Nat → Nat → Int32} {As : List Value} {H : Heap} {s : State} (hP : va_P D vwCl (kr_W0 cy h a N L A) H) (hK : va_K D vwCl [(cy, .int)] s) : PreV s H RX0 h (va_Pc (.ref h :: As) (kr_R D (kr_W0 cy h a N L A) cy)) As := ⟨kr_bl, va_recv hK hP (ci := 0) (q0 := 0) rfl rfl, kr_pr hP hK⟩
theorem kr_pv1 {D : va_G} {cy : ClassId} {h : Nat} {a : Nat → Nat} {th : Int32} {N L : Nat} {A : Nat → Nat → Int32} {As : List Value} {H : Heap} {s : State} (hP : va_P D vwCl (kr_W1 cy h a th N L A) H) (hK : va_K D vwCl [(cy, .int)] s) : PreV s H RX1 h (va_Pc (.ref h :: As) (kr_R D (kr_W1 cy h a th N L A) cy)) As := ⟨kr_bl, va_recv hK hP (ci := 1) (q0 := 0) rfl rfl, kr_pr hP hK⟩
/-- a body, begun -/
theorem kr_of {l : Launch} {y : MethodName} {cc : ByteArray} {maxL : Nat} {ret : Option FieldType} {rm : Room} {vs : List Value} {B : State → Prop} {Qc : Array Value → State → Outcome → State → Prop} {mc ms : Nat} {free : Addr → Prop} (hy : plainName y.cls = true) (hlen : (lg_sl vs).length ≤ maxL)
    (body : ∀ (p : Program) (e : Env) (s : State) (m : MethodId) (below : List Frame) (meth : Method) (c : Code) (ls : Array Slot), p.tables.exec = Jvm.exec → c.code = cc → c.maxLocals = maxL → meth.sig.returnType = ret → (∀ w ∈ kr_all, w.before vs.toArray s = true) → s.vm.findClass y.cls = some m.cls → meth.locks = false → meth.name = y.name → B s → lv_has ls maxL (lv_args 0 vs) → W p l e rm s m vs.toArray below meth c s.heap [] 0 0 (MQ below Qc vs.toArray s mc ms free) (F0 m 0 ls [])) :
    Met l y (Cond.code y cc maxL ret :: kr_all) rm (va_Pc vs B) Qc mc ms free := by
  refine Met.ofW (cc := cc) (maxL := maxL) (ret := ret) hy rfl ?_
  intro p e s m args below meth c s₁ B hml hv
  obtain ⟨rfl, hv⟩ := hv
  have hts := atoms_spec (ws := Cond.code y cc maxL ret :: kr_all) B.pre
  have hl := lv_entry vs (n := maxL) hlen
  rw [lg_entry_eq]
  exact body p e s m below meth c _ B.exec B.bytes hml B.returns (fun w h => hts w (List.mem_cons_of_mem _ h)) (findClass_of_methodNamed B.named) B.notSynchronized (name_of_methodNamed B.named B.method).1 hv hl
/-- a body that may throw, begun -/
theorem kr_ofX {l : Launch} {y : MethodName} {cc : ByteArray} {maxL : Nat} {ret : Option FieldType} {rm : Room} {vs : List Value} {B : State → Prop} {Qc : Array Value → State → Outcome → State → Prop} {XC : String → State → State → Prop} {mc ms : Nat} {free : Addr → Prop} (hy : plainName y.cls = true) (hlen : (lg_sl vs).length ≤ maxL)
    (body : ∀ (p : Program) (e : Env) (s : State) (m : MethodId) (below : List Frame) (meth : Method) (c : Code) (ls : Array Slot), p.tables.exec = Jvm.exec → c.code = cc → c.maxLocals = maxL → meth.sig.returnType = ret → (∀ w ∈ kr_all, w.before vs.toArray s = true) → s.vm.findClass y.cls = some m.cls → meth.locks = false → (∀ x ∈ c.exceptionTable.toList, False) → B s → lv_has ls maxL (lv_args 0 vs) → W p l e rm s m vs.toArray below meth c s.heap [] 0 0 (vx_MQ below Qc XC vs.toArray s mc ms free) (F0 m 0 ls [])) :
    vx_Met l y (Cond.code y cc maxL ret :: kr_all) rm (va_Pc vs B) Qc XC mc ms free := by
  refine vx_ofW (cc := cc) (maxL := maxL) (ret := ret) hy rfl ?_
  intro p e s m args below meth c s₁ B hml ht hv
  obtain ⟨rfl, hv⟩ := hv
  have hts := atoms_spec (ws := Cond.code y cc maxL ret :: kr_all) B.pre
  have hl := lv_entry vs (n := maxL) hlen
  rw [lg_entry_eq]
  exact body p e s m below meth c _ B.exec B.bytes hml B.returns (fun w h => hts w (List.mem_cons_of_mem _ h)) (findClass_of_methodNamed B.named) B.notSynchronized ht hv hl
section KRW
variable {p : Program} {l : Launch} {e : Env} {R : Room} {s : State} {m : MethodId} {args : Array Value} {below : List Frame} {meth : Method} {c : Code} {H : Heap} {locs : List Loc} {cells slots : Nat} {Q : State → Prop} {cc : ByteArray} {pc : Nat} {ls : Array Slot} {rest st st0 : List Value}
/-- a loop: a measure that falls, the heap as it is -/
theorem kr_lp {α : Type} {nL : Nat} (lv : α → List (Nat × Value)) (I : α → Prop) (μ : α → Nat)
    (body : ∀ (q : α) (ls : Array Slot), I q → lv_has ls nL (lv q) → (∀ (q' : α) (ls' : Array Slot), I q' → μ q' < μ q → lv_has ls' nL (lv q') → W p l e R s m args below meth c H locs cells slots Q (F0 m pc ls' st)) → W p l e R s m args below meth c H locs cells slots Q (F0 m pc ls st))
    (q0 : α) (h0 : I q0) {ls : Array Slot} (hl : lv_has ls nL (lv q0)) : W p l e R s m args below meth c H locs cells slots Q (F0 m pc ls st) := by
  have key : ∀ (n : Nat) (q : α) (ls : Array Slot), μ q < n → I q → lv_has ls nL (lv q) → W p l e R s m args below meth c H locs cells slots Q (F0 m pc ls st) := by
    intro n
    induction n with
    | zero => intro q ls h; omega
    | succ n ih => intro q ls h hI hl; exact body q ls hI hl (fun q' ls' hI' hm hl' => ih q' ls' (by omega) hI' hl')
  exact key (μ q0 + 1) q0 ls (Nat.lt_succ_self _) h0 hl
/-- a loop that writes: the heap and what was written go with the state -/
theorem kr_lpH {α : Type} {nL : Nat} (lv : α → List (Nat × Value)) (I : α → Heap → List Loc → Prop) (μ : α → Nat)
    (body : ∀ (q : α) (H : Heap) (locs : List Loc) (ls : Array Slot), I q H locs → lv_has ls nL (lv q) → (∀ (q' : α) (H' : Heap) (locs' : List Loc) (ls' : Array Slot), I q' H' locs' → μ q' < μ q → lv_has ls' nL (lv q') → W p l e R s m args below meth c H' locs' cells slots Q (F0 m pc ls' st)) → W p l e R s m args below meth c H locs cells slots Q (F0 m pc ls st))
    (q0 : α) {H : Heap} {locs : List Loc} (h0 : I q0 H locs) {ls : Array Slot} (hl : lv_has ls nL (lv q0)) : W p l e R s m args below meth c H locs cells slots Q (F0 m pc ls st) := by
  have key : ∀ (n : Nat) (q : α) (H : Heap) (locs : List Loc) (ls : Array Slot), μ q < n → I q H locs → lv_has ls nL (lv q) → W p l e R s m args below meth c H locs cells slots Q (F0 m pc ls st) := by
    intro n
    induction n with
    | zero => intro q H locs ls h; omega
    | succ n ih => intro q H locs ls h hI hl; exact body q H locs ls hI hl (fun q' H' locs' ls' hI' hm hl' => ih q' H' locs' ls' (by omega) hI' hl')
  exact key (μ q0 + 1) q0 H locs ls (Nat.lt_succ_self _) h0 hl
/-- what lies behind a join, walked once -/
theorem kr_jn {pcJ : Nat} {stJ : List Value} (P : Int32 → Prop) (hJ : ∀ v : Int32, P v → W p l e R s m args below meth c H locs cells slots Q (F0 m pcJ ls (.int v :: stJ))) (k : (∀ v : Int32, P v → W p l e R s m args below meth c H locs cells slots Q (F0 m pcJ ls (.int v :: stJ))) → W p l e R s m args below meth c H locs cells slots Q (F0 m pc ls st)) : W p l e R s m args below meth c H locs cells slots Q (F0 m pc ls st) := k hJ
theorem kr_cut {pcJ : Nat} {stJ : List Value} (hJ : W p l e R s m args below meth c H locs cells slots Q (F0 m pcJ ls stJ)) (k : W p l e R s m args below meth c H locs cells slots Q (F0 m pcJ ls stJ) → W p l e R s m args below meth c H locs cells slots Q (F0 m pc ls st)) : W p l e R s m args below meth c H locs cells slots Q (F0 m pc ls st) := k hJ
theorem kr_iaddN (hx : p.tables.exec = Jvm.exec) (hb : c.code = cc) (x y : Nat) (hdg : decode cc pc = .ok (.iadd, 1)) (k : W p l e R s m args below meth c H locs cells slots Q (F0 m (pc + 1) ls (.int (nI (x + y)) :: rest))) : W p l e R s m args below meth c H locs cells slots Q (F0 m pc ls (.int (nI y) :: .int (nI x) :: rest)) := lv_iadd hx hb hdg (by rw [nI_add]; exact k)
theorem kr_imulN (hx : p.tables.exec = Jvm.exec) (hb : c.code = cc) (x y : Nat) (hdg : decode cc pc = .ok (.imul, 1)) (k : W p l e R s m args below meth c H locs cells slots Q (F0 m (pc + 1) ls (.int (nI (x * y)) :: rest))) : W p l e R s m args below meth c H locs cells slots Q (F0 m pc ls (.int (nI y) :: .int (nI x) :: rest)) := lv_imul hx hb hdg (by rw [pk_mul]; exact k)
theorem kr_isubN (hx : p.tables.exec = Jvm.exec) (hb : c.code = cc) (x y : Nat) (h : y ≤ x) (hdg : decode cc pc = .ok (.isub, 1)) (k : W p l e R s m args below meth c H locs cells slots Q (F0 m (pc + 1) ls (.int (nI (x - y)) :: rest))) : W p l e R s m args below meth c H locs cells slots Q (F0 m pc ls (.int (nI y) :: .int (nI x) :: rest)) := lv_isub hx hb hdg (by rw [pk_sub h]; exact k)
theorem kr_ald {D : va_G} {cl : List vw_C} {tys : List (ClassId × FieldType)} {ws : va_W} {a : Nat} (hx : p.tables.exec = Jvm.exec) (hb : c.code = cc) (hK : va_K D cl tys s) (hP : va_P D cl ws H) (q0 t0 : Nat) {cA : ClassId} {n : Nat} {f : Nat → Int32} (ha : ws[q0]? = some (a, .inl (cA, n, .inl f))) (ht : tys[t0]? = some (cA, .int)) (k : Nat) (hk : k < n) (hn : n < 2 ^ 31) (hdg : decode cc pc = .ok (.iaload, 1))
    (kk : W p l e R s m args below meth c H locs cells slots Q (F0 m (pc + 1) ls (.int (f k) :: rest))) : W p l e R s m args below meth c H locs cells slots Q (F0 m pc ls (.int (nI k) :: .ref a :: rest)) := va_iald hx hb hK hP q0 t0 ha ht (vp_in_nI hk hn) hdg (by rw [nI_clamp (by omega)]; exact kk)
theorem kr_ast {D : va_G} {cl : List vw_C} {tys : List (ClassId × FieldType)} {ws : va_W} {a : Nat} {A : Nat → Prop} {H0 : Heap} (hx : p.tables.exec = Jvm.exec) (hb : c.code = cc) (hK : va_K D cl tys s) (hP : va_P D cl ws H) (hD : va_D A ws) (hS : va_S A H0 H locs) (q0 t0 : Nat) {cA : ClassId} {n : Nat} {f : Nat → Int32} (ha : ws[q0]? = some (a, .inl (cA, n, .inl f))) (ht : tys[t0]? = some (cA, .int)) (k : Nat) {x : Int32} (hk : k < n) (hn : n < 2 ^ 31) (hdg : decode cc pc = .ok (.iastore, 1))
    (kk : ∀ (H1 : Heap) (locs1 : List Loc), va_P D cl (ws.set q0 (a, .inl (cA, n, .inl (upd f k x)))) H1 → va_D A (ws.set q0 (a, .inl (cA, n, .inl (upd f k x)))) → va_S A H0 H1 locs1 → W p l e R s m args below meth c H1 locs1 cells slots Q (F0 m (pc + 1) ls rest)) : W p l e R s m args below meth c H locs cells slots Q (F0 m pc ls (.int x :: .int (nI k) :: .ref a :: rest)) := va_iast hx hb hK hP hD hS q0 t0 ha ht (vp_in_nI hk hn) hdg (by rw [nI_clamp (by omega)]; exact kk)
/-- calls of methods that leave the heap as it is -/
theorem kr_vI {own C : String} {idx maxL nL n : Nat} {y : MethodName} {bytes : ByteArray} {ret : Option FieldType} {rm : Room} {b : Addr} {As : List Value} {Pc : Array Value → State → Prop} {post : Int32 → Prop} (S : CallFix p m c cc nL s args kr_all own) (hM : Met l y (Cond.code y bytes maxL ret :: kr_all) rm Pc (vp_Si post) 0 0 (fun _ => False)) (g : GoodIn kr_all (wsV own idx C y (Cond.code y bytes maxL ret :: kr_all))) (hr0 : rm.cells = 0 ∧ rm.slots = 0)
    (hd : y.cls = C ∧ y.cls ≠ "java/lang/invoke/MethodHandle" ∧ y.cls ≠ "java/lang/invoke/VarHandle" ∧ (parseMethodDescriptor y.desc).map (fun d => d.parameters.length) = some n) (hR : rm.frames + 1 ≤ R.frames ∧ 8 + (maxL + 11) + rm.locals ≤ R.locals) (hp : PreV s H C b Pc As) (hn : As.length = n) (hsize : ls.size = nL) (hst : st0 = As.reverse ++ .ref b :: rest) (hW : (rest.map fun v => v.category).sum ≤ 8) (hdg : decode cc pc = .ok (.invokevirtual idx, 3)) (hf : cells ≤ R.cells ∧ slots ≤ R.slots)
    (kk : ∀ r : Int32, post r → W p l e R s m args below meth c H locs cells slots Q (F0 m (pc + 3) ls (.int r :: rest))) : W p l e R s m args below meth c H locs cells slots Q (F0 m pc ls st0) :=
  vp_callSi (W.runV S hM (cwV n S.2.2.2.2 g rfl hr0.1 hr0.2 hd hR) hp rfl hn hsize hst (lv_room (pc := pc) (ls := ls) (m := m) (rest := st0) hW) hdg hf) kk
theorem kr_vV {own C : String} {idx maxL nL n : Nat} {y : MethodName} {bytes : ByteArray} {ret : Option FieldType} {rm : Room} {b : Addr} {As : List Value} {Pc : Array Value → State → Prop} {post : Unit → Prop} (S : CallFix p m c cc nL s args kr_all own) (hM : Met l y (Cond.code y bytes maxL ret :: kr_all) rm Pc (va_Sv post) 0 0 (fun _ => False)) (g : GoodIn kr_all (wsV own idx C y (Cond.code y bytes maxL ret :: kr_all))) (hr0 : rm.cells = 0 ∧ rm.slots = 0)
    (hd : y.cls = C ∧ y.cls ≠ "java/lang/invoke/MethodHandle" ∧ y.cls ≠ "java/lang/invoke/VarHandle" ∧ (parseMethodDescriptor y.desc).map (fun d => d.parameters.length) = some n) (hR : rm.frames + 1 ≤ R.frames ∧ 8 + (maxL + 11) + rm.locals ≤ R.locals) (hp : PreV s H C b Pc As) (hn : As.length = n) (hsize : ls.size = nL) (hst : st0 = As.reverse ++ .ref b :: rest) (hW : (rest.map fun v => v.category).sum ≤ 8) (hdg : decode cc pc = .ok (.invokevirtual idx, 3)) (hf : cells ≤ R.cells ∧ slots ≤ R.slots)
    (kk : W p l e R s m args below meth c H locs cells slots Q (F0 m (pc + 3) ls rest)) : W p l e R s m args below meth c H locs cells slots Q (F0 m pc ls st0) :=
  va_csv (W.runV S hM (cwV n S.2.2.2.2 g rfl hr0.1 hr0.2 hd hR) hp rfl hn hsize hst (lv_room (pc := pc) (ls := ls) (m := m) (rest := st0) hW) hdg hf) (fun _ => kk)
theorem kr_vL {own C : String} {idx maxL nL n : Nat} {y : MethodName} {bytes : ByteArray} {ret : Option FieldType} {rm : Room} {b : Addr} {As : List Value} {Pc : Array Value → State → Prop} {post : Int64 → Prop} (S : CallFix p m c cc nL s args kr_all own) (hM : Met l y (Cond.code y bytes maxL ret :: kr_all) rm Pc (vp_Sl post) 0 0 (fun _ => False)) (g : GoodIn kr_all (wsV own idx C y (Cond.code y bytes maxL ret :: kr_all))) (hr0 : rm.cells = 0 ∧ rm.slots = 0)
    (hd : y.cls = C ∧ y.cls ≠ "java/lang/invoke/MethodHandle" ∧ y.cls ≠ "java/lang/invoke/VarHandle" ∧ (parseMethodDescriptor y.desc).map (fun d => d.parameters.length) = some n) (hR : rm.frames + 1 ≤ R.frames ∧ 8 + (maxL + 11) + rm.locals ≤ R.locals) (hp : PreV s H C b Pc As) (hn : As.length = n) (hsize : ls.size = nL) (hst : st0 = As.reverse ++ .ref b :: rest) (hW : (rest.map fun v => v.category).sum ≤ 8) (hdg : decode cc pc = .ok (.invokevirtual idx, 3)) (hf : cells ≤ R.cells ∧ slots ≤ R.slots)
    (kk : ∀ r : Int64, post r → W p l e R s m args below meth c H locs cells slots Q (F0 m (pc + 3) ls (.long r :: rest))) : W p l e R s m args below meth c H locs cells slots Q (F0 m pc ls st0) :=
  vp_callSl (W.runV S hM (cwV n S.2.2.2.2 g rfl hr0.1 hr0.2 hd hR) hp rfl hn hsize hst (lv_room (pc := pc) (ls := ls) (m := m) (rest := st0) hW) hdg hf) kk
theorem kr_sI {own : String} {idx maxL nL n : Nat} {y : MethodName} {bytes : ByteArray} {ret : Option FieldType} {rm : Room} {As : List Value} {Pc : Array Value → State → Prop} {post : Int32 → Prop} (S : CallFix p m c cc nL s args kr_all own) (hM : Met l y (Cond.code y bytes maxL ret :: kr_all) rm Pc (vp_Si post) 0 0 (fun _ => False)) (g : GoodIn kr_all (wsS own idx y (Cond.code y bytes maxL ret :: kr_all))) (hr0 : rm.cells = 0 ∧ rm.slots = 0)
    (hd : y.cls = own ∧ y.cls ≠ "java/lang/invoke/MethodHandle" ∧ y.cls ≠ "java/lang/invoke/VarHandle" ∧ (parseMethodDescriptor y.desc).map (fun d => d.parameters.length) = some n) (hR : rm.frames + 1 ≤ R.frames ∧ 8 + (maxL + 11) + rm.locals ≤ R.locals) (hp : PreS s H Pc As) (hn : As.length = n) (hsize : ls.size = nL) (hst : st0 = As.reverse ++ rest) (hW : (rest.map fun v => v.category).sum ≤ 8) (hdg : decode cc pc = .ok (.invokestatic idx, 3)) (hf : cells ≤ R.cells ∧ slots ≤ R.slots)
    (kk : ∀ r : Int32, post r → W p l e R s m args below meth c H locs cells slots Q (F0 m (pc + 3) ls (.int r :: rest))) : W p l e R s m args below meth c H locs cells slots Q (F0 m pc ls st0) :=
  vp_callSi (W.runS S hM (cwS n S.2.2.2.2 g rfl hr0.1 hr0.2 hd hR) hp rfl hn hsize hst (lv_room (pc := pc) (ls := ls) (m := m) (rest := st0) hW) hdg hf) kk
theorem kr_sL {own : String} {idx maxL nL n : Nat} {y : MethodName} {bytes : ByteArray} {ret : Option FieldType} {rm : Room} {As : List Value} {Pc : Array Value → State → Prop} {post : Int64 → Prop} (S : CallFix p m c cc nL s args kr_all own) (hM : Met l y (Cond.code y bytes maxL ret :: kr_all) rm Pc (vp_Sl post) 0 0 (fun _ => False)) (g : GoodIn kr_all (wsS own idx y (Cond.code y bytes maxL ret :: kr_all))) (hr0 : rm.cells = 0 ∧ rm.slots = 0)
    (hd : y.cls = own ∧ y.cls ≠ "java/lang/invoke/MethodHandle" ∧ y.cls ≠ "java/lang/invoke/VarHandle" ∧ (parseMethodDescriptor y.desc).map (fun d => d.parameters.length) = some n) (hR : rm.frames + 1 ≤ R.frames ∧ 8 + (maxL + 11) + rm.locals ≤ R.locals) (hp : PreS s H Pc As) (hn : As.length = n) (hsize : ls.size = nL) (hst : st0 = As.reverse ++ rest) (hW : (rest.map fun v => v.category).sum ≤ 8) (hdg : decode cc pc = .ok (.invokestatic idx, 3)) (hf : cells ≤ R.cells ∧ slots ≤ R.slots)
    (kk : ∀ r : Int64, post r → W p l e R s m args below meth c H locs cells slots Q (F0 m (pc + 3) ls (.long r :: rest))) : W p l e R s m args below meth c H locs cells slots Q (F0 m pc ls st0) :=
  vp_callSl (W.runS S hM (cwS n S.2.2.2.2 g rfl hr0.1 hr0.2 hd hR) hp rfl hn hsize hst (lv_room (pc := pc) (ls := ls) (m := m) (rest := st0) hW) hdg hf) kk
theorem kr_sV {own : String} {idx maxL nL n : Nat} {y : MethodName} {bytes : ByteArray} {ret : Option FieldType} {rm : Room} {As : List Value} {Pc : Array Value → State → Prop} {post : Unit → Prop} (S : CallFix p m c cc nL s args kr_all own) (hM : Met l y (Cond.code y bytes maxL ret :: kr_all) rm Pc (va_Sv post) 0 0 (fun _ => False)) (g : GoodIn kr_all (wsS own idx y (Cond.code y bytes maxL ret :: kr_all))) (hr0 : rm.cells = 0 ∧ rm.slots = 0)
    (hd : y.cls = own ∧ y.cls ≠ "java/lang/invoke/MethodHandle" ∧ y.cls ≠ "java/lang/invoke/VarHandle" ∧ (parseMethodDescriptor y.desc).map (fun d => d.parameters.length) = some n) (hR : rm.frames + 1 ≤ R.frames ∧ 8 + (maxL + 11) + rm.locals ≤ R.locals) (hp : PreS s H Pc As) (hn : As.length = n) (hsize : ls.size = nL) (hst : st0 = As.reverse ++ rest) (hW : (rest.map fun v => v.category).sum ≤ 8) (hdg : decode cc pc = .ok (.invokestatic idx, 3)) (hf : cells ≤ R.cells ∧ slots ≤ R.slots)
    (kk : W p l e R s m args below meth c H locs cells slots Q (F0 m (pc + 3) ls rest)) : W p l e R s m args below meth c H locs cells slots Q (F0 m pc ls st0) :=
  va_csv (W.runS S hM (cwS n S.2.2.2.2 g rfl hr0.1 hr0.2 hd hR) hp rfl hn hsize hst (lv_room (pc := pc) (ls := ls) (m := m) (rest := st0) hW) hdg hf) (fun _ => kk)
/-- the ends of methods that leave the heap as it is -/
theorem kr_eI {post : Int32 → Prop} {v : Int32} (hx : p.tables.exec = Jvm.exec) (hb : c.code = cc) (hr : meth.sig.returnType = some .int) (hlocks : meth.locks = false) (hH : H = s.heap) (hp : post v) (hdg : decode cc pc = .ok (.ireturn, 1)) : W p l e R s m args below meth c H [] cells slots (MQ below (vp_Si post) args s cells slots (fun _ => False)) (F0 m pc ls [.int v]) := W.iret hx hb hr (fun t ht _ => ⟨v, rfl, hp, ht.trans hH⟩) (fun q hq => absurd hq List.not_mem_nil) hdg hlocks
theorem kr_eZ {post : Int32 → Prop} {v : Int32} (hx : p.tables.exec = Jvm.exec) (hb : c.code = cc) (hr : meth.sig.returnType = some .boolean) (hlocks : meth.locks = false) (hH : H = s.heap) (hv : v = 0 ∨ v = 1) (hp : post v) (hdg : decode cc pc = .ok (.ireturn, 1)) : W p l e R s m args below meth c H [] cells slots (MQ below (vp_Si post) args s cells slots (fun _ => False)) (F0 m pc ls [.int v]) := W.zret (ty := .boolean) hx hb hr (by rcases hv with rfl | rfl <;> decide) (fun t ht _ => ⟨v, rfl, hp, ht.trans hH⟩) (fun q hq => absurd hq List.not_mem_nil) hdg hlocks
theorem kr_eV {post : Unit → Prop} (hx : p.tables.exec = Jvm.exec) (hb : c.code = cc) (hr : meth.sig.returnType = none) (hlocks : meth.locks = false) (hH : H = s.heap) (hp : post ()) (hdg : decode cc pc = .ok (.return_, 1)) : W p l e R s m args below meth c H [] cells slots (MQ below (va_Sv post) args s cells slots (fun _ => False)) (F0 m pc ls []) := W.vret hx hb hr (fun t ht _ => ⟨rfl, hp, ht.trans hH⟩) (fun q hq => absurd hq List.not_mem_nil) hdg hlocks
theorem kr_eL {post : Int64 → Prop} {v : Int64} (hx : p.tables.exec = Jvm.exec) (hb : c.code = cc) (hr : meth.sig.returnType = some .long) (hlocks : meth.locks = false) (hH : H = s.heap) (hp : post v) (hdg : decode cc pc = .ok (.lreturn, 1)) : W p l e R s m args below meth c H [] cells slots (MQ below (vp_Sl post) args s cells slots (fun _ => False)) (F0 m pc ls [.long v]) := W.lret hx hb hr (fun t ht _ => ⟨v, rfl, hp, ht.trans hH⟩) (fun q hq => absurd hq List.not_mem_nil) hdg hlocks
end KRW
end
section
/-! what the calls answer, as functions of the rows: N knots, L lines, A the rows (0 kind, 1 efficiency, 2 crossings, 3 spill load, 4 into, 5 ropes, 6 tied, 7 rope) -/
def kr_ix (x : Int32) : Nat := x.toNatClampNeg
theorem kr_ix_nI {n : Nat} (h : n < 2 ^ 31) : kr_ix (nI n) = n := nI_clamp h
theorem kr_inc (i : Nat) : nI i + Int32.ofInt 1 = nI (i + 1) := nI_1 i
def kr_mx (x y : Int32) : Int32 := if x < y then y else x
def kr_mn (x y : Int32) : Int32 := if y < x then y else x
abbrev kr_go (A : Nat → Nat → Int32) (ld x : Int32) : Prop := x ≠ -1 ∧ A 3 (kr_ix x) ≠ 0 ∧ A 3 (kr_ix x) ≤ ld
def kr_fm (A : Nat → Nat → Int32) (ld : Int32) : Nat → Int32 → Int32
  | 0, x => x
  | f + 1, x => if kr_go A ld x then kr_fm A ld f (A 4 (kr_ix x)) else x
def kr_sp (A : Nat → Nat → Int32) (ld : Int32) : Nat → Int32 → Nat
  | 0, _ => 0
  | f + 1, x => if kr_go A ld x then kr_sp A ld f (A 4 (kr_ix x)) + 1 else 0
def kr_fa (A : Nat → Nat → Int32) : Nat → Int32 → Int32 → Int32
  | 0, _, g => g
  | f + 1, x, g => if x = -1 then g else if A 3 (kr_ix x) = 0 then 0 else kr_fa A f (A 4 (kr_ix x)) (kr_mx g (A 3 (kr_ix x)))
def kr_st (A : Nat → Nat → Int32) (l p : Nat) (x : Int32) : Int32 := (if p = 0 then A 7 (5 * l + p) else kr_mn (A 7 (5 * l + p)) (A 7 (5 * l + p - 1))) * A 1 (kr_ix x) / 100
def kr_en (A : Nat → Nat → Int32) (x : Int32) : Int32 := if A 3 (kr_ix x) = 0 then 999 else A 3 (kr_ix x) - 1
def kr_lh (A : Nat → Nat → Int32) (g : Int32 → Int32) : Nat → Int32 → Int32 → Int32
  | 0, _, h => h
  | f + 1, x, h => if x = -1 then h else if h < kr_en A x then (if g x < kr_en A x then kr_mx h (g x) else kr_lh A g f (A 4 (kr_ix x)) (kr_en A x)) else kr_lh A g f (A 4 (kr_ix x)) h
abbrev kr_ph (A : Nat → Nat → Int32) (l : Nat) (ld : Int32) (p : Nat) : Prop := kr_fm A ld 16 (A 6 (5 * l + p)) ≠ -1 ∧ ld ≤ kr_st A l p (kr_fm A ld 16 (A 6 (5 * l + p)))
def kr_fg (A : Nat → Nat → Int32) (l : Nat) (ld : Int32) : Nat → Nat → Int32
  | 0, _ => -1
  | n + 1, p => if kr_ph A l ld p then kr_fg A l ld n (p + 1) else nI p
def kr_rc (A : Nat → Nat → Int32) (l : Nat) : Nat := kr_ix (A 5 l)
def kr_gw (A : Nat → Nat → Int32) (l : Nat) (ld : Int32) : Int32 := kr_fg A l ld (kr_rc A l) 0
def kr_lw (A : Nat → Nat → Int32) (l : Nat) (q kn : Int32) : Nat → Nat → Int32 → Int32
  | 0, _, c => c
  | n + 1, p, c => kr_lw A l q kn n (p + 1) (kr_mn c (kr_lh A (kr_st A l p) 16 (if nI p = q then kn else A 6 (5 * l + p)) 0))
def kr_lu (A : Nat → Nat → Int32) (l : Nat) (q kn : Int32) : Int32 := if A 5 l = 0 then 0 else kr_lw A l q kn (kr_rc A l) 0 999
def kr_uw (A : Nat → Nat → Int32) (l : Nat) : Nat → Nat → Int32 → Int32
  | 0, _, c => c
  | n + 1, p, c => kr_uw A l n (p + 1) (kr_mn c (kr_lh A (kr_st A l p) 16 (A 6 (5 * l + p)) 0))
def kr_hu (A : Nat → Nat → Int32) (l : Nat) : Int32 := kr_uw A l (kr_rc A l) 0 (if A 5 l = 0 then 0 else 999)
abbrev kr_ia (A : Nat → Nat → Int32) (j k : Nat) : Prop := if A 1 j = A 1 k then (if A 2 j = A 2 k then j < k else A 2 j < A 2 k) else A 1 k < A 1 j
abbrev kr_ah (A : Nat → Nat → Int32) (j k : Nat) : Prop := A 0 j = A 0 k ∧ kr_ia A j k
def kr_rk (A : Nat → Nat → Int32) (k : Nat) : Nat → Nat
  | 0 => 0
  | n + 1 => kr_rk A k n + (if kr_ah A n k then 1 else 0)
def kr_kw (A : Nat → Nat → Int32) (N : Nat) (kd rk : Int32) : Nat → Nat → Int32
  | 0, _ => -1
  | n + 1, k => if A 0 k = kd ∧ nI (kr_rk A k N) = rk then nI k else kr_kw A N kd rk n (k + 1)
def kr_cn (A : Nat → Nat → Int32) (kd : Int32) : Nat → Nat
  | 0 => 0
  | n + 1 => kr_cn A kd n + (if A 0 n = kd then 1 else 0)
def kr_nw (A : Nat → Nat → Int32) (l p : Nat) : Int32 := kr_st A l p (A 6 (5 * l + p))
def kr_wk (A : Nat → Nat → Int32) (l : Nat) : Nat → Nat → Int32 → Int32
  | 0, _, b => b
  | n + 1, p, b => kr_wk A l n (p + 1) (if b = -1 ∨ kr_nw A l p < kr_nw A l (kr_ix b) then nI p else b)
def kr_sg (A : Nat → Nat → Int32) : Nat → Nat → Int32 → Int32
  | 0, _, b => b
  | n + 1, l, b => kr_sg A n (l + 1) (if b = -1 ∨ kr_hu A (kr_ix b) < kr_hu A l then nI l else b)
def kr_sm (A : Nat → Nat → Int32) : Nat → Int32
  | 0 => 0
  | n + 1 => kr_sm A n + A 1 n
def kr_me (N : Nat) (A : Nat → Nat → Int32) : UInt64 := if N = 0 then 0 else FP.ddiv (FP.i2d (kr_sm A N)) (FP.i2d (nI N))
def kr_dw (d : Int64) (x : Int32) : Int64 := d * 31 + x.toInt64
def kr_dk (A : Nat → Nat → Int32) (N : Nat) (d : Int64) (k : Nat) : Int64 := kr_dw (kr_dw (kr_dw (kr_dw (kr_dw (kr_dw (kr_dw d (A 0 k)) (A 1 k)) (A 2 k)) (A 3 k)) (A 4 k)) (nI (kr_rk A k N))) (kr_fa A 16 (nI k) 0)
def kr_dp (A : Nat → Nat → Int32) (l : Nat) : Nat → Nat → Int64 → Int64
  | 0, _, d => d
  | n + 1, p, d => kr_dp A l n (p + 1) (kr_dw (kr_dw d (A 6 (5 * l + p))) (kr_nw A l p))
def kr_dl (A : Nat → Nat → Int32) (d : Int64) (l : Nat) : Int64 := kr_dp A l (kr_rc A l) 0 (kr_dw (kr_dw (kr_dw d (A 5 l)) (kr_hu A l)) (kr_wk A l (kr_rc A l) 0 (-1)))
def kr_dks (A : Nat → Nat → Int32) (N : Nat) : Nat → Nat → Int64 → Int64
  | 0, _, d => d
  | n + 1, k, d => kr_dks A N n (k + 1) (kr_dk A N d k)
def kr_dls (A : Nat → Nat → Int32) : Nat → Nat → Int64 → Int64
  | 0, _, d => d
  | n + 1, l, d => kr_dls A n (l + 1) (kr_dl A d l)
def kr_dg (N L : Nat) (A : Nat → Nat → Int32) : Int64 := kr_dls A L 0 (kr_dks A N N 0 (kr_dw (kr_dw (kr_dw 2063 (nI N)) (nI L)) (kr_sg A L 0 (-1))))
/-- a knot or none -/
abbrev kr_kn (N : Nat) (x : Int32) : Prop := x = -1 ∨ ∃ j, j < N ∧ x = nI j
/-- the rows are in order -/
def kr_wf (N L : Nat) (A : Nat → Nat → Int32) : Prop := N ≤ 16 ∧ L ≤ 6 ∧
  (∀ k, k < N → (A 0 k = 0 ∨ A 0 k = 1) ∧ (A 4 k = -1 ∨ ∃ j, j < k ∧ A 4 k = nI j) ∧ (∃ q, q ≤ 999 ∧ A 3 k = nI q) ∧ (A 3 k = 0 → A 4 k = -1)) ∧
  (∀ l, l < L → ∃ r, r ≤ 5 ∧ A 5 l = nI r ∧ ∀ p, p < r → ∃ k, k < N ∧ A 6 (5 * l + p) = nI k)
section KRS
variable {N L : Nat} {A : Nat → Nat → Int32}
theorem kr_wf.kn (h : kr_wf N L A) {k : Nat} (hk : k < N) : kr_kn N (A 4 k) := by
  rcases (h.2.2.1 k hk).2.1 with e | ⟨j, hj, e⟩
  · exact Or.inl e
  · exact Or.inr ⟨j, by omega, e⟩
theorem kr_wf.rc (h : kr_wf N L A) {l : Nat} (hl : l < L) : kr_rc A l ≤ 5 ∧ A 5 l = nI (kr_rc A l) := by
  obtain ⟨r, h1, h2, -⟩ := h.2.2.2 l hl
  have e : kr_rc A l = r := by unfold kr_rc; rw [h2, kr_ix_nI (by omega)]
  rw [e]; exact ⟨h1, h2⟩
theorem kr_wf.tk (h : kr_wf N L A) {l p : Nat} (hl : l < L) (hp : p < kr_rc A l) : ∃ k, k < N ∧ A 6 (5 * l + p) = nI k := by
  obtain ⟨r, h1, h2, h3⟩ := h.2.2.2 l hl
  have e : kr_rc A l = r := by unfold kr_rc; rw [h2, kr_ix_nI (by omega)]
  exact h3 p (by omega)
theorem kr_wf.tn (h : kr_wf N L A) {l p : Nat} (hl : l < L) (hp : p < kr_rc A l) : kr_kn N (A 6 (5 * l + p)) := Or.inr (h.tk hl hp)
theorem kr_kn_ne {j : Nat} (h : j < 2 ^ 31) : nI j ≠ -1 := by
  intro e
  have h1 := nI_toInt h
  rw [e] at h1
  have h2 : (-1 : Int32).toInt = -1 := by decide
  omega
theorem kr_if0 {P : Prop} [Decidable P] (h : (if P then (1 : Int32) else 0) = 0) : ¬ P := by
  intro hp; rw [if_pos hp] at h; exact absurd h (by decide)
theorem kr_if1 {P : Prop} [Decidable P] (h : ¬ (if P then (1 : Int32) else 0) = 0) : P := by
  refine Decidable.byContradiction (fun hp => h ?_); rw [if_neg hp]
theorem kr_b01 {P : Prop} [Decidable P] : (if P then (1 : Int32) else 0) = 0 ∨ (if P then (1 : Int32) else 0) = 1 := by
  by_cases h : P
  · right; rw [if_pos h]
  · left; rw [if_neg h]
theorem kr_lt {a b : Nat} (ha : a < 2 ^ 31) (hb : b < 2 ^ 31) (h : ¬ nI b ≤ nI a) : a < b := by
  rcases Nat.lt_or_ge a b with q | q
  · exact q
  · exact absurd (nI_le q ha) h
theorem kr_ge {a b : Nat} (ha : a < 2 ^ 31) (hb : b < 2 ^ 31) (h : nI b ≤ nI a) : b ≤ a := (nI_leI hb ha).mp h
end KRS
section KRT
variable {N : Nat} {x y : Int32}
theorem kr_isK (hN : N ≤ 16) (h : kr_kn N x) (hx : ¬ x < 0 ∧ ¬ nI N ≤ x) : ∃ j, j < N ∧ x = nI j := by
  rcases h with rfl | h
  · exact absurd (by decide) hx.1
  · exact h
theorem kr_isK2 (hN : N ≤ 16) (h : kr_kn N x) (hx : x ≠ -1) : ¬ x < 0 ∧ ¬ nI N ≤ x := by
  rcases h with rfl | ⟨j, hj, rfl⟩
  · exact absurd rfl hx
  · exact ⟨nI_pos (by omega), nI_ge hj (by omega)⟩
theorem kr_ngt (h : y < x) : ¬ x ≤ y := Int32.not_le.mpr h
theorem kr_nlt (h : ¬ y < x) : x ≤ y := Int32.not_lt.mp h
end KRT
section KRU
variable {N L : Nat} {A : Nat → Nat → Int32} {ld x : Int32} {i j k n : Nat}
theorem kr_go_nI (h : j < 2 ^ 31) : kr_go A ld (nI j) ↔ A 3 j ≠ 0 ∧ A 3 j ≤ ld := by
  unfold kr_go; rw [kr_ix_nI h]; exact ⟨fun q => q.2, fun q => ⟨kr_kn_ne h, q⟩⟩
theorem kr_go_kn (hN : N ≤ 16) (h : kr_kn N x) (hg : kr_go A ld x) : ∃ j, j < N ∧ x = nI j := by
  rcases h with rfl | h
  · exact absurd rfl hg.1
  · exact h
theorem kr_fm_no (hg : ¬ kr_go A ld x) : ∀ n, kr_fm A ld n x = x
  | 0 => rfl
  | n + 1 => if_neg hg
theorem kr_fm_go (hi : i < 16) (hj : j < 2 ^ 31) (hg : kr_go A ld (nI j)) : kr_fm A ld (16 - i) (nI j) = kr_fm A ld (16 - (i + 1)) (A 4 j) := by
  obtain ⟨n, h1, h2⟩ : ∃ n, 16 - i = n + 1 ∧ 16 - (i + 1) = n := ⟨16 - (i + 1), by omega, rfl⟩
  rw [h1, h2]; show (if _ then _ else _) = _; rw [if_pos hg, kr_ix_nI hj]
theorem kr_sp_no (hg : ¬ kr_go A ld x) : ∀ n, kr_sp A ld n x = 0
  | 0 => rfl
  | n + 1 => if_neg hg
theorem kr_sp_go (hi : i < 16) (hj : j < 2 ^ 31) (hg : kr_go A ld (nI j)) : kr_sp A ld (16 - i) (nI j) = kr_sp A ld (16 - (i + 1)) (A 4 j) + 1 := by
  obtain ⟨n, h1, h2⟩ : ∃ n, 16 - i = n + 1 ∧ 16 - (i + 1) = n := ⟨16 - (i + 1), by omega, rfl⟩
  rw [h1, h2]; show (if _ then _ else _) = _; rw [if_pos hg, kr_ix_nI hj]
theorem kr_fa_no {g : Int32} : ∀ n, kr_fa A n (-1) g = g
  | 0 => rfl
  | n + 1 => if_pos rfl
theorem kr_fa_0 {g : Int32} (hi : i < 16) (hj : j < 2 ^ 31) (h0 : A 3 j = 0) : kr_fa A (16 - i) (nI j) g = 0 := by
  obtain ⟨n, h1⟩ : ∃ n, 16 - i = n + 1 := ⟨16 - (i + 1), by omega⟩
  rw [h1]; show (if _ then _ else _) = _; rw [if_neg (kr_kn_ne hj), kr_ix_nI hj, if_pos h0]
theorem kr_fa_s {g : Int32} (hi : i < 16) (hj : j < 2 ^ 31) (h0 : ¬ A 3 j = 0) : kr_fa A (16 - i) (nI j) g = kr_fa A (16 - (i + 1)) (A 4 j) (kr_mx g (A 3 j)) := by
  obtain ⟨n, h1, h2⟩ : ∃ n, 16 - i = n + 1 ∧ 16 - (i + 1) = n := ⟨16 - (i + 1), by omega, rfl⟩
  rw [h1, h2]; show (if _ then _ else _) = _; rw [if_neg (kr_kn_ne hj), kr_ix_nI hj, if_neg h0]
theorem kr_isK3 (hN : N ≤ 16) (h : kr_kn N x) (hx : ¬ (¬ x < 0 ∧ ¬ nI N ≤ x)) : x = -1 := Decidable.byContradiction (fun q => hx (kr_isK2 hN h q))
theorem kr_en_nI (hj : j < 2 ^ 31) : kr_en A (nI j) = if A 3 j = 0 then 999 else A 3 j - 1 := by unfold kr_en; rw [kr_ix_nI hj]
theorem kr_lh_no {g : Int32 → Int32} {h : Int32} : ∀ n, kr_lh A g n (-1) h = h
  | 0 => rfl
  | n + 1 => if_pos rfl
theorem kr_lh_s {g : Int32 → Int32} {h : Int32} (hi : i < 16) (hj : j < 2 ^ 31) : kr_lh A g (16 - i) (nI j) h = if h < kr_en A (nI j) then (if g (nI j) < kr_en A (nI j) then kr_mx h (g (nI j)) else kr_lh A g (16 - (i + 1)) (A 4 j) (kr_en A (nI j))) else kr_lh A g (16 - (i + 1)) (A 4 j) h := by
  obtain ⟨n, h1, h2⟩ : ∃ n, 16 - i = n + 1 ∧ 16 - (i + 1) = n := ⟨16 - (i + 1), by omega, rfl⟩
  rw [h1, h2]; show (if _ then _ else _) = _; rw [if_neg (kr_kn_ne hj), kr_ix_nI hj]
theorem kr_fm_kn (hw : kr_wf N L A) : ∀ (n : Nat) (x : Int32), kr_kn N x → kr_kn N (kr_fm A ld n x)
  | 0, x, h => h
  | n + 1, x, h => by
    show kr_kn N (if _ then _ else _)
    by_cases hg : kr_go A ld x
    · rw [if_pos hg]
      obtain ⟨j, hj, rfl⟩ := kr_go_kn hw.1 h hg
      have := hw.1
      rw [kr_ix_nI (by omega)]
      exact kr_fm_kn hw n _ (hw.kn hj)
    · rw [if_neg hg]; exact h
theorem kr_kn_of (hN : N ≤ 16) (h : kr_kn N x) (hx : x ≠ -1) : ∃ j, j < N ∧ x = nI j := by
  rcases h with rfl | h
  · exact absurd rfl hx
  · exact h
theorem kr_st_0 {pl : Nat} (h : pl = 0) (hk : k < 2 ^ 31) : kr_st A n pl (nI k) = A 7 (5 * n + pl) * A 1 k / 100 := by unfold kr_st; rw [if_pos h, kr_ix_nI hk]
theorem kr_st_s {pl : Nat} (h : ¬ pl = 0) (hk : k < 2 ^ 31) : kr_st A n pl (nI k) = kr_mn (A 7 (5 * n + pl)) (A 7 (5 * n + pl - 1)) * A 1 k / 100 := by unfold kr_st; rw [if_neg h, kr_ix_nI hk]
theorem kr_fg_no {n pl q : Nat} (h : ¬ kr_ph A q ld pl) (hn : pl < n) : kr_fg A q ld (n - pl) pl = nI pl := by
  obtain ⟨m, h1⟩ : ∃ m, n - pl = m + 1 := ⟨n - (pl + 1), by omega⟩
  rw [h1]; exact if_neg h
theorem kr_fg_s {n pl q : Nat} (h : kr_ph A q ld pl) (hn : pl < n) : kr_fg A q ld (n - pl) pl = kr_fg A q ld (n - (pl + 1)) (pl + 1) := by
  obtain ⟨m, h1, h2⟩ : ∃ m, n - pl = m + 1 ∧ n - (pl + 1) = m := ⟨n - (pl + 1), by omega, rfl⟩
  rw [h1, h2]; exact if_pos h
theorem kr_lw_s {n pl q : Nat} {z kn g : Int32} (hn : pl < n) : kr_lw A q z kn (n - pl) pl g = kr_lw A q z kn (n - (pl + 1)) (pl + 1) (kr_mn g (kr_lh A (kr_st A q pl) 16 (if nI pl = z then kn else A 6 (5 * q + pl)) 0)) := by
  obtain ⟨m, h1, h2⟩ : ∃ m, n - pl = m + 1 ∧ n - (pl + 1) = m := ⟨n - (pl + 1), by omega, rfl⟩
  rw [h1, h2]; rfl
theorem kr_cn_s {kd : Int32} : kr_cn A kd (n + 1) = kr_cn A kd n + (if A 0 n = kd then 1 else 0) := rfl
theorem kr_rk_s : kr_rk A k (n + 1) = kr_rk A k n + (if kr_ah A n k then 1 else 0) := rfl
theorem kr_cn_le {kd : Int32} : ∀ n, kr_cn A kd n ≤ n
  | 0 => Nat.le_refl _
  | n + 1 => by have := kr_cn_le (kd := kd) n; rw [kr_cn_s]; split <;> omega
theorem kr_rk_le : ∀ n, kr_rk A k n ≤ n
  | 0 => Nat.le_refl _
  | n + 1 => by have := kr_rk_le n; rw [kr_rk_s]; split <;> omega
theorem kr_kw_s {kd rk : Int32} {n pl : Nat} (hn : pl < n) (h : ¬ (A 0 pl = kd ∧ nI (kr_rk A pl N) = rk)) : kr_kw A N kd rk (n - pl) pl = kr_kw A N kd rk (n - (pl + 1)) (pl + 1) := by
  obtain ⟨m, h1, h2⟩ : ∃ m, n - pl = m + 1 ∧ n - (pl + 1) = m := ⟨n - (pl + 1), by omega, rfl⟩
  rw [h1, h2]; exact if_neg h
theorem kr_kw_y {kd rk : Int32} {n pl : Nat} (hn : pl < n) (h : A 0 pl = kd ∧ nI (kr_rk A pl N) = rk) : kr_kw A N kd rk (n - pl) pl = nI pl := by
  obtain ⟨m, h1⟩ : ∃ m, n - pl = m + 1 := ⟨n - (pl + 1), by omega⟩
  rw [h1]; exact if_pos h
theorem kr_kw_kn {kd rk : Int32} : ∀ (n pl : Nat), pl + n ≤ N → kr_kn N (kr_kw A N kd rk n pl)
  | 0, _, _ => Or.inl rfl
  | n + 1, pl, h => by
    show kr_kn N (if _ then _ else _)
    split
    · exact Or.inr ⟨pl, by omega, rfl⟩
    · exact kr_kw_kn n (pl + 1) (by omega)
end KRU
theorem kr_ngt2 {x y : Int32} (h : x ≤ y) : ¬ y < x := Int32.not_lt.mpr h
theorem kr_nle2 {x y : Int32} (h : ¬ x ≤ y) : y < x := Int32.not_le.mp h
theorem kr_d100 (x : Int32) : x / 100 < 2147483647 := by
  have key : ∀ y : Int, 0 ≤ y → y ≤ 2147483648 → y.tdiv 100 ≤ 21474836 ∧ 0 ≤ y.tdiv 100 := fun y h1 h2 => by rw [Int.tdiv_eq_ediv_of_nonneg h1]; omega
  rw [Int32.lt_iff_toInt_lt, Int32.toInt_div, show (100 : Int32).toInt = 100 by decide, show (2147483647 : Int32).toInt = 2147483647 by decide]
  have h1 := Int32.toInt_lt x
  have h2 := Int32.le_toInt x
  rcases Int.le_total 0 x.toInt with h | h
  · have := key x.toInt h (by omega)
    rw [Int.bmod_eq_of_le (by omega) (by omega)]; omega
  · have e : x.toInt.tdiv 100 = -((-x.toInt).tdiv 100) := by rw [Int.neg_tdiv]; omega
    have := key (-x.toInt) (by omega) (by omega)
    rw [e, Int.bmod_eq_of_le (by omega) (by omega)]; omega
section KRV
variable {N L : Nat} {A : Nat → Nat → Int32}
theorem kr_nw_lt (q pl : Nat) : kr_nw A q pl < 2147483647 := kr_d100 _
theorem kr_lw_uw (q : Nat) : ∀ (n pl : Nat) (c : Int32), pl + n < 2 ^ 31 → kr_lw A q (-1) (-1) n pl c = kr_uw A q n pl c
  | 0, _, _, _ => rfl
  | n + 1, pl, c, h => by
    show kr_lw A q (-1) (-1) n (pl + 1) _ = kr_uw A q n (pl + 1) _
    rw [if_neg (kr_kn_ne (by omega))]
    exact kr_lw_uw q n (pl + 1) _ (by omega)
theorem kr_lu_hu (q : Nat) (h : kr_rc A q ≤ 5) : kr_lu A q (-1) (-1) = kr_hu A q := by
  unfold kr_lu kr_hu
  by_cases h0 : A 5 q = 0
  · have hr : kr_rc A q = 0 := by unfold kr_rc; rw [h0]; decide
    rw [if_pos h0, if_pos h0, hr]; rfl
  · rw [if_neg h0, if_neg h0]; exact kr_lw_uw q _ 0 _ (by omega)
theorem kr_mx_nn {x y : Int32} (h : 0 ≤ x) : 0 ≤ kr_mx x y := by
  unfold kr_mx; split
  · next h1 => exact Int32.le_trans h (Int32.le_of_lt h1)
  · exact h
theorem kr_mn_nn {x y : Int32} (h : 0 ≤ x) (h2 : 0 ≤ y) : 0 ≤ kr_mn x y := by unfold kr_mn; split <;> assumption
theorem kr_lh_nn {g : Int32 → Int32} : ∀ (n : Nat) (x h : Int32), 0 ≤ h → 0 ≤ kr_lh A g n x h
  | 0, _, _, h0 => h0
  | n + 1, x, h, h0 => by
    rw [kr_lh]
    split
    · exact h0
    · split
      · next h1 =>
        split
        · exact kr_mx_nn h0
        · exact kr_lh_nn n _ _ (Int32.le_trans h0 (Int32.le_of_lt h1))
      · exact kr_lh_nn n _ _ h0
theorem kr_uw_nn (q : Nat) : ∀ (n pl : Nat) (c : Int32), 0 ≤ c → 0 ≤ kr_uw A q n pl c
  | 0, _, _, h => h
  | n + 1, pl, c, h => kr_uw_nn q n (pl + 1) _ (kr_mn_nn h (kr_lh_nn _ _ _ (by decide)))
theorem kr_hu_nn (q : Nat) : ¬ kr_hu A q ≤ -1 := by
  have h : (0 : Int32) ≤ kr_hu A q := kr_uw_nn q _ _ _ (by split <;> decide)
  intro h2
  exact absurd (Int32.le_trans h h2) (by decide)
theorem kr_wk_s {n pl q : Nat} {b : Int32} (hn : pl < n) : kr_wk A q (n - pl) pl b = kr_wk A q (n - (pl + 1)) (pl + 1) (if b = -1 ∨ kr_nw A q pl < kr_nw A q (kr_ix b) then nI pl else b) := by
  obtain ⟨m, h1, h2⟩ : ∃ m, n - pl = m + 1 ∧ n - (pl + 1) = m := ⟨n - (pl + 1), by omega, rfl⟩
  rw [h1, h2]; rfl
theorem kr_sg_s {n q : Nat} {b : Int32} (hn : q < n) : kr_sg A (n - q) q b = kr_sg A (n - (q + 1)) (q + 1) (if b = -1 ∨ kr_hu A (kr_ix b) < kr_hu A q then nI q else b) := by
  obtain ⟨m, h1, h2⟩ : ∃ m, n - q = m + 1 ∧ n - (q + 1) = m := ⟨n - (q + 1), by omega, rfl⟩
  rw [h1, h2]; rfl
theorem kr_dp_s {n pl q : Nat} {d : Int64} (hn : pl < n) : kr_dp A q (n - pl) pl d = kr_dp A q (n - (pl + 1)) (pl + 1) (kr_dw (kr_dw d (A 6 (5 * q + pl))) (kr_nw A q pl)) := by
  obtain ⟨m, h1, h2⟩ : ∃ m, n - pl = m + 1 ∧ n - (pl + 1) = m := ⟨n - (pl + 1), by omega, rfl⟩
  rw [h1, h2]; rfl
theorem kr_dks_s {n k : Nat} {d : Int64} (hn : k < n) : kr_dks A N (n - k) k d = kr_dks A N (n - (k + 1)) (k + 1) (kr_dk A N d k) := by
  obtain ⟨m, h1, h2⟩ : ∃ m, n - k = m + 1 ∧ n - (k + 1) = m := ⟨n - (k + 1), by omega, rfl⟩
  rw [h1, h2]; rfl
theorem kr_dls_s {n k : Nat} {d : Int64} (hn : k < n) : kr_dls A (n - k) k d = kr_dls A (n - (k + 1)) (k + 1) (kr_dl A d k) := by
  obtain ⟨m, h1, h2⟩ : ∃ m, n - k = m + 1 ∧ n - (k + 1) = m := ⟨n - (k + 1), by omega, rfl⟩
  rw [h1, h2]; rfl
end KRV
def kr_bs (A : Nat → Nat → Int32) (N q : Nat) (z0 kd : Int32) : Nat → Nat → Int32 → Int32 → Int32
  | 0, _, b, _ => b
  | n + 1, r, b, g => if g < kr_lu A q z0 (kr_kw A N kd (nI r) N 0) then kr_bs A N q z0 kd n (r + 1) (kr_kw A N kd (nI r) N 0) (kr_lu A q z0 (kr_kw A N kd (nI r) N 0)) else kr_bs A N q z0 kd n (r + 1) b g
def kr_kd (pl : Nat) : Int32 := if nI pl = 0 then 1 else 0
def kr_bk (A : Nat → Nat → Int32) (N q pl : Nat) : Int32 := kr_bs A N q (nI pl) (kr_kd pl) (kr_cn A (kr_kd pl) N) 0 (-1) (-1)
theorem kr_bs_s {A : Nat → Nat → Int32} {N q n r : Nat} {z0 kd b g : Int32} (hn : r < n) : kr_bs A N q z0 kd (n - r) r b g = if g < kr_lu A q z0 (kr_kw A N kd (nI r) N 0) then kr_bs A N q z0 kd (n - (r + 1)) (r + 1) (kr_kw A N kd (nI r) N 0) (kr_lu A q z0 (kr_kw A N kd (nI r) N 0)) else kr_bs A N q z0 kd (n - (r + 1)) (r + 1) b g := by
  obtain ⟨m, h1, h2⟩ : ∃ m, n - r = m + 1 ∧ n - (r + 1) = m := ⟨n - (r + 1), by omega, rfl⟩
  rw [h1, h2]; rfl
end
section
set_option maxHeartbeats 4000000 in
set_option maxRecDepth 100000 in
theorem c_X0_slot (l : Launch) (q pl : Nat) : Met l yX0_slot (Cond.code yX0_slot cX0_slot 2 (some .int) :: kr_all) ({ frames := 0, cells := 0, slots := 0, locals := 0 }) (va_Pc [.int (nI q), .int (nI pl)] (fun _ => True)) (vp_Si (fun r => r = nI (5 * q + pl))) 0 0 (fun _ => False) := by
  refine kr_of (by decide) (Nat.le_of_ble_eq_true rfl) ?_
  intro p e s m below meth c ls hx hb hml hr hts hown hlocks hin hv hl
  have hown : s.vm.findClass RX0 = some m.cls := hown
  have hl : lv_has ls 2 [(0, .int (nI q)), (1, .int (nI pl))] := hl
  refine lv_iload_n hx hb dX0_slot_0 rfl (lv_at hl 0 rfl) ?_
  refine lv_iconst (v := 5) hx hb dX0_slot_1 (by decide) ?_
  refine kr_imulN hx hb q 5 dX0_slot_2 ?_
  refine lv_iload_n hx hb dX0_slot_3 rfl (lv_at hl 1 rfl) ?_
  refine kr_iaddN hx hb (q * 5) pl dX0_slot_4 ?_
  exact kr_eI hx hb hr hlocks rfl (by rw [Nat.mul_comm]) dX0_slot_5
set_option maxHeartbeats 4000000 in
set_option maxRecDepth 100000 in
theorem c_X0_kindDueAt (l : Launch) (x : Int32) : Met l yX0_kindDueAt (Cond.code yX0_kindDueAt cX0_kindDueAt 1 (some .int) :: kr_all) ({ frames := 0, cells := 0, slots := 0, locals := 0 }) (va_Pc [.int x] (fun _ => True)) (vp_Si (fun r => r = if x = 0 then 1 else 0)) 0 0 (fun _ => False) := by
  refine kr_of (by decide) (Nat.le_of_ble_eq_true rfl) ?_
  intro p e s m below meth c ls hx hb hml hr hts hown hlocks hin hv hl
  have hown : s.vm.findClass RX0 = some m.cls := hown
  have hl : lv_has ls 1 [(0, .int x)] := hl
  refine lv_iload_n hx hb dX0_kindDueAt_0 rfl (lv_at hl 0 rfl) ?_
  refine lv_if_ne (tgt := 8) hx hb dX0_kindDueAt_1 (by decide) (fun c1 => ?_) (fun c1 => ?_)
  · refine lv_iconst (v := 0) hx hb dX0_kindDueAt_8 (by decide) ?_
    exact kr_eI hx hb hr hlocks rfl (if_neg c1).symm dX0_kindDueAt_9
  · refine lv_iconst (v := 1) hx hb dX0_kindDueAt_4 (by decide) ?_
    refine lv_goto (tgt := 9) hx hb dX0_kindDueAt_5 (by decide) ?_
    exact kr_eI hx hb hr hlocks rfl (if_pos c1).symm dX0_kindDueAt_9
set_option maxHeartbeats 4000000 in
set_option maxRecDepth 100000 in
theorem c_X0_isGone (l : Launch) (D : va_G) (cy : ClassId) (h : Nat) (a : Nat → Nat) (N L : Nat) (A : Nat → Nat → Int32) (q : Nat) (hq : q < 6) : Met l yX0_isGone (Cond.code yX0_isGone cX0_isGone 2 (some .boolean) :: kr_all) ({ frames := 0, cells := 0, slots := 0, locals := 0 }) (va_Pc [.ref h, .int (nI q)] (kr_R D (kr_W0 cy h a N L A) cy)) (vp_Si (fun r => r = if A 5 q = 0 then 1 else 0)) 0 0 (fun _ => False) := by
  refine kr_of (by decide) (Nat.le_of_ble_eq_true rfl) ?_
  intro p e s m below meth c ls hx hb hml hr hts hown hlocks hin hv hl
  obtain ⟨hP, hK⟩ := hv
  have hown : s.vm.findClass RX0 = some m.cls := hown
  have hl : lv_has ls 2 [(0, .ref h), (1, .int (nI q))] := hl
  refine lv_aload_n hx hb dX0_isGone_0 rfl (lv_at hl 0 rfl) ?_
  refine va_get (ci := 0) (v := .ref (a 5)) (C := RX0) (T := TX0) (N := 10) hx hb hts kr_wsX0 hown hK hP 0 rfl rfl 6 (by decide) (hts _ kq_71) (fun _ h9 => h9) rfl dX0_isGone_1 ?_
  refine lv_iload_n hx hb dX0_isGone_4 rfl (lv_at hl 1 rfl) ?_
  refine kr_ald hx hb hK hP 6 0 rfl rfl q (by omega) (by decide) dX0_isGone_5 ?_
  refine lv_if_ne (tgt := 13) hx hb dX0_isGone_6 (by decide) (fun c6 => ?_) (fun c6 => ?_)
  · refine lv_iconst (v := 0) hx hb dX0_isGone_13 (by decide) ?_
    exact kr_eZ hx hb hr hlocks rfl (Or.inl rfl) (if_neg c6).symm dX0_isGone_14
  · refine lv_iconst (v := 1) hx hb dX0_isGone_9 (by decide) ?_
    refine lv_goto (tgt := 14) hx hb dX0_isGone_10 (by decide) ?_
    exact kr_eZ hx hb hr hlocks rfl (Or.inr rfl) (if_pos c6).symm dX0_isGone_14
set_option maxHeartbeats 4000000 in
set_option maxRecDepth 100000 in
theorem c_X0_isKnot (l : Launch) (D : va_G) (cy : ClassId) (h : Nat) (a : Nat → Nat) (N L : Nat) (A : Nat → Nat → Int32) (x : Int32) : Met l yX0_isKnot (Cond.code yX0_isKnot cX0_isKnot 2 (some .boolean) :: kr_all) ({ frames := 0, cells := 0, slots := 0, locals := 0 }) (va_Pc [.ref h, .int x] (kr_R D (kr_W0 cy h a N L A) cy)) (vp_Si (fun r => r = if ¬ x < 0 ∧ ¬ nI N ≤ x then 1 else 0)) 0 0 (fun _ => False) := by
  refine kr_of (by decide) (Nat.le_of_ble_eq_true rfl) ?_
  intro p e s m below meth c ls hx hb hml hr hts hown hlocks hin hv hl
  obtain ⟨hP, hK⟩ := hv
  have hown : s.vm.findClass RX0 = some m.cls := hown
  have hl : lv_has ls 2 [(0, .ref h), (1, .int x)] := hl
  refine lv_iload_n hx hb dX0_isKnot_0 rfl (lv_at hl 1 rfl) ?_
  refine lv_if_lt (tgt := 16) hx hb dX0_isKnot_1 (by decide) (fun c1 => ?_) (fun c1 => ?_)
  · refine lv_iconst (v := 0) hx hb dX0_isKnot_16 (by decide) ?_
    exact kr_eZ hx hb hr hlocks rfl (Or.inl rfl) (if_neg (fun q => q.1 c1)).symm dX0_isKnot_17
  · refine lv_iload_n hx hb dX0_isKnot_4 rfl (lv_at hl 1 rfl) ?_
    refine lv_aload_n hx hb dX0_isKnot_5 rfl (lv_at hl 0 rfl) ?_
    refine va_get (ci := 0) (v := .int (nI N)) (C := RX0) (T := TX0) (N := 10) hx hb hts kr_wsX0 hown hK hP 0 rfl rfl 5 (by decide) (hts _ kq_70) (fun _ h9 => h9) rfl dX0_isKnot_6 ?_
    refine lv_icmp_ge (tgt := 16) hx hb dX0_isKnot_9 (by decide) (fun c9 => ?_) (fun c9 => ?_)
    · refine lv_iconst (v := 0) hx hb dX0_isKnot_16 (by decide) ?_
      exact kr_eZ hx hb hr hlocks rfl (Or.inl rfl) (if_neg (fun q => q.2 c9)).symm dX0_isKnot_17
    · refine lv_iconst (v := 1) hx hb dX0_isKnot_12 (by decide) ?_
      refine lv_goto (tgt := 17) hx hb dX0_isKnot_13 (by decide) ?_
      exact kr_eZ hx hb hr hlocks rfl (Or.inr rfl) (if_pos ⟨c1, c9⟩).symm dX0_isKnot_17
theorem kg_RX0_125 : GoodIn kr_all (wsV RX0 125 RX0 yX0_isKnot (Cond.code yX0_isKnot cX0_isKnot 2 (some .boolean) :: kr_all)) := kr_gV kq_200 kq_202 kq_5 kq_48 kq_203
set_option maxHeartbeats 4000000 in
set_option maxRecDepth 100000 in
theorem c_X0_spillsUnder (l : Launch) (D : va_G) (cy : ClassId) (h : Nat) (a : Nat → Nat) (N L : Nat) (A : Nat → Nat → Int32) (x ld : Int32) (hN : N ≤ 16) (hx0 : kr_kn N x) : Met l yX0_spillsUnder (Cond.code yX0_spillsUnder cX0_spillsUnder 3 (some .boolean) :: kr_all) ({ frames := 1, cells := 0, slots := 0, locals := 21 }) (va_Pc [.ref h, .int x, .int ld] (kr_R D (kr_W0 cy h a N L A) cy)) (vp_Si (fun r => r = if kr_go A ld x then 1 else 0)) 0 0 (fun _ => False) := by
  refine kr_of (by decide) (Nat.le_of_ble_eq_true rfl) ?_
  intro p e s m below meth c ls hx hb hml hr hts hown hlocks hin hv hl
  obtain ⟨hP, hK⟩ := hv
  have hown : s.vm.findClass RX0 = some m.cls := hown
  have hl : lv_has ls 3 [(0, .ref h), (1, .int x), (2, .int ld)] := hl
  refine lv_aload_n hx hb dX0_spillsUnder_0 rfl (lv_at hl 0 rfl) ?_
  refine lv_iload_n hx hb dX0_spillsUnder_1 rfl (lv_at hl 1 rfl) ?_
  refine kr_vI (n := 1) (As := [.int x]) (rest := []) ⟨hx, hb, hml, hown, hts⟩ (c_X0_isKnot l D cy h a N L A x) kg_RX0_125 ⟨rfl, rfl⟩ (by decide +kernel) ⟨Nat.le_of_ble_eq_true rfl, Nat.le_of_ble_eq_true rfl⟩ (kr_pv0 hP hK) rfl hl.1 rfl (Nat.le_of_ble_eq_true rfl) dX0_spillsUnder_2 ⟨Nat.zero_le _, Nat.zero_le _⟩ (fun r9 e9 => ?_)
  subst e9
  refine lv_if_eq (tgt := 31) hx hb dX0_spillsUnder_5 (by decide) (fun c5 => ?_) (fun c5 => ?_)
  · refine lv_iconst (v := 0) hx hb dX0_spillsUnder_31 (by decide) ?_
    exact kr_eZ hx hb hr hlocks rfl (Or.inl rfl) (if_neg (fun q => kr_if0 c5 (kr_isK2 hN hx0 q.1))).symm dX0_spillsUnder_32
  · obtain ⟨j, hj, rfl⟩ := kr_isK hN hx0 (kr_if1 c5)
    refine lv_aload_n hx hb dX0_spillsUnder_8 rfl (lv_at hl 0 rfl) ?_
    refine va_get (ci := 0) (v := .ref (a 3)) (C := RX0) (T := TX0) (N := 10) hx hb hts kr_wsX0 hown hK hP 0 rfl rfl 3 (by decide) (hts _ kq_68) (fun _ h9 => h9) rfl dX0_spillsUnder_9 ?_
    refine lv_iload_n hx hb dX0_spillsUnder_12 rfl (lv_at hl 1 rfl) ?_
    refine kr_ald hx hb hK hP 4 0 rfl rfl j (by omega) (by decide) dX0_spillsUnder_13 ?_
    refine lv_if_eq (tgt := 31) hx hb dX0_spillsUnder_14 (by decide) (fun c14 => ?_) (fun c14 => ?_)
    · refine lv_iconst (v := 0) hx hb dX0_spillsUnder_31 (by decide) ?_
      exact kr_eZ hx hb hr hlocks rfl (Or.inl rfl) (if_neg (fun q => ((kr_go_nI (by omega)).mp q).1 c14)).symm dX0_spillsUnder_32
    · refine lv_aload_n hx hb dX0_spillsUnder_17 rfl (lv_at hl 0 rfl) ?_
      refine va_get (ci := 0) (v := .ref (a 3)) (C := RX0) (T := TX0) (N := 10) hx hb hts kr_wsX0 hown hK hP 0 rfl rfl 3 (by decide) (hts _ kq_68) (fun _ h9 => h9) rfl dX0_spillsUnder_18 ?_
      refine lv_iload_n hx hb dX0_spillsUnder_21 rfl (lv_at hl 1 rfl) ?_
      refine kr_ald hx hb hK hP 4 0 rfl rfl j (by omega) (by decide) dX0_spillsUnder_22 ?_
      refine lv_iload_n hx hb dX0_spillsUnder_23 rfl (lv_at hl 2 rfl) ?_
      refine lv_icmp_gt (tgt := 31) hx hb dX0_spillsUnder_24 (by decide) (fun c24 => ?_) (fun c24 => ?_)
      · refine lv_iconst (v := 0) hx hb dX0_spillsUnder_31 (by decide) ?_
        exact kr_eZ hx hb hr hlocks rfl (Or.inl rfl) (if_neg (fun q => (kr_ngt c24) ((kr_go_nI (by omega)).mp q).2)).symm dX0_spillsUnder_32
      · refine lv_iconst (v := 1) hx hb dX0_spillsUnder_27 (by decide) ?_
        refine lv_goto (tgt := 32) hx hb dX0_spillsUnder_28 (by decide) ?_
        exact kr_eZ hx hb hr hlocks rfl (Or.inr rfl) (if_pos ((kr_go_nI (by omega)).mpr ⟨c14, kr_nlt c24⟩)).symm dX0_spillsUnder_32
theorem kg_RX0_121 : GoodIn kr_all (wsV RX0 121 RX0 yX0_spillsUnder (Cond.code yX0_spillsUnder cX0_spillsUnder 3 (some .boolean) :: kr_all)) := kr_gV kq_426 kq_428 kq_20 kq_48 kq_429
set_option maxHeartbeats 4000000 in
set_option maxRecDepth 100000 in
theorem c_X0_formUnder (l : Launch) (D : va_G) (cy : ClassId) (h : Nat) (a : Nat → Nat) (N L : Nat) (A : Nat → Nat → Int32) (x ld : Int32) (hw : kr_wf N L A) (hx0 : kr_kn N x) : Met l yX0_formUnder (Cond.code yX0_formUnder cX0_formUnder 5 (some .int) :: kr_all) ({ frames := 2, cells := 0, slots := 0, locals := 43 }) (va_Pc [.ref h, .int x, .int ld] (kr_R D (kr_W0 cy h a N L A) cy)) (vp_Si (fun r => r = kr_fm A ld 16 x)) 0 0 (fun _ => False) := by
  refine kr_of (by decide) (Nat.le_of_ble_eq_true rfl) ?_
  intro p e s m below meth c ls hx hb hml hr hts hown hlocks hin hv hl
  obtain ⟨hP, hK⟩ := hv
  have hown : s.vm.findClass RX0 = some m.cls := hown
  have hl : lv_has ls 5 [(0, .ref h), (1, .int x), (2, .int ld)] := hl
  have hN := hw.1
  refine lv_iload_n hx hb dX0_formUnder_0 rfl (lv_at hl 1 rfl) ?_
  refine lv_istore_n (lv' := [(3, .int x), (0, .ref h), (1, .int x), (2, .int ld)]) hx hb dX0_formUnder_1 rfl hl (by decide) rfl (fun ls hl => ?_)
  refine lv_iconst (v := 0) hx hb dX0_formUnder_2 (by decide) ?_
  refine lv_istore (lv' := [(4, .int 0), (3, .int x), (0, .ref h), (1, .int x), (2, .int ld)]) hx hb dX0_formUnder_3 hl (by decide) rfl (fun ls hl => ?_)
  refine kr_lp (nL := 5) (fun z : Nat × Int32 => [(4, .int (nI z.1)), (3, .int z.2), (0, .ref h), (1, .int x), (2, .int ld)]) (fun z => z.1 ≤ 16 ∧ kr_kn N z.2 ∧ kr_fm A ld (16 - z.1) z.2 = kr_fm A ld 16 x) (fun z => 16 - z.1) ?_ (0, x) ⟨by omega, hx0, rfl⟩ (lv_sub hl [0, 1, 2, 3, 4] rfl)
  clear hl
  intro z ls hI hl ih
  obtain ⟨i, f⟩ := z
  have hl : lv_has ls 5 [(4, .int (nI i)), (3, .int f), (0, .ref h), (1, .int x), (2, .int ld)] := hl
  obtain ⟨hi0, hf, he⟩ : i ≤ 16 ∧ kr_kn N f ∧ kr_fm A ld (16 - i) f = kr_fm A ld 16 x := hI
  refine lv_iload hx hb dX0_formUnder_5 (lv_at hl 0 rfl) ?_
  refine lv_bipush (v := 16) hx hb dX0_formUnder_7 (by decide) ?_
  refine lv_icmp_ge (tgt := 34) hx hb dX0_formUnder_9 (by decide) (fun c9 => ?_) (fun c9 => ?_)
  · have hi2 : i = 16 := by have := kr_ge (b := 16) (by omega) (by decide) c9; omega
    subst hi2
    refine lv_iload_n hx hb dX0_formUnder_34 rfl (lv_at hl 1 rfl) ?_
    exact kr_eI hx hb hr hlocks rfl he dX0_formUnder_35
  · have hi : i < 16 := kr_lt (b := 16) (by omega) (by decide) c9
    refine lv_aload_n hx hb dX0_formUnder_12 rfl (lv_at hl 2 rfl) ?_
    refine lv_iload_n hx hb dX0_formUnder_13 rfl (lv_at hl 1 rfl) ?_
    refine lv_iload_n hx hb dX0_formUnder_14 rfl (lv_at hl 4 rfl) ?_
    refine kr_vI (n := 2) (As := [.int f, .int ld]) (rest := []) ⟨hx, hb, hml, hown, hts⟩ (c_X0_spillsUnder l D cy h a N L A f ld hw.1 (by assumption)) kg_RX0_121 ⟨rfl, rfl⟩ (by decide +kernel) ⟨Nat.le_of_ble_eq_true rfl, Nat.le_of_ble_eq_true rfl⟩ (kr_pv0 hP hK) rfl hl.1 rfl (Nat.le_of_ble_eq_true rfl) dX0_formUnder_15 ⟨Nat.zero_le _, Nat.zero_le _⟩ (fun r9 e9 => ?_)
    subst e9
    refine lv_if_eq (tgt := 34) hx hb dX0_formUnder_18 (by decide) (fun c18 => ?_) (fun c18 => ?_)
    · refine lv_iload_n hx hb dX0_formUnder_34 rfl (lv_at hl 1 rfl) ?_
      exact kr_eI hx hb hr hlocks rfl ((kr_fm_no (kr_if0 c18) _).symm.trans he) dX0_formUnder_35
    · obtain ⟨j, hj, rfl⟩ := kr_go_kn hN hf (kr_if1 c18)
      refine lv_aload_n hx hb dX0_formUnder_21 rfl (lv_at hl 2 rfl) ?_
      refine va_get (ci := 0) (v := .ref (a 4)) (C := RX0) (T := TX0) (N := 10) hx hb hts kr_wsX0 hown hK hP 0 rfl rfl 4 (by decide) (hts _ kq_69) (fun _ h9 => h9) rfl dX0_formUnder_22 ?_
      refine lv_iload_n hx hb dX0_formUnder_25 rfl (lv_at hl 1 rfl) ?_
      refine kr_ald hx hb hK hP 5 0 rfl rfl j (by omega) (by decide) dX0_formUnder_26 ?_
      refine lv_istore_n (lv' := [(3, .int (A 4 j)), (4, .int (nI i)), (0, .ref h), (1, .int x), (2, .int ld)]) hx hb dX0_formUnder_27 rfl hl (by decide) rfl (fun ls hl => ?_)
      refine lv_iinc (v := nI (i + 1)) (lv' := [(4, .int (nI (i + 1))), (3, .int (A 4 j)), (0, .ref h), (1, .int x), (2, .int ld)]) hx hb dX0_formUnder_28 hl (k := 1) rfl (kr_inc _) (by decide) rfl (fun ls hl => ?_)
      refine lv_goto (tgt := 5) hx hb dX0_formUnder_31 (by decide) ?_
      exact ih (i + 1, A 4 j) ls ⟨by omega, hw.kn hj, (kr_fm_go hi (by omega) (kr_if1 c18)).symm.trans he⟩ (by show 16 - (i + 1) < 16 - i; omega) (lv_sub hl [0, 1, 2, 3, 4] rfl)
theorem kg_RX0_97 : GoodIn kr_all (wsS RX0 97 yX0_slot (Cond.code yX0_slot cX0_slot 2 (some .int) :: kr_all)) := kr_gS kq_193 kq_194 kq_48 kq_195
set_option maxHeartbeats 4000000 in
set_option maxRecDepth 100000 in
theorem c_X0_strengthWith (l : Launch) (D : va_G) (cy : ClassId) (h : Nat) (a : Nat → Nat) (N L : Nat) (A : Nat → Nat → Int32) (q pl k : Nat) (hq : q < 6) (hp : pl < 5) (hk : k < 16) : Met l yX0_strengthWith (Cond.code yX0_strengthWith cX0_strengthWith 5 (some .int) :: kr_all) ({ frames := 1, cells := 0, slots := 0, locals := 21 }) (va_Pc [.ref h, .int (nI q), .int (nI pl), .int (nI k)] (kr_R D (kr_W0 cy h a N L A) cy)) (vp_Si (fun r => r = kr_st A q pl (nI k))) 0 0 (fun _ => False) := by
  refine kr_of (by decide) (Nat.le_of_ble_eq_true rfl) ?_
  intro p e s m below meth c ls hx hb hml hr hts hown hlocks hin hv hl
  obtain ⟨hP, hK⟩ := hv
  have hown : s.vm.findClass RX0 = some m.cls := hown
  have hl : lv_has ls 5 [(0, .ref h), (1, .int (nI q)), (2, .int (nI pl)), (3, .int (nI k))] := hl
  refine lv_aload_n hx hb dX0_strengthWith_0 rfl (lv_at hl 0 rfl) ?_
  refine va_get (ci := 0) (v := .ref (a 7)) (C := RX0) (T := TX0) (N := 10) hx hb hts kr_wsX0 hown hK hP 0 rfl rfl 9 (by decide) (hts _ kq_74) (fun _ h9 => h9) rfl dX0_strengthWith_1 ?_
  refine lv_iload_n hx hb dX0_strengthWith_4 rfl (lv_at hl 1 rfl) ?_
  refine lv_iload_n hx hb dX0_strengthWith_5 rfl (lv_at hl 2 rfl) ?_
  refine kr_sI (n := 2) (As := [.int (nI q), .int (nI pl)]) (rest := [.ref (a 7)]) ⟨hx, hb, hml, hown, hts⟩ (c_X0_slot l q pl) kg_RX0_97 ⟨rfl, rfl⟩ (by decide +kernel) ⟨Nat.le_of_ble_eq_true rfl, Nat.le_of_ble_eq_true rfl⟩ ⟨kr_blT, fun U hU hW => ⟨rfl, trivial⟩⟩ rfl hl.1 rfl (Nat.le_of_ble_eq_true rfl) dX0_strengthWith_6 ⟨Nat.zero_le _, Nat.zero_le _⟩ (fun r9 e9 => ?_)
  subst e9
  refine kr_ald hx hb hK hP 8 0 rfl rfl (5 * q + pl) (by omega) (by decide) dX0_strengthWith_9 ?_
  refine lv_istore (lv' := [(4, .int (A 7 (5 * q + pl))), (0, .ref h), (1, .int (nI q)), (2, .int (nI pl)), (3, .int (nI k))]) hx hb dX0_strengthWith_10 hl (by decide) rfl (fun ls hl => ?_)
  refine lv_iload_n hx hb dX0_strengthWith_12 rfl (lv_at hl 3 rfl) ?_
  refine lv_if_le (tgt := 35) hx hb dX0_strengthWith_13 (by decide) (fun c13 => ?_) (fun c13 => ?_)
  · refine lv_iload hx hb dX0_strengthWith_35 (lv_at hl 0 rfl) ?_
    refine lv_aload_n hx hb dX0_strengthWith_37 rfl (lv_at hl 1 rfl) ?_
    refine va_get (ci := 0) (v := .ref (a 1)) (C := RX0) (T := TX0) (N := 10) hx hb hts kr_wsX0 hown hK hP 0 rfl rfl 1 (by decide) (hts _ kq_66) (fun _ h9 => h9) rfl dX0_strengthWith_38 ?_
    refine lv_iload_n hx hb dX0_strengthWith_41 rfl (lv_at hl 4 rfl) ?_
    refine kr_ald hx hb hK hP 2 0 rfl rfl k (by omega) (by decide) dX0_strengthWith_42 ?_
    refine lv_imul hx hb dX0_strengthWith_43 ?_
    refine lv_bipush (v := 100) hx hb dX0_strengthWith_44 (by decide) ?_
    refine lv_idiv hx hb dX0_strengthWith_46 (by decide) ?_
    exact kr_eI hx hb hr hlocks rfl (kr_st_0 (by have := kr_ge (a := 0) (b := pl) (by decide) (by omega) c13; omega) (by omega)).symm dX0_strengthWith_47
  · have hp0 : 0 < pl := kr_lt (a := 0) (by decide) (by omega) c13
    refine lv_iload hx hb dX0_strengthWith_16 (lv_at hl 0 rfl) ?_
    refine lv_aload_n hx hb dX0_strengthWith_18 rfl (lv_at hl 1 rfl) ?_
    refine va_get (ci := 0) (v := .ref (a 7)) (C := RX0) (T := TX0) (N := 10) hx hb hts kr_wsX0 hown hK hP 0 rfl rfl 9 (by decide) (hts _ kq_74) (fun _ h9 => h9) rfl dX0_strengthWith_19 ?_
    refine lv_iload_n hx hb dX0_strengthWith_22 rfl (lv_at hl 2 rfl) ?_
    refine lv_iload_n hx hb dX0_strengthWith_23 rfl (lv_at hl 3 rfl) ?_
    refine lv_iconst (v := 1) hx hb dX0_strengthWith_24 (by decide) ?_
    refine kr_isubN hx hb pl 1 (by omega) dX0_strengthWith_25 ?_
    refine kr_sI (n := 2) (As := [.int (nI q), .int (nI (pl - 1))]) (rest := [.ref (a 7), .int (A 7 (5 * q + pl))]) ⟨hx, hb, hml, hown, hts⟩ (c_X0_slot l q (pl - 1)) kg_RX0_97 ⟨rfl, rfl⟩ (by decide +kernel) ⟨Nat.le_of_ble_eq_true rfl, Nat.le_of_ble_eq_true rfl⟩ ⟨kr_blT, fun U hU hW => ⟨rfl, trivial⟩⟩ rfl hl.1 rfl (Nat.le_of_ble_eq_true rfl) dX0_strengthWith_26 ⟨Nat.zero_le _, Nat.zero_le _⟩ (fun r9 e9 => ?_)
    subst e9
    refine kr_ald hx hb hK hP 8 0 rfl rfl (5 * q + (pl - 1)) (by omega) (by decide) dX0_strengthWith_29 ?_
    refine va_mmin hx hb (hml.trans hl.1.symm) hown (hts _ kq_208) (hts _ kq_209) (hts _ kq_56) (hts _ kq_210) (Nat.le_of_ble_eq_true rfl) (Nat.le_of_ble_eq_true rfl) (Nat.zero_le _) (Nat.zero_le _) dX0_strengthWith_30 ?_
    show W _ _ _ _ _ _ _ _ _ _ _ _ _ _ _ (F0 _ _ _ (.int (kr_mn (A 7 (5 * q + pl)) (A 7 (5 * q + (pl - 1)))) :: _))
    refine lv_istore (lv' := [(4, .int (kr_mn (A 7 (5 * q + pl)) (A 7 (5 * q + (pl - 1))))), (0, .ref h), (1, .int (nI q)), (2, .int (nI pl)), (3, .int (nI k))]) hx hb dX0_strengthWith_33 hl (by decide) rfl (fun ls hl => ?_)
    refine lv_iload hx hb dX0_strengthWith_35 (lv_at hl 0 rfl) ?_
    refine lv_aload_n hx hb dX0_strengthWith_37 rfl (lv_at hl 1 rfl) ?_
    refine va_get (ci := 0) (v := .ref (a 1)) (C := RX0) (T := TX0) (N := 10) hx hb hts kr_wsX0 hown hK hP 0 rfl rfl 1 (by decide) (hts _ kq_66) (fun _ h9 => h9) rfl dX0_strengthWith_38 ?_
    refine lv_iload_n hx hb dX0_strengthWith_41 rfl (lv_at hl 4 rfl) ?_
    refine kr_ald hx hb hK hP 2 0 rfl rfl k (by omega) (by decide) dX0_strengthWith_42 ?_
    refine lv_imul hx hb dX0_strengthWith_43 ?_
    refine lv_bipush (v := 100) hx hb dX0_strengthWith_44 (by decide) ?_
    refine lv_idiv hx hb dX0_strengthWith_46 (by decide) ?_
    exact kr_eI hx hb hr hlocks rfl (by rw [kr_st_s (by omega) (by omega), show 5 * q + (pl - 1) = 5 * q + pl - 1 by omega]) dX0_strengthWith_47
theorem kg_RX0_223 : GoodIn kr_all (wsV RX0 223 RX0 yX0_strengthWith (Cond.code yX0_strengthWith cX0_strengthWith 5 (some .int) :: kr_all)) := kr_gV kq_204 kq_206 kq_6 kq_48 kq_207
set_option maxHeartbeats 4000000 in
set_option maxRecDepth 100000 in
theorem c_X0_currentStrength (l : Launch) (D : va_G) (cy : ClassId) (h : Nat) (a : Nat → Nat) (N L : Nat) (A : Nat → Nat → Int32) (q pl : Nat) (hw : kr_wf N L A) (hq : q < L) (hp : pl < kr_rc A q) : Met l yX0_currentStrength (Cond.code yX0_currentStrength cX0_currentStrength 3 (some .int) :: kr_all) ({ frames := 2, cells := 0, slots := 0, locals := 45 }) (va_Pc [.ref h, .int (nI q), .int (nI pl)] (kr_R D (kr_W0 cy h a N L A) cy)) (vp_Si (fun r => r = kr_nw A q pl)) 0 0 (fun _ => False) := by
  refine kr_of (by decide) (Nat.le_of_ble_eq_true rfl) ?_
  intro p e s m below meth c ls hx hb hml hr hts hown hlocks hin hv hl
  obtain ⟨hP, hK⟩ := hv
  have hown : s.vm.findClass RX0 = some m.cls := hown
  have hl : lv_has ls 3 [(0, .ref h), (1, .int (nI q)), (2, .int (nI pl))] := hl
  have hN := hw.1
  have hL := hw.2.1
  have hrc := (hw.rc hq).1
  refine lv_aload_n hx hb dX0_currentStrength_0 rfl (lv_at hl 0 rfl) ?_
  refine lv_iload_n hx hb dX0_currentStrength_1 rfl (lv_at hl 1 rfl) ?_
  refine lv_iload_n hx hb dX0_currentStrength_2 rfl (lv_at hl 2 rfl) ?_
  refine lv_aload_n hx hb dX0_currentStrength_3 rfl (lv_at hl 0 rfl) ?_
  refine va_get (ci := 0) (v := .ref (a 6)) (C := RX0) (T := TX0) (N := 10) hx hb hts kr_wsX0 hown hK hP 0 rfl rfl 8 (by decide) (hts _ kq_73) (fun _ h9 => h9) rfl dX0_currentStrength_4 ?_
  refine lv_iload_n hx hb dX0_currentStrength_7 rfl (lv_at hl 1 rfl) ?_
  refine lv_iload_n hx hb dX0_currentStrength_8 rfl (lv_at hl 2 rfl) ?_
  refine kr_sI (n := 2) (As := [.int (nI q), .int (nI pl)]) (rest := [.ref (a 6), .int (nI pl), .int (nI q), .ref h]) ⟨hx, hb, hml, hown, hts⟩ (c_X0_slot l q pl) kg_RX0_97 ⟨rfl, rfl⟩ (by decide +kernel) ⟨Nat.le_of_ble_eq_true rfl, Nat.le_of_ble_eq_true rfl⟩ ⟨kr_blT, fun U hU hW => ⟨rfl, trivial⟩⟩ rfl hl.1 rfl (Nat.le_of_ble_eq_true rfl) dX0_currentStrength_9 ⟨Nat.zero_le _, Nat.zero_le _⟩ (fun r9 e9 => ?_)
  subst e9
  refine kr_ald hx hb hK hP 7 0 rfl rfl (5 * q + pl) (by omega) (by decide) dX0_currentStrength_12 ?_
  obtain ⟨k, hk, ek⟩ := hw.tk hq hp
  rw [ek]
  refine kr_vI (n := 3) (As := [.int (nI q), .int (nI pl), .int (nI k)]) (rest := []) ⟨hx, hb, hml, hown, hts⟩ (c_X0_strengthWith l D cy h a N L A q pl k (by omega) (by omega) (by omega)) kg_RX0_223 ⟨rfl, rfl⟩ (by decide +kernel) ⟨Nat.le_of_ble_eq_true rfl, Nat.le_of_ble_eq_true rfl⟩ (kr_pv0 hP hK) rfl hl.1 rfl (Nat.le_of_ble_eq_true rfl) dX0_currentStrength_13 ⟨Nat.zero_le _, Nat.zero_le _⟩ (fun r9 e9 => ?_)
  subst e9
  exact kr_eI hx hb hr hlocks rfl (by unfold kr_nw; rw [ek]) dX0_currentStrength_16
theorem kg_RX0_104 : GoodIn kr_all (wsV RX0 104 RX0 yX0_formUnder (Cond.code yX0_formUnder cX0_formUnder 5 (some .int) :: kr_all)) := kr_gV kq_422 kq_424 kq_19 kq_48 kq_425
set_option maxHeartbeats 4000000 in
set_option maxRecDepth 100000 in
theorem c_X0_placeHolds (l : Launch) (D : va_G) (cy : ClassId) (h : Nat) (a : Nat → Nat) (N L : Nat) (A : Nat → Nat → Int32) (q pl : Nat) (ld : Int32) (hw : kr_wf N L A) (hq : q < L) (hp : pl < kr_rc A q) : Met l yX0_placeHolds (Cond.code yX0_placeHolds cX0_placeHolds 5 (some .boolean) :: kr_all) ({ frames := 3, cells := 0, slots := 0, locals := 67 }) (va_Pc [.ref h, .int (nI q), .int (nI pl), .int ld] (kr_R D (kr_W0 cy h a N L A) cy)) (vp_Si (fun r => r = if kr_ph A q ld pl then 1 else 0)) 0 0 (fun _ => False) := by
  refine kr_of (by decide) (Nat.le_of_ble_eq_true rfl) ?_
  intro p e s m below meth c ls hx hb hml hr hts hown hlocks hin hv hl
  obtain ⟨hP, hK⟩ := hv
  have hown : s.vm.findClass RX0 = some m.cls := hown
  have hl : lv_has ls 5 [(0, .ref h), (1, .int (nI q)), (2, .int (nI pl)), (3, .int ld)] := hl
  have hN := hw.1
  have hL := hw.2.1
  have hrc := (hw.rc hq).1
  refine lv_aload_n hx hb dX0_placeHolds_0 rfl (lv_at hl 0 rfl) ?_
  refine lv_aload_n hx hb dX0_placeHolds_1 rfl (lv_at hl 0 rfl) ?_
  refine va_get (ci := 0) (v := .ref (a 6)) (C := RX0) (T := TX0) (N := 10) hx hb hts kr_wsX0 hown hK hP 0 rfl rfl 8 (by decide) (hts _ kq_73) (fun _ h9 => h9) rfl dX0_placeHolds_2 ?_
  refine lv_iload_n hx hb dX0_placeHolds_5 rfl (lv_at hl 1 rfl) ?_
  refine lv_iload_n hx hb dX0_placeHolds_6 rfl (lv_at hl 2 rfl) ?_
  refine kr_sI (n := 2) (As := [.int (nI q), .int (nI pl)]) (rest := [.ref (a 6), .ref h]) ⟨hx, hb, hml, hown, hts⟩ (c_X0_slot l q pl) kg_RX0_97 ⟨rfl, rfl⟩ (by decide +kernel) ⟨Nat.le_of_ble_eq_true rfl, Nat.le_of_ble_eq_true rfl⟩ ⟨kr_blT, fun U hU hW => ⟨rfl, trivial⟩⟩ rfl hl.1 rfl (Nat.le_of_ble_eq_true rfl) dX0_placeHolds_7 ⟨Nat.zero_le _, Nat.zero_le _⟩ (fun r9 e9 => ?_)
  subst e9
  refine kr_ald hx hb hK hP 7 0 rfl rfl (5 * q + pl) (by omega) (by decide) dX0_placeHolds_10 ?_
  refine lv_iload_n hx hb dX0_placeHolds_11 rfl (lv_at hl 3 rfl) ?_
  refine kr_vI (n := 2) (As := [.int (A 6 (5 * q + pl)), .int ld]) (rest := []) ⟨hx, hb, hml, hown, hts⟩ (c_X0_formUnder l D cy h a N L A (A 6 (5 * q + pl)) ld hw (by first | assumption | exact Or.inr ⟨_, by assumption, rfl⟩ | exact hw.tn (by assumption) (by assumption))) kg_RX0_104 ⟨rfl, rfl⟩ (by decide +kernel) ⟨Nat.le_of_ble_eq_true rfl, Nat.le_of_ble_eq_true rfl⟩ (kr_pv0 hP hK) rfl hl.1 rfl (Nat.le_of_ble_eq_true rfl) dX0_placeHolds_12 ⟨Nat.zero_le _, Nat.zero_le _⟩ (fun r9 e9 => ?_)
  subst e9
  refine lv_topi (fun f ef => ?_)
  have hf : kr_kn N f := ef ▸ kr_fm_kn hw 16 _ (hw.tn hq hp)
  refine lv_istore (lv' := [(4, .int f), (0, .ref h), (1, .int (nI q)), (2, .int (nI pl)), (3, .int ld)]) hx hb dX0_placeHolds_15 hl (by decide) rfl (fun ls hl => ?_)
  refine lv_aload_n hx hb dX0_placeHolds_17 rfl (lv_at hl 1 rfl) ?_
  refine lv_iload hx hb dX0_placeHolds_18 (lv_at hl 0 rfl) ?_
  refine kr_vI (n := 1) (As := [.int f]) (rest := []) ⟨hx, hb, hml, hown, hts⟩ (c_X0_isKnot l D cy h a N L A f) kg_RX0_125 ⟨rfl, rfl⟩ (by decide +kernel) ⟨Nat.le_of_ble_eq_true rfl, Nat.le_of_ble_eq_true rfl⟩ (kr_pv0 hP hK) rfl hl.1 rfl (Nat.le_of_ble_eq_true rfl) dX0_placeHolds_20 ⟨Nat.zero_le _, Nat.zero_le _⟩ (fun r9 e9 => ?_)
  subst e9
  refine lv_if_eq (tgt := 42) hx hb dX0_placeHolds_23 (by decide) (fun c23 => ?_) (fun c23 => ?_)
  · refine lv_iconst (v := 0) hx hb dX0_placeHolds_42 (by decide) ?_
    exact kr_eZ hx hb hr hlocks rfl (Or.inl rfl) (if_neg (fun z => z.1 (ef ▸ kr_isK3 hN hf (kr_if0 c23)))).symm dX0_placeHolds_43
  · obtain ⟨k, hk, rfl⟩ := kr_isK hN hf (kr_if1 c23)
    refine lv_aload_n hx hb dX0_placeHolds_26 rfl (lv_at hl 1 rfl) ?_
    refine lv_iload_n hx hb dX0_placeHolds_27 rfl (lv_at hl 2 rfl) ?_
    refine lv_iload_n hx hb dX0_placeHolds_28 rfl (lv_at hl 3 rfl) ?_
    refine lv_iload hx hb dX0_placeHolds_29 (lv_at hl 0 rfl) ?_
    refine kr_vI (n := 3) (As := [.int (nI q), .int (nI pl), .int (nI k)]) (rest := []) ⟨hx, hb, hml, hown, hts⟩ (c_X0_strengthWith l D cy h a N L A q pl k (by omega) (by omega) (by omega)) kg_RX0_223 ⟨rfl, rfl⟩ (by decide +kernel) ⟨Nat.le_of_ble_eq_true rfl, Nat.le_of_ble_eq_true rfl⟩ (kr_pv0 hP hK) rfl hl.1 rfl (Nat.le_of_ble_eq_true rfl) dX0_placeHolds_31 ⟨Nat.zero_le _, Nat.zero_le _⟩ (fun r9 e9 => ?_)
    subst e9
    refine lv_iload_n hx hb dX0_placeHolds_34 rfl (lv_at hl 4 rfl) ?_
    refine lv_icmp_lt (tgt := 42) hx hb dX0_placeHolds_35 (by decide) (fun c35 => ?_) (fun c35 => ?_)
    · refine lv_iconst (v := 0) hx hb dX0_placeHolds_42 (by decide) ?_
      exact kr_eZ hx hb hr hlocks rfl (Or.inl rfl) (if_neg (fun z => kr_ngt c35 (by have := z.2; rw [← ef] at this; exact this))).symm dX0_placeHolds_43
    · refine lv_iconst (v := 1) hx hb dX0_placeHolds_38 (by decide) ?_
      refine lv_goto (tgt := 43) hx hb dX0_placeHolds_39 (by decide) ?_
      exact kr_eZ hx hb hr hlocks rfl (Or.inr rfl) (if_pos ⟨by rw [← ef]; exact kr_kn_ne (by omega), by rw [← ef]; exact kr_nlt c35⟩).symm dX0_placeHolds_43
theorem kg_RX0_226 : GoodIn kr_all (wsV RX0 226 RX0 yX0_placeHolds (Cond.code yX0_placeHolds cX0_placeHolds 5 (some .boolean) :: kr_all)) := kr_gV kq_418 kq_420 kq_18 kq_48 kq_421
set_option maxHeartbeats 4000000 in
set_option maxRecDepth 100000 in
theorem c_X0_firstPlaceToGiveWay (l : Launch) (D : va_G) (cy : ClassId) (h : Nat) (a : Nat → Nat) (N L : Nat) (A : Nat → Nat → Int32) (q : Nat) (ld : Int32) (hw : kr_wf N L A) (hq : q < L) : Met l yX0_firstPlaceToGiveWay (Cond.code yX0_firstPlaceToGiveWay cX0_firstPlaceToGiveWay 4 (some .int) :: kr_all) ({ frames := 4, cells := 0, slots := 0, locals := 91 }) (va_Pc [.ref h, .int (nI q), .int ld] (kr_R D (kr_W0 cy h a N L A) cy)) (vp_Si (fun r => r = kr_gw A q ld)) 0 0 (fun _ => False) := by
  refine kr_of (by decide) (Nat.le_of_ble_eq_true rfl) ?_
  intro p e s m below meth c ls hx hb hml hr hts hown hlocks hin hv hl
  obtain ⟨hP, hK⟩ := hv
  have hown : s.vm.findClass RX0 = some m.cls := hown
  have hl : lv_has ls 4 [(0, .ref h), (1, .int (nI q)), (2, .int ld)] := hl
  have hL := hw.2.1
  obtain ⟨hrc, er⟩ := hw.rc hq
  refine lv_iconst (v := 0) hx hb dX0_firstPlaceToGiveWay_0 (by decide) ?_
  refine lv_istore_n (lv' := [(3, .int 0), (0, .ref h), (1, .int (nI q)), (2, .int ld)]) hx hb dX0_firstPlaceToGiveWay_1 rfl hl (by decide) rfl (fun ls hl => ?_)
  refine kr_lp (nL := 4) (fun z : Nat => [(3, .int (nI z)), (0, .ref h), (1, .int (nI q)), (2, .int ld)]) (fun z => z ≤ kr_rc A q ∧ kr_fg A q ld (kr_rc A q - z) z = kr_gw A q ld) (fun z => kr_rc A q - z) ?_ (0) ⟨by omega, rfl⟩ (lv_sub hl [0, 1, 2, 3] rfl)
  clear hl
  intro z ls hI hl ih
  obtain ⟨i, rfl⟩ : ∃ y, y = z := ⟨_, rfl⟩
  have hl : lv_has ls 4 [(3, .int (nI i)), (0, .ref h), (1, .int (nI q)), (2, .int ld)] := hl
  obtain ⟨hi0, he⟩ : i ≤ kr_rc A q ∧ kr_fg A q ld (kr_rc A q - i) i = kr_gw A q ld := hI
  refine lv_iload_n hx hb dX0_firstPlaceToGiveWay_2 rfl (lv_at hl 0 rfl) ?_
  refine lv_aload_n hx hb dX0_firstPlaceToGiveWay_3 rfl (lv_at hl 1 rfl) ?_
  refine va_get (ci := 0) (v := .ref (a 5)) (C := RX0) (T := TX0) (N := 10) hx hb hts kr_wsX0 hown hK hP 0 rfl rfl 6 (by decide) (hts _ kq_71) (fun _ h9 => h9) rfl dX0_firstPlaceToGiveWay_4 ?_
  refine lv_iload_n hx hb dX0_firstPlaceToGiveWay_7 rfl (lv_at hl 2 rfl) ?_
  refine kr_ald hx hb hK hP 6 0 rfl rfl q (by omega) (by decide) dX0_firstPlaceToGiveWay_8 ?_
  rw [er]
  refine lv_icmp_ge (tgt := 30) hx hb dX0_firstPlaceToGiveWay_9 (by decide) (fun c9 => ?_) (fun c9 => ?_)
  · have hi2 : i = kr_rc A q := by have := kr_ge (by omega) (by omega) c9; omega
    subst hi2
    refine lv_iconst (v := -1) hx hb dX0_firstPlaceToGiveWay_30 (by decide) ?_
    exact kr_eI hx hb hr hlocks rfl (by rw [Nat.sub_self] at he; exact he) dX0_firstPlaceToGiveWay_31
  · have hi : i < kr_rc A q := kr_lt (by omega) (by omega) c9
    refine lv_aload_n hx hb dX0_firstPlaceToGiveWay_12 rfl (lv_at hl 1 rfl) ?_
    refine lv_iload_n hx hb dX0_firstPlaceToGiveWay_13 rfl (lv_at hl 2 rfl) ?_
    refine lv_iload_n hx hb dX0_firstPlaceToGiveWay_14 rfl (lv_at hl 0 rfl) ?_
    refine lv_iload_n hx hb dX0_firstPlaceToGiveWay_15 rfl (lv_at hl 3 rfl) ?_
    refine kr_vI (n := 3) (As := [.int (nI q), .int (nI i), .int ld]) (rest := []) ⟨hx, hb, hml, hown, hts⟩ (c_X0_placeHolds l D cy h a N L A q i ld hw (by omega) (by omega)) kg_RX0_226 ⟨rfl, rfl⟩ (by decide +kernel) ⟨Nat.le_of_ble_eq_true rfl, Nat.le_of_ble_eq_true rfl⟩ (kr_pv0 hP hK) rfl hl.1 rfl (Nat.le_of_ble_eq_true rfl) dX0_firstPlaceToGiveWay_16 ⟨Nat.zero_le _, Nat.zero_le _⟩ (fun r9 e9 => ?_)
    subst e9
    refine lv_if_ne (tgt := 24) hx hb dX0_firstPlaceToGiveWay_19 (by decide) (fun c19 => ?_) (fun c19 => ?_)
    · refine lv_iinc (v := nI (i + 1)) (lv' := [(3, .int (nI (i + 1))), (0, .ref h), (1, .int (nI q)), (2, .int ld)]) hx hb dX0_firstPlaceToGiveWay_24 hl (k := 0) rfl (kr_inc _) (by decide) rfl (fun ls hl => ?_)
      refine lv_goto (tgt := 2) hx hb dX0_firstPlaceToGiveWay_27 (by decide) ?_
      exact ih (i + 1) ls ⟨by omega, (kr_fg_s (kr_if1 c19) hi).symm.trans he⟩ (by show kr_rc A q - (i + 1) < kr_rc A q - i; omega) (lv_sub hl [0, 1, 2, 3] rfl)
    · refine lv_iload_n hx hb dX0_firstPlaceToGiveWay_22 rfl (lv_at hl 0 rfl) ?_
      exact kr_eI hx hb hr hlocks rfl ((kr_fg_no (kr_if0 c19) hi).symm.trans he) dX0_firstPlaceToGiveWay_23
set_option maxHeartbeats 4000000 in
set_option maxRecDepth 100000 in
theorem c_X0_loadHeldAt (l : Launch) (D : va_G) (cy : ClassId) (h : Nat) (a : Nat → Nat) (N L : Nat) (A : Nat → Nat → Int32) (q pl : Nat) (x : Int32) (hw : kr_wf N L A) (hq : q < 6) (hp : pl < 5) (hx0 : kr_kn N x) : Met l yX0_loadHeldAt (Cond.code yX0_loadHeldAt cX0_loadHeldAt 9 (some .int) :: kr_all) ({ frames := 2, cells := 0, slots := 0, locals := 45 }) (va_Pc [.ref h, .int (nI q), .int (nI pl), .int x] (kr_R D (kr_W0 cy h a N L A) cy)) (vp_Si (fun r => r = kr_lh A (kr_st A q pl) 16 x 0)) 0 0 (fun _ => False) := by
  refine kr_of (by decide) (Nat.le_of_ble_eq_true rfl) ?_
  intro p e s m below meth c ls hx hb hml hr hts hown hlocks hin hv hl
  obtain ⟨hP, hK⟩ := hv
  have hown : s.vm.findClass RX0 = some m.cls := hown
  have hl : lv_has ls 9 [(0, .ref h), (1, .int (nI q)), (2, .int (nI pl)), (3, .int x)] := hl
  have hN := hw.1
  refine lv_iconst (v := 0) hx hb dX0_loadHeldAt_0 (by decide) ?_
  refine lv_istore (lv' := [(4, .int 0), (0, .ref h), (1, .int (nI q)), (2, .int (nI pl)), (3, .int x)]) hx hb dX0_loadHeldAt_1 hl (by decide) rfl (fun ls hl => ?_)
  refine lv_iload_n hx hb dX0_loadHeldAt_3 rfl (lv_at hl 4 rfl) ?_
  refine lv_istore (lv' := [(5, .int x), (4, .int 0), (0, .ref h), (1, .int (nI q)), (2, .int (nI pl)), (3, .int x)]) hx hb dX0_loadHeldAt_4 hl (by decide) rfl (fun ls hl => ?_)
  refine lv_iconst (v := 0) hx hb dX0_loadHeldAt_6 (by decide) ?_
  refine lv_istore (lv' := [(6, .int 0), (5, .int x), (4, .int 0), (0, .ref h), (1, .int (nI q)), (2, .int (nI pl)), (3, .int x)]) hx hb dX0_loadHeldAt_7 hl (by decide) rfl (fun ls hl => ?_)
  refine kr_lp (nL := 9) (fun z : Nat × Int32 × Int32 => [(6, .int (nI z.1)), (5, .int z.2.1), (4, .int z.2.2), (0, .ref h), (1, .int (nI q)), (2, .int (nI pl)), (3, .int x)]) (fun z => z.1 ≤ 16 ∧ kr_kn N z.2.1 ∧ kr_lh A (kr_st A q pl) (16 - z.1) z.2.1 z.2.2 = kr_lh A (kr_st A q pl) 16 x 0) (fun z => 16 - z.1) ?_ (0, x, 0) ⟨by omega, hx0, rfl⟩ (lv_sub hl [0, 1, 2, 3, 4, 5, 6] rfl)
  clear hl
  intro z ls hI hl ih
  obtain ⟨i, f, g⟩ := z
  have hl : lv_has ls 9 [(6, .int (nI i)), (5, .int f), (4, .int g), (0, .ref h), (1, .int (nI q)), (2, .int (nI pl)), (3, .int x)] := hl
  obtain ⟨hi0, hf, he⟩ : i ≤ 16 ∧ kr_kn N f ∧ kr_lh A (kr_st A q pl) (16 - i) f g = kr_lh A (kr_st A q pl) 16 x 0 := hI
  refine lv_iload hx hb dX0_loadHeldAt_9 (lv_at hl 0 rfl) ?_
  refine lv_bipush (v := 16) hx hb dX0_loadHeldAt_11 (by decide) ?_
  refine lv_icmp_ge (tgt := 103) hx hb dX0_loadHeldAt_13 (by decide) (fun c13 => ?_) (fun c13 => ?_)
  · have hi2 : i = 16 := by have := kr_ge (b := 16) (by omega) (by decide) c13; omega
    subst hi2
    refine lv_iload hx hb dX0_loadHeldAt_103 (lv_at hl 2 rfl) ?_
    exact kr_eI hx hb hr hlocks rfl he dX0_loadHeldAt_105
  · have hi : i < 16 := kr_lt (b := 16) (by omega) (by decide) c13
    refine lv_aload_n hx hb dX0_loadHeldAt_16 rfl (lv_at hl 3 rfl) ?_
    refine lv_iload hx hb dX0_loadHeldAt_17 (lv_at hl 1 rfl) ?_
    refine kr_vI (n := 1) (As := [.int f]) (rest := []) ⟨hx, hb, hml, hown, hts⟩ (c_X0_isKnot l D cy h a N L A f) kg_RX0_125 ⟨rfl, rfl⟩ (by decide +kernel) ⟨Nat.le_of_ble_eq_true rfl, Nat.le_of_ble_eq_true rfl⟩ (kr_pv0 hP hK) rfl hl.1 rfl (Nat.le_of_ble_eq_true rfl) dX0_loadHeldAt_19 ⟨Nat.zero_le _, Nat.zero_le _⟩ (fun r9 e9 => ?_)
    subst e9
    refine lv_if_eq (tgt := 103) hx hb dX0_loadHeldAt_22 (by decide) (fun c22 => ?_) (fun c22 => ?_)
    · have hf2 := kr_isK3 hN hf (kr_if0 c22)
      subst hf2
      refine lv_iload hx hb dX0_loadHeldAt_103 (lv_at hl 2 rfl) ?_
      exact kr_eI hx hb hr hlocks rfl ((kr_lh_no _).symm.trans he) dX0_loadHeldAt_105
    · obtain ⟨j, hj, rfl⟩ := kr_isK hN hf (kr_if1 c22)
      rw [kr_lh_s hi (by omega)] at he
      have een := kr_en_nI (A := A) (j := j) (by omega)
      refine kr_jn (pcJ := 50) (stJ := []) (fun v => v = kr_en A (nI j)) (fun w ew => ?_) (fun J => ?_)
      · rw [← ew] at he
        refine lv_istore (lv' := [(7, .int w), (6, .int (nI i)), (5, .int (nI j)), (4, .int g), (0, .ref h), (1, .int (nI q)), (2, .int (nI pl)), (3, .int x)]) hx hb dX0_loadHeldAt_50 hl (by decide) rfl (fun ls hl => ?_)
        refine lv_iload hx hb dX0_loadHeldAt_52 (lv_at hl 0 rfl) ?_
        refine lv_iload hx hb dX0_loadHeldAt_54 (lv_at hl 3 rfl) ?_
        refine lv_icmp_le (tgt := 88) hx hb dX0_loadHeldAt_56 (by decide) (fun c56 => ?_) (fun c56 => ?_)
        · rw [if_neg (kr_ngt2 c56)] at he
          refine lv_aload_n hx hb dX0_loadHeldAt_88 rfl (lv_at hl 4 rfl) ?_
          refine va_get (ci := 0) (v := .ref (a 4)) (C := RX0) (T := TX0) (N := 10) hx hb hts kr_wsX0 hown hK hP 0 rfl rfl 4 (by decide) (hts _ kq_69) (fun _ h9 => h9) rfl dX0_loadHeldAt_89 ?_
          refine lv_iload hx hb dX0_loadHeldAt_92 (lv_at hl 2 rfl) ?_
          refine kr_ald hx hb hK hP 5 0 rfl rfl j (by omega) (by decide) dX0_loadHeldAt_94 ?_
          refine lv_istore (lv' := [(5, .int (A 4 j)), (7, .int w), (6, .int (nI i)), (4, .int g), (0, .ref h), (1, .int (nI q)), (2, .int (nI pl)), (3, .int x)]) hx hb dX0_loadHeldAt_95 hl (by decide) rfl (fun ls hl => ?_)
          refine lv_iinc (v := nI (i + 1)) (lv' := [(6, .int (nI (i + 1))), (5, .int (A 4 j)), (7, .int w), (4, .int g), (0, .ref h), (1, .int (nI q)), (2, .int (nI pl)), (3, .int x)]) hx hb dX0_loadHeldAt_97 hl (k := 2) rfl (kr_inc _) (by decide) rfl (fun ls hl => ?_)
          refine lv_goto (tgt := 9) hx hb dX0_loadHeldAt_100 (by decide) ?_
          exact ih (i + 1, A 4 j, g) ls ⟨by omega, hw.kn hj, he⟩ (by show 16 - (i + 1) < 16 - i; omega) (lv_sub hl [0, 1, 3, 4, 5, 6, 7] rfl)
        · rw [if_pos (kr_nle2 c56)] at he
          refine lv_aload_n hx hb dX0_loadHeldAt_59 rfl (lv_at hl 4 rfl) ?_
          refine lv_iload_n hx hb dX0_loadHeldAt_60 rfl (lv_at hl 5 rfl) ?_
          refine lv_iload_n hx hb dX0_loadHeldAt_61 rfl (lv_at hl 6 rfl) ?_
          refine lv_iload hx hb dX0_loadHeldAt_62 (lv_at hl 2 rfl) ?_
          refine kr_vI (n := 3) (As := [.int (nI q), .int (nI pl), .int (nI j)]) (rest := []) ⟨hx, hb, hml, hown, hts⟩ (c_X0_strengthWith l D cy h a N L A q pl j (by omega) (by omega) (by omega)) kg_RX0_223 ⟨rfl, rfl⟩ (by decide +kernel) ⟨Nat.le_of_ble_eq_true rfl, Nat.le_of_ble_eq_true rfl⟩ (kr_pv0 hP hK) rfl hl.1 rfl (Nat.le_of_ble_eq_true rfl) dX0_loadHeldAt_64 ⟨Nat.zero_le _, Nat.zero_le _⟩ (fun r9 e9 => ?_)
          subst e9
          refine lv_istore (lv' := [(8, .int (kr_st A q pl (nI j))), (7, .int w), (6, .int (nI i)), (5, .int (nI j)), (4, .int g), (0, .ref h), (1, .int (nI q)), (2, .int (nI pl)), (3, .int x)]) hx hb dX0_loadHeldAt_67 hl (by decide) rfl (fun ls hl => ?_)
          refine lv_iload hx hb dX0_loadHeldAt_69 (lv_at hl 0 rfl) ?_
          refine lv_iload hx hb dX0_loadHeldAt_71 (lv_at hl 1 rfl) ?_
          refine lv_icmp_ge (tgt := 84) hx hb dX0_loadHeldAt_73 (by decide) (fun c73 => ?_) (fun c73 => ?_)
          · rw [if_neg (kr_ngt2 c73)] at he
            refine lv_iload hx hb dX0_loadHeldAt_84 (lv_at hl 1 rfl) ?_
            refine lv_istore (lv' := [(4, .int w), (8, .int (kr_st A q pl (nI j))), (7, .int w), (6, .int (nI i)), (5, .int (nI j)), (0, .ref h), (1, .int (nI q)), (2, .int (nI pl)), (3, .int x)]) hx hb dX0_loadHeldAt_86 hl (by decide) rfl (fun ls hl => ?_)
            refine lv_aload_n hx hb dX0_loadHeldAt_88 rfl (lv_at hl 5 rfl) ?_
            refine va_get (ci := 0) (v := .ref (a 4)) (C := RX0) (T := TX0) (N := 10) hx hb hts kr_wsX0 hown hK hP 0 rfl rfl 4 (by decide) (hts _ kq_69) (fun _ h9 => h9) rfl dX0_loadHeldAt_89 ?_
            refine lv_iload hx hb dX0_loadHeldAt_92 (lv_at hl 4 rfl) ?_
            refine kr_ald hx hb hK hP 5 0 rfl rfl j (by omega) (by decide) dX0_loadHeldAt_94 ?_
            refine lv_istore (lv' := [(5, .int (A 4 j)), (4, .int w), (8, .int (kr_st A q pl (nI j))), (7, .int w), (6, .int (nI i)), (0, .ref h), (1, .int (nI q)), (2, .int (nI pl)), (3, .int x)]) hx hb dX0_loadHeldAt_95 hl (by decide) rfl (fun ls hl => ?_)
            refine lv_iinc (v := nI (i + 1)) (lv' := [(6, .int (nI (i + 1))), (5, .int (A 4 j)), (4, .int w), (8, .int (kr_st A q pl (nI j))), (7, .int w), (0, .ref h), (1, .int (nI q)), (2, .int (nI pl)), (3, .int x)]) hx hb dX0_loadHeldAt_97 hl (k := 4) rfl (kr_inc _) (by decide) rfl (fun ls hl => ?_)
            refine lv_goto (tgt := 9) hx hb dX0_loadHeldAt_100 (by decide) ?_
            exact ih (i + 1, A 4 j, w) ls ⟨by omega, hw.kn hj, he⟩ (by show 16 - (i + 1) < 16 - i; omega) (lv_sub hl [0, 1, 2, 5, 6, 7, 8] rfl)
          · rw [if_pos (kr_nle2 c73)] at he
            refine lv_iload hx hb dX0_loadHeldAt_76 (lv_at hl 4 rfl) ?_
            refine lv_iload hx hb dX0_loadHeldAt_78 (lv_at hl 0 rfl) ?_
            refine va_mmax hx hb (hml.trans hl.1.symm) hown (hts _ kq_211) (hts _ kq_212) (hts _ kq_56) (hts _ kq_213) (Nat.le_of_ble_eq_true rfl) (Nat.le_of_ble_eq_true rfl) (Nat.zero_le _) (Nat.zero_le _) dX0_loadHeldAt_80 ?_
            show W _ _ _ _ _ _ _ _ _ _ _ _ _ _ _ (F0 _ _ _ (.int (kr_mx g (kr_st A q pl (nI j))) :: _))
            exact kr_eI hx hb hr hlocks rfl he dX0_loadHeldAt_83
      · refine lv_aload_n hx hb dX0_loadHeldAt_25 rfl (lv_at hl 3 rfl) ?_
        refine va_get (ci := 0) (v := .ref (a 3)) (C := RX0) (T := TX0) (N := 10) hx hb hts kr_wsX0 hown hK hP 0 rfl rfl 3 (by decide) (hts _ kq_68) (fun _ h9 => h9) rfl dX0_loadHeldAt_26 ?_
        refine lv_iload hx hb dX0_loadHeldAt_29 (lv_at hl 1 rfl) ?_
        refine kr_ald hx hb hK hP 4 0 rfl rfl j (by omega) (by decide) dX0_loadHeldAt_31 ?_
        refine lv_if_ne (tgt := 41) hx hb dX0_loadHeldAt_32 (by decide) (fun c32 => ?_) (fun c32 => ?_)
        · refine lv_aload_n hx hb dX0_loadHeldAt_41 rfl (lv_at hl 3 rfl) ?_
          refine va_get (ci := 0) (v := .ref (a 3)) (C := RX0) (T := TX0) (N := 10) hx hb hts kr_wsX0 hown hK hP 0 rfl rfl 3 (by decide) (hts _ kq_68) (fun _ h9 => h9) rfl dX0_loadHeldAt_42 ?_
          refine lv_iload hx hb dX0_loadHeldAt_45 (lv_at hl 1 rfl) ?_
          refine kr_ald hx hb hK hP 4 0 rfl rfl j (by omega) (by decide) dX0_loadHeldAt_47 ?_
          refine lv_iconst (v := 1) hx hb dX0_loadHeldAt_48 (by decide) ?_
          refine lv_isub hx hb dX0_loadHeldAt_49 ?_
          exact J _ (by rw [een, if_neg c32])
        · refine lv_sipush (v := 999) hx hb dX0_loadHeldAt_35 (by decide) ?_
          refine lv_goto (tgt := 50) hx hb dX0_loadHeldAt_38 (by decide) ?_
          exact J _ (by rw [een, if_pos c32])
theorem kg_RX0_140 : GoodIn kr_all (wsV RX0 140 RX0 yX0_isGone (Cond.code yX0_isGone cX0_isGone 2 (some .boolean) :: kr_all)) := kr_gV kq_189 kq_191 kq_3 kq_48 kq_192
theorem kg_RX0_230 : GoodIn kr_all (wsV RX0 230 RX0 yX0_loadHeldAt (Cond.code yX0_loadHeldAt cX0_loadHeldAt 9 (some .int) :: kr_all)) := kr_gV kq_196 kq_198 kq_4 kq_48 kq_199
set_option maxHeartbeats 4000000 in
set_option maxRecDepth 100000 in
theorem c_X0_loadHeldWith (l : Launch) (D : va_G) (cy : ClassId) (h : Nat) (a : Nat → Nat) (N L : Nat) (A : Nat → Nat → Int32) (q : Nat) (z0 kn : Int32) (hw : kr_wf N L A) (hq : q < L) (hkn : kr_kn N kn) : Met l yX0_loadHeldWith (Cond.code yX0_loadHeldWith cX0_loadHeldWith 7 (some .int) :: kr_all) ({ frames := 3, cells := 0, slots := 0, locals := 73 }) (va_Pc [.ref h, .int (nI q), .int z0, .int kn] (kr_R D (kr_W0 cy h a N L A) cy)) (vp_Si (fun r => r = kr_lu A q z0 kn)) 0 0 (fun _ => False) := by
  refine kr_of (by decide) (Nat.le_of_ble_eq_true rfl) ?_
  intro p e s m below meth c ls hx hb hml hr hts hown hlocks hin hv hl
  obtain ⟨hP, hK⟩ := hv
  have hown : s.vm.findClass RX0 = some m.cls := hown
  have hl : lv_has ls 7 [(0, .ref h), (1, .int (nI q)), (2, .int z0), (3, .int kn)] := hl
  have hN := hw.1
  have hL := hw.2.1
  obtain ⟨hrc, er⟩ := hw.rc hq
  refine lv_aload_n hx hb dX0_loadHeldWith_0 rfl (lv_at hl 0 rfl) ?_
  refine lv_iload_n hx hb dX0_loadHeldWith_1 rfl (lv_at hl 1 rfl) ?_
  refine kr_vI (n := 1) (As := [.int (nI q)]) (rest := []) ⟨hx, hb, hml, hown, hts⟩ (c_X0_isGone l D cy h a N L A q (by omega)) kg_RX0_140 ⟨rfl, rfl⟩ (by decide +kernel) ⟨Nat.le_of_ble_eq_true rfl, Nat.le_of_ble_eq_true rfl⟩ (kr_pv0 hP hK) rfl hl.1 rfl (Nat.le_of_ble_eq_true rfl) dX0_loadHeldWith_2 ⟨Nat.zero_le _, Nat.zero_le _⟩ (fun r9 e9 => ?_)
  subst e9
  refine lv_if_eq (tgt := 10) hx hb dX0_loadHeldWith_5 (by decide) (fun c5 => ?_) (fun c5 => ?_)
  · refine lv_sipush (v := 999) hx hb dX0_loadHeldWith_10 (by decide) ?_
    refine lv_istore (lv' := [(4, .int 999), (0, .ref h), (1, .int (nI q)), (2, .int z0), (3, .int kn)]) hx hb dX0_loadHeldWith_13 hl (by decide) rfl (fun ls hl => ?_)
    refine lv_iconst (v := 0) hx hb dX0_loadHeldWith_15 (by decide) ?_
    refine lv_istore (lv' := [(5, .int 0), (4, .int 999), (0, .ref h), (1, .int (nI q)), (2, .int z0), (3, .int kn)]) hx hb dX0_loadHeldWith_16 hl (by decide) rfl (fun ls hl => ?_)
    refine kr_lp (nL := 7) (fun z : Nat × Int32 => [(5, .int (nI z.1)), (4, .int z.2), (0, .ref h), (1, .int (nI q)), (2, .int z0), (3, .int kn)]) (fun z => z.1 ≤ kr_rc A q ∧ kr_lw A q z0 kn (kr_rc A q - z.1) z.1 z.2 = kr_lu A q z0 kn) (fun z => kr_rc A q - z.1) ?_ (0, 999) ⟨by omega, (if_neg (kr_if0 c5)).symm⟩ (lv_sub hl [0, 1, 2, 3, 4, 5] rfl)
    clear hl
    intro z ls hI hl ih
    obtain ⟨i, g⟩ := z
    have hl : lv_has ls 7 [(5, .int (nI i)), (4, .int g), (0, .ref h), (1, .int (nI q)), (2, .int z0), (3, .int kn)] := hl
    obtain ⟨hi0, he⟩ : i ≤ kr_rc A q ∧ kr_lw A q z0 kn (kr_rc A q - i) i g = kr_lu A q z0 kn := hI
    refine lv_iload hx hb dX0_loadHeldWith_18 (lv_at hl 0 rfl) ?_
    refine lv_aload_n hx hb dX0_loadHeldWith_20 rfl (lv_at hl 2 rfl) ?_
    refine va_get (ci := 0) (v := .ref (a 5)) (C := RX0) (T := TX0) (N := 10) hx hb hts kr_wsX0 hown hK hP 0 rfl rfl 6 (by decide) (hts _ kq_71) (fun _ h9 => h9) rfl dX0_loadHeldWith_21 ?_
    refine lv_iload_n hx hb dX0_loadHeldWith_24 rfl (lv_at hl 3 rfl) ?_
    refine kr_ald hx hb hK hP 6 0 rfl rfl q (by omega) (by decide) dX0_loadHeldWith_25 ?_
    rw [er]
    refine lv_icmp_ge (tgt := 74) hx hb dX0_loadHeldWith_26 (by decide) (fun c26 => ?_) (fun c26 => ?_)
    · have hi2 : i = kr_rc A q := by have := kr_ge (by omega) (by omega) c26; omega
      subst hi2
      refine lv_iload hx hb dX0_loadHeldWith_74 (lv_at hl 1 rfl) ?_
      exact kr_eI hx hb hr hlocks rfl (by rw [Nat.sub_self] at he; exact he) dX0_loadHeldWith_76
    · have hi : i < kr_rc A q := kr_lt (by omega) (by omega) c26
      rw [kr_lw_s hi] at he
      refine kr_jn (pcJ := 50) (stJ := []) (fun v => v = if nI i = z0 then kn else A 6 (5 * q + i)) (fun w ew => ?_) (fun J => ?_)
      · rw [← ew] at he
        have hwk : kr_kn N w := by rw [ew]; split; exact hkn; exact hw.tn hq hi
        refine lv_istore (lv' := [(6, .int w), (5, .int (nI i)), (4, .int g), (0, .ref h), (1, .int (nI q)), (2, .int z0), (3, .int kn)]) hx hb dX0_loadHeldWith_50 hl (by decide) rfl (fun ls hl => ?_)
        refine lv_iload hx hb dX0_loadHeldWith_52 (lv_at hl 2 rfl) ?_
        refine lv_aload_n hx hb dX0_loadHeldWith_54 rfl (lv_at hl 3 rfl) ?_
        refine lv_iload_n hx hb dX0_loadHeldWith_55 rfl (lv_at hl 4 rfl) ?_
        refine lv_iload hx hb dX0_loadHeldWith_56 (lv_at hl 1 rfl) ?_
        refine lv_iload hx hb dX0_loadHeldWith_58 (lv_at hl 0 rfl) ?_
        refine kr_vI (n := 3) (As := [.int (nI q), .int (nI i), .int w]) (rest := [.int g]) ⟨hx, hb, hml, hown, hts⟩ (c_X0_loadHeldAt l D cy h a N L A q i w hw (by omega) (by omega) (by assumption)) kg_RX0_230 ⟨rfl, rfl⟩ (by decide +kernel) ⟨Nat.le_of_ble_eq_true rfl, Nat.le_of_ble_eq_true rfl⟩ (kr_pv0 hP hK) rfl hl.1 rfl (Nat.le_of_ble_eq_true rfl) dX0_loadHeldWith_60 ⟨Nat.zero_le _, Nat.zero_le _⟩ (fun r9 e9 => ?_)
        subst e9
        refine va_mmin hx hb (hml.trans hl.1.symm) hown (hts _ kq_208) (hts _ kq_209) (hts _ kq_56) (hts _ kq_210) (Nat.le_of_ble_eq_true rfl) (Nat.le_of_ble_eq_true rfl) (Nat.zero_le _) (Nat.zero_le _) dX0_loadHeldWith_63 ?_
        show W _ _ _ _ _ _ _ _ _ _ _ _ _ _ _ (F0 _ _ _ (.int (kr_mn g (kr_lh A (kr_st A q i) 16 w 0)) :: _))
        refine lv_istore (lv' := [(4, .int (kr_mn g (kr_lh A (kr_st A q i) 16 w 0))), (6, .int w), (5, .int (nI i)), (0, .ref h), (1, .int (nI q)), (2, .int z0), (3, .int kn)]) hx hb dX0_loadHeldWith_66 hl (by decide) rfl (fun ls hl => ?_)
        refine lv_iinc (v := nI (i + 1)) (lv' := [(5, .int (nI (i + 1))), (4, .int (kr_mn g (kr_lh A (kr_st A q i) 16 w 0))), (6, .int w), (0, .ref h), (1, .int (nI q)), (2, .int z0), (3, .int kn)]) hx hb dX0_loadHeldWith_68 hl (k := 2) rfl (kr_inc _) (by decide) rfl (fun ls hl => ?_)
        refine lv_goto (tgt := 18) hx hb dX0_loadHeldWith_71 (by decide) ?_
        exact ih (i + 1, kr_mn g (kr_lh A (kr_st A q i) 16 w 0)) ls ⟨by omega, he⟩ (by show kr_rc A q - (i + 1) < kr_rc A q - i; omega) (lv_sub hl [0, 1, 3, 4, 5, 6] rfl)
      · refine lv_iload hx hb dX0_loadHeldWith_29 (lv_at hl 0 rfl) ?_
        refine lv_iload_n hx hb dX0_loadHeldWith_31 rfl (lv_at hl 4 rfl) ?_
        refine lv_icmp_ne (tgt := 39) hx hb dX0_loadHeldWith_32 (by decide) (fun c32 => ?_) (fun c32 => ?_)
        · refine lv_aload_n hx hb dX0_loadHeldWith_39 rfl (lv_at hl 2 rfl) ?_
          refine va_get (ci := 0) (v := .ref (a 6)) (C := RX0) (T := TX0) (N := 10) hx hb hts kr_wsX0 hown hK hP 0 rfl rfl 8 (by decide) (hts _ kq_73) (fun _ h9 => h9) rfl dX0_loadHeldWith_40 ?_
          refine lv_iload_n hx hb dX0_loadHeldWith_43 rfl (lv_at hl 3 rfl) ?_
          refine lv_iload hx hb dX0_loadHeldWith_44 (lv_at hl 0 rfl) ?_
          refine kr_sI (n := 2) (As := [.int (nI q), .int (nI i)]) (rest := [.ref (a 6)]) ⟨hx, hb, hml, hown, hts⟩ (c_X0_slot l q i) kg_RX0_97 ⟨rfl, rfl⟩ (by decide +kernel) ⟨Nat.le_of_ble_eq_true rfl, Nat.le_of_ble_eq_true rfl⟩ ⟨kr_blT, fun U hU hW => ⟨rfl, trivial⟩⟩ rfl hl.1 rfl (Nat.le_of_ble_eq_true rfl) dX0_loadHeldWith_46 ⟨Nat.zero_le _, Nat.zero_le _⟩ (fun r9 e9 => ?_)
          subst e9
          refine kr_ald hx hb hK hP 7 0 rfl rfl (5 * q + i) (by omega) (by decide) dX0_loadHeldWith_49 ?_
          exact J _ (if_neg c32).symm
        · refine lv_iload_n hx hb dX0_loadHeldWith_35 rfl (lv_at hl 5 rfl) ?_
          refine lv_goto (tgt := 50) hx hb dX0_loadHeldWith_36 (by decide) ?_
          exact J _ (if_pos c32).symm
  · refine lv_iconst (v := 0) hx hb dX0_loadHeldWith_8 (by decide) ?_
    exact kr_eI hx hb hr hlocks rfl (if_pos (kr_if1 c5)).symm dX0_loadHeldWith_9
end
section
set_option maxHeartbeats 4000000 in
set_option maxRecDepth 100000 in
theorem c_X0_countOfKind (l : Launch) (D : va_G) (cy : ClassId) (h : Nat) (a : Nat → Nat) (N L : Nat) (A : Nat → Nat → Int32) (kd : Int32) (hN : N ≤ 16) : Met l yX0_countOfKind (Cond.code yX0_countOfKind cX0_countOfKind 4 (some .int) :: kr_all) ({ frames := 0, cells := 0, slots := 0, locals := 0 }) (va_Pc [.ref h, .int kd] (kr_R D (kr_W0 cy h a N L A) cy)) (vp_Si (fun r => r = nI (kr_cn A kd N))) 0 0 (fun _ => False) := by
  refine kr_of (by decide) (Nat.le_of_ble_eq_true rfl) ?_
  intro p e s m below meth c ls hx hb hml hr hts hown hlocks hin hv hl
  obtain ⟨hP, hK⟩ := hv
  have hown : s.vm.findClass RX0 = some m.cls := hown
  have hl : lv_has ls 4 [(0, .ref h), (1, .int kd)] := hl
  refine lv_iconst (v := 0) hx hb dX0_countOfKind_0 (by decide) ?_
  refine lv_istore_n (lv' := [(2, .int 0), (0, .ref h), (1, .int kd)]) hx hb dX0_countOfKind_1 rfl hl (by decide) rfl (fun ls hl => ?_)
  refine lv_iconst (v := 0) hx hb dX0_countOfKind_2 (by decide) ?_
  refine lv_istore_n (lv' := [(3, .int 0), (2, .int 0), (0, .ref h), (1, .int kd)]) hx hb dX0_countOfKind_3 rfl hl (by decide) rfl (fun ls hl => ?_)
  refine kr_lp (nL := 4) (fun z : Nat × Nat => [(3, .int (nI z.1)), (2, .int (nI z.2)), (0, .ref h), (1, .int kd)]) (fun z => z.1 ≤ N ∧ z.2 = kr_cn A kd z.1) (fun z => N - z.1) ?_ (0, 0) ⟨by omega, rfl⟩ (lv_sub hl [0, 1, 2, 3] rfl)
  clear hl
  intro z ls hI hl ih
  obtain ⟨i, g⟩ := z
  have hl : lv_has ls 4 [(3, .int (nI i)), (2, .int (nI g)), (0, .ref h), (1, .int kd)] := hl
  obtain ⟨hi0, hg⟩ : i ≤ N ∧ g = kr_cn A kd i := hI
  refine lv_iload_n hx hb dX0_countOfKind_4 rfl (lv_at hl 0 rfl) ?_
  refine lv_aload_n hx hb dX0_countOfKind_5 rfl (lv_at hl 2 rfl) ?_
  refine va_get (ci := 0) (v := .int (nI N)) (C := RX0) (T := TX0) (N := 10) hx hb hts kr_wsX0 hown hK hP 0 rfl rfl 5 (by decide) (hts _ kq_70) (fun _ h9 => h9) rfl dX0_countOfKind_6 ?_
  refine lv_icmp_ge (tgt := 31) hx hb dX0_countOfKind_9 (by decide) (fun c9 => ?_) (fun c9 => ?_)
  · have hi2 : i = N := by have := kr_ge (by omega) (by omega) c9; omega
    subst hi2
    subst hg
    refine lv_iload_n hx hb dX0_countOfKind_31 rfl (lv_at hl 1 rfl) ?_
    exact kr_eI hx hb hr hlocks rfl rfl dX0_countOfKind_32
  · have hi : i < N := kr_lt (by omega) (by omega) c9
    refine lv_aload_n hx hb dX0_countOfKind_12 rfl (lv_at hl 2 rfl) ?_
    refine va_get (ci := 0) (v := .ref (a 0)) (C := RX0) (T := TX0) (N := 10) hx hb hts kr_wsX0 hown hK hP 0 rfl rfl 0 (by decide) (hts _ kq_65) (fun _ h9 => h9) rfl dX0_countOfKind_13 ?_
    refine lv_iload_n hx hb dX0_countOfKind_16 rfl (lv_at hl 0 rfl) ?_
    refine kr_ald hx hb hK hP 1 0 rfl rfl i (by omega) (by decide) dX0_countOfKind_17 ?_
    refine lv_iload_n hx hb dX0_countOfKind_18 rfl (lv_at hl 3 rfl) ?_
    refine lv_icmp_ne (tgt := 25) hx hb dX0_countOfKind_19 (by decide) (fun c19 => ?_) (fun c19 => ?_)
    · refine lv_iinc (v := nI (i + 1)) (lv' := [(3, .int (nI (i + 1))), (2, .int (nI g)), (0, .ref h), (1, .int kd)]) hx hb dX0_countOfKind_25 hl (k := 0) rfl (kr_inc _) (by decide) rfl (fun ls hl => ?_)
      refine lv_goto (tgt := 4) hx hb dX0_countOfKind_28 (by decide) ?_
      exact ih (i + 1, g) ls ⟨by omega, by rw [hg, kr_cn_s, if_neg c19]; rfl⟩ (by show N - (i + 1) < N - i; omega) (lv_sub hl [0, 1, 2, 3] rfl)
    · refine lv_iinc (v := nI (g + 1)) (lv' := [(2, .int (nI (g + 1))), (3, .int (nI i)), (0, .ref h), (1, .int kd)]) hx hb dX0_countOfKind_22 hl (k := 1) rfl (kr_inc _) (by decide) rfl (fun ls hl => ?_)
      refine lv_iinc (v := nI (i + 1)) (lv' := [(3, .int (nI (i + 1))), (2, .int (nI (g + 1))), (0, .ref h), (1, .int kd)]) hx hb dX0_countOfKind_25 hl (k := 1) rfl (kr_inc _) (by decide) rfl (fun ls hl => ?_)
      refine lv_goto (tgt := 4) hx hb dX0_countOfKind_28 (by decide) ?_
      exact ih (i + 1, g + 1) ls ⟨by omega, by rw [hg, kr_cn_s, if_pos c19]⟩ (by show N - (i + 1) < N - i; omega) (lv_sub hl [0, 1, 2, 3] rfl)
set_option maxHeartbeats 4000000 in
set_option maxRecDepth 100000 in
theorem c_X0_isAheadOf (l : Launch) (D : va_G) (cy : ClassId) (h : Nat) (a : Nat → Nat) (N L : Nat) (A : Nat → Nat → Int32) (j k : Nat) (hj : j < 16) (hk : k < 16) : Met l yX0_isAheadOf (Cond.code yX0_isAheadOf cX0_isAheadOf 3 (some .boolean) :: kr_all) ({ frames := 0, cells := 0, slots := 0, locals := 0 }) (va_Pc [.ref h, .int (nI j), .int (nI k)] (kr_R D (kr_W0 cy h a N L A) cy)) (vp_Si (fun r => r = if kr_ia A j k then 1 else 0)) 0 0 (fun _ => False) := by
  refine kr_of (by decide) (Nat.le_of_ble_eq_true rfl) ?_
  intro p e s m below meth c ls hx hb hml hr hts hown hlocks hin hv hl
  obtain ⟨hP, hK⟩ := hv
  have hown : s.vm.findClass RX0 = some m.cls := hown
  have hl : lv_has ls 3 [(0, .ref h), (1, .int (nI j)), (2, .int (nI k))] := hl
  refine lv_aload_n hx hb dX0_isAheadOf_0 rfl (lv_at hl 0 rfl) ?_
  refine va_get (ci := 0) (v := .ref (a 1)) (C := RX0) (T := TX0) (N := 10) hx hb hts kr_wsX0 hown hK hP 0 rfl rfl 1 (by decide) (hts _ kq_66) (fun _ h9 => h9) rfl dX0_isAheadOf_1 ?_
  refine lv_iload_n hx hb dX0_isAheadOf_4 rfl (lv_at hl 1 rfl) ?_
  refine kr_ald hx hb hK hP 2 0 rfl rfl j (by omega) (by decide) dX0_isAheadOf_5 ?_
  refine lv_aload_n hx hb dX0_isAheadOf_6 rfl (lv_at hl 0 rfl) ?_
  refine va_get (ci := 0) (v := .ref (a 1)) (C := RX0) (T := TX0) (N := 10) hx hb hts kr_wsX0 hown hK hP 0 rfl rfl 1 (by decide) (hts _ kq_66) (fun _ h9 => h9) rfl dX0_isAheadOf_7 ?_
  refine lv_iload_n hx hb dX0_isAheadOf_10 rfl (lv_at hl 2 rfl) ?_
  refine kr_ald hx hb hK hP 2 0 rfl rfl k (by omega) (by decide) dX0_isAheadOf_11 ?_
  refine lv_icmp_eq (tgt := 36) hx hb dX0_isAheadOf_12 (by decide) (fun c12 => ?_) (fun c12 => ?_)
  · refine lv_aload_n hx hb dX0_isAheadOf_36 rfl (lv_at hl 0 rfl) ?_
    refine va_get (ci := 0) (v := .ref (a 2)) (C := RX0) (T := TX0) (N := 10) hx hb hts kr_wsX0 hown hK hP 0 rfl rfl 2 (by decide) (hts _ kq_67) (fun _ h9 => h9) rfl dX0_isAheadOf_37 ?_
    refine lv_iload_n hx hb dX0_isAheadOf_40 rfl (lv_at hl 1 rfl) ?_
    refine kr_ald hx hb hK hP 3 0 rfl rfl j (by omega) (by decide) dX0_isAheadOf_41 ?_
    refine lv_aload_n hx hb dX0_isAheadOf_42 rfl (lv_at hl 0 rfl) ?_
    refine va_get (ci := 0) (v := .ref (a 2)) (C := RX0) (T := TX0) (N := 10) hx hb hts kr_wsX0 hown hK hP 0 rfl rfl 2 (by decide) (hts _ kq_67) (fun _ h9 => h9) rfl dX0_isAheadOf_43 ?_
    refine lv_iload_n hx hb dX0_isAheadOf_46 rfl (lv_at hl 2 rfl) ?_
    refine kr_ald hx hb hK hP 3 0 rfl rfl k (by omega) (by decide) dX0_isAheadOf_47 ?_
    refine lv_icmp_eq (tgt := 72) hx hb dX0_isAheadOf_48 (by decide) (fun c48 => ?_) (fun c48 => ?_)
    · refine lv_iload_n hx hb dX0_isAheadOf_72 rfl (lv_at hl 1 rfl) ?_
      refine lv_iload_n hx hb dX0_isAheadOf_73 rfl (lv_at hl 2 rfl) ?_
      refine lv_icmp_ge (tgt := 81) hx hb dX0_isAheadOf_74 (by decide) (fun c74 => ?_) (fun c74 => ?_)
      · refine lv_iconst (v := 0) hx hb dX0_isAheadOf_81 (by decide) ?_
        exact kr_eZ hx hb hr hlocks rfl (Or.inl rfl) (if_neg (by unfold kr_ia; rw [if_pos c12, if_pos c48]; have := kr_ge (by omega) (by omega) c74; omega)).symm dX0_isAheadOf_82
      · refine lv_iconst (v := 1) hx hb dX0_isAheadOf_77 (by decide) ?_
        refine lv_goto (tgt := 82) hx hb dX0_isAheadOf_78 (by decide) ?_
        exact kr_eZ hx hb hr hlocks rfl (Or.inr rfl) (if_pos (by unfold kr_ia; rw [if_pos c12, if_pos c48]; exact kr_lt (by omega) (by omega) c74)).symm dX0_isAheadOf_82
    · refine lv_aload_n hx hb dX0_isAheadOf_51 rfl (lv_at hl 0 rfl) ?_
      refine va_get (ci := 0) (v := .ref (a 2)) (C := RX0) (T := TX0) (N := 10) hx hb hts kr_wsX0 hown hK hP 0 rfl rfl 2 (by decide) (hts _ kq_67) (fun _ h9 => h9) rfl dX0_isAheadOf_52 ?_
      refine lv_iload_n hx hb dX0_isAheadOf_55 rfl (lv_at hl 1 rfl) ?_
      refine kr_ald hx hb hK hP 3 0 rfl rfl j (by omega) (by decide) dX0_isAheadOf_56 ?_
      refine lv_aload_n hx hb dX0_isAheadOf_57 rfl (lv_at hl 0 rfl) ?_
      refine va_get (ci := 0) (v := .ref (a 2)) (C := RX0) (T := TX0) (N := 10) hx hb hts kr_wsX0 hown hK hP 0 rfl rfl 2 (by decide) (hts _ kq_67) (fun _ h9 => h9) rfl dX0_isAheadOf_58 ?_
      refine lv_iload_n hx hb dX0_isAheadOf_61 rfl (lv_at hl 2 rfl) ?_
      refine kr_ald hx hb hK hP 3 0 rfl rfl k (by omega) (by decide) dX0_isAheadOf_62 ?_
      refine lv_icmp_ge (tgt := 70) hx hb dX0_isAheadOf_63 (by decide) (fun c63 => ?_) (fun c63 => ?_)
      · refine lv_iconst (v := 0) hx hb dX0_isAheadOf_70 (by decide) ?_
        exact kr_eZ hx hb hr hlocks rfl (Or.inl rfl) (if_neg (by unfold kr_ia; rw [if_pos c12, if_neg c48]; exact kr_ngt2 c63)).symm dX0_isAheadOf_71
      · refine lv_iconst (v := 1) hx hb dX0_isAheadOf_66 (by decide) ?_
        refine lv_goto (tgt := 71) hx hb dX0_isAheadOf_67 (by decide) ?_
        exact kr_eZ hx hb hr hlocks rfl (Or.inr rfl) (if_pos (by unfold kr_ia; rw [if_pos c12, if_neg c48]; exact kr_nle2 c63)).symm dX0_isAheadOf_71
  · refine lv_aload_n hx hb dX0_isAheadOf_15 rfl (lv_at hl 0 rfl) ?_
    refine va_get (ci := 0) (v := .ref (a 1)) (C := RX0) (T := TX0) (N := 10) hx hb hts kr_wsX0 hown hK hP 0 rfl rfl 1 (by decide) (hts _ kq_66) (fun _ h9 => h9) rfl dX0_isAheadOf_16 ?_
    refine lv_iload_n hx hb dX0_isAheadOf_19 rfl (lv_at hl 1 rfl) ?_
    refine kr_ald hx hb hK hP 2 0 rfl rfl j (by omega) (by decide) dX0_isAheadOf_20 ?_
    refine lv_aload_n hx hb dX0_isAheadOf_21 rfl (lv_at hl 0 rfl) ?_
    refine va_get (ci := 0) (v := .ref (a 1)) (C := RX0) (T := TX0) (N := 10) hx hb hts kr_wsX0 hown hK hP 0 rfl rfl 1 (by decide) (hts _ kq_66) (fun _ h9 => h9) rfl dX0_isAheadOf_22 ?_
    refine lv_iload_n hx hb dX0_isAheadOf_25 rfl (lv_at hl 2 rfl) ?_
    refine kr_ald hx hb hK hP 2 0 rfl rfl k (by omega) (by decide) dX0_isAheadOf_26 ?_
    refine lv_icmp_le (tgt := 34) hx hb dX0_isAheadOf_27 (by decide) (fun c27 => ?_) (fun c27 => ?_)
    · refine lv_iconst (v := 0) hx hb dX0_isAheadOf_34 (by decide) ?_
      exact kr_eZ hx hb hr hlocks rfl (Or.inl rfl) (if_neg (by unfold kr_ia; rw [if_neg c12]; exact kr_ngt2 c27)).symm dX0_isAheadOf_35
    · refine lv_iconst (v := 1) hx hb dX0_isAheadOf_30 (by decide) ?_
      refine lv_goto (tgt := 35) hx hb dX0_isAheadOf_31 (by decide) ?_
      exact kr_eZ hx hb hr hlocks rfl (Or.inr rfl) (if_pos (by unfold kr_ia; rw [if_neg c12]; exact kr_nle2 c27)).symm dX0_isAheadOf_35
theorem kg_RX0_217 : GoodIn kr_all (wsV RX0 217 RX0 yX0_isAheadOf (Cond.code yX0_isAheadOf cX0_isAheadOf 3 (some .boolean) :: kr_all)) := kr_gV kq_265 kq_267 kq_10 kq_48 kq_268
set_option maxHeartbeats 4000000 in
set_option maxRecDepth 100000 in
theorem c_X0_rankInKind (l : Launch) (D : va_G) (cy : ClassId) (h : Nat) (a : Nat → Nat) (N L : Nat) (A : Nat → Nat → Int32) (k : Nat) (hN : N ≤ 16) (hk : k < N) : Met l yX0_rankInKind (Cond.code yX0_rankInKind cX0_rankInKind 4 (some .int) :: kr_all) ({ frames := 1, cells := 0, slots := 0, locals := 22 }) (va_Pc [.ref h, .int (nI k)] (kr_R D (kr_W0 cy h a N L A) cy)) (vp_Si (fun r => r = nI (kr_rk A k N))) 0 0 (fun _ => False) := by
  refine kr_of (by decide) (Nat.le_of_ble_eq_true rfl) ?_
  intro p e s m below meth c ls hx hb hml hr hts hown hlocks hin hv hl
  obtain ⟨hP, hK⟩ := hv
  have hown : s.vm.findClass RX0 = some m.cls := hown
  have hl : lv_has ls 4 [(0, .ref h), (1, .int (nI k))] := hl
  refine lv_iconst (v := 0) hx hb dX0_rankInKind_0 (by decide) ?_
  refine lv_istore_n (lv' := [(2, .int 0), (0, .ref h), (1, .int (nI k))]) hx hb dX0_rankInKind_1 rfl hl (by decide) rfl (fun ls hl => ?_)
  refine lv_iconst (v := 0) hx hb dX0_rankInKind_2 (by decide) ?_
  refine lv_istore_n (lv' := [(3, .int 0), (2, .int 0), (0, .ref h), (1, .int (nI k))]) hx hb dX0_rankInKind_3 rfl hl (by decide) rfl (fun ls hl => ?_)
  refine kr_lp (nL := 4) (fun z : Nat × Nat => [(3, .int (nI z.1)), (2, .int (nI z.2)), (0, .ref h), (1, .int (nI k))]) (fun z => z.1 ≤ N ∧ z.2 = kr_rk A k z.1) (fun z => N - z.1) ?_ (0, 0) ⟨by omega, rfl⟩ (lv_sub hl [0, 1, 2, 3] rfl)
  clear hl
  intro z ls hI hl ih
  obtain ⟨i, g⟩ := z
  have hl : lv_has ls 4 [(3, .int (nI i)), (2, .int (nI g)), (0, .ref h), (1, .int (nI k))] := hl
  obtain ⟨hi0, hg⟩ : i ≤ N ∧ g = kr_rk A k i := hI
  refine lv_iload_n hx hb dX0_rankInKind_4 rfl (lv_at hl 0 rfl) ?_
  refine lv_aload_n hx hb dX0_rankInKind_5 rfl (lv_at hl 2 rfl) ?_
  refine va_get (ci := 0) (v := .int (nI N)) (C := RX0) (T := TX0) (N := 10) hx hb hts kr_wsX0 hown hK hP 0 rfl rfl 5 (by decide) (hts _ kq_70) (fun _ h9 => h9) rfl dX0_rankInKind_6 ?_
  refine lv_icmp_ge (tgt := 45) hx hb dX0_rankInKind_9 (by decide) (fun c9 => ?_) (fun c9 => ?_)
  · have hi2 : i = N := by have := kr_ge (by omega) (by omega) c9; omega
    subst hi2
    subst hg
    refine lv_iload_n hx hb dX0_rankInKind_45 rfl (lv_at hl 1 rfl) ?_
    exact kr_eI hx hb hr hlocks rfl rfl dX0_rankInKind_46
  · have hi : i < N := kr_lt (by omega) (by omega) c9
    refine lv_aload_n hx hb dX0_rankInKind_12 rfl (lv_at hl 2 rfl) ?_
    refine va_get (ci := 0) (v := .ref (a 0)) (C := RX0) (T := TX0) (N := 10) hx hb hts kr_wsX0 hown hK hP 0 rfl rfl 0 (by decide) (hts _ kq_65) (fun _ h9 => h9) rfl dX0_rankInKind_13 ?_
    refine lv_iload_n hx hb dX0_rankInKind_16 rfl (lv_at hl 0 rfl) ?_
    refine kr_ald hx hb hK hP 1 0 rfl rfl i (by omega) (by decide) dX0_rankInKind_17 ?_
    refine lv_aload_n hx hb dX0_rankInKind_18 rfl (lv_at hl 2 rfl) ?_
    refine va_get (ci := 0) (v := .ref (a 0)) (C := RX0) (T := TX0) (N := 10) hx hb hts kr_wsX0 hown hK hP 0 rfl rfl 0 (by decide) (hts _ kq_65) (fun _ h9 => h9) rfl dX0_rankInKind_19 ?_
    refine lv_iload_n hx hb dX0_rankInKind_22 rfl (lv_at hl 3 rfl) ?_
    refine kr_ald hx hb hK hP 1 0 rfl rfl k (by omega) (by decide) dX0_rankInKind_23 ?_
    refine lv_icmp_ne (tgt := 39) hx hb dX0_rankInKind_24 (by decide) (fun c24 => ?_) (fun c24 => ?_)
    · refine lv_iinc (v := nI (i + 1)) (lv' := [(3, .int (nI (i + 1))), (2, .int (nI g)), (0, .ref h), (1, .int (nI k))]) hx hb dX0_rankInKind_39 hl (k := 0) rfl (kr_inc _) (by decide) rfl (fun ls hl => ?_)
      refine lv_goto (tgt := 4) hx hb dX0_rankInKind_42 (by decide) ?_
      exact ih (i + 1, g) ls ⟨by omega, by rw [hg, kr_rk_s, if_neg (fun z => c24 z.1)]; rfl⟩ (by show N - (i + 1) < N - i; omega) (lv_sub hl [0, 1, 2, 3] rfl)
    · refine lv_aload_n hx hb dX0_rankInKind_27 rfl (lv_at hl 2 rfl) ?_
      refine lv_iload_n hx hb dX0_rankInKind_28 rfl (lv_at hl 0 rfl) ?_
      refine lv_iload_n hx hb dX0_rankInKind_29 rfl (lv_at hl 3 rfl) ?_
      refine kr_vI (n := 2) (As := [.int (nI i), .int (nI k)]) (rest := []) ⟨hx, hb, hml, hown, hts⟩ (c_X0_isAheadOf l D cy h a N L A i k (by omega) (by omega)) kg_RX0_217 ⟨rfl, rfl⟩ (by decide +kernel) ⟨Nat.le_of_ble_eq_true rfl, Nat.le_of_ble_eq_true rfl⟩ (kr_pv0 hP hK) rfl hl.1 rfl (Nat.le_of_ble_eq_true rfl) dX0_rankInKind_30 ⟨Nat.zero_le _, Nat.zero_le _⟩ (fun r9 e9 => ?_)
      subst e9
      refine lv_if_eq (tgt := 39) hx hb dX0_rankInKind_33 (by decide) (fun c33 => ?_) (fun c33 => ?_)
      · refine lv_iinc (v := nI (i + 1)) (lv' := [(3, .int (nI (i + 1))), (2, .int (nI g)), (0, .ref h), (1, .int (nI k))]) hx hb dX0_rankInKind_39 hl (k := 0) rfl (kr_inc _) (by decide) rfl (fun ls hl => ?_)
        refine lv_goto (tgt := 4) hx hb dX0_rankInKind_42 (by decide) ?_
        exact ih (i + 1, g) ls ⟨by omega, by rw [hg, kr_rk_s, if_neg (fun z => kr_if0 c33 z.2)]; rfl⟩ (by show N - (i + 1) < N - i; omega) (lv_sub hl [0, 1, 2, 3] rfl)
      · refine lv_iinc (v := nI (g + 1)) (lv' := [(2, .int (nI (g + 1))), (3, .int (nI i)), (0, .ref h), (1, .int (nI k))]) hx hb dX0_rankInKind_36 hl (k := 1) rfl (kr_inc _) (by decide) rfl (fun ls hl => ?_)
        refine lv_iinc (v := nI (i + 1)) (lv' := [(3, .int (nI (i + 1))), (2, .int (nI (g + 1))), (0, .ref h), (1, .int (nI k))]) hx hb dX0_rankInKind_39 hl (k := 1) rfl (kr_inc _) (by decide) rfl (fun ls hl => ?_)
        refine lv_goto (tgt := 4) hx hb dX0_rankInKind_42 (by decide) ?_
        exact ih (i + 1, g + 1) ls ⟨by omega, by rw [hg, kr_rk_s, if_pos ⟨c24, kr_if1 c33⟩]⟩ (by show N - (i + 1) < N - i; omega) (lv_sub hl [0, 1, 2, 3] rfl)
theorem kg_RX0_110 : GoodIn kr_all (wsV RX0 110 RX0 yX0_rankInKind (Cond.code yX0_rankInKind cX0_rankInKind 4 (some .int) :: kr_all)) := kr_gV kq_261 kq_263 kq_9 kq_48 kq_264
set_option maxHeartbeats 4000000 in
set_option maxRecDepth 100000 in
theorem c_X0_knotWithRank (l : Launch) (D : va_G) (cy : ClassId) (h : Nat) (a : Nat → Nat) (N L : Nat) (A : Nat → Nat → Int32) (kd rk : Int32) (hN : N ≤ 16) : Met l yX0_knotWithRank (Cond.code yX0_knotWithRank cX0_knotWithRank 4 (some .int) :: kr_all) ({ frames := 2, cells := 0, slots := 0, locals := 45 }) (va_Pc [.ref h, .int kd, .int rk] (kr_R D (kr_W0 cy h a N L A) cy)) (vp_Si (fun r => r = kr_kw A N kd rk N 0)) 0 0 (fun _ => False) := by
  refine kr_of (by decide) (Nat.le_of_ble_eq_true rfl) ?_
  intro p e s m below meth c ls hx hb hml hr hts hown hlocks hin hv hl
  obtain ⟨hP, hK⟩ := hv
  have hown : s.vm.findClass RX0 = some m.cls := hown
  have hl : lv_has ls 4 [(0, .ref h), (1, .int kd), (2, .int rk)] := hl
  refine lv_iconst (v := 0) hx hb dX0_knotWithRank_0 (by decide) ?_
  refine lv_istore_n (lv' := [(3, .int 0), (0, .ref h), (1, .int kd), (2, .int rk)]) hx hb dX0_knotWithRank_1 rfl hl (by decide) rfl (fun ls hl => ?_)
  refine kr_lp (nL := 4) (fun z : Nat => [(3, .int (nI z)), (0, .ref h), (1, .int kd), (2, .int rk)]) (fun z => z ≤ N ∧ kr_kw A N kd rk (N - z) z = kr_kw A N kd rk N 0) (fun z => N - z) ?_ (0) ⟨by omega, rfl⟩ (lv_sub hl [0, 1, 2, 3] rfl)
  clear hl
  intro z ls hI hl ih
  obtain ⟨i, rfl⟩ : ∃ y, y = z := ⟨_, rfl⟩
  have hl : lv_has ls 4 [(3, .int (nI i)), (0, .ref h), (1, .int kd), (2, .int rk)] := hl
  obtain ⟨hi0, he⟩ : i ≤ N ∧ kr_kw A N kd rk (N - i) i = kr_kw A N kd rk N 0 := hI
  refine lv_iload_n hx hb dX0_knotWithRank_2 rfl (lv_at hl 0 rfl) ?_
  refine lv_aload_n hx hb dX0_knotWithRank_3 rfl (lv_at hl 1 rfl) ?_
  refine va_get (ci := 0) (v := .int (nI N)) (C := RX0) (T := TX0) (N := 10) hx hb hts kr_wsX0 hown hK hP 0 rfl rfl 5 (by decide) (hts _ kq_70) (fun _ h9 => h9) rfl dX0_knotWithRank_4 ?_
  refine lv_icmp_ge (tgt := 37) hx hb dX0_knotWithRank_7 (by decide) (fun c7 => ?_) (fun c7 => ?_)
  · have hi2 : i = N := by have := kr_ge (by omega) (by omega) c7; omega
    subst hi2
    refine lv_iconst (v := -1) hx hb dX0_knotWithRank_37 (by decide) ?_
    exact kr_eI hx hb hr hlocks rfl (by rw [Nat.sub_self] at he; exact he) dX0_knotWithRank_38
  · have hi : i < N := kr_lt (by omega) (by omega) c7
    refine lv_aload_n hx hb dX0_knotWithRank_10 rfl (lv_at hl 1 rfl) ?_
    refine va_get (ci := 0) (v := .ref (a 0)) (C := RX0) (T := TX0) (N := 10) hx hb hts kr_wsX0 hown hK hP 0 rfl rfl 0 (by decide) (hts _ kq_65) (fun _ h9 => h9) rfl dX0_knotWithRank_11 ?_
    refine lv_iload_n hx hb dX0_knotWithRank_14 rfl (lv_at hl 0 rfl) ?_
    refine kr_ald hx hb hK hP 1 0 rfl rfl i (by omega) (by decide) dX0_knotWithRank_15 ?_
    refine lv_iload_n hx hb dX0_knotWithRank_16 rfl (lv_at hl 2 rfl) ?_
    refine lv_icmp_ne (tgt := 31) hx hb dX0_knotWithRank_17 (by decide) (fun c17 => ?_) (fun c17 => ?_)
    · refine lv_iinc (v := nI (i + 1)) (lv' := [(3, .int (nI (i + 1))), (0, .ref h), (1, .int kd), (2, .int rk)]) hx hb dX0_knotWithRank_31 hl (k := 0) rfl (kr_inc _) (by decide) rfl (fun ls hl => ?_)
      refine lv_goto (tgt := 2) hx hb dX0_knotWithRank_34 (by decide) ?_
      exact ih (i + 1) ls ⟨by omega, (kr_kw_s hi (fun z => c17 z.1)).symm.trans he⟩ (by show N - (i + 1) < N - i; omega) (lv_sub hl [0, 1, 2, 3] rfl)
    · refine lv_aload_n hx hb dX0_knotWithRank_20 rfl (lv_at hl 1 rfl) ?_
      refine lv_iload_n hx hb dX0_knotWithRank_21 rfl (lv_at hl 0 rfl) ?_
      refine kr_vI (n := 1) (As := [.int (nI i)]) (rest := []) ⟨hx, hb, hml, hown, hts⟩ (c_X0_rankInKind l D cy h a N L A i (by omega) (by omega)) kg_RX0_110 ⟨rfl, rfl⟩ (by decide +kernel) ⟨Nat.le_of_ble_eq_true rfl, Nat.le_of_ble_eq_true rfl⟩ (kr_pv0 hP hK) rfl hl.1 rfl (Nat.le_of_ble_eq_true rfl) dX0_knotWithRank_22 ⟨Nat.zero_le _, Nat.zero_le _⟩ (fun r9 e9 => ?_)
      subst e9
      refine lv_iload_n hx hb dX0_knotWithRank_25 rfl (lv_at hl 3 rfl) ?_
      refine lv_icmp_ne (tgt := 31) hx hb dX0_knotWithRank_26 (by decide) (fun c26 => ?_) (fun c26 => ?_)
      · refine lv_iinc (v := nI (i + 1)) (lv' := [(3, .int (nI (i + 1))), (0, .ref h), (1, .int kd), (2, .int rk)]) hx hb dX0_knotWithRank_31 hl (k := 0) rfl (kr_inc _) (by decide) rfl (fun ls hl => ?_)
        refine lv_goto (tgt := 2) hx hb dX0_knotWithRank_34 (by decide) ?_
        exact ih (i + 1) ls ⟨by omega, (kr_kw_s hi (fun z => c26 z.2)).symm.trans he⟩ (by show N - (i + 1) < N - i; omega) (lv_sub hl [0, 1, 2, 3] rfl)
      · refine lv_iload_n hx hb dX0_knotWithRank_29 rfl (lv_at hl 0 rfl) ?_
        exact kr_eI hx hb hr hlocks rfl ((kr_kw_y hi ⟨c17, c26⟩).symm.trans he) dX0_knotWithRank_30
set_option maxHeartbeats 4000000 in
set_option maxRecDepth 100000 in
theorem c_X0_digestWith (l : Launch) (d0 : Int64) (x : Int32) : Met l yX0_digestWith (Cond.code yX0_digestWith cX0_digestWith 3 (some .long) :: kr_all) ({ frames := 0, cells := 0, slots := 0, locals := 0 }) (va_Pc [.long d0, .int x] (fun _ => True)) (vp_Sl (fun r => r = kr_dw d0 x)) 0 0 (fun _ => False) := by
  refine kr_of (by decide) (Nat.le_of_ble_eq_true rfl) ?_
  intro p e s m below meth c ls hx hb hml hr hts hown hlocks hin hv hl
  have hown : s.vm.findClass RX0 = some m.cls := hown
  have hl : lv_has ls 3 [(0, .long d0), (2, .int x)] := hl
  refine lv_lload_n hx hb dX0_digestWith_0 rfl (lv_at hl 0 rfl) ?_
  refine lv_ldc2 (v := 31) hx hb hown (hts _ kq_226) dX0_digestWith_1 ?_
  refine lv_lmul hx hb dX0_digestWith_4 ?_
  refine lv_iload_n hx hb dX0_digestWith_5 rfl (lv_at hl 1 rfl) ?_
  refine lv_i2l (v := x.toInt64) hx hb dX0_digestWith_6 rfl ?_
  refine lv_ladd hx hb dX0_digestWith_7 ?_
  exact kr_eL hx hb hr hlocks rfl rfl dX0_digestWith_8
set_option maxHeartbeats 4000000 in
set_option maxRecDepth 100000 in
theorem c_X0_checkKind (l : Launch) (x : Int32) (hx0 : x = 0 ∨ x = 1) : Met l yX0_checkKind (Cond.code yX0_checkKind cX0_checkKind 1 none :: kr_all) ({ frames := 0, cells := 0, slots := 0, locals := 0 }) (va_Pc [.int x] (fun _ => True)) (va_Sv (fun _ => True)) 0 0 (fun _ => False) := by
  refine kr_of (by decide) (Nat.le_of_ble_eq_true rfl) ?_
  intro p e s m below meth c ls hx hb hml hr hts hown hlocks hin hv hl
  have hown : s.vm.findClass RX0 = some m.cls := hown
  have hl : lv_has ls 1 [(0, .int x)] := hl
  refine lv_iload_n hx hb dX0_checkKind_0 rfl (lv_at hl 0 rfl) ?_
  refine lv_if_eq (tgt := 19) hx hb dX0_checkKind_1 (by decide) (fun c1 => ?_) (fun c1 => ?_)
  · exact kr_eV hx hb hr hlocks rfl trivial dX0_checkKind_19
  · refine lv_iload_n hx hb dX0_checkKind_4 rfl (lv_at hl 0 rfl) ?_
    refine lv_iconst (v := 1) hx hb dX0_checkKind_5 (by decide) ?_
    refine lv_icmp_eq (tgt := 19) hx hb dX0_checkKind_6 (by decide) (fun c6 => ?_) (fun c6 => absurd (hx0.resolve_left c1) c6)
    exact kr_eV hx hb hr hlocks rfl trivial dX0_checkKind_19
set_option maxHeartbeats 4000000 in
set_option maxRecDepth 100000 in
theorem c_X0_checkKnot (l : Launch) (D : va_G) (cy : ClassId) (h : Nat) (a : Nat → Nat) (N L : Nat) (A : Nat → Nat → Int32) (k : Nat) (hN : N ≤ 16) (hk : k < N) : Met l yX0_checkKnot (Cond.code yX0_checkKnot cX0_checkKnot 2 none :: kr_all) ({ frames := 1, cells := 0, slots := 0, locals := 21 }) (va_Pc [.ref h, .int (nI k)] (kr_R D (kr_W0 cy h a N L A) cy)) (va_Sv (fun _ => True)) 0 0 (fun _ => False) := by
  refine kr_of (by decide) (Nat.le_of_ble_eq_true rfl) ?_
  intro p e s m below meth c ls hx hb hml hr hts hown hlocks hin hv hl
  obtain ⟨hP, hK⟩ := hv
  have hown : s.vm.findClass RX0 = some m.cls := hown
  have hl : lv_has ls 2 [(0, .ref h), (1, .int (nI k))] := hl
  refine lv_aload_n hx hb dX0_checkKnot_0 rfl (lv_at hl 0 rfl) ?_
  refine lv_iload_n hx hb dX0_checkKnot_1 rfl (lv_at hl 1 rfl) ?_
  refine kr_vI (n := 1) (As := [.int (nI k)]) (rest := []) ⟨hx, hb, hml, hown, hts⟩ (c_X0_isKnot l D cy h a N L A (nI k)) kg_RX0_125 ⟨rfl, rfl⟩ (by decide +kernel) ⟨Nat.le_of_ble_eq_true rfl, Nat.le_of_ble_eq_true rfl⟩ (kr_pv0 hP hK) rfl hl.1 rfl (Nat.le_of_ble_eq_true rfl) dX0_checkKnot_2 ⟨Nat.zero_le _, Nat.zero_le _⟩ (fun r9 e9 => ?_)
  subst e9
  refine lv_if_ne (tgt := 18) hx hb dX0_checkKnot_5 (by decide) (fun c5 => ?_) (fun c5 => absurd (show ¬ nI k < 0 ∧ ¬ nI N ≤ nI k from ⟨nI_pos (by omega), nI_ge hk (by omega)⟩) (kr_if0 c5))
  exact kr_eV hx hb hr hlocks rfl trivial dX0_checkKnot_18
set_option maxHeartbeats 4000000 in
set_option maxRecDepth 100000 in
theorem c_X0_checkOfKind (l : Launch) (D : va_G) (cy : ClassId) (h : Nat) (a : Nat → Nat) (N L : Nat) (A : Nat → Nat → Int32) (k : Nat) (kd : Int32) (hk : k < 16) (he : A 0 k = kd) : Met l yX0_checkOfKind (Cond.code yX0_checkOfKind cX0_checkOfKind 3 none :: kr_all) ({ frames := 0, cells := 0, slots := 0, locals := 0 }) (va_Pc [.ref h, .int (nI k), .int kd] (kr_R D (kr_W0 cy h a N L A) cy)) (va_Sv (fun _ => True)) 0 0 (fun _ => False) := by
  refine kr_of (by decide) (Nat.le_of_ble_eq_true rfl) ?_
  intro p e s m below meth c ls hx hb hml hr hts hown hlocks hin hv hl
  obtain ⟨hP, hK⟩ := hv
  have hown : s.vm.findClass RX0 = some m.cls := hown
  have hl : lv_has ls 3 [(0, .ref h), (1, .int (nI k)), (2, .int kd)] := hl
  refine lv_aload_n hx hb dX0_checkOfKind_0 rfl (lv_at hl 0 rfl) ?_
  refine va_get (ci := 0) (v := .ref (a 0)) (C := RX0) (T := TX0) (N := 10) hx hb hts kr_wsX0 hown hK hP 0 rfl rfl 0 (by decide) (hts _ kq_65) (fun _ h9 => h9) rfl dX0_checkOfKind_1 ?_
  refine lv_iload_n hx hb dX0_checkOfKind_4 rfl (lv_at hl 1 rfl) ?_
  refine kr_ald hx hb hK hP 1 0 rfl rfl k (by omega) (by decide) dX0_checkOfKind_5 ?_
  refine lv_iload_n hx hb dX0_checkOfKind_6 rfl (lv_at hl 2 rfl) ?_
  refine lv_icmp_eq (tgt := 20) hx hb dX0_checkOfKind_7 (by decide) (fun c7 => ?_) (fun c7 => absurd he c7)
  exact kr_eV hx hb hr hlocks rfl trivial dX0_checkOfKind_20
set_option maxHeartbeats 4000000 in
set_option maxRecDepth 100000 in
theorem c_X0_checkLoad (l : Launch) (x : Int32) (hx0 : ¬ x < 1 ∧ ¬ 999 < x) : Met l yX0_checkLoad (Cond.code yX0_checkLoad cX0_checkLoad 1 none :: kr_all) ({ frames := 0, cells := 0, slots := 0, locals := 0 }) (va_Pc [.int x] (fun _ => True)) (va_Sv (fun _ => True)) 0 0 (fun _ => False) := by
  refine kr_of (by decide) (Nat.le_of_ble_eq_true rfl) ?_
  intro p e s m below meth c ls hx hb hml hr hts hown hlocks hin hv hl
  have hown : s.vm.findClass RX0 = some m.cls := hown
  have hl : lv_has ls 1 [(0, .int x)] := hl
  refine lv_iload_n hx hb dX0_checkLoad_0 rfl (lv_at hl 0 rfl) ?_
  refine lv_iconst (v := 1) hx hb dX0_checkLoad_1 (by decide) ?_
  refine lv_icmp_lt (tgt := 12) hx hb dX0_checkLoad_2 (by decide) (fun c2 => absurd c2 hx0.1) (fun c2 => ?_)
  refine lv_iload_n hx hb dX0_checkLoad_5 rfl (lv_at hl 0 rfl) ?_
  refine lv_sipush (v := 999) hx hb dX0_checkLoad_6 (by decide) ?_
  refine lv_icmp_le (tgt := 22) hx hb dX0_checkLoad_9 (by decide) (fun c9 => ?_) (fun c9 => absurd (kr_nle2 c9) hx0.2)
  exact kr_eV hx hb hr hlocks rfl trivial dX0_checkLoad_22
set_option maxHeartbeats 4000000 in
set_option maxRecDepth 100000 in
theorem c_X0_checkStrength (l : Launch) (x : Int32) (hx0 : ¬ x < 1 ∧ ¬ 999 < x) : Met l yX0_checkStrength (Cond.code yX0_checkStrength cX0_checkStrength 1 none :: kr_all) ({ frames := 0, cells := 0, slots := 0, locals := 0 }) (va_Pc [.int x] (fun _ => True)) (va_Sv (fun _ => True)) 0 0 (fun _ => False) := by
  refine kr_of (by decide) (Nat.le_of_ble_eq_true rfl) ?_
  intro p e s m below meth c ls hx hb hml hr hts hown hlocks hin hv hl
  have hown : s.vm.findClass RX0 = some m.cls := hown
  have hl : lv_has ls 1 [(0, .int x)] := hl
  refine lv_iload_n hx hb dX0_checkStrength_0 rfl (lv_at hl 0 rfl) ?_
  refine lv_iconst (v := 1) hx hb dX0_checkStrength_1 (by decide) ?_
  refine lv_icmp_lt (tgt := 12) hx hb dX0_checkStrength_2 (by decide) (fun c2 => absurd c2 hx0.1) (fun c2 => ?_)
  refine lv_iload_n hx hb dX0_checkStrength_5 rfl (lv_at hl 0 rfl) ?_
  refine lv_sipush (v := 999) hx hb dX0_checkStrength_6 (by decide) ?_
  refine lv_icmp_le (tgt := 22) hx hb dX0_checkStrength_9 (by decide) (fun c9 => ?_) (fun c9 => absurd (kr_nle2 c9) hx0.2)
  exact kr_eV hx hb hr hlocks rfl trivial dX0_checkStrength_22
set_option maxHeartbeats 4000000 in
set_option maxRecDepth 100000 in
theorem c_X0_checkLine (l : Launch) (D : va_G) (cy : ClassId) (h : Nat) (a : Nat → Nat) (N L : Nat) (A : Nat → Nat → Int32) (q : Nat) (hL : L ≤ 6) (hq : q < L) : Met l yX0_checkLine (Cond.code yX0_checkLine cX0_checkLine 2 none :: kr_all) ({ frames := 0, cells := 0, slots := 0, locals := 0 }) (va_Pc [.ref h, .int (nI q)] (kr_R D (kr_W0 cy h a N L A) cy)) (va_Sv (fun _ => True)) 0 0 (fun _ => False) := by
  refine kr_of (by decide) (Nat.le_of_ble_eq_true rfl) ?_
  intro p e s m below meth c ls hx hb hml hr hts hown hlocks hin hv hl
  obtain ⟨hP, hK⟩ := hv
  have hown : s.vm.findClass RX0 = some m.cls := hown
  have hl : lv_has ls 2 [(0, .ref h), (1, .int (nI q))] := hl
  refine lv_iload_n hx hb dX0_checkLine_0 rfl (lv_at hl 1 rfl) ?_
  refine lv_if_lt (tgt := 12) hx hb dX0_checkLine_1 (by decide) (fun c1 => absurd c1 (nI_pos (by omega))) (fun c1 => ?_)
  refine lv_iload_n hx hb dX0_checkLine_4 rfl (lv_at hl 1 rfl) ?_
  refine lv_aload_n hx hb dX0_checkLine_5 rfl (lv_at hl 0 rfl) ?_
  refine va_get (ci := 0) (v := .int (nI L)) (C := RX0) (T := TX0) (N := 10) hx hb hts kr_wsX0 hown hK hP 0 rfl rfl 7 (by decide) (hts _ kq_72) (fun _ h9 => h9) rfl dX0_checkLine_6 ?_
  refine lv_icmp_lt (tgt := 22) hx hb dX0_checkLine_9 (by decide) (fun c9 => ?_) (fun c9 => absurd (nI_lt hq (by omega)) c9)
  exact kr_eV hx hb hr hlocks rfl trivial dX0_checkLine_22
theorem kg_RX0_82 : GoodIn kr_all (wsV RX0 82 RX0 yX0_checkLine (Cond.code yX0_checkLine cX0_checkLine 2 none :: kr_all)) := kr_gV kq_113 kq_115 kq_0 kq_48 kq_116
set_option maxHeartbeats 4000000 in
set_option maxRecDepth 100000 in
theorem c_X0_checkPlace (l : Launch) (D : va_G) (cy : ClassId) (h : Nat) (a : Nat → Nat) (N L : Nat) (A : Nat → Nat → Int32) (q pl : Nat) (hw : kr_wf N L A) (hq : q < L) (hp : pl < kr_rc A q) : Met l yX0_checkPlace (Cond.code yX0_checkPlace cX0_checkPlace 3 none :: kr_all) ({ frames := 1, cells := 0, slots := 0, locals := 21 }) (va_Pc [.ref h, .int (nI q), .int (nI pl)] (kr_R D (kr_W0 cy h a N L A) cy)) (va_Sv (fun _ => True)) 0 0 (fun _ => False) := by
  refine kr_of (by decide) (Nat.le_of_ble_eq_true rfl) ?_
  intro p e s m below meth c ls hx hb hml hr hts hown hlocks hin hv hl
  obtain ⟨hP, hK⟩ := hv
  have hown : s.vm.findClass RX0 = some m.cls := hown
  have hl : lv_has ls 3 [(0, .ref h), (1, .int (nI q)), (2, .int (nI pl))] := hl
  have hL := hw.2.1
  obtain ⟨hrc, er⟩ := hw.rc hq
  refine lv_aload_n hx hb dX0_checkPlace_0 rfl (lv_at hl 0 rfl) ?_
  refine lv_iload_n hx hb dX0_checkPlace_1 rfl (lv_at hl 1 rfl) ?_
  refine kr_vV (n := 1) (As := [.int (nI q)]) (rest := []) ⟨hx, hb, hml, hown, hts⟩ (c_X0_checkLine l D cy h a N L A q (by omega) (by omega)) kg_RX0_82 ⟨rfl, rfl⟩ (by decide +kernel) ⟨Nat.le_of_ble_eq_true rfl, Nat.le_of_ble_eq_true rfl⟩ (kr_pv0 hP hK) rfl hl.1 rfl (Nat.le_of_ble_eq_true rfl) dX0_checkPlace_2 ⟨Nat.zero_le _, Nat.zero_le _⟩ ?_
  refine lv_iload_n hx hb dX0_checkPlace_5 rfl (lv_at hl 2 rfl) ?_
  refine lv_if_lt (tgt := 19) hx hb dX0_checkPlace_6 (by decide) (fun c6 => absurd c6 (nI_pos (by omega))) (fun c6 => ?_)
  refine lv_iload_n hx hb dX0_checkPlace_9 rfl (lv_at hl 2 rfl) ?_
  refine lv_aload_n hx hb dX0_checkPlace_10 rfl (lv_at hl 0 rfl) ?_
  refine va_get (ci := 0) (v := .ref (a 5)) (C := RX0) (T := TX0) (N := 10) hx hb hts kr_wsX0 hown hK hP 0 rfl rfl 6 (by decide) (hts _ kq_71) (fun _ h9 => h9) rfl dX0_checkPlace_11 ?_
  refine lv_iload_n hx hb dX0_checkPlace_14 rfl (lv_at hl 1 rfl) ?_
  refine kr_ald hx hb hK hP 6 0 rfl rfl q (by omega) (by decide) dX0_checkPlace_15 ?_
  rw [er]
  refine lv_icmp_lt (tgt := 29) hx hb dX0_checkPlace_16 (by decide) (fun c16 => ?_) (fun c16 => absurd (nI_lt hp (by omega)) c16)
  exact kr_eV hx hb hr hlocks rfl trivial dX0_checkPlace_29
set_option maxHeartbeats 4000000 in
set_option maxRecDepth 100000 in
theorem c_X0_checkNotGone (l : Launch) (D : va_G) (cy : ClassId) (h : Nat) (a : Nat → Nat) (N L : Nat) (A : Nat → Nat → Int32) (q : Nat) (hq : q < 6) (hg : ¬ A 5 q = 0) : Met l yX0_checkNotGone (Cond.code yX0_checkNotGone cX0_checkNotGone 2 none :: kr_all) ({ frames := 1, cells := 0, slots := 0, locals := 21 }) (va_Pc [.ref h, .int (nI q)] (kr_R D (kr_W0 cy h a N L A) cy)) (va_Sv (fun _ => True)) 0 0 (fun _ => False) := by
  refine kr_of (by decide) (Nat.le_of_ble_eq_true rfl) ?_
  intro p e s m below meth c ls hx hb hml hr hts hown hlocks hin hv hl
  obtain ⟨hP, hK⟩ := hv
  have hown : s.vm.findClass RX0 = some m.cls := hown
  have hl : lv_has ls 2 [(0, .ref h), (1, .int (nI q))] := hl
  refine lv_aload_n hx hb dX0_checkNotGone_0 rfl (lv_at hl 0 rfl) ?_
  refine lv_iload_n hx hb dX0_checkNotGone_1 rfl (lv_at hl 1 rfl) ?_
  refine kr_vI (n := 1) (As := [.int (nI q)]) (rest := []) ⟨hx, hb, hml, hown, hts⟩ (c_X0_isGone l D cy h a N L A q (by omega)) kg_RX0_140 ⟨rfl, rfl⟩ (by decide +kernel) ⟨Nat.le_of_ble_eq_true rfl, Nat.le_of_ble_eq_true rfl⟩ (kr_pv0 hP hK) rfl hl.1 rfl (Nat.le_of_ble_eq_true rfl) dX0_checkNotGone_2 ⟨Nat.zero_le _, Nat.zero_le _⟩ (fun r9 e9 => ?_)
  subst e9
  refine lv_if_eq (tgt := 18) hx hb dX0_checkNotGone_5 (by decide) (fun c5 => ?_) (fun c5 => absurd (kr_if1 c5) hg)
  exact kr_eV hx hb hr hlocks rfl trivial dX0_checkNotGone_18
end
section
set_option maxHeartbeats 4000000 in
set_option maxRecDepth 100000 in
theorem c_X0_knots (l : Launch) (D : va_G) (cy : ClassId) (h : Nat) (a : Nat → Nat) (N L : Nat) (A : Nat → Nat → Int32) : Met l yX0_knots (Cond.code yX0_knots cX0_knots 1 (some .int) :: kr_all) ({ frames := 0, cells := 0, slots := 0, locals := 0 }) (va_Pc [.ref h] (kr_R D (kr_W0 cy h a N L A) cy)) (vp_Si (fun r => r = nI N)) 0 0 (fun _ => False) := by
  refine kr_of (by decide) (Nat.le_of_ble_eq_true rfl) ?_
  intro p e s m below meth c ls hx hb hml hr hts hown hlocks hin hv hl
  obtain ⟨hP, hK⟩ := hv
  have hown : s.vm.findClass RX0 = some m.cls := hown
  have hl : lv_has ls 1 [(0, .ref h)] := hl
  refine lv_aload_n hx hb dX0_knots_0 rfl (lv_at hl 0 rfl) ?_
  refine va_get (ci := 0) (v := .int (nI N)) (C := RX0) (T := TX0) (N := 10) hx hb hts kr_wsX0 hown hK hP 0 rfl rfl 5 (by decide) (hts _ kq_70) (fun _ h9 => h9) rfl dX0_knots_1 ?_
  exact kr_eI hx hb hr hlocks rfl rfl dX0_knots_4
set_option maxHeartbeats 4000000 in
set_option maxRecDepth 100000 in
theorem c_X0_lines (l : Launch) (D : va_G) (cy : ClassId) (h : Nat) (a : Nat → Nat) (N L : Nat) (A : Nat → Nat → Int32) : Met l yX0_lines (Cond.code yX0_lines cX0_lines 1 (some .int) :: kr_all) ({ frames := 0, cells := 0, slots := 0, locals := 0 }) (va_Pc [.ref h] (kr_R D (kr_W0 cy h a N L A) cy)) (vp_Si (fun r => r = nI L)) 0 0 (fun _ => False) := by
  refine kr_of (by decide) (Nat.le_of_ble_eq_true rfl) ?_
  intro p e s m below meth c ls hx hb hml hr hts hown hlocks hin hv hl
  obtain ⟨hP, hK⟩ := hv
  have hown : s.vm.findClass RX0 = some m.cls := hown
  have hl : lv_has ls 1 [(0, .ref h)] := hl
  refine lv_aload_n hx hb dX0_lines_0 rfl (lv_at hl 0 rfl) ?_
  refine va_get (ci := 0) (v := .int (nI L)) (C := RX0) (T := TX0) (N := 10) hx hb hts kr_wsX0 hown hK hP 0 rfl rfl 7 (by decide) (hts _ kq_72) (fun _ h9 => h9) rfl dX0_lines_1 ?_
  exact kr_eI hx hb hr hlocks rfl rfl dX0_lines_4
theorem kg_RX0_41 : GoodIn kr_all (wsS RX0 41 yX0_checkKind (Cond.code yX0_checkKind cX0_checkKind 1 none :: kr_all)) := kr_gS kq_313 kq_314 kq_48 kq_315
theorem kg_RX0_107 : GoodIn kr_all (wsV RX0 107 RX0 yX0_countOfKind (Cond.code yX0_countOfKind cX0_countOfKind 4 (some .int) :: kr_all)) := kr_gV kq_437 kq_439 kq_21 kq_48 kq_440
set_option maxHeartbeats 4000000 in
set_option maxRecDepth 100000 in
theorem c_X0_knotsOf (l : Launch) (D : va_G) (cy : ClassId) (h : Nat) (a : Nat → Nat) (N L : Nat) (A : Nat → Nat → Int32) (kd : Int32) (hN : N ≤ 16) (hkd : kd = 0 ∨ kd = 1) : Met l yX0_knotsOf (Cond.code yX0_knotsOf cX0_knotsOf 2 (some .int) :: kr_all) ({ frames := 1, cells := 0, slots := 0, locals := 23 }) (va_Pc [.ref h, .int kd] (kr_R D (kr_W0 cy h a N L A) cy)) (vp_Si (fun r => r = nI (kr_cn A kd N))) 0 0 (fun _ => False) := by
  refine kr_of (by decide) (Nat.le_of_ble_eq_true rfl) ?_
  intro p e s m below meth c ls hx hb hml hr hts hown hlocks hin hv hl
  obtain ⟨hP, hK⟩ := hv
  have hown : s.vm.findClass RX0 = some m.cls := hown
  have hl : lv_has ls 2 [(0, .ref h), (1, .int kd)] := hl
  refine lv_iload_n hx hb dX0_knotsOf_0 rfl (lv_at hl 1 rfl) ?_
  refine kr_sV (n := 1) (As := [.int kd]) (rest := []) ⟨hx, hb, hml, hown, hts⟩ (c_X0_checkKind l kd (by assumption)) kg_RX0_41 ⟨rfl, rfl⟩ (by decide +kernel) ⟨Nat.le_of_ble_eq_true rfl, Nat.le_of_ble_eq_true rfl⟩ ⟨kr_blT, fun U hU hW => ⟨rfl, trivial⟩⟩ rfl hl.1 rfl (Nat.le_of_ble_eq_true rfl) dX0_knotsOf_1 ⟨Nat.zero_le _, Nat.zero_le _⟩ ?_
  refine lv_aload_n hx hb dX0_knotsOf_4 rfl (lv_at hl 0 rfl) ?_
  refine lv_iload_n hx hb dX0_knotsOf_5 rfl (lv_at hl 1 rfl) ?_
  refine kr_vI (n := 1) (As := [.int kd]) (rest := []) ⟨hx, hb, hml, hown, hts⟩ (c_X0_countOfKind l D cy h a N L A kd (by omega)) kg_RX0_107 ⟨rfl, rfl⟩ (by decide +kernel) ⟨Nat.le_of_ble_eq_true rfl, Nat.le_of_ble_eq_true rfl⟩ (kr_pv0 hP hK) rfl hl.1 rfl (Nat.le_of_ble_eq_true rfl) dX0_knotsOf_6 ⟨Nat.zero_le _, Nat.zero_le _⟩ (fun r9 e9 => ?_)
  subst e9
  exact kr_eI hx hb hr hlocks rfl rfl dX0_knotsOf_9
theorem kg_RX0_59 : GoodIn kr_all (wsV RX0 59 RX0 yX0_checkKnot (Cond.code yX0_checkKnot cX0_checkKnot 2 none :: kr_all)) := kr_gV kq_236 kq_238 kq_8 kq_48 kq_239
set_option maxHeartbeats 4000000 in
set_option maxRecDepth 100000 in
theorem c_X0_kindOf (l : Launch) (D : va_G) (cy : ClassId) (h : Nat) (a : Nat → Nat) (N L : Nat) (A : Nat → Nat → Int32) (k : Nat) (hN : N ≤ 16) (hk : k < N) : Met l yX0_kindOf (Cond.code yX0_kindOf cX0_kindOf 2 (some .int) :: kr_all) ({ frames := 2, cells := 0, slots := 0, locals := 42 }) (va_Pc [.ref h, .int (nI k)] (kr_R D (kr_W0 cy h a N L A) cy)) (vp_Si (fun r => r = A 0 k)) 0 0 (fun _ => False) := by
  refine kr_of (by decide) (Nat.le_of_ble_eq_true rfl) ?_
  intro p e s m below meth c ls hx hb hml hr hts hown hlocks hin hv hl
  obtain ⟨hP, hK⟩ := hv
  have hown : s.vm.findClass RX0 = some m.cls := hown
  have hl : lv_has ls 2 [(0, .ref h), (1, .int (nI k))] := hl
  refine lv_aload_n hx hb dX0_kindOf_0 rfl (lv_at hl 0 rfl) ?_
  refine lv_iload_n hx hb dX0_kindOf_1 rfl (lv_at hl 1 rfl) ?_
  refine kr_vV (n := 1) (As := [.int (nI k)]) (rest := []) ⟨hx, hb, hml, hown, hts⟩ (c_X0_checkKnot l D cy h a N L A k (by omega) (by omega)) kg_RX0_59 ⟨rfl, rfl⟩ (by decide +kernel) ⟨Nat.le_of_ble_eq_true rfl, Nat.le_of_ble_eq_true rfl⟩ (kr_pv0 hP hK) rfl hl.1 rfl (Nat.le_of_ble_eq_true rfl) dX0_kindOf_2 ⟨Nat.zero_le _, Nat.zero_le _⟩ ?_
  refine lv_aload_n hx hb dX0_kindOf_5 rfl (lv_at hl 0 rfl) ?_
  refine va_get (ci := 0) (v := .ref (a 0)) (C := RX0) (T := TX0) (N := 10) hx hb hts kr_wsX0 hown hK hP 0 rfl rfl 0 (by decide) (hts _ kq_65) (fun _ h9 => h9) rfl dX0_kindOf_6 ?_
  refine lv_iload_n hx hb dX0_kindOf_9 rfl (lv_at hl 1 rfl) ?_
  refine kr_ald hx hb hK hP 1 0 rfl rfl k (by omega) (by decide) dX0_kindOf_10 ?_
  exact kr_eI hx hb hr hlocks rfl rfl dX0_kindOf_11
set_option maxHeartbeats 4000000 in
set_option maxRecDepth 100000 in
theorem c_X0_efficiencyOf (l : Launch) (D : va_G) (cy : ClassId) (h : Nat) (a : Nat → Nat) (N L : Nat) (A : Nat → Nat → Int32) (k : Nat) (hN : N ≤ 16) (hk : k < N) : Met l yX0_efficiencyOf (Cond.code yX0_efficiencyOf cX0_efficiencyOf 2 (some .int) :: kr_all) ({ frames := 2, cells := 0, slots := 0, locals := 42 }) (va_Pc [.ref h, .int (nI k)] (kr_R D (kr_W0 cy h a N L A) cy)) (vp_Si (fun r => r = A 1 k)) 0 0 (fun _ => False) := by
  refine kr_of (by decide) (Nat.le_of_ble_eq_true rfl) ?_
  intro p e s m below meth c ls hx hb hml hr hts hown hlocks hin hv hl
  obtain ⟨hP, hK⟩ := hv
  have hown : s.vm.findClass RX0 = some m.cls := hown
  have hl : lv_has ls 2 [(0, .ref h), (1, .int (nI k))] := hl
  refine lv_aload_n hx hb dX0_efficiencyOf_0 rfl (lv_at hl 0 rfl) ?_
  refine lv_iload_n hx hb dX0_efficiencyOf_1 rfl (lv_at hl 1 rfl) ?_
  refine kr_vV (n := 1) (As := [.int (nI k)]) (rest := []) ⟨hx, hb, hml, hown, hts⟩ (c_X0_checkKnot l D cy h a N L A k (by omega) (by omega)) kg_RX0_59 ⟨rfl, rfl⟩ (by decide +kernel) ⟨Nat.le_of_ble_eq_true rfl, Nat.le_of_ble_eq_true rfl⟩ (kr_pv0 hP hK) rfl hl.1 rfl (Nat.le_of_ble_eq_true rfl) dX0_efficiencyOf_2 ⟨Nat.zero_le _, Nat.zero_le _⟩ ?_
  refine lv_aload_n hx hb dX0_efficiencyOf_5 rfl (lv_at hl 0 rfl) ?_
  refine va_get (ci := 0) (v := .ref (a 1)) (C := RX0) (T := TX0) (N := 10) hx hb hts kr_wsX0 hown hK hP 0 rfl rfl 1 (by decide) (hts _ kq_66) (fun _ h9 => h9) rfl dX0_efficiencyOf_6 ?_
  refine lv_iload_n hx hb dX0_efficiencyOf_9 rfl (lv_at hl 1 rfl) ?_
  refine kr_ald hx hb hK hP 2 0 rfl rfl k (by omega) (by decide) dX0_efficiencyOf_10 ?_
  exact kr_eI hx hb hr hlocks rfl rfl dX0_efficiencyOf_11
set_option maxHeartbeats 4000000 in
set_option maxRecDepth 100000 in
theorem c_X0_crossingsOf (l : Launch) (D : va_G) (cy : ClassId) (h : Nat) (a : Nat → Nat) (N L : Nat) (A : Nat → Nat → Int32) (k : Nat) (hN : N ≤ 16) (hk : k < N) : Met l yX0_crossingsOf (Cond.code yX0_crossingsOf cX0_crossingsOf 2 (some .int) :: kr_all) ({ frames := 2, cells := 0, slots := 0, locals := 42 }) (va_Pc [.ref h, .int (nI k)] (kr_R D (kr_W0 cy h a N L A) cy)) (vp_Si (fun r => r = A 2 k)) 0 0 (fun _ => False) := by
  refine kr_of (by decide) (Nat.le_of_ble_eq_true rfl) ?_
  intro p e s m below meth c ls hx hb hml hr hts hown hlocks hin hv hl
  obtain ⟨hP, hK⟩ := hv
  have hown : s.vm.findClass RX0 = some m.cls := hown
  have hl : lv_has ls 2 [(0, .ref h), (1, .int (nI k))] := hl
  refine lv_aload_n hx hb dX0_crossingsOf_0 rfl (lv_at hl 0 rfl) ?_
  refine lv_iload_n hx hb dX0_crossingsOf_1 rfl (lv_at hl 1 rfl) ?_
  refine kr_vV (n := 1) (As := [.int (nI k)]) (rest := []) ⟨hx, hb, hml, hown, hts⟩ (c_X0_checkKnot l D cy h a N L A k (by omega) (by omega)) kg_RX0_59 ⟨rfl, rfl⟩ (by decide +kernel) ⟨Nat.le_of_ble_eq_true rfl, Nat.le_of_ble_eq_true rfl⟩ (kr_pv0 hP hK) rfl hl.1 rfl (Nat.le_of_ble_eq_true rfl) dX0_crossingsOf_2 ⟨Nat.zero_le _, Nat.zero_le _⟩ ?_
  refine lv_aload_n hx hb dX0_crossingsOf_5 rfl (lv_at hl 0 rfl) ?_
  refine va_get (ci := 0) (v := .ref (a 2)) (C := RX0) (T := TX0) (N := 10) hx hb hts kr_wsX0 hown hK hP 0 rfl rfl 2 (by decide) (hts _ kq_67) (fun _ h9 => h9) rfl dX0_crossingsOf_6 ?_
  refine lv_iload_n hx hb dX0_crossingsOf_9 rfl (lv_at hl 1 rfl) ?_
  refine kr_ald hx hb hK hP 3 0 rfl rfl k (by omega) (by decide) dX0_crossingsOf_10 ?_
  exact kr_eI hx hb hr hlocks rfl rfl dX0_crossingsOf_11
set_option maxHeartbeats 4000000 in
set_option maxRecDepth 100000 in
theorem c_X0_spillsAt (l : Launch) (D : va_G) (cy : ClassId) (h : Nat) (a : Nat → Nat) (N L : Nat) (A : Nat → Nat → Int32) (k : Nat) (hN : N ≤ 16) (hk : k < N) : Met l yX0_spillsAt (Cond.code yX0_spillsAt cX0_spillsAt 2 (some .int) :: kr_all) ({ frames := 2, cells := 0, slots := 0, locals := 42 }) (va_Pc [.ref h, .int (nI k)] (kr_R D (kr_W0 cy h a N L A) cy)) (vp_Si (fun r => r = A 3 k)) 0 0 (fun _ => False) := by
  refine kr_of (by decide) (Nat.le_of_ble_eq_true rfl) ?_
  intro p e s m below meth c ls hx hb hml hr hts hown hlocks hin hv hl
  obtain ⟨hP, hK⟩ := hv
  have hown : s.vm.findClass RX0 = some m.cls := hown
  have hl : lv_has ls 2 [(0, .ref h), (1, .int (nI k))] := hl
  refine lv_aload_n hx hb dX0_spillsAt_0 rfl (lv_at hl 0 rfl) ?_
  refine lv_iload_n hx hb dX0_spillsAt_1 rfl (lv_at hl 1 rfl) ?_
  refine kr_vV (n := 1) (As := [.int (nI k)]) (rest := []) ⟨hx, hb, hml, hown, hts⟩ (c_X0_checkKnot l D cy h a N L A k (by omega) (by omega)) kg_RX0_59 ⟨rfl, rfl⟩ (by decide +kernel) ⟨Nat.le_of_ble_eq_true rfl, Nat.le_of_ble_eq_true rfl⟩ (kr_pv0 hP hK) rfl hl.1 rfl (Nat.le_of_ble_eq_true rfl) dX0_spillsAt_2 ⟨Nat.zero_le _, Nat.zero_le _⟩ ?_
  refine lv_aload_n hx hb dX0_spillsAt_5 rfl (lv_at hl 0 rfl) ?_
  refine va_get (ci := 0) (v := .ref (a 3)) (C := RX0) (T := TX0) (N := 10) hx hb hts kr_wsX0 hown hK hP 0 rfl rfl 3 (by decide) (hts _ kq_68) (fun _ h9 => h9) rfl dX0_spillsAt_6 ?_
  refine lv_iload_n hx hb dX0_spillsAt_9 rfl (lv_at hl 1 rfl) ?_
  refine kr_ald hx hb hK hP 4 0 rfl rfl k (by omega) (by decide) dX0_spillsAt_10 ?_
  exact kr_eI hx hb hr hlocks rfl rfl dX0_spillsAt_11
set_option maxHeartbeats 4000000 in
set_option maxRecDepth 100000 in
theorem c_X0_spillsInto (l : Launch) (D : va_G) (cy : ClassId) (h : Nat) (a : Nat → Nat) (N L : Nat) (A : Nat → Nat → Int32) (k : Nat) (hN : N ≤ 16) (hk : k < N) : Met l yX0_spillsInto (Cond.code yX0_spillsInto cX0_spillsInto 2 (some .int) :: kr_all) ({ frames := 2, cells := 0, slots := 0, locals := 42 }) (va_Pc [.ref h, .int (nI k)] (kr_R D (kr_W0 cy h a N L A) cy)) (vp_Si (fun r => r = A 4 k)) 0 0 (fun _ => False) := by
  refine kr_of (by decide) (Nat.le_of_ble_eq_true rfl) ?_
  intro p e s m below meth c ls hx hb hml hr hts hown hlocks hin hv hl
  obtain ⟨hP, hK⟩ := hv
  have hown : s.vm.findClass RX0 = some m.cls := hown
  have hl : lv_has ls 2 [(0, .ref h), (1, .int (nI k))] := hl
  refine lv_aload_n hx hb dX0_spillsInto_0 rfl (lv_at hl 0 rfl) ?_
  refine lv_iload_n hx hb dX0_spillsInto_1 rfl (lv_at hl 1 rfl) ?_
  refine kr_vV (n := 1) (As := [.int (nI k)]) (rest := []) ⟨hx, hb, hml, hown, hts⟩ (c_X0_checkKnot l D cy h a N L A k (by omega) (by omega)) kg_RX0_59 ⟨rfl, rfl⟩ (by decide +kernel) ⟨Nat.le_of_ble_eq_true rfl, Nat.le_of_ble_eq_true rfl⟩ (kr_pv0 hP hK) rfl hl.1 rfl (Nat.le_of_ble_eq_true rfl) dX0_spillsInto_2 ⟨Nat.zero_le _, Nat.zero_le _⟩ ?_
  refine lv_aload_n hx hb dX0_spillsInto_5 rfl (lv_at hl 0 rfl) ?_
  refine va_get (ci := 0) (v := .ref (a 4)) (C := RX0) (T := TX0) (N := 10) hx hb hts kr_wsX0 hown hK hP 0 rfl rfl 4 (by decide) (hts _ kq_69) (fun _ h9 => h9) rfl dX0_spillsInto_6 ?_
  refine lv_iload_n hx hb dX0_spillsInto_9 rfl (lv_at hl 1 rfl) ?_
  refine kr_ald hx hb hK hP 5 0 rfl rfl k (by omega) (by decide) dX0_spillsInto_10 ?_
  exact kr_eI hx hb hr hlocks rfl rfl dX0_spillsInto_11
set_option maxHeartbeats 4000000 in
set_option maxRecDepth 100000 in
theorem c_X0_rankOf (l : Launch) (D : va_G) (cy : ClassId) (h : Nat) (a : Nat → Nat) (N L : Nat) (A : Nat → Nat → Int32) (k : Nat) (hN : N ≤ 16) (hk : k < N) : Met l yX0_rankOf (Cond.code yX0_rankOf cX0_rankOf 2 (some .int) :: kr_all) ({ frames := 2, cells := 0, slots := 0, locals := 45 }) (va_Pc [.ref h, .int (nI k)] (kr_R D (kr_W0 cy h a N L A) cy)) (vp_Si (fun r => r = nI (kr_rk A k N))) 0 0 (fun _ => False) := by
  refine kr_of (by decide) (Nat.le_of_ble_eq_true rfl) ?_
  intro p e s m below meth c ls hx hb hml hr hts hown hlocks hin hv hl
  obtain ⟨hP, hK⟩ := hv
  have hown : s.vm.findClass RX0 = some m.cls := hown
  have hl : lv_has ls 2 [(0, .ref h), (1, .int (nI k))] := hl
  refine lv_aload_n hx hb dX0_rankOf_0 rfl (lv_at hl 0 rfl) ?_
  refine lv_iload_n hx hb dX0_rankOf_1 rfl (lv_at hl 1 rfl) ?_
  refine kr_vV (n := 1) (As := [.int (nI k)]) (rest := []) ⟨hx, hb, hml, hown, hts⟩ (c_X0_checkKnot l D cy h a N L A k (by omega) (by omega)) kg_RX0_59 ⟨rfl, rfl⟩ (by decide +kernel) ⟨Nat.le_of_ble_eq_true rfl, Nat.le_of_ble_eq_true rfl⟩ (kr_pv0 hP hK) rfl hl.1 rfl (Nat.le_of_ble_eq_true rfl) dX0_rankOf_2 ⟨Nat.zero_le _, Nat.zero_le _⟩ ?_
  refine lv_aload_n hx hb dX0_rankOf_5 rfl (lv_at hl 0 rfl) ?_
  refine lv_iload_n hx hb dX0_rankOf_6 rfl (lv_at hl 1 rfl) ?_
  refine kr_vI (n := 1) (As := [.int (nI k)]) (rest := []) ⟨hx, hb, hml, hown, hts⟩ (c_X0_rankInKind l D cy h a N L A k (by omega) (by omega)) kg_RX0_110 ⟨rfl, rfl⟩ (by decide +kernel) ⟨Nat.le_of_ble_eq_true rfl, Nat.le_of_ble_eq_true rfl⟩ (kr_pv0 hP hK) rfl hl.1 rfl (Nat.le_of_ble_eq_true rfl) dX0_rankOf_7 ⟨Nat.zero_le _, Nat.zero_le _⟩ (fun r9 e9 => ?_)
  subst e9
  exact kr_eI hx hb hr hlocks rfl rfl dX0_rankOf_10
theorem kg_RX0_113 : GoodIn kr_all (wsV RX0 113 RX0 yX0_knotWithRank (Cond.code yX0_knotWithRank cX0_knotWithRank 4 (some .int) :: kr_all)) := kr_gV kq_472 kq_474 kq_22 kq_48 kq_475
set_option maxHeartbeats 4000000 in
set_option maxRecDepth 100000 in
theorem c_X0_knotAt (l : Launch) (D : va_G) (cy : ClassId) (h : Nat) (a : Nat → Nat) (N L : Nat) (A : Nat → Nat → Int32) (kd rk : Int32) (hN : N ≤ 16) (hkd : kd = 0 ∨ kd = 1) (hv0 : ¬ kr_kw A N kd rk N 0 = -1) : Met l yX0_knotAt (Cond.code yX0_knotAt cX0_knotAt 4 (some .int) :: kr_all) ({ frames := 3, cells := 0, slots := 0, locals := 68 }) (va_Pc [.ref h, .int kd, .int rk] (kr_R D (kr_W0 cy h a N L A) cy)) (vp_Si (fun r => r = kr_kw A N kd rk N 0)) 0 0 (fun _ => False) := by
  refine kr_of (by decide) (Nat.le_of_ble_eq_true rfl) ?_
  intro p e s m below meth c ls hx hb hml hr hts hown hlocks hin hv hl
  obtain ⟨hP, hK⟩ := hv
  have hown : s.vm.findClass RX0 = some m.cls := hown
  have hl : lv_has ls 4 [(0, .ref h), (1, .int kd), (2, .int rk)] := hl
  refine lv_iload_n hx hb dX0_knotAt_0 rfl (lv_at hl 1 rfl) ?_
  refine kr_sV (n := 1) (As := [.int kd]) (rest := []) ⟨hx, hb, hml, hown, hts⟩ (c_X0_checkKind l kd (by assumption)) kg_RX0_41 ⟨rfl, rfl⟩ (by decide +kernel) ⟨Nat.le_of_ble_eq_true rfl, Nat.le_of_ble_eq_true rfl⟩ ⟨kr_blT, fun U hU hW => ⟨rfl, trivial⟩⟩ rfl hl.1 rfl (Nat.le_of_ble_eq_true rfl) dX0_knotAt_1 ⟨Nat.zero_le _, Nat.zero_le _⟩ ?_
  refine lv_aload_n hx hb dX0_knotAt_4 rfl (lv_at hl 0 rfl) ?_
  refine lv_iload_n hx hb dX0_knotAt_5 rfl (lv_at hl 1 rfl) ?_
  refine lv_iload_n hx hb dX0_knotAt_6 rfl (lv_at hl 2 rfl) ?_
  refine kr_vI (n := 2) (As := [.int kd, .int rk]) (rest := []) ⟨hx, hb, hml, hown, hts⟩ (c_X0_knotWithRank l D cy h a N L A kd rk (by omega)) kg_RX0_113 ⟨rfl, rfl⟩ (by decide +kernel) ⟨Nat.le_of_ble_eq_true rfl, Nat.le_of_ble_eq_true rfl⟩ (kr_pv0 hP hK) rfl hl.1 rfl (Nat.le_of_ble_eq_true rfl) dX0_knotAt_7 ⟨Nat.zero_le _, Nat.zero_le _⟩ (fun r9 e9 => ?_)
  subst e9
  refine lv_istore_n (lv' := [(3, .int (kr_kw A N kd rk N 0)), (0, .ref h), (1, .int kd), (2, .int rk)]) hx hb dX0_knotAt_10 rfl hl (by decide) rfl (fun ls hl => ?_)
  refine lv_iload_n hx hb dX0_knotAt_11 rfl (lv_at hl 0 rfl) ?_
  refine lv_iconst (v := -1) hx hb dX0_knotAt_12 (by decide) ?_
  refine lv_icmp_ne (tgt := 26) hx hb dX0_knotAt_13 (by decide) (fun c13 => ?_) (fun c13 => absurd c13 hv0)
  refine lv_iload_n hx hb dX0_knotAt_26 rfl (lv_at hl 0 rfl) ?_
  exact kr_eI hx hb hr hlocks rfl rfl dX0_knotAt_27
theorem kg_RX0_62 : GoodIn kr_all (wsS RX0 62 yX0_checkLoad (Cond.code yX0_checkLoad cX0_checkLoad 1 none :: kr_all)) := kr_gS kq_357 kq_358 kq_48 kq_359
set_option maxHeartbeats 4000000 in
set_option maxRecDepth 100000 in
theorem c_X0_formOf (l : Launch) (D : va_G) (cy : ClassId) (h : Nat) (a : Nat → Nat) (N L : Nat) (A : Nat → Nat → Int32) (k : Nat) (ld : Int32) (hw : kr_wf N L A) (hk : k < N) (hld : ¬ ld < 1 ∧ ¬ 999 < ld) : Met l yX0_formOf (Cond.code yX0_formOf cX0_formOf 3 (some .int) :: kr_all) ({ frames := 3, cells := 0, slots := 0, locals := 67 }) (va_Pc [.ref h, .int (nI k), .int ld] (kr_R D (kr_W0 cy h a N L A) cy)) (vp_Si (fun r => r = kr_fm A ld 16 (nI k))) 0 0 (fun _ => False) := by
  refine kr_of (by decide) (Nat.le_of_ble_eq_true rfl) ?_
  intro p e s m below meth c ls hx hb hml hr hts hown hlocks hin hv hl
  obtain ⟨hP, hK⟩ := hv
  have hown : s.vm.findClass RX0 = some m.cls := hown
  have hl : lv_has ls 3 [(0, .ref h), (1, .int (nI k)), (2, .int ld)] := hl
  have hN := hw.1
  refine lv_aload_n hx hb dX0_formOf_0 rfl (lv_at hl 0 rfl) ?_
  refine lv_iload_n hx hb dX0_formOf_1 rfl (lv_at hl 1 rfl) ?_
  refine kr_vV (n := 1) (As := [.int (nI k)]) (rest := []) ⟨hx, hb, hml, hown, hts⟩ (c_X0_checkKnot l D cy h a N L A k (by omega) (by omega)) kg_RX0_59 ⟨rfl, rfl⟩ (by decide +kernel) ⟨Nat.le_of_ble_eq_true rfl, Nat.le_of_ble_eq_true rfl⟩ (kr_pv0 hP hK) rfl hl.1 rfl (Nat.le_of_ble_eq_true rfl) dX0_formOf_2 ⟨Nat.zero_le _, Nat.zero_le _⟩ ?_
  refine lv_iload_n hx hb dX0_formOf_5 rfl (lv_at hl 2 rfl) ?_
  refine kr_sV (n := 1) (As := [.int ld]) (rest := []) ⟨hx, hb, hml, hown, hts⟩ (c_X0_checkLoad l ld (by assumption)) kg_RX0_62 ⟨rfl, rfl⟩ (by decide +kernel) ⟨Nat.le_of_ble_eq_true rfl, Nat.le_of_ble_eq_true rfl⟩ ⟨kr_blT, fun U hU hW => ⟨rfl, trivial⟩⟩ rfl hl.1 rfl (Nat.le_of_ble_eq_true rfl) dX0_formOf_6 ⟨Nat.zero_le _, Nat.zero_le _⟩ ?_
  refine lv_aload_n hx hb dX0_formOf_9 rfl (lv_at hl 0 rfl) ?_
  refine lv_iload_n hx hb dX0_formOf_10 rfl (lv_at hl 1 rfl) ?_
  refine lv_iload_n hx hb dX0_formOf_11 rfl (lv_at hl 2 rfl) ?_
  refine kr_vI (n := 2) (As := [.int (nI k), .int ld]) (rest := []) ⟨hx, hb, hml, hown, hts⟩ (c_X0_formUnder l D cy h a N L A (nI k) ld hw (by first | assumption | exact Or.inr ⟨_, by assumption, rfl⟩ | exact hw.tn (by assumption) (by assumption))) kg_RX0_104 ⟨rfl, rfl⟩ (by decide +kernel) ⟨Nat.le_of_ble_eq_true rfl, Nat.le_of_ble_eq_true rfl⟩ (kr_pv0 hP hK) rfl hl.1 rfl (Nat.le_of_ble_eq_true rfl) dX0_formOf_12 ⟨Nat.zero_le _, Nat.zero_le _⟩ (fun r9 e9 => ?_)
  subst e9
  exact kr_eI hx hb hr hlocks rfl rfl dX0_formOf_15
set_option maxHeartbeats 4000000 in
set_option maxRecDepth 100000 in
theorem c_X0_spills (l : Launch) (D : va_G) (cy : ClassId) (h : Nat) (a : Nat → Nat) (N L : Nat) (A : Nat → Nat → Int32) (k : Nat) (ld : Int32) (hw : kr_wf N L A) (hk : k < N) (hld : ¬ ld < 1 ∧ ¬ 999 < ld) : Met l yX0_spills (Cond.code yX0_spills cX0_spills 5 (some .int) :: kr_all) ({ frames := 2, cells := 0, slots := 0, locals := 43 }) (va_Pc [.ref h, .int (nI k), .int ld] (kr_R D (kr_W0 cy h a N L A) cy)) (vp_Si (fun r => r = nI (kr_sp A ld 16 (nI k)))) 0 0 (fun _ => False) := by
  refine kr_of (by decide) (Nat.le_of_ble_eq_true rfl) ?_
  intro p e s m below meth c ls hx hb hml hr hts hown hlocks hin hv hl
  obtain ⟨hP, hK⟩ := hv
  have hown : s.vm.findClass RX0 = some m.cls := hown
  have hl : lv_has ls 5 [(0, .ref h), (1, .int (nI k)), (2, .int ld)] := hl
  have hN := hw.1
  refine lv_aload_n hx hb dX0_spills_0 rfl (lv_at hl 0 rfl) ?_
  refine lv_iload_n hx hb dX0_spills_1 rfl (lv_at hl 1 rfl) ?_
  refine kr_vV (n := 1) (As := [.int (nI k)]) (rest := []) ⟨hx, hb, hml, hown, hts⟩ (c_X0_checkKnot l D cy h a N L A k (by omega) (by omega)) kg_RX0_59 ⟨rfl, rfl⟩ (by decide +kernel) ⟨Nat.le_of_ble_eq_true rfl, Nat.le_of_ble_eq_true rfl⟩ (kr_pv0 hP hK) rfl hl.1 rfl (Nat.le_of_ble_eq_true rfl) dX0_spills_2 ⟨Nat.zero_le _, Nat.zero_le _⟩ ?_
  refine lv_iload_n hx hb dX0_spills_5 rfl (lv_at hl 2 rfl) ?_
  refine kr_sV (n := 1) (As := [.int ld]) (rest := []) ⟨hx, hb, hml, hown, hts⟩ (c_X0_checkLoad l ld (by assumption)) kg_RX0_62 ⟨rfl, rfl⟩ (by decide +kernel) ⟨Nat.le_of_ble_eq_true rfl, Nat.le_of_ble_eq_true rfl⟩ ⟨kr_blT, fun U hU hW => ⟨rfl, trivial⟩⟩ rfl hl.1 rfl (Nat.le_of_ble_eq_true rfl) dX0_spills_6 ⟨Nat.zero_le _, Nat.zero_le _⟩ ?_
  refine lv_iload_n hx hb dX0_spills_9 rfl (lv_at hl 1 rfl) ?_
  refine lv_istore_n (lv' := [(3, .int (nI k)), (0, .ref h), (1, .int (nI k)), (2, .int ld)]) hx hb dX0_spills_10 rfl hl (by decide) rfl (fun ls hl => ?_)
  refine lv_iconst (v := 0) hx hb dX0_spills_11 (by decide) ?_
  refine lv_istore (lv' := [(4, .int 0), (3, .int (nI k)), (0, .ref h), (1, .int (nI k)), (2, .int ld)]) hx hb dX0_spills_12 hl (by decide) rfl (fun ls hl => ?_)
  refine kr_lp (nL := 5) (fun z : Nat × Int32 => [(4, .int (nI z.1)), (3, .int z.2), (0, .ref h), (1, .int (nI k)), (2, .int ld)]) (fun z => z.1 ≤ 16 ∧ kr_kn N z.2 ∧ z.1 + kr_sp A ld (16 - z.1) z.2 = kr_sp A ld 16 (nI k)) (fun z => 16 - z.1) ?_ (0, nI k) ⟨by omega, Or.inr ⟨k, hk, rfl⟩, Nat.zero_add _⟩ (lv_sub hl [0, 1, 2, 3, 4] rfl)
  clear hl
  intro z ls hI hl ih
  obtain ⟨i, f⟩ := z
  have hl : lv_has ls 5 [(4, .int (nI i)), (3, .int f), (0, .ref h), (1, .int (nI k)), (2, .int ld)] := hl
  obtain ⟨hi0, hf, he⟩ : i ≤ 16 ∧ kr_kn N f ∧ i + kr_sp A ld (16 - i) f = kr_sp A ld 16 (nI k) := hI
  refine lv_iload hx hb dX0_spills_14 (lv_at hl 0 rfl) ?_
  refine lv_bipush (v := 16) hx hb dX0_spills_16 (by decide) ?_
  refine lv_icmp_ge (tgt := 43) hx hb dX0_spills_18 (by decide) (fun c18 => ?_) (fun c18 => ?_)
  · have hi2 : i = 16 := by have := kr_ge (b := 16) (by omega) (by decide) c18; omega
    subst hi2
    refine lv_iload hx hb dX0_spills_43 (lv_at hl 0 rfl) ?_
    exact kr_eI hx hb hr hlocks rfl (congrArg nI he) dX0_spills_45
  · have hi : i < 16 := kr_lt (b := 16) (by omega) (by decide) c18
    refine lv_aload_n hx hb dX0_spills_21 rfl (lv_at hl 2 rfl) ?_
    refine lv_iload_n hx hb dX0_spills_22 rfl (lv_at hl 1 rfl) ?_
    refine lv_iload_n hx hb dX0_spills_23 rfl (lv_at hl 4 rfl) ?_
    refine kr_vI (n := 2) (As := [.int f, .int ld]) (rest := []) ⟨hx, hb, hml, hown, hts⟩ (c_X0_spillsUnder l D cy h a N L A f ld hw.1 (by assumption)) kg_RX0_121 ⟨rfl, rfl⟩ (by decide +kernel) ⟨Nat.le_of_ble_eq_true rfl, Nat.le_of_ble_eq_true rfl⟩ (kr_pv0 hP hK) rfl hl.1 rfl (Nat.le_of_ble_eq_true rfl) dX0_spills_24 ⟨Nat.zero_le _, Nat.zero_le _⟩ (fun r9 e9 => ?_)
    subst e9
    refine lv_if_eq (tgt := 43) hx hb dX0_spills_27 (by decide) (fun c27 => ?_) (fun c27 => ?_)
    · rw [kr_sp_no (kr_if0 c27)] at he
      refine lv_iload hx hb dX0_spills_43 (lv_at hl 0 rfl) ?_
      exact kr_eI hx hb hr hlocks rfl (congrArg nI he) dX0_spills_45
    · obtain ⟨j, hj, rfl⟩ := kr_go_kn hN hf (kr_if1 c27)
      rw [kr_sp_go hi (by omega) (kr_if1 c27)] at he
      refine lv_aload_n hx hb dX0_spills_30 rfl (lv_at hl 2 rfl) ?_
      refine va_get (ci := 0) (v := .ref (a 4)) (C := RX0) (T := TX0) (N := 10) hx hb hts kr_wsX0 hown hK hP 0 rfl rfl 4 (by decide) (hts _ kq_69) (fun _ h9 => h9) rfl dX0_spills_31 ?_
      refine lv_iload_n hx hb dX0_spills_34 rfl (lv_at hl 1 rfl) ?_
      refine kr_ald hx hb hK hP 5 0 rfl rfl j (by omega) (by decide) dX0_spills_35 ?_
      refine lv_istore_n (lv' := [(3, .int (A 4 j)), (4, .int (nI i)), (0, .ref h), (1, .int (nI k)), (2, .int ld)]) hx hb dX0_spills_36 rfl hl (by decide) rfl (fun ls hl => ?_)
      refine lv_iinc (v := nI (i + 1)) (lv' := [(4, .int (nI (i + 1))), (3, .int (A 4 j)), (0, .ref h), (1, .int (nI k)), (2, .int ld)]) hx hb dX0_spills_37 hl (k := 1) rfl (kr_inc _) (by decide) rfl (fun ls hl => ?_)
      refine lv_goto (tgt := 14) hx hb dX0_spills_40 (by decide) ?_
      exact ih (i + 1, A 4 j) ls ⟨by omega, hw.kn hj, by show i + 1 + kr_sp A ld (16 - (i + 1)) (A 4 j) = _; omega⟩ (by show 16 - (i + 1) < 16 - i; omega) (lv_sub hl [0, 1, 2, 3, 4] rfl)
set_option maxHeartbeats 4000000 in
set_option maxRecDepth 100000 in
theorem c_X0_fallsApartAt (l : Launch) (D : va_G) (cy : ClassId) (h : Nat) (a : Nat → Nat) (N L : Nat) (A : Nat → Nat → Int32) (k : Nat) (hw : kr_wf N L A) (hk : k < N) : Met l yX0_fallsApartAt (Cond.code yX0_fallsApartAt cX0_fallsApartAt 5 (some .int) :: kr_all) ({ frames := 2, cells := 0, slots := 0, locals := 42 }) (va_Pc [.ref h, .int (nI k)] (kr_R D (kr_W0 cy h a N L A) cy)) (vp_Si (fun r => r = kr_fa A 16 (nI k) 0)) 0 0 (fun _ => False) := by
  refine kr_of (by decide) (Nat.le_of_ble_eq_true rfl) ?_
  intro p e s m below meth c ls hx hb hml hr hts hown hlocks hin hv hl
  obtain ⟨hP, hK⟩ := hv
  have hown : s.vm.findClass RX0 = some m.cls := hown
  have hl : lv_has ls 5 [(0, .ref h), (1, .int (nI k))] := hl
  have hN := hw.1
  refine lv_aload_n hx hb dX0_fallsApartAt_0 rfl (lv_at hl 0 rfl) ?_
  refine lv_iload_n hx hb dX0_fallsApartAt_1 rfl (lv_at hl 1 rfl) ?_
  refine kr_vV (n := 1) (As := [.int (nI k)]) (rest := []) ⟨hx, hb, hml, hown, hts⟩ (c_X0_checkKnot l D cy h a N L A k (by omega) (by omega)) kg_RX0_59 ⟨rfl, rfl⟩ (by decide +kernel) ⟨Nat.le_of_ble_eq_true rfl, Nat.le_of_ble_eq_true rfl⟩ (kr_pv0 hP hK) rfl hl.1 rfl (Nat.le_of_ble_eq_true rfl) dX0_fallsApartAt_2 ⟨Nat.zero_le _, Nat.zero_le _⟩ ?_
  refine lv_iload_n hx hb dX0_fallsApartAt_5 rfl (lv_at hl 1 rfl) ?_
  refine lv_istore_n (lv' := [(2, .int (nI k)), (0, .ref h), (1, .int (nI k))]) hx hb dX0_fallsApartAt_6 rfl hl (by decide) rfl (fun ls hl => ?_)
  refine lv_iconst (v := 0) hx hb dX0_fallsApartAt_7 (by decide) ?_
  refine lv_istore_n (lv' := [(3, .int 0), (2, .int (nI k)), (0, .ref h), (1, .int (nI k))]) hx hb dX0_fallsApartAt_8 rfl hl (by decide) rfl (fun ls hl => ?_)
  refine lv_iconst (v := 0) hx hb dX0_fallsApartAt_9 (by decide) ?_
  refine lv_istore (lv' := [(4, .int 0), (3, .int 0), (2, .int (nI k)), (0, .ref h), (1, .int (nI k))]) hx hb dX0_fallsApartAt_10 hl (by decide) rfl (fun ls hl => ?_)
  refine kr_lp (nL := 5) (fun z : Nat × Int32 × Int32 => [(4, .int (nI z.1)), (3, .int z.2.2), (2, .int z.2.1), (0, .ref h), (1, .int (nI k))]) (fun z => z.1 ≤ 16 ∧ kr_kn N z.2.1 ∧ kr_fa A (16 - z.1) z.2.1 z.2.2 = kr_fa A 16 (nI k) 0) (fun z => 16 - z.1) ?_ (0, nI k, 0) ⟨by omega, Or.inr ⟨k, hk, rfl⟩, rfl⟩ (lv_sub hl [0, 1, 2, 3, 4] rfl)
  clear hl
  intro z ls hI hl ih
  obtain ⟨i, f, g⟩ := z
  have hl : lv_has ls 5 [(4, .int (nI i)), (3, .int g), (2, .int f), (0, .ref h), (1, .int (nI k))] := hl
  obtain ⟨hi0, hf, he⟩ : i ≤ 16 ∧ kr_kn N f ∧ kr_fa A (16 - i) f g = kr_fa A 16 (nI k) 0 := hI
  refine lv_iload hx hb dX0_fallsApartAt_12 (lv_at hl 0 rfl) ?_
  refine lv_bipush (v := 16) hx hb dX0_fallsApartAt_14 (by decide) ?_
  refine lv_icmp_ge (tgt := 62) hx hb dX0_fallsApartAt_16 (by decide) (fun c16 => ?_) (fun c16 => ?_)
  · have hi2 : i = 16 := by have := kr_ge (b := 16) (by omega) (by decide) c16; omega
    subst hi2
    refine lv_iload_n hx hb dX0_fallsApartAt_62 rfl (lv_at hl 1 rfl) ?_
    exact kr_eI hx hb hr hlocks rfl he dX0_fallsApartAt_63
  · have hi : i < 16 := kr_lt (b := 16) (by omega) (by decide) c16
    refine lv_aload_n hx hb dX0_fallsApartAt_19 rfl (lv_at hl 3 rfl) ?_
    refine lv_iload_n hx hb dX0_fallsApartAt_20 rfl (lv_at hl 2 rfl) ?_
    refine kr_vI (n := 1) (As := [.int f]) (rest := []) ⟨hx, hb, hml, hown, hts⟩ (c_X0_isKnot l D cy h a N L A f) kg_RX0_125 ⟨rfl, rfl⟩ (by decide +kernel) ⟨Nat.le_of_ble_eq_true rfl, Nat.le_of_ble_eq_true rfl⟩ (kr_pv0 hP hK) rfl hl.1 rfl (Nat.le_of_ble_eq_true rfl) dX0_fallsApartAt_21 ⟨Nat.zero_le _, Nat.zero_le _⟩ (fun r9 e9 => ?_)
    subst e9
    refine lv_if_eq (tgt := 62) hx hb dX0_fallsApartAt_24 (by decide) (fun c24 => ?_) (fun c24 => ?_)
    · have hf2 := kr_isK3 hN hf (kr_if0 c24)
      subst hf2
      refine lv_iload_n hx hb dX0_fallsApartAt_62 rfl (lv_at hl 1 rfl) ?_
      exact kr_eI hx hb hr hlocks rfl ((kr_fa_no _).symm.trans he) dX0_fallsApartAt_63
    · obtain ⟨j, hj, rfl⟩ := kr_isK hN hf (kr_if1 c24)
      refine lv_aload_n hx hb dX0_fallsApartAt_27 rfl (lv_at hl 3 rfl) ?_
      refine va_get (ci := 0) (v := .ref (a 3)) (C := RX0) (T := TX0) (N := 10) hx hb hts kr_wsX0 hown hK hP 0 rfl rfl 3 (by decide) (hts _ kq_68) (fun _ h9 => h9) rfl dX0_fallsApartAt_28 ?_
      refine lv_iload_n hx hb dX0_fallsApartAt_31 rfl (lv_at hl 2 rfl) ?_
      refine kr_ald hx hb hK hP 4 0 rfl rfl j (by omega) (by decide) dX0_fallsApartAt_32 ?_
      refine lv_if_ne (tgt := 38) hx hb dX0_fallsApartAt_33 (by decide) (fun c33 => ?_) (fun c33 => ?_)
      · rw [kr_fa_s hi (by omega) c33] at he
        refine lv_iload_n hx hb dX0_fallsApartAt_38 rfl (lv_at hl 1 rfl) ?_
        refine lv_aload_n hx hb dX0_fallsApartAt_39 rfl (lv_at hl 3 rfl) ?_
        refine va_get (ci := 0) (v := .ref (a 3)) (C := RX0) (T := TX0) (N := 10) hx hb hts kr_wsX0 hown hK hP 0 rfl rfl 3 (by decide) (hts _ kq_68) (fun _ h9 => h9) rfl dX0_fallsApartAt_40 ?_
        refine lv_iload_n hx hb dX0_fallsApartAt_43 rfl (lv_at hl 2 rfl) ?_
        refine kr_ald hx hb hK hP 4 0 rfl rfl j (by omega) (by decide) dX0_fallsApartAt_44 ?_
        refine va_mmax hx hb (hml.trans hl.1.symm) hown (hts _ kq_211) (hts _ kq_212) (hts _ kq_56) (hts _ kq_213) (Nat.le_of_ble_eq_true rfl) (Nat.le_of_ble_eq_true rfl) (Nat.zero_le _) (Nat.zero_le _) dX0_fallsApartAt_45 ?_
        show W _ _ _ _ _ _ _ _ _ _ _ _ _ _ _ (F0 _ _ _ (.int (kr_mx g (A 3 j)) :: _))
        refine lv_istore_n (lv' := [(3, .int (kr_mx g (A 3 j))), (4, .int (nI i)), (2, .int (nI j)), (0, .ref h), (1, .int (nI k))]) hx hb dX0_fallsApartAt_48 rfl hl (by decide) rfl (fun ls hl => ?_)
        refine lv_aload_n hx hb dX0_fallsApartAt_49 rfl (lv_at hl 3 rfl) ?_
        refine va_get (ci := 0) (v := .ref (a 4)) (C := RX0) (T := TX0) (N := 10) hx hb hts kr_wsX0 hown hK hP 0 rfl rfl 4 (by decide) (hts _ kq_69) (fun _ h9 => h9) rfl dX0_fallsApartAt_50 ?_
        refine lv_iload_n hx hb dX0_fallsApartAt_53 rfl (lv_at hl 2 rfl) ?_
        refine kr_ald hx hb hK hP 5 0 rfl rfl j (by omega) (by decide) dX0_fallsApartAt_54 ?_
        refine lv_istore_n (lv' := [(2, .int (A 4 j)), (3, .int (kr_mx g (A 3 j))), (4, .int (nI i)), (0, .ref h), (1, .int (nI k))]) hx hb dX0_fallsApartAt_55 rfl hl (by decide) rfl (fun ls hl => ?_)
        refine lv_iinc (v := nI (i + 1)) (lv' := [(4, .int (nI (i + 1))), (2, .int (A 4 j)), (3, .int (kr_mx g (A 3 j))), (0, .ref h), (1, .int (nI k))]) hx hb dX0_fallsApartAt_56 hl (k := 2) rfl (kr_inc _) (by decide) rfl (fun ls hl => ?_)
        refine lv_goto (tgt := 12) hx hb dX0_fallsApartAt_59 (by decide) ?_
        exact ih (i + 1, A 4 j, kr_mx g (A 3 j)) ls ⟨by omega, hw.kn hj, he⟩ (by show 16 - (i + 1) < 16 - i; omega) (lv_sub hl [0, 2, 1, 3, 4] rfl)
      · refine lv_iconst (v := 0) hx hb dX0_fallsApartAt_36 (by decide) ?_
        exact kr_eI hx hb hr hlocks rfl ((kr_fa_0 hi (by omega) c33).symm.trans he) dX0_fallsApartAt_37
set_option maxHeartbeats 4000000 in
set_option maxRecDepth 100000 in
theorem c_X0_ropesOf (l : Launch) (D : va_G) (cy : ClassId) (h : Nat) (a : Nat → Nat) (N L : Nat) (A : Nat → Nat → Int32) (q : Nat) (hw : kr_wf N L A) (hq : q < L) : Met l yX0_ropesOf (Cond.code yX0_ropesOf cX0_ropesOf 2 (some .int) :: kr_all) ({ frames := 1, cells := 0, slots := 0, locals := 21 }) (va_Pc [.ref h, .int (nI q)] (kr_R D (kr_W0 cy h a N L A) cy)) (vp_Si (fun r => r = A 5 q)) 0 0 (fun _ => False) := by
  refine kr_of (by decide) (Nat.le_of_ble_eq_true rfl) ?_
  intro p e s m below meth c ls hx hb hml hr hts hown hlocks hin hv hl
  obtain ⟨hP, hK⟩ := hv
  have hown : s.vm.findClass RX0 = some m.cls := hown
  have hl : lv_has ls 2 [(0, .ref h), (1, .int (nI q))] := hl
  have hL := hw.2.1
  refine lv_aload_n hx hb dX0_ropesOf_0 rfl (lv_at hl 0 rfl) ?_
  refine lv_iload_n hx hb dX0_ropesOf_1 rfl (lv_at hl 1 rfl) ?_
  refine kr_vV (n := 1) (As := [.int (nI q)]) (rest := []) ⟨hx, hb, hml, hown, hts⟩ (c_X0_checkLine l D cy h a N L A q (by omega) (by omega)) kg_RX0_82 ⟨rfl, rfl⟩ (by decide +kernel) ⟨Nat.le_of_ble_eq_true rfl, Nat.le_of_ble_eq_true rfl⟩ (kr_pv0 hP hK) rfl hl.1 rfl (Nat.le_of_ble_eq_true rfl) dX0_ropesOf_2 ⟨Nat.zero_le _, Nat.zero_le _⟩ ?_
  refine lv_aload_n hx hb dX0_ropesOf_5 rfl (lv_at hl 0 rfl) ?_
  refine va_get (ci := 0) (v := .ref (a 5)) (C := RX0) (T := TX0) (N := 10) hx hb hts kr_wsX0 hown hK hP 0 rfl rfl 6 (by decide) (hts _ kq_71) (fun _ h9 => h9) rfl dX0_ropesOf_6 ?_
  refine lv_iload_n hx hb dX0_ropesOf_9 rfl (lv_at hl 1 rfl) ?_
  refine kr_ald hx hb hK hP 6 0 rfl rfl q (by omega) (by decide) dX0_ropesOf_10 ?_
  exact kr_eI hx hb hr hlocks rfl rfl dX0_ropesOf_11
theorem kg_RX0_90 : GoodIn kr_all (wsV RX0 90 RX0 yX0_checkPlace (Cond.code yX0_checkPlace cX0_checkPlace 3 none :: kr_all)) := kr_gV kq_294 kq_296 kq_13 kq_48 kq_297
set_option maxHeartbeats 4000000 in
set_option maxRecDepth 100000 in
theorem c_X0_knotOf (l : Launch) (D : va_G) (cy : ClassId) (h : Nat) (a : Nat → Nat) (N L : Nat) (A : Nat → Nat → Int32) (q pl : Nat) (hw : kr_wf N L A) (hq : q < L) (hp : pl < kr_rc A q) : Met l yX0_knotOf (Cond.code yX0_knotOf cX0_knotOf 3 (some .int) :: kr_all) ({ frames := 2, cells := 0, slots := 0, locals := 43 }) (va_Pc [.ref h, .int (nI q), .int (nI pl)] (kr_R D (kr_W0 cy h a N L A) cy)) (vp_Si (fun r => r = A 6 (5 * q + pl))) 0 0 (fun _ => False) := by
  refine kr_of (by decide) (Nat.le_of_ble_eq_true rfl) ?_
  intro p e s m below meth c ls hx hb hml hr hts hown hlocks hin hv hl
  obtain ⟨hP, hK⟩ := hv
  have hown : s.vm.findClass RX0 = some m.cls := hown
  have hl : lv_has ls 3 [(0, .ref h), (1, .int (nI q)), (2, .int (nI pl))] := hl
  have hL := hw.2.1
  obtain ⟨hrc, er⟩ := hw.rc hq
  refine lv_aload_n hx hb dX0_knotOf_0 rfl (lv_at hl 0 rfl) ?_
  refine lv_iload_n hx hb dX0_knotOf_1 rfl (lv_at hl 1 rfl) ?_
  refine lv_iload_n hx hb dX0_knotOf_2 rfl (lv_at hl 2 rfl) ?_
  refine kr_vV (n := 2) (As := [.int (nI q), .int (nI pl)]) (rest := []) ⟨hx, hb, hml, hown, hts⟩ (c_X0_checkPlace l D cy h a N L A q pl hw (by omega) (by omega)) kg_RX0_90 ⟨rfl, rfl⟩ (by decide +kernel) ⟨Nat.le_of_ble_eq_true rfl, Nat.le_of_ble_eq_true rfl⟩ (kr_pv0 hP hK) rfl hl.1 rfl (Nat.le_of_ble_eq_true rfl) dX0_knotOf_3 ⟨Nat.zero_le _, Nat.zero_le _⟩ ?_
  refine lv_aload_n hx hb dX0_knotOf_6 rfl (lv_at hl 0 rfl) ?_
  refine va_get (ci := 0) (v := .ref (a 6)) (C := RX0) (T := TX0) (N := 10) hx hb hts kr_wsX0 hown hK hP 0 rfl rfl 8 (by decide) (hts _ kq_73) (fun _ h9 => h9) rfl dX0_knotOf_7 ?_
  refine lv_iload_n hx hb dX0_knotOf_10 rfl (lv_at hl 1 rfl) ?_
  refine lv_iload_n hx hb dX0_knotOf_11 rfl (lv_at hl 2 rfl) ?_
  refine kr_sI (n := 2) (As := [.int (nI q), .int (nI pl)]) (rest := [.ref (a 6)]) ⟨hx, hb, hml, hown, hts⟩ (c_X0_slot l q pl) kg_RX0_97 ⟨rfl, rfl⟩ (by decide +kernel) ⟨Nat.le_of_ble_eq_true rfl, Nat.le_of_ble_eq_true rfl⟩ ⟨kr_blT, fun U hU hW => ⟨rfl, trivial⟩⟩ rfl hl.1 rfl (Nat.le_of_ble_eq_true rfl) dX0_knotOf_12 ⟨Nat.zero_le _, Nat.zero_le _⟩ (fun r9 e9 => ?_)
  subst e9
  refine kr_ald hx hb hK hP 7 0 rfl rfl (5 * q + pl) (by omega) (by decide) dX0_knotOf_15 ?_
  exact kr_eI hx hb hr hlocks rfl rfl dX0_knotOf_16
theorem kg_RX0_134 : GoodIn kr_all (wsV RX0 134 RX0 yX0_currentStrength (Cond.code yX0_currentStrength cX0_currentStrength 3 (some .int) :: kr_all)) := kr_gV kq_286 kq_288 kq_12 kq_48 kq_289
set_option maxHeartbeats 4000000 in
set_option maxRecDepth 100000 in
theorem c_X0_strengthAt (l : Launch) (D : va_G) (cy : ClassId) (h : Nat) (a : Nat → Nat) (N L : Nat) (A : Nat → Nat → Int32) (q pl : Nat) (hw : kr_wf N L A) (hq : q < L) (hp : pl < kr_rc A q) : Met l yX0_strengthAt (Cond.code yX0_strengthAt cX0_strengthAt 3 (some .int) :: kr_all) ({ frames := 3, cells := 0, slots := 0, locals := 67 }) (va_Pc [.ref h, .int (nI q), .int (nI pl)] (kr_R D (kr_W0 cy h a N L A) cy)) (vp_Si (fun r => r = kr_nw A q pl)) 0 0 (fun _ => False) := by
  refine kr_of (by decide) (Nat.le_of_ble_eq_true rfl) ?_
  intro p e s m below meth c ls hx hb hml hr hts hown hlocks hin hv hl
  obtain ⟨hP, hK⟩ := hv
  have hown : s.vm.findClass RX0 = some m.cls := hown
  have hl : lv_has ls 3 [(0, .ref h), (1, .int (nI q)), (2, .int (nI pl))] := hl
  have hL := hw.2.1
  obtain ⟨hrc, er⟩ := hw.rc hq
  refine lv_aload_n hx hb dX0_strengthAt_0 rfl (lv_at hl 0 rfl) ?_
  refine lv_iload_n hx hb dX0_strengthAt_1 rfl (lv_at hl 1 rfl) ?_
  refine lv_iload_n hx hb dX0_strengthAt_2 rfl (lv_at hl 2 rfl) ?_
  refine kr_vV (n := 2) (As := [.int (nI q), .int (nI pl)]) (rest := []) ⟨hx, hb, hml, hown, hts⟩ (c_X0_checkPlace l D cy h a N L A q pl hw (by omega) (by omega)) kg_RX0_90 ⟨rfl, rfl⟩ (by decide +kernel) ⟨Nat.le_of_ble_eq_true rfl, Nat.le_of_ble_eq_true rfl⟩ (kr_pv0 hP hK) rfl hl.1 rfl (Nat.le_of_ble_eq_true rfl) dX0_strengthAt_3 ⟨Nat.zero_le _, Nat.zero_le _⟩ ?_
  refine lv_aload_n hx hb dX0_strengthAt_6 rfl (lv_at hl 0 rfl) ?_
  refine lv_iload_n hx hb dX0_strengthAt_7 rfl (lv_at hl 1 rfl) ?_
  refine lv_iload_n hx hb dX0_strengthAt_8 rfl (lv_at hl 2 rfl) ?_
  refine kr_vI (n := 2) (As := [.int (nI q), .int (nI pl)]) (rest := []) ⟨hx, hb, hml, hown, hts⟩ (c_X0_currentStrength l D cy h a N L A q pl hw (by omega) (by omega)) kg_RX0_134 ⟨rfl, rfl⟩ (by decide +kernel) ⟨Nat.le_of_ble_eq_true rfl, Nat.le_of_ble_eq_true rfl⟩ (kr_pv0 hP hK) rfl hl.1 rfl (Nat.le_of_ble_eq_true rfl) dX0_strengthAt_9 ⟨Nat.zero_le _, Nat.zero_le _⟩ (fun r9 e9 => ?_)
  subst e9
  exact kr_eI hx hb hr hlocks rfl rfl dX0_strengthAt_12
set_option maxHeartbeats 4000000 in
set_option maxRecDepth 100000 in
theorem c_X0_weakestPlace (l : Launch) (D : va_G) (cy : ClassId) (h : Nat) (a : Nat → Nat) (N L : Nat) (A : Nat → Nat → Int32) (q : Nat) (hw : kr_wf N L A) (hq : q < L) : Met l yX0_weakestPlace (Cond.code yX0_weakestPlace cX0_weakestPlace 6 (some .int) :: kr_all) ({ frames := 3, cells := 0, slots := 0, locals := 67 }) (va_Pc [.ref h, .int (nI q)] (kr_R D (kr_W0 cy h a N L A) cy)) (vp_Si (fun r => r = kr_wk A q (kr_rc A q) 0 (-1))) 0 0 (fun _ => False) := by
  refine kr_of (by decide) (Nat.le_of_ble_eq_true rfl) ?_
  intro p e s m below meth c ls hx hb hml hr hts hown hlocks hin hv hl
  obtain ⟨hP, hK⟩ := hv
  have hown : s.vm.findClass RX0 = some m.cls := hown
  have hl : lv_has ls 6 [(0, .ref h), (1, .int (nI q))] := hl
  have hL := hw.2.1
  obtain ⟨hrc, er⟩ := hw.rc hq
  refine lv_aload_n hx hb dX0_weakestPlace_0 rfl (lv_at hl 0 rfl) ?_
  refine lv_iload_n hx hb dX0_weakestPlace_1 rfl (lv_at hl 1 rfl) ?_
  refine kr_vV (n := 1) (As := [.int (nI q)]) (rest := []) ⟨hx, hb, hml, hown, hts⟩ (c_X0_checkLine l D cy h a N L A q (by omega) (by omega)) kg_RX0_82 ⟨rfl, rfl⟩ (by decide +kernel) ⟨Nat.le_of_ble_eq_true rfl, Nat.le_of_ble_eq_true rfl⟩ (kr_pv0 hP hK) rfl hl.1 rfl (Nat.le_of_ble_eq_true rfl) dX0_weakestPlace_2 ⟨Nat.zero_le _, Nat.zero_le _⟩ ?_
  refine lv_iconst (v := -1) hx hb dX0_weakestPlace_5 (by decide) ?_
  refine lv_istore_n (lv' := [(2, .int (-1)), (0, .ref h), (1, .int (nI q))]) hx hb dX0_weakestPlace_6 rfl hl (by decide) rfl (fun ls hl => ?_)
  refine lv_ldc (v := 2147483647) hx hb hown (hts _ kq_285) dX0_weakestPlace_7 ?_
  refine lv_istore_n (lv' := [(3, .int 2147483647), (2, .int (-1)), (0, .ref h), (1, .int (nI q))]) hx hb dX0_weakestPlace_9 rfl hl (by decide) rfl (fun ls hl => ?_)
  refine lv_iconst (v := 0) hx hb dX0_weakestPlace_10 (by decide) ?_
  refine lv_istore (lv' := [(4, .int 0), (3, .int 2147483647), (2, .int (-1)), (0, .ref h), (1, .int (nI q))]) hx hb dX0_weakestPlace_11 hl (by decide) rfl (fun ls hl => ?_)
  refine kr_lp (nL := 6) (fun z : Nat × Int32 × Int32 => [(4, .int (nI z.1)), (3, .int z.2.2), (2, .int z.2.1), (0, .ref h), (1, .int (nI q))]) (fun z => z.1 ≤ kr_rc A q ∧ ((z.2.1 = -1 ∧ z.2.2 = 2147483647) ∨ ∃ j, j < kr_rc A q ∧ z.2.1 = nI j ∧ z.2.2 = kr_nw A q j) ∧ kr_wk A q (kr_rc A q - z.1) z.1 z.2.1 = kr_wk A q (kr_rc A q) 0 (-1)) (fun z => kr_rc A q - z.1) ?_ (0, -1, 2147483647) ⟨by omega, Or.inl ⟨rfl, rfl⟩, rfl⟩ (lv_sub hl [0, 1, 2, 3, 4] rfl)
  clear hl
  intro z ls hI hl ih
  obtain ⟨i, b, g⟩ := z
  have hl : lv_has ls 6 [(4, .int (nI i)), (3, .int g), (2, .int b), (0, .ref h), (1, .int (nI q))] := hl
  obtain ⟨hi0, hb2, he⟩ : i ≤ kr_rc A q ∧ ((b = -1 ∧ g = 2147483647) ∨ ∃ j, j < kr_rc A q ∧ b = nI j ∧ g = kr_nw A q j) ∧ kr_wk A q (kr_rc A q - i) i b = kr_wk A q (kr_rc A q) 0 (-1) := hI
  refine lv_iload hx hb dX0_weakestPlace_13 (lv_at hl 0 rfl) ?_
  refine lv_aload_n hx hb dX0_weakestPlace_15 rfl (lv_at hl 3 rfl) ?_
  refine va_get (ci := 0) (v := .ref (a 5)) (C := RX0) (T := TX0) (N := 10) hx hb hts kr_wsX0 hown hK hP 0 rfl rfl 6 (by decide) (hts _ kq_71) (fun _ h9 => h9) rfl dX0_weakestPlace_16 ?_
  refine lv_iload_n hx hb dX0_weakestPlace_19 rfl (lv_at hl 4 rfl) ?_
  refine kr_ald hx hb hK hP 6 0 rfl rfl q (by omega) (by decide) dX0_weakestPlace_20 ?_
  rw [er]
  refine lv_icmp_ge (tgt := 51) hx hb dX0_weakestPlace_21 (by decide) (fun c21 => ?_) (fun c21 => ?_)
  · have hi2 : i = kr_rc A q := by have := kr_ge (by omega) (by omega) c21; omega
    subst hi2
    refine lv_iload_n hx hb dX0_weakestPlace_51 rfl (lv_at hl 2 rfl) ?_
    exact kr_eI hx hb hr hlocks rfl (by rw [Nat.sub_self] at he; exact he) dX0_weakestPlace_52
  · have hi : i < kr_rc A q := kr_lt (by omega) (by omega) c21
    rw [kr_wk_s hi] at he
    refine lv_aload_n hx hb dX0_weakestPlace_24 rfl (lv_at hl 3 rfl) ?_
    refine lv_iload_n hx hb dX0_weakestPlace_25 rfl (lv_at hl 4 rfl) ?_
    refine lv_iload hx hb dX0_weakestPlace_26 (lv_at hl 0 rfl) ?_
    refine kr_vI (n := 2) (As := [.int (nI q), .int (nI i)]) (rest := []) ⟨hx, hb, hml, hown, hts⟩ (c_X0_currentStrength l D cy h a N L A q i hw (by omega) (by omega)) kg_RX0_134 ⟨rfl, rfl⟩ (by decide +kernel) ⟨Nat.le_of_ble_eq_true rfl, Nat.le_of_ble_eq_true rfl⟩ (kr_pv0 hP hK) rfl hl.1 rfl (Nat.le_of_ble_eq_true rfl) dX0_weakestPlace_28 ⟨Nat.zero_le _, Nat.zero_le _⟩ (fun r9 e9 => ?_)
    subst e9
    refine lv_istore (lv' := [(5, .int (kr_nw A q i)), (4, .int (nI i)), (3, .int g), (2, .int b), (0, .ref h), (1, .int (nI q))]) hx hb dX0_weakestPlace_31 hl (by decide) rfl (fun ls hl => ?_)
    refine lv_iload hx hb dX0_weakestPlace_33 (lv_at hl 0 rfl) ?_
    refine lv_iload_n hx hb dX0_weakestPlace_35 rfl (lv_at hl 2 rfl) ?_
    refine lv_icmp_ge (tgt := 45) hx hb dX0_weakestPlace_36 (by decide) (fun c36 => ?_) (fun c36 => ?_)
    · have hno : ¬ (b = -1 ∨ kr_nw A q i < kr_nw A q (kr_ix b)) := by
        rcases hb2 with ⟨rfl, rfl⟩ | ⟨j, hj, rfl, rfl⟩
        · exact absurd (kr_nw_lt q i) (kr_ngt2 c36)
        · rw [kr_ix_nI (by omega)]; exact fun z => z.elim (kr_kn_ne (by omega)) (kr_ngt2 c36)
      rw [if_neg hno] at he
      refine lv_iinc (v := nI (i + 1)) (lv' := [(4, .int (nI (i + 1))), (5, .int (kr_nw A q i)), (3, .int g), (2, .int b), (0, .ref h), (1, .int (nI q))]) hx hb dX0_weakestPlace_45 hl (k := 1) rfl (kr_inc _) (by decide) rfl (fun ls hl => ?_)
      refine lv_goto (tgt := 13) hx hb dX0_weakestPlace_48 (by decide) ?_
      exact ih (i + 1, b, g) ls ⟨by omega, hb2, he⟩ (by show kr_rc A q - (i + 1) < kr_rc A q - i; omega) (lv_sub hl [0, 2, 3, 4, 5] rfl)
    · have hyes : b = -1 ∨ kr_nw A q i < kr_nw A q (kr_ix b) := by
        rcases hb2 with ⟨rfl, rfl⟩ | ⟨j, hj, rfl, rfl⟩
        · exact Or.inl rfl
        · rw [kr_ix_nI (by omega)]; exact Or.inr (kr_nle2 c36)
      rw [if_pos hyes] at he
      refine lv_iload hx hb dX0_weakestPlace_39 (lv_at hl 1 rfl) ?_
      refine lv_istore_n (lv' := [(2, .int (nI i)), (5, .int (kr_nw A q i)), (4, .int (nI i)), (3, .int g), (0, .ref h), (1, .int (nI q))]) hx hb dX0_weakestPlace_41 rfl hl (by decide) rfl (fun ls hl => ?_)
      refine lv_iload hx hb dX0_weakestPlace_42 (lv_at hl 1 rfl) ?_
      refine lv_istore_n (lv' := [(3, .int (kr_nw A q i)), (2, .int (nI i)), (5, .int (kr_nw A q i)), (4, .int (nI i)), (0, .ref h), (1, .int (nI q))]) hx hb dX0_weakestPlace_44 rfl hl (by decide) rfl (fun ls hl => ?_)
      refine lv_iinc (v := nI (i + 1)) (lv' := [(4, .int (nI (i + 1))), (3, .int (kr_nw A q i)), (2, .int (nI i)), (5, .int (kr_nw A q i)), (0, .ref h), (1, .int (nI q))]) hx hb dX0_weakestPlace_45 hl (k := 3) rfl (kr_inc _) (by decide) rfl (fun ls hl => ?_)
      refine lv_goto (tgt := 13) hx hb dX0_weakestPlace_48 (by decide) ?_
      exact ih (i + 1, nI i, kr_nw A q i) ls ⟨by omega, Or.inr ⟨i, by omega, rfl, rfl⟩, he⟩ (by show kr_rc A q - (i + 1) < kr_rc A q - i; omega) (lv_sub hl [0, 1, 2, 4, 5] rfl)
theorem kg_RX0_101 : GoodIn kr_all (wsV RX0 101 RX0 yX0_firstPlaceToGiveWay (Cond.code yX0_firstPlaceToGiveWay cX0_firstPlaceToGiveWay 4 (some .int) :: kr_all)) := kr_gV kq_414 kq_416 kq_17 kq_48 kq_417
set_option maxHeartbeats 4000000 in
set_option maxRecDepth 100000 in
theorem c_X0_holds (l : Launch) (D : va_G) (cy : ClassId) (h : Nat) (a : Nat → Nat) (N L : Nat) (A : Nat → Nat → Int32) (q : Nat) (ld : Int32) (hw : kr_wf N L A) (hq : q < L) (hld : ¬ ld < 1 ∧ ¬ 999 < ld) : Met l yX0_holds (Cond.code yX0_holds cX0_holds 3 (some .boolean) :: kr_all) ({ frames := 5, cells := 0, slots := 0, locals := 114 }) (va_Pc [.ref h, .int (nI q), .int ld] (kr_R D (kr_W0 cy h a N L A) cy)) (vp_Si (fun r => r = if ¬ A 5 q = 0 ∧ kr_gw A q ld = -1 then 1 else 0)) 0 0 (fun _ => False) := by
  refine kr_of (by decide) (Nat.le_of_ble_eq_true rfl) ?_
  intro p e s m below meth c ls hx hb hml hr hts hown hlocks hin hv hl
  obtain ⟨hP, hK⟩ := hv
  have hown : s.vm.findClass RX0 = some m.cls := hown
  have hl : lv_has ls 3 [(0, .ref h), (1, .int (nI q)), (2, .int ld)] := hl
  have hL := hw.2.1
  refine lv_aload_n hx hb dX0_holds_0 rfl (lv_at hl 0 rfl) ?_
  refine lv_iload_n hx hb dX0_holds_1 rfl (lv_at hl 1 rfl) ?_
  refine kr_vV (n := 1) (As := [.int (nI q)]) (rest := []) ⟨hx, hb, hml, hown, hts⟩ (c_X0_checkLine l D cy h a N L A q (by omega) (by omega)) kg_RX0_82 ⟨rfl, rfl⟩ (by decide +kernel) ⟨Nat.le_of_ble_eq_true rfl, Nat.le_of_ble_eq_true rfl⟩ (kr_pv0 hP hK) rfl hl.1 rfl (Nat.le_of_ble_eq_true rfl) dX0_holds_2 ⟨Nat.zero_le _, Nat.zero_le _⟩ ?_
  refine lv_iload_n hx hb dX0_holds_5 rfl (lv_at hl 2 rfl) ?_
  refine kr_sV (n := 1) (As := [.int ld]) (rest := []) ⟨hx, hb, hml, hown, hts⟩ (c_X0_checkLoad l ld (by assumption)) kg_RX0_62 ⟨rfl, rfl⟩ (by decide +kernel) ⟨Nat.le_of_ble_eq_true rfl, Nat.le_of_ble_eq_true rfl⟩ ⟨kr_blT, fun U hU hW => ⟨rfl, trivial⟩⟩ rfl hl.1 rfl (Nat.le_of_ble_eq_true rfl) dX0_holds_6 ⟨Nat.zero_le _, Nat.zero_le _⟩ ?_
  refine lv_aload_n hx hb dX0_holds_9 rfl (lv_at hl 0 rfl) ?_
  refine lv_iload_n hx hb dX0_holds_10 rfl (lv_at hl 1 rfl) ?_
  refine kr_vI (n := 1) (As := [.int (nI q)]) (rest := []) ⟨hx, hb, hml, hown, hts⟩ (c_X0_isGone l D cy h a N L A q (by omega)) kg_RX0_140 ⟨rfl, rfl⟩ (by decide +kernel) ⟨Nat.le_of_ble_eq_true rfl, Nat.le_of_ble_eq_true rfl⟩ (kr_pv0 hP hK) rfl hl.1 rfl (Nat.le_of_ble_eq_true rfl) dX0_holds_11 ⟨Nat.zero_le _, Nat.zero_le _⟩ (fun r9 e9 => ?_)
  subst e9
  refine lv_if_ne (tgt := 31) hx hb dX0_holds_14 (by decide) (fun c14 => ?_) (fun c14 => ?_)
  · refine lv_iconst (v := 0) hx hb dX0_holds_31 (by decide) ?_
    exact kr_eZ hx hb hr hlocks rfl (Or.inl rfl) (if_neg (fun z => z.1 (kr_if1 c14))).symm dX0_holds_32
  · refine lv_aload_n hx hb dX0_holds_17 rfl (lv_at hl 0 rfl) ?_
    refine lv_iload_n hx hb dX0_holds_18 rfl (lv_at hl 1 rfl) ?_
    refine lv_iload_n hx hb dX0_holds_19 rfl (lv_at hl 2 rfl) ?_
    refine kr_vI (n := 2) (As := [.int (nI q), .int ld]) (rest := []) ⟨hx, hb, hml, hown, hts⟩ (c_X0_firstPlaceToGiveWay l D cy h a N L A q ld hw (by omega)) kg_RX0_101 ⟨rfl, rfl⟩ (by decide +kernel) ⟨Nat.le_of_ble_eq_true rfl, Nat.le_of_ble_eq_true rfl⟩ (kr_pv0 hP hK) rfl hl.1 rfl (Nat.le_of_ble_eq_true rfl) dX0_holds_20 ⟨Nat.zero_le _, Nat.zero_le _⟩ (fun r9 e9 => ?_)
    subst e9
    refine lv_iconst (v := -1) hx hb dX0_holds_23 (by decide) ?_
    refine lv_icmp_ne (tgt := 31) hx hb dX0_holds_24 (by decide) (fun c24 => ?_) (fun c24 => ?_)
    · refine lv_iconst (v := 0) hx hb dX0_holds_31 (by decide) ?_
      exact kr_eZ hx hb hr hlocks rfl (Or.inl rfl) (if_neg (fun z => c24 z.2)).symm dX0_holds_32
    · refine lv_iconst (v := 1) hx hb dX0_holds_27 (by decide) ?_
      refine lv_goto (tgt := 32) hx hb dX0_holds_28 (by decide) ?_
      exact kr_eZ hx hb hr hlocks rfl (Or.inr rfl) (if_pos ⟨kr_if0 c14, c24⟩).symm dX0_holds_32
theorem kg_RX0_143 : GoodIn kr_all (wsV RX0 143 RX0 yX0_loadHeldWith (Cond.code yX0_loadHeldWith cX0_loadHeldWith 7 (some .int) :: kr_all)) := kr_gV kq_185 kq_187 kq_2 kq_48 kq_188
set_option maxHeartbeats 4000000 in
set_option maxRecDepth 100000 in
theorem c_X0_holdsUpTo (l : Launch) (D : va_G) (cy : ClassId) (h : Nat) (a : Nat → Nat) (N L : Nat) (A : Nat → Nat → Int32) (q : Nat) (hw : kr_wf N L A) (hq : q < L) : Met l yX0_holdsUpTo (Cond.code yX0_holdsUpTo cX0_holdsUpTo 2 (some .int) :: kr_all) ({ frames := 4, cells := 0, slots := 0, locals := 99 }) (va_Pc [.ref h, .int (nI q)] (kr_R D (kr_W0 cy h a N L A) cy)) (vp_Si (fun r => r = kr_hu A q)) 0 0 (fun _ => False) := by
  refine kr_of (by decide) (Nat.le_of_ble_eq_true rfl) ?_
  intro p e s m below meth c ls hx hb hml hr hts hown hlocks hin hv hl
  obtain ⟨hP, hK⟩ := hv
  have hown : s.vm.findClass RX0 = some m.cls := hown
  have hl : lv_has ls 2 [(0, .ref h), (1, .int (nI q))] := hl
  have hL := hw.2.1
  obtain ⟨hrc, er⟩ := hw.rc hq
  refine lv_aload_n hx hb dX0_holdsUpTo_0 rfl (lv_at hl 0 rfl) ?_
  refine lv_iload_n hx hb dX0_holdsUpTo_1 rfl (lv_at hl 1 rfl) ?_
  refine kr_vV (n := 1) (As := [.int (nI q)]) (rest := []) ⟨hx, hb, hml, hown, hts⟩ (c_X0_checkLine l D cy h a N L A q (by omega) (by omega)) kg_RX0_82 ⟨rfl, rfl⟩ (by decide +kernel) ⟨Nat.le_of_ble_eq_true rfl, Nat.le_of_ble_eq_true rfl⟩ (kr_pv0 hP hK) rfl hl.1 rfl (Nat.le_of_ble_eq_true rfl) dX0_holdsUpTo_2 ⟨Nat.zero_le _, Nat.zero_le _⟩ ?_
  refine lv_aload_n hx hb dX0_holdsUpTo_5 rfl (lv_at hl 0 rfl) ?_
  refine lv_iload_n hx hb dX0_holdsUpTo_6 rfl (lv_at hl 1 rfl) ?_
  refine lv_iconst (v := -1) hx hb dX0_holdsUpTo_7 (by decide) ?_
  refine lv_iconst (v := -1) hx hb dX0_holdsUpTo_8 (by decide) ?_
  refine kr_vI (n := 3) (As := [.int (nI q), .int (-1), .int (-1)]) (rest := []) ⟨hx, hb, hml, hown, hts⟩ (c_X0_loadHeldWith l D cy h a N L A q (-1) (-1) hw (by omega) (by first | assumption | exact Or.inl rfl)) kg_RX0_143 ⟨rfl, rfl⟩ (by decide +kernel) ⟨Nat.le_of_ble_eq_true rfl, Nat.le_of_ble_eq_true rfl⟩ (kr_pv0 hP hK) rfl hl.1 rfl (Nat.le_of_ble_eq_true rfl) dX0_holdsUpTo_9 ⟨Nat.zero_le _, Nat.zero_le _⟩ (fun r9 e9 => ?_)
  subst e9
  exact kr_eI hx hb hr hlocks rfl (kr_lu_hu q hrc) dX0_holdsUpTo_12
set_option maxHeartbeats 4000000 in
set_option maxRecDepth 100000 in
theorem c_X0_wouldGiveWay (l : Launch) (D : va_G) (cy : ClassId) (h : Nat) (a : Nat → Nat) (N L : Nat) (A : Nat → Nat → Int32) (q : Nat) (ld : Int32) (hw : kr_wf N L A) (hq : q < L) (hld : ¬ ld < 1 ∧ ¬ 999 < ld) : Met l yX0_wouldGiveWay (Cond.code yX0_wouldGiveWay cX0_wouldGiveWay 3 (some .int) :: kr_all) ({ frames := 5, cells := 0, slots := 0, locals := 114 }) (va_Pc [.ref h, .int (nI q), .int ld] (kr_R D (kr_W0 cy h a N L A) cy)) (vp_Si (fun r => r = kr_gw A q ld)) 0 0 (fun _ => False) := by
  refine kr_of (by decide) (Nat.le_of_ble_eq_true rfl) ?_
  intro p e s m below meth c ls hx hb hml hr hts hown hlocks hin hv hl
  obtain ⟨hP, hK⟩ := hv
  have hown : s.vm.findClass RX0 = some m.cls := hown
  have hl : lv_has ls 3 [(0, .ref h), (1, .int (nI q)), (2, .int ld)] := hl
  have hL := hw.2.1
  refine lv_aload_n hx hb dX0_wouldGiveWay_0 rfl (lv_at hl 0 rfl) ?_
  refine lv_iload_n hx hb dX0_wouldGiveWay_1 rfl (lv_at hl 1 rfl) ?_
  refine kr_vV (n := 1) (As := [.int (nI q)]) (rest := []) ⟨hx, hb, hml, hown, hts⟩ (c_X0_checkLine l D cy h a N L A q (by omega) (by omega)) kg_RX0_82 ⟨rfl, rfl⟩ (by decide +kernel) ⟨Nat.le_of_ble_eq_true rfl, Nat.le_of_ble_eq_true rfl⟩ (kr_pv0 hP hK) rfl hl.1 rfl (Nat.le_of_ble_eq_true rfl) dX0_wouldGiveWay_2 ⟨Nat.zero_le _, Nat.zero_le _⟩ ?_
  refine lv_iload_n hx hb dX0_wouldGiveWay_5 rfl (lv_at hl 2 rfl) ?_
  refine kr_sV (n := 1) (As := [.int ld]) (rest := []) ⟨hx, hb, hml, hown, hts⟩ (c_X0_checkLoad l ld (by assumption)) kg_RX0_62 ⟨rfl, rfl⟩ (by decide +kernel) ⟨Nat.le_of_ble_eq_true rfl, Nat.le_of_ble_eq_true rfl⟩ ⟨kr_blT, fun U hU hW => ⟨rfl, trivial⟩⟩ rfl hl.1 rfl (Nat.le_of_ble_eq_true rfl) dX0_wouldGiveWay_6 ⟨Nat.zero_le _, Nat.zero_le _⟩ ?_
  refine lv_aload_n hx hb dX0_wouldGiveWay_9 rfl (lv_at hl 0 rfl) ?_
  refine lv_iload_n hx hb dX0_wouldGiveWay_10 rfl (lv_at hl 1 rfl) ?_
  refine lv_iload_n hx hb dX0_wouldGiveWay_11 rfl (lv_at hl 2 rfl) ?_
  refine kr_vI (n := 2) (As := [.int (nI q), .int ld]) (rest := []) ⟨hx, hb, hml, hown, hts⟩ (c_X0_firstPlaceToGiveWay l D cy h a N L A q ld hw (by omega)) kg_RX0_101 ⟨rfl, rfl⟩ (by decide +kernel) ⟨Nat.le_of_ble_eq_true rfl, Nat.le_of_ble_eq_true rfl⟩ (kr_pv0 hP hK) rfl hl.1 rfl (Nat.le_of_ble_eq_true rfl) dX0_wouldGiveWay_12 ⟨Nat.zero_le _, Nat.zero_le _⟩ (fun r9 e9 => ?_)
  subst e9
  exact kr_eI hx hb hr hlocks rfl rfl dX0_wouldGiveWay_15
theorem kg_RX0_93 : GoodIn kr_all (wsS RX0 93 yX0_kindDueAt (Cond.code yX0_kindDueAt cX0_kindDueAt 1 (some .int) :: kr_all)) := kr_gS kq_404 kq_405 kq_48 kq_406
set_option maxHeartbeats 4000000 in
set_option maxRecDepth 100000 in
theorem c_X0_bestKnot (l : Launch) (D : va_G) (cy : ClassId) (h : Nat) (a : Nat → Nat) (N L : Nat) (A : Nat → Nat → Int32) (q pl : Nat) (hw : kr_wf N L A) (hq : q < L) (hp : pl < kr_rc A q) : Met l yX0_bestKnot (Cond.code yX0_bestKnot cX0_bestKnot 10 (some .int) :: kr_all) ({ frames := 4, cells := 0, slots := 0, locals := 99 }) (va_Pc [.ref h, .int (nI q), .int (nI pl)] (kr_R D (kr_W0 cy h a N L A) cy)) (vp_Si (fun r => r = kr_bk A N q pl)) 0 0 (fun _ => False) := by
  refine kr_of (by decide) (Nat.le_of_ble_eq_true rfl) ?_
  intro p e s m below meth c ls hx hb hml hr hts hown hlocks hin hv hl
  obtain ⟨hP, hK⟩ := hv
  have hown : s.vm.findClass RX0 = some m.cls := hown
  have hl : lv_has ls 10 [(0, .ref h), (1, .int (nI q)), (2, .int (nI pl))] := hl
  have hN := hw.1
  have hL := hw.2.1
  obtain ⟨hrc, er⟩ := hw.rc hq
  refine lv_aload_n hx hb dX0_bestKnot_0 rfl (lv_at hl 0 rfl) ?_
  refine lv_iload_n hx hb dX0_bestKnot_1 rfl (lv_at hl 1 rfl) ?_
  refine lv_iload_n hx hb dX0_bestKnot_2 rfl (lv_at hl 2 rfl) ?_
  refine kr_vV (n := 2) (As := [.int (nI q), .int (nI pl)]) (rest := []) ⟨hx, hb, hml, hown, hts⟩ (c_X0_checkPlace l D cy h a N L A q pl hw (by omega) (by omega)) kg_RX0_90 ⟨rfl, rfl⟩ (by decide +kernel) ⟨Nat.le_of_ble_eq_true rfl, Nat.le_of_ble_eq_true rfl⟩ (kr_pv0 hP hK) rfl hl.1 rfl (Nat.le_of_ble_eq_true rfl) dX0_bestKnot_3 ⟨Nat.zero_le _, Nat.zero_le _⟩ ?_
  refine lv_iload_n hx hb dX0_bestKnot_6 rfl (lv_at hl 2 rfl) ?_
  refine kr_sI (n := 1) (As := [.int (nI pl)]) (rest := []) ⟨hx, hb, hml, hown, hts⟩ (c_X0_kindDueAt l (nI pl)) kg_RX0_93 ⟨rfl, rfl⟩ (by decide +kernel) ⟨Nat.le_of_ble_eq_true rfl, Nat.le_of_ble_eq_true rfl⟩ ⟨kr_blT, fun U hU hW => ⟨rfl, trivial⟩⟩ rfl hl.1 rfl (Nat.le_of_ble_eq_true rfl) dX0_bestKnot_7 ⟨Nat.zero_le _, Nat.zero_le _⟩ (fun r9 e9 => ?_)
  subst e9
  show W _ _ _ _ _ _ _ _ _ _ _ _ _ _ _ (F0 _ _ _ (.int (kr_kd pl) :: _))
  refine lv_topi (fun kd ekd => ?_)
  refine lv_istore_n (lv' := [(3, .int kd), (0, .ref h), (1, .int (nI q)), (2, .int (nI pl))]) hx hb dX0_bestKnot_10 rfl hl (by decide) rfl (fun ls hl => ?_)
  refine lv_aload_n hx hb dX0_bestKnot_11 rfl (lv_at hl 1 rfl) ?_
  refine lv_iload_n hx hb dX0_bestKnot_12 rfl (lv_at hl 0 rfl) ?_
  refine kr_vI (n := 1) (As := [.int kd]) (rest := []) ⟨hx, hb, hml, hown, hts⟩ (c_X0_countOfKind l D cy h a N L A kd (by omega)) kg_RX0_107 ⟨rfl, rfl⟩ (by decide +kernel) ⟨Nat.le_of_ble_eq_true rfl, Nat.le_of_ble_eq_true rfl⟩ (kr_pv0 hP hK) rfl hl.1 rfl (Nat.le_of_ble_eq_true rfl) dX0_bestKnot_13 ⟨Nat.zero_le _, Nat.zero_le _⟩ (fun r9 e9 => ?_)
  subst e9
  refine lv_istore (lv' := [(4, .int (nI (kr_cn A kd N))), (3, .int kd), (0, .ref h), (1, .int (nI q)), (2, .int (nI pl))]) hx hb dX0_bestKnot_16 hl (by decide) rfl (fun ls hl => ?_)
  refine lv_iconst (v := -1) hx hb dX0_bestKnot_18 (by decide) ?_
  refine lv_istore (lv' := [(5, .int (-1)), (4, .int (nI (kr_cn A kd N))), (3, .int kd), (0, .ref h), (1, .int (nI q)), (2, .int (nI pl))]) hx hb dX0_bestKnot_19 hl (by decide) rfl (fun ls hl => ?_)
  refine lv_iconst (v := -1) hx hb dX0_bestKnot_21 (by decide) ?_
  refine lv_istore (lv' := [(6, .int (-1)), (5, .int (-1)), (4, .int (nI (kr_cn A kd N))), (3, .int kd), (0, .ref h), (1, .int (nI q)), (2, .int (nI pl))]) hx hb dX0_bestKnot_22 hl (by decide) rfl (fun ls hl => ?_)
  refine lv_iconst (v := 0) hx hb dX0_bestKnot_24 (by decide) ?_
  refine lv_istore (lv' := [(7, .int 0), (6, .int (-1)), (5, .int (-1)), (4, .int (nI (kr_cn A kd N))), (3, .int kd), (0, .ref h), (1, .int (nI q)), (2, .int (nI pl))]) hx hb dX0_bestKnot_25 hl (by decide) rfl (fun ls hl => ?_)
  have hcn := kr_cn_le (A := A) (kd := kd) N
  refine kr_lp (nL := 10) (fun z : Nat × Int32 × Int32 => [(7, .int (nI z.1)), (6, .int z.2.2), (5, .int z.2.1), (4, .int (nI (kr_cn A kd N))), (3, .int kd), (0, .ref h), (1, .int (nI q)), (2, .int (nI pl))]) (fun z => z.1 ≤ kr_cn A kd N ∧ kr_bs A N q (nI pl) kd (kr_cn A kd N - z.1) z.1 z.2.1 z.2.2 = kr_bk A N q pl) (fun z => kr_cn A kd N - z.1) ?_ (0, -1, -1) ⟨by omega, by rw [ekd]; rfl⟩ (lv_sub hl [0, 1, 2, 3, 4, 5, 6, 7] rfl)
  clear hl
  intro z ls hI hl ih
  obtain ⟨i, b, g⟩ := z
  have hl : lv_has ls 10 [(7, .int (nI i)), (6, .int g), (5, .int b), (4, .int (nI (kr_cn A kd N))), (3, .int kd), (0, .ref h), (1, .int (nI q)), (2, .int (nI pl))] := hl
  obtain ⟨hi0, he⟩ : i ≤ kr_cn A kd N ∧ kr_bs A N q (nI pl) kd (kr_cn A kd N - i) i b g = kr_bk A N q pl := hI
  refine lv_iload hx hb dX0_bestKnot_27 (lv_at hl 0 rfl) ?_
  refine lv_iload hx hb dX0_bestKnot_29 (lv_at hl 3 rfl) ?_
  refine lv_icmp_ge (tgt := 74) hx hb dX0_bestKnot_31 (by decide) (fun c31 => ?_) (fun c31 => ?_)
  · have hi2 : i = kr_cn A kd N := by have := kr_ge (by omega) (by omega) c31; omega
    subst hi2
    refine lv_iload hx hb dX0_bestKnot_74 (lv_at hl 2 rfl) ?_
    exact kr_eI hx hb hr hlocks rfl (by rw [Nat.sub_self] at he; exact he) dX0_bestKnot_76
  · have hi : i < kr_cn A kd N := kr_lt (by omega) (by omega) c31
    rw [kr_bs_s hi] at he
    refine lv_aload_n hx hb dX0_bestKnot_34 rfl (lv_at hl 5 rfl) ?_
    refine lv_iload_n hx hb dX0_bestKnot_35 rfl (lv_at hl 4 rfl) ?_
    refine lv_iload hx hb dX0_bestKnot_36 (lv_at hl 0 rfl) ?_
    refine kr_vI (n := 2) (As := [.int kd, .int (nI i)]) (rest := []) ⟨hx, hb, hml, hown, hts⟩ (c_X0_knotWithRank l D cy h a N L A kd (nI i) (by omega)) kg_RX0_113 ⟨rfl, rfl⟩ (by decide +kernel) ⟨Nat.le_of_ble_eq_true rfl, Nat.le_of_ble_eq_true rfl⟩ (kr_pv0 hP hK) rfl hl.1 rfl (Nat.le_of_ble_eq_true rfl) dX0_bestKnot_38 ⟨Nat.zero_le _, Nat.zero_le _⟩ (fun r9 e9 => ?_)
    subst e9
    have hkk := kr_kw_kn (A := A) (N := N) (kd := kd) (rk := nI i) N 0 (by omega)
    refine lv_istore (lv' := [(8, .int (kr_kw A N kd (nI i) N 0)), (7, .int (nI i)), (6, .int g), (5, .int b), (4, .int (nI (kr_cn A kd N))), (3, .int kd), (0, .ref h), (1, .int (nI q)), (2, .int (nI pl))]) hx hb dX0_bestKnot_41 hl (by decide) rfl (fun ls hl => ?_)
    refine lv_aload_n hx hb dX0_bestKnot_43 rfl (lv_at hl 6 rfl) ?_
    refine lv_iload_n hx hb dX0_bestKnot_44 rfl (lv_at hl 7 rfl) ?_
    refine lv_iload_n hx hb dX0_bestKnot_45 rfl (lv_at hl 8 rfl) ?_
    refine lv_iload hx hb dX0_bestKnot_46 (lv_at hl 0 rfl) ?_
    refine kr_vI (n := 3) (As := [.int (nI q), .int (nI pl), .int (kr_kw A N kd (nI i) N 0)]) (rest := []) ⟨hx, hb, hml, hown, hts⟩ (c_X0_loadHeldWith l D cy h a N L A q (nI pl) (kr_kw A N kd (nI i) N 0) hw (by omega) (by first | assumption | exact Or.inl rfl)) kg_RX0_143 ⟨rfl, rfl⟩ (by decide +kernel) ⟨Nat.le_of_ble_eq_true rfl, Nat.le_of_ble_eq_true rfl⟩ (kr_pv0 hP hK) rfl hl.1 rfl (Nat.le_of_ble_eq_true rfl) dX0_bestKnot_48 ⟨Nat.zero_le _, Nat.zero_le _⟩ (fun r9 e9 => ?_)
    subst e9
    refine lv_istore (lv' := [(9, .int (kr_lu A q (nI pl) (kr_kw A N kd (nI i) N 0))), (8, .int (kr_kw A N kd (nI i) N 0)), (7, .int (nI i)), (6, .int g), (5, .int b), (4, .int (nI (kr_cn A kd N))), (3, .int kd), (0, .ref h), (1, .int (nI q)), (2, .int (nI pl))]) hx hb dX0_bestKnot_51 hl (by decide) rfl (fun ls hl => ?_)
    refine lv_iload hx hb dX0_bestKnot_53 (lv_at hl 0 rfl) ?_
    refine lv_iload hx hb dX0_bestKnot_55 (lv_at hl 3 rfl) ?_
    refine lv_icmp_le (tgt := 68) hx hb dX0_bestKnot_57 (by decide) (fun c57 => ?_) (fun c57 => ?_)
    · rw [if_neg (kr_ngt2 c57)] at he
      refine lv_iinc (v := nI (i + 1)) (lv' := [(7, .int (nI (i + 1))), (9, .int (kr_lu A q (nI pl) (kr_kw A N kd (nI i) N 0))), (8, .int (kr_kw A N kd (nI i) N 0)), (6, .int g), (5, .int b), (4, .int (nI (kr_cn A kd N))), (3, .int kd), (0, .ref h), (1, .int (nI q)), (2, .int (nI pl))]) hx hb dX0_bestKnot_68 hl (k := 2) rfl (kr_inc _) (by decide) rfl (fun ls hl => ?_)
      refine lv_goto (tgt := 27) hx hb dX0_bestKnot_71 (by decide) ?_
      exact ih (i + 1, b, g) ls ⟨by omega, he⟩ (by show kr_cn A kd N - (i + 1) < kr_cn A kd N - i; omega) (lv_sub hl [0, 3, 4, 5, 6, 7, 8, 9] rfl)
    · rw [if_pos (kr_nle2 c57)] at he
      refine lv_iload hx hb dX0_bestKnot_60 (lv_at hl 1 rfl) ?_
      refine lv_istore (lv' := [(5, .int (kr_kw A N kd (nI i) N 0)), (9, .int (kr_lu A q (nI pl) (kr_kw A N kd (nI i) N 0))), (8, .int (kr_kw A N kd (nI i) N 0)), (7, .int (nI i)), (6, .int g), (4, .int (nI (kr_cn A kd N))), (3, .int kd), (0, .ref h), (1, .int (nI q)), (2, .int (nI pl))]) hx hb dX0_bestKnot_62 hl (by decide) rfl (fun ls hl => ?_)
      refine lv_iload hx hb dX0_bestKnot_64 (lv_at hl 1 rfl) ?_
      refine lv_istore (lv' := [(6, .int (kr_lu A q (nI pl) (kr_kw A N kd (nI i) N 0))), (5, .int (kr_kw A N kd (nI i) N 0)), (9, .int (kr_lu A q (nI pl) (kr_kw A N kd (nI i) N 0))), (8, .int (kr_kw A N kd (nI i) N 0)), (7, .int (nI i)), (4, .int (nI (kr_cn A kd N))), (3, .int kd), (0, .ref h), (1, .int (nI q)), (2, .int (nI pl))]) hx hb dX0_bestKnot_66 hl (by decide) rfl (fun ls hl => ?_)
      refine lv_iinc (v := nI (i + 1)) (lv' := [(7, .int (nI (i + 1))), (6, .int (kr_lu A q (nI pl) (kr_kw A N kd (nI i) N 0))), (5, .int (kr_kw A N kd (nI i) N 0)), (9, .int (kr_lu A q (nI pl) (kr_kw A N kd (nI i) N 0))), (8, .int (kr_kw A N kd (nI i) N 0)), (4, .int (nI (kr_cn A kd N))), (3, .int kd), (0, .ref h), (1, .int (nI q)), (2, .int (nI pl))]) hx hb dX0_bestKnot_68 hl (k := 4) rfl (kr_inc _) (by decide) rfl (fun ls hl => ?_)
      refine lv_goto (tgt := 27) hx hb dX0_bestKnot_71 (by decide) ?_
      exact ih (i + 1, kr_kw A N kd (nI i) N 0, kr_lu A q (nI pl) (kr_kw A N kd (nI i) N 0)) ls ⟨by omega, he⟩ (by show kr_cn A kd N - (i + 1) < kr_cn A kd N - i; omega) (lv_sub hl [0, 1, 2, 5, 6, 7, 8, 9] rfl)
theorem kg_RX0_147 : GoodIn kr_all (wsV RX0 147 RX0 yX0_holdsUpTo (Cond.code yX0_holdsUpTo cX0_holdsUpTo 2 (some .int) :: kr_all)) := kr_gV kq_109 kq_110 kq_111 kq_48 kq_112
set_option maxHeartbeats 4000000 in
set_option maxRecDepth 100000 in
theorem c_X0_strongestLine (l : Launch) (D : va_G) (cy : ClassId) (h : Nat) (a : Nat → Nat) (N L : Nat) (A : Nat → Nat → Int32) (hw : kr_wf N L A) : Met l yX0_strongestLine (Cond.code yX0_strongestLine cX0_strongestLine 5 (some .int) :: kr_all) ({ frames := 5, cells := 0, slots := 0, locals := 120 }) (va_Pc [.ref h] (kr_R D (kr_W0 cy h a N L A) cy)) (vp_Si (fun r => r = kr_sg A L 0 (-1))) 0 0 (fun _ => False) := by
  refine kr_of (by decide) (Nat.le_of_ble_eq_true rfl) ?_
  intro p e s m below meth c ls hx hb hml hr hts hown hlocks hin hv hl
  obtain ⟨hP, hK⟩ := hv
  have hown : s.vm.findClass RX0 = some m.cls := hown
  have hl : lv_has ls 5 [(0, .ref h)] := hl
  have hL := hw.2.1
  refine lv_iconst (v := -1) hx hb dX0_strongestLine_0 (by decide) ?_
  refine lv_istore_n (lv' := [(1, .int (-1)), (0, .ref h)]) hx hb dX0_strongestLine_1 rfl hl (by decide) rfl (fun ls hl => ?_)
  refine lv_iconst (v := -1) hx hb dX0_strongestLine_2 (by decide) ?_
  refine lv_istore_n (lv' := [(2, .int (-1)), (1, .int (-1)), (0, .ref h)]) hx hb dX0_strongestLine_3 rfl hl (by decide) rfl (fun ls hl => ?_)
  refine lv_iconst (v := 0) hx hb dX0_strongestLine_4 (by decide) ?_
  refine lv_istore_n (lv' := [(3, .int 0), (2, .int (-1)), (1, .int (-1)), (0, .ref h)]) hx hb dX0_strongestLine_5 rfl hl (by decide) rfl (fun ls hl => ?_)
  refine kr_lp (nL := 5) (fun z : Nat × Int32 × Int32 => [(3, .int (nI z.1)), (2, .int z.2.2), (1, .int z.2.1), (0, .ref h)]) (fun z => z.1 ≤ L ∧ ((z.2.1 = -1 ∧ z.2.2 = -1) ∨ ∃ j, j < L ∧ z.2.1 = nI j ∧ z.2.2 = kr_hu A j) ∧ kr_sg A (L - z.1) z.1 z.2.1 = kr_sg A L 0 (-1)) (fun z => L - z.1) ?_ (0, -1, -1) ⟨by omega, Or.inl ⟨rfl, rfl⟩, rfl⟩ (lv_sub hl [0, 1, 2, 3] rfl)
  clear hl
  intro z ls hI hl ih
  obtain ⟨i, b, g⟩ := z
  have hl : lv_has ls 5 [(3, .int (nI i)), (2, .int g), (1, .int b), (0, .ref h)] := hl
  obtain ⟨hi0, hb2, he⟩ : i ≤ L ∧ ((b = -1 ∧ g = -1) ∨ ∃ j, j < L ∧ b = nI j ∧ g = kr_hu A j) ∧ kr_sg A (L - i) i b = kr_sg A L 0 (-1) := hI
  refine lv_iload_n hx hb dX0_strongestLine_6 rfl (lv_at hl 0 rfl) ?_
  refine lv_aload_n hx hb dX0_strongestLine_7 rfl (lv_at hl 3 rfl) ?_
  refine va_get (ci := 0) (v := .int (nI L)) (C := RX0) (T := TX0) (N := 10) hx hb hts kr_wsX0 hown hK hP 0 rfl rfl 7 (by decide) (hts _ kq_72) (fun _ h9 => h9) rfl dX0_strongestLine_8 ?_
  refine lv_icmp_ge (tgt := 38) hx hb dX0_strongestLine_11 (by decide) (fun c11 => ?_) (fun c11 => ?_)
  · have hi2 : i = L := by have := kr_ge (by omega) (by omega) c11; omega
    subst hi2
    refine lv_iload_n hx hb dX0_strongestLine_38 rfl (lv_at hl 2 rfl) ?_
    exact kr_eI hx hb hr hlocks rfl (by rw [Nat.sub_self] at he; exact he) dX0_strongestLine_39
  · have hi : i < L := kr_lt (by omega) (by omega) c11
    rw [kr_sg_s hi] at he
    refine lv_aload_n hx hb dX0_strongestLine_14 rfl (lv_at hl 3 rfl) ?_
    refine lv_iload_n hx hb dX0_strongestLine_15 rfl (lv_at hl 0 rfl) ?_
    refine kr_vI (n := 1) (As := [.int (nI i)]) (rest := []) ⟨hx, hb, hml, hown, hts⟩ (c_X0_holdsUpTo l D cy h a N L A i hw (by omega)) kg_RX0_147 ⟨rfl, rfl⟩ (by decide +kernel) ⟨Nat.le_of_ble_eq_true rfl, Nat.le_of_ble_eq_true rfl⟩ (kr_pv0 hP hK) rfl hl.1 rfl (Nat.le_of_ble_eq_true rfl) dX0_strongestLine_16 ⟨Nat.zero_le _, Nat.zero_le _⟩ (fun r9 e9 => ?_)
    subst e9
    refine lv_istore (lv' := [(4, .int (kr_hu A i)), (3, .int (nI i)), (2, .int g), (1, .int b), (0, .ref h)]) hx hb dX0_strongestLine_19 hl (by decide) rfl (fun ls hl => ?_)
    refine lv_iload hx hb dX0_strongestLine_21 (lv_at hl 0 rfl) ?_
    refine lv_iload_n hx hb dX0_strongestLine_23 rfl (lv_at hl 2 rfl) ?_
    refine lv_icmp_le (tgt := 32) hx hb dX0_strongestLine_24 (by decide) (fun c24 => ?_) (fun c24 => ?_)
    · have hno : ¬ (b = -1 ∨ kr_hu A (kr_ix b) < kr_hu A i) := by
        rcases hb2 with ⟨rfl, rfl⟩ | ⟨j, hj, rfl, rfl⟩
        · exact absurd c24 (kr_hu_nn i)
        · rw [kr_ix_nI (by omega)]; exact fun z => z.elim (kr_kn_ne (by omega)) (kr_ngt2 c24)
      rw [if_neg hno] at he
      refine lv_iinc (v := nI (i + 1)) (lv' := [(3, .int (nI (i + 1))), (4, .int (kr_hu A i)), (2, .int g), (1, .int b), (0, .ref h)]) hx hb dX0_strongestLine_32 hl (k := 1) rfl (kr_inc _) (by decide) rfl (fun ls hl => ?_)
      refine lv_goto (tgt := 6) hx hb dX0_strongestLine_35 (by decide) ?_
      exact ih (i + 1, b, g) ls ⟨by omega, hb2, he⟩ (by show L - (i + 1) < L - i; omega) (lv_sub hl [0, 2, 3, 4] rfl)
    · have hyes : b = -1 ∨ kr_hu A (kr_ix b) < kr_hu A i := by
        rcases hb2 with ⟨rfl, rfl⟩ | ⟨j, hj, rfl, rfl⟩
        · exact Or.inl rfl
        · rw [kr_ix_nI (by omega)]; exact Or.inr (kr_nle2 c24)
      rw [if_pos hyes] at he
      refine lv_iload_n hx hb dX0_strongestLine_27 rfl (lv_at hl 1 rfl) ?_
      refine lv_istore_n (lv' := [(1, .int (nI i)), (4, .int (kr_hu A i)), (3, .int (nI i)), (2, .int g), (0, .ref h)]) hx hb dX0_strongestLine_28 rfl hl (by decide) rfl (fun ls hl => ?_)
      refine lv_iload hx hb dX0_strongestLine_29 (lv_at hl 1 rfl) ?_
      refine lv_istore_n (lv' := [(2, .int (kr_hu A i)), (1, .int (nI i)), (4, .int (kr_hu A i)), (3, .int (nI i)), (0, .ref h)]) hx hb dX0_strongestLine_31 rfl hl (by decide) rfl (fun ls hl => ?_)
      refine lv_iinc (v := nI (i + 1)) (lv' := [(3, .int (nI (i + 1))), (2, .int (kr_hu A i)), (1, .int (nI i)), (4, .int (kr_hu A i)), (0, .ref h)]) hx hb dX0_strongestLine_32 hl (k := 3) rfl (kr_inc _) (by decide) rfl (fun ls hl => ?_)
      refine lv_goto (tgt := 6) hx hb dX0_strongestLine_35 (by decide) ?_
      exact ih (i + 1, nI i, kr_hu A i) ls ⟨by omega, Or.inr ⟨i, by omega, rfl, rfl⟩, he⟩ (by show L - (i + 1) < L - i; omega) (lv_sub hl [0, 1, 2, 4] rfl)
theorem kg_RX0_166 : GoodIn kr_all (wsV RX0 166 RX0 yX0_kindOf (Cond.code yX0_kindOf cX0_kindOf 2 (some .int) :: kr_all)) := kr_gV kq_232 kq_233 kq_234 kq_48 kq_235
theorem kg_RX0_152 : GoodIn kr_all (wsS RX0 152 yX0_digestWith (Cond.code yX0_digestWith cX0_digestWith 3 (some .long) :: kr_all)) := kr_gS kq_223 kq_224 kq_48 kq_225
theorem kg_RX0_169 : GoodIn kr_all (wsV RX0 169 RX0 yX0_efficiencyOf (Cond.code yX0_efficiencyOf cX0_efficiencyOf 2 (some .int) :: kr_all)) := kr_gV kq_241 kq_242 kq_243 kq_48 kq_244
theorem kg_RX0_172 : GoodIn kr_all (wsV RX0 172 RX0 yX0_crossingsOf (Cond.code yX0_crossingsOf cX0_crossingsOf 2 (some .int) :: kr_all)) := kr_gV kq_245 kq_246 kq_247 kq_48 kq_248
theorem kg_RX0_175 : GoodIn kr_all (wsV RX0 175 RX0 yX0_spillsAt (Cond.code yX0_spillsAt cX0_spillsAt 2 (some .int) :: kr_all)) := kr_gV kq_249 kq_250 kq_251 kq_48 kq_252
theorem kg_RX0_178 : GoodIn kr_all (wsV RX0 178 RX0 yX0_spillsInto (Cond.code yX0_spillsInto cX0_spillsInto 2 (some .int) :: kr_all)) := kr_gV kq_253 kq_254 kq_255 kq_48 kq_256
theorem kg_RX0_181 : GoodIn kr_all (wsV RX0 181 RX0 yX0_rankOf (Cond.code yX0_rankOf cX0_rankOf 2 (some .int) :: kr_all)) := kr_gV kq_257 kq_258 kq_259 kq_48 kq_260
theorem kg_RX0_184 : GoodIn kr_all (wsV RX0 184 RX0 yX0_fallsApartAt (Cond.code yX0_fallsApartAt cX0_fallsApartAt 5 (some .int) :: kr_all)) := kr_gV kq_269 kq_270 kq_271 kq_48 kq_272
set_option maxHeartbeats 4000000 in
set_option maxRecDepth 100000 in
theorem c_X0_digestWithKnot (l : Launch) (D : va_G) (cy : ClassId) (h : Nat) (a : Nat → Nat) (N L : Nat) (A : Nat → Nat → Int32) (d0 : Int64) (k : Nat) (hw : kr_wf N L A) (hk : k < N) : Met l yX0_digestWithKnot (Cond.code yX0_digestWithKnot cX0_digestWithKnot 6 (some .long) :: kr_all) ({ frames := 3, cells := 0, slots := 0, locals := 66 }) (va_Pc [.ref h, .long d0, .int (nI k)] (kr_R D (kr_W0 cy h a N L A) cy)) (vp_Sl (fun r => r = kr_dk A N d0 k)) 0 0 (fun _ => False) := by
  refine kr_of (by decide) (Nat.le_of_ble_eq_true rfl) ?_
  intro p e s m below meth c ls hx hb hml hr hts hown hlocks hin hv hl
  obtain ⟨hP, hK⟩ := hv
  have hown : s.vm.findClass RX0 = some m.cls := hown
  have hl : lv_has ls 6 [(0, .ref h), (1, .long d0), (3, .int (nI k))] := hl
  have hN := hw.1
  refine lv_lload_n hx hb dX0_digestWithKnot_0 rfl (lv_at hl 1 rfl) ?_
  refine lv_lstore (lv' := [(4, .long d0), (0, .ref h), (1, .long d0), (3, .int (nI k))]) hx hb dX0_digestWithKnot_1 hl (by decide) rfl (fun ls hl => ?_)
  refine lv_lload hx hb dX0_digestWithKnot_3 (lv_at hl 0 rfl) ?_
  refine lv_aload_n hx hb dX0_digestWithKnot_5 rfl (lv_at hl 1 rfl) ?_
  refine lv_iload_n hx hb dX0_digestWithKnot_6 rfl (lv_at hl 3 rfl) ?_
  refine kr_vI (n := 1) (As := [.int (nI k)]) (rest := [.long d0]) ⟨hx, hb, hml, hown, hts⟩ (c_X0_kindOf l D cy h a N L A k (by omega) (by omega)) kg_RX0_166 ⟨rfl, rfl⟩ (by decide +kernel) ⟨Nat.le_of_ble_eq_true rfl, Nat.le_of_ble_eq_true rfl⟩ (kr_pv0 hP hK) rfl hl.1 rfl (Nat.le_of_ble_eq_true rfl) dX0_digestWithKnot_7 ⟨Nat.zero_le _, Nat.zero_le _⟩ (fun r9 e9 => ?_)
  subst e9
  refine kr_sL (n := 2) (As := [.long d0, .int (A 0 k)]) (rest := []) ⟨hx, hb, hml, hown, hts⟩ (c_X0_digestWith l d0 (A 0 k)) kg_RX0_152 ⟨rfl, rfl⟩ (by decide +kernel) ⟨Nat.le_of_ble_eq_true rfl, Nat.le_of_ble_eq_true rfl⟩ ⟨kr_blT, fun U hU hW => ⟨rfl, trivial⟩⟩ rfl hl.1 rfl (Nat.le_of_ble_eq_true rfl) dX0_digestWithKnot_10 ⟨Nat.zero_le _, Nat.zero_le _⟩ (fun r9 e9 => ?_)
  subst e9
  refine lv_lstore (lv' := [(4, .long (kr_dw d0 (A 0 k))), (0, .ref h), (1, .long d0), (3, .int (nI k))]) hx hb dX0_digestWithKnot_13 hl (by decide) rfl (fun ls hl => ?_)
  refine lv_lload hx hb dX0_digestWithKnot_15 (lv_at hl 0 rfl) ?_
  refine lv_aload_n hx hb dX0_digestWithKnot_17 rfl (lv_at hl 1 rfl) ?_
  refine lv_iload_n hx hb dX0_digestWithKnot_18 rfl (lv_at hl 3 rfl) ?_
  refine kr_vI (n := 1) (As := [.int (nI k)]) (rest := [.long (kr_dw d0 (A 0 k))]) ⟨hx, hb, hml, hown, hts⟩ (c_X0_efficiencyOf l D cy h a N L A k (by omega) (by omega)) kg_RX0_169 ⟨rfl, rfl⟩ (by decide +kernel) ⟨Nat.le_of_ble_eq_true rfl, Nat.le_of_ble_eq_true rfl⟩ (kr_pv0 hP hK) rfl hl.1 rfl (Nat.le_of_ble_eq_true rfl) dX0_digestWithKnot_19 ⟨Nat.zero_le _, Nat.zero_le _⟩ (fun r9 e9 => ?_)
  subst e9
  refine kr_sL (n := 2) (As := [.long (kr_dw d0 (A 0 k)), .int (A 1 k)]) (rest := []) ⟨hx, hb, hml, hown, hts⟩ (c_X0_digestWith l (kr_dw d0 (A 0 k)) (A 1 k)) kg_RX0_152 ⟨rfl, rfl⟩ (by decide +kernel) ⟨Nat.le_of_ble_eq_true rfl, Nat.le_of_ble_eq_true rfl⟩ ⟨kr_blT, fun U hU hW => ⟨rfl, trivial⟩⟩ rfl hl.1 rfl (Nat.le_of_ble_eq_true rfl) dX0_digestWithKnot_22 ⟨Nat.zero_le _, Nat.zero_le _⟩ (fun r9 e9 => ?_)
  subst e9
  refine lv_lstore (lv' := [(4, .long (kr_dw (kr_dw d0 (A 0 k)) (A 1 k))), (0, .ref h), (1, .long d0), (3, .int (nI k))]) hx hb dX0_digestWithKnot_25 hl (by decide) rfl (fun ls hl => ?_)
  refine lv_lload hx hb dX0_digestWithKnot_27 (lv_at hl 0 rfl) ?_
  refine lv_aload_n hx hb dX0_digestWithKnot_29 rfl (lv_at hl 1 rfl) ?_
  refine lv_iload_n hx hb dX0_digestWithKnot_30 rfl (lv_at hl 3 rfl) ?_
  refine kr_vI (n := 1) (As := [.int (nI k)]) (rest := [.long (kr_dw (kr_dw d0 (A 0 k)) (A 1 k))]) ⟨hx, hb, hml, hown, hts⟩ (c_X0_crossingsOf l D cy h a N L A k (by omega) (by omega)) kg_RX0_172 ⟨rfl, rfl⟩ (by decide +kernel) ⟨Nat.le_of_ble_eq_true rfl, Nat.le_of_ble_eq_true rfl⟩ (kr_pv0 hP hK) rfl hl.1 rfl (Nat.le_of_ble_eq_true rfl) dX0_digestWithKnot_31 ⟨Nat.zero_le _, Nat.zero_le _⟩ (fun r9 e9 => ?_)
  subst e9
  refine kr_sL (n := 2) (As := [.long (kr_dw (kr_dw d0 (A 0 k)) (A 1 k)), .int (A 2 k)]) (rest := []) ⟨hx, hb, hml, hown, hts⟩ (c_X0_digestWith l (kr_dw (kr_dw d0 (A 0 k)) (A 1 k)) (A 2 k)) kg_RX0_152 ⟨rfl, rfl⟩ (by decide +kernel) ⟨Nat.le_of_ble_eq_true rfl, Nat.le_of_ble_eq_true rfl⟩ ⟨kr_blT, fun U hU hW => ⟨rfl, trivial⟩⟩ rfl hl.1 rfl (Nat.le_of_ble_eq_true rfl) dX0_digestWithKnot_34 ⟨Nat.zero_le _, Nat.zero_le _⟩ (fun r9 e9 => ?_)
  subst e9
  refine lv_lstore (lv' := [(4, .long (kr_dw (kr_dw (kr_dw d0 (A 0 k)) (A 1 k)) (A 2 k))), (0, .ref h), (1, .long d0), (3, .int (nI k))]) hx hb dX0_digestWithKnot_37 hl (by decide) rfl (fun ls hl => ?_)
  refine lv_lload hx hb dX0_digestWithKnot_39 (lv_at hl 0 rfl) ?_
  refine lv_aload_n hx hb dX0_digestWithKnot_41 rfl (lv_at hl 1 rfl) ?_
  refine lv_iload_n hx hb dX0_digestWithKnot_42 rfl (lv_at hl 3 rfl) ?_
  refine kr_vI (n := 1) (As := [.int (nI k)]) (rest := [.long (kr_dw (kr_dw (kr_dw d0 (A 0 k)) (A 1 k)) (A 2 k))]) ⟨hx, hb, hml, hown, hts⟩ (c_X0_spillsAt l D cy h a N L A k (by omega) (by omega)) kg_RX0_175 ⟨rfl, rfl⟩ (by decide +kernel) ⟨Nat.le_of_ble_eq_true rfl, Nat.le_of_ble_eq_true rfl⟩ (kr_pv0 hP hK) rfl hl.1 rfl (Nat.le_of_ble_eq_true rfl) dX0_digestWithKnot_43 ⟨Nat.zero_le _, Nat.zero_le _⟩ (fun r9 e9 => ?_)
  subst e9
  refine kr_sL (n := 2) (As := [.long (kr_dw (kr_dw (kr_dw d0 (A 0 k)) (A 1 k)) (A 2 k)), .int (A 3 k)]) (rest := []) ⟨hx, hb, hml, hown, hts⟩ (c_X0_digestWith l (kr_dw (kr_dw (kr_dw d0 (A 0 k)) (A 1 k)) (A 2 k)) (A 3 k)) kg_RX0_152 ⟨rfl, rfl⟩ (by decide +kernel) ⟨Nat.le_of_ble_eq_true rfl, Nat.le_of_ble_eq_true rfl⟩ ⟨kr_blT, fun U hU hW => ⟨rfl, trivial⟩⟩ rfl hl.1 rfl (Nat.le_of_ble_eq_true rfl) dX0_digestWithKnot_46 ⟨Nat.zero_le _, Nat.zero_le _⟩ (fun r9 e9 => ?_)
  subst e9
  refine lv_lstore (lv' := [(4, .long (kr_dw (kr_dw (kr_dw (kr_dw d0 (A 0 k)) (A 1 k)) (A 2 k)) (A 3 k))), (0, .ref h), (1, .long d0), (3, .int (nI k))]) hx hb dX0_digestWithKnot_49 hl (by decide) rfl (fun ls hl => ?_)
  refine lv_lload hx hb dX0_digestWithKnot_51 (lv_at hl 0 rfl) ?_
  refine lv_aload_n hx hb dX0_digestWithKnot_53 rfl (lv_at hl 1 rfl) ?_
  refine lv_iload_n hx hb dX0_digestWithKnot_54 rfl (lv_at hl 3 rfl) ?_
  refine kr_vI (n := 1) (As := [.int (nI k)]) (rest := [.long (kr_dw (kr_dw (kr_dw (kr_dw d0 (A 0 k)) (A 1 k)) (A 2 k)) (A 3 k))]) ⟨hx, hb, hml, hown, hts⟩ (c_X0_spillsInto l D cy h a N L A k (by omega) (by omega)) kg_RX0_178 ⟨rfl, rfl⟩ (by decide +kernel) ⟨Nat.le_of_ble_eq_true rfl, Nat.le_of_ble_eq_true rfl⟩ (kr_pv0 hP hK) rfl hl.1 rfl (Nat.le_of_ble_eq_true rfl) dX0_digestWithKnot_55 ⟨Nat.zero_le _, Nat.zero_le _⟩ (fun r9 e9 => ?_)
  subst e9
  refine kr_sL (n := 2) (As := [.long (kr_dw (kr_dw (kr_dw (kr_dw d0 (A 0 k)) (A 1 k)) (A 2 k)) (A 3 k)), .int (A 4 k)]) (rest := []) ⟨hx, hb, hml, hown, hts⟩ (c_X0_digestWith l (kr_dw (kr_dw (kr_dw (kr_dw d0 (A 0 k)) (A 1 k)) (A 2 k)) (A 3 k)) (A 4 k)) kg_RX0_152 ⟨rfl, rfl⟩ (by decide +kernel) ⟨Nat.le_of_ble_eq_true rfl, Nat.le_of_ble_eq_true rfl⟩ ⟨kr_blT, fun U hU hW => ⟨rfl, trivial⟩⟩ rfl hl.1 rfl (Nat.le_of_ble_eq_true rfl) dX0_digestWithKnot_58 ⟨Nat.zero_le _, Nat.zero_le _⟩ (fun r9 e9 => ?_)
  subst e9
  refine lv_lstore (lv' := [(4, .long (kr_dw (kr_dw (kr_dw (kr_dw (kr_dw d0 (A 0 k)) (A 1 k)) (A 2 k)) (A 3 k)) (A 4 k))), (0, .ref h), (1, .long d0), (3, .int (nI k))]) hx hb dX0_digestWithKnot_61 hl (by decide) rfl (fun ls hl => ?_)
  refine lv_lload hx hb dX0_digestWithKnot_63 (lv_at hl 0 rfl) ?_
  refine lv_aload_n hx hb dX0_digestWithKnot_65 rfl (lv_at hl 1 rfl) ?_
  refine lv_iload_n hx hb dX0_digestWithKnot_66 rfl (lv_at hl 3 rfl) ?_
  refine kr_vI (n := 1) (As := [.int (nI k)]) (rest := [.long (kr_dw (kr_dw (kr_dw (kr_dw (kr_dw d0 (A 0 k)) (A 1 k)) (A 2 k)) (A 3 k)) (A 4 k))]) ⟨hx, hb, hml, hown, hts⟩ (c_X0_rankOf l D cy h a N L A k (by omega) (by omega)) kg_RX0_181 ⟨rfl, rfl⟩ (by decide +kernel) ⟨Nat.le_of_ble_eq_true rfl, Nat.le_of_ble_eq_true rfl⟩ (kr_pv0 hP hK) rfl hl.1 rfl (Nat.le_of_ble_eq_true rfl) dX0_digestWithKnot_67 ⟨Nat.zero_le _, Nat.zero_le _⟩ (fun r9 e9 => ?_)
  subst e9
  refine kr_sL (n := 2) (As := [.long (kr_dw (kr_dw (kr_dw (kr_dw (kr_dw d0 (A 0 k)) (A 1 k)) (A 2 k)) (A 3 k)) (A 4 k)), .int (nI (kr_rk A k N))]) (rest := []) ⟨hx, hb, hml, hown, hts⟩ (c_X0_digestWith l (kr_dw (kr_dw (kr_dw (kr_dw (kr_dw d0 (A 0 k)) (A 1 k)) (A 2 k)) (A 3 k)) (A 4 k)) (nI (kr_rk A k N))) kg_RX0_152 ⟨rfl, rfl⟩ (by decide +kernel) ⟨Nat.le_of_ble_eq_true rfl, Nat.le_of_ble_eq_true rfl⟩ ⟨kr_blT, fun U hU hW => ⟨rfl, trivial⟩⟩ rfl hl.1 rfl (Nat.le_of_ble_eq_true rfl) dX0_digestWithKnot_70 ⟨Nat.zero_le _, Nat.zero_le _⟩ (fun r9 e9 => ?_)
  subst e9
  refine lv_lstore (lv' := [(4, .long (kr_dw (kr_dw (kr_dw (kr_dw (kr_dw (kr_dw d0 (A 0 k)) (A 1 k)) (A 2 k)) (A 3 k)) (A 4 k)) (nI (kr_rk A k N)))), (0, .ref h), (1, .long d0), (3, .int (nI k))]) hx hb dX0_digestWithKnot_73 hl (by decide) rfl (fun ls hl => ?_)
  refine lv_lload hx hb dX0_digestWithKnot_75 (lv_at hl 0 rfl) ?_
  refine lv_aload_n hx hb dX0_digestWithKnot_77 rfl (lv_at hl 1 rfl) ?_
  refine lv_iload_n hx hb dX0_digestWithKnot_78 rfl (lv_at hl 3 rfl) ?_
  refine kr_vI (n := 1) (As := [.int (nI k)]) (rest := [.long (kr_dw (kr_dw (kr_dw (kr_dw (kr_dw (kr_dw d0 (A 0 k)) (A 1 k)) (A 2 k)) (A 3 k)) (A 4 k)) (nI (kr_rk A k N)))]) ⟨hx, hb, hml, hown, hts⟩ (c_X0_fallsApartAt l D cy h a N L A k hw (by omega)) kg_RX0_184 ⟨rfl, rfl⟩ (by decide +kernel) ⟨Nat.le_of_ble_eq_true rfl, Nat.le_of_ble_eq_true rfl⟩ (kr_pv0 hP hK) rfl hl.1 rfl (Nat.le_of_ble_eq_true rfl) dX0_digestWithKnot_79 ⟨Nat.zero_le _, Nat.zero_le _⟩ (fun r9 e9 => ?_)
  subst e9
  refine kr_sL (n := 2) (As := [.long (kr_dw (kr_dw (kr_dw (kr_dw (kr_dw (kr_dw d0 (A 0 k)) (A 1 k)) (A 2 k)) (A 3 k)) (A 4 k)) (nI (kr_rk A k N))), .int (kr_fa A 16 (nI k) 0)]) (rest := []) ⟨hx, hb, hml, hown, hts⟩ (c_X0_digestWith l (kr_dw (kr_dw (kr_dw (kr_dw (kr_dw (kr_dw d0 (A 0 k)) (A 1 k)) (A 2 k)) (A 3 k)) (A 4 k)) (nI (kr_rk A k N))) (kr_fa A 16 (nI k) 0)) kg_RX0_152 ⟨rfl, rfl⟩ (by decide +kernel) ⟨Nat.le_of_ble_eq_true rfl, Nat.le_of_ble_eq_true rfl⟩ ⟨kr_blT, fun U hU hW => ⟨rfl, trivial⟩⟩ rfl hl.1 rfl (Nat.le_of_ble_eq_true rfl) dX0_digestWithKnot_82 ⟨Nat.zero_le _, Nat.zero_le _⟩ (fun r9 e9 => ?_)
  subst e9
  exact kr_eL hx hb hr hlocks rfl rfl dX0_digestWithKnot_85
theorem kg_RX0_187 : GoodIn kr_all (wsV RX0 187 RX0 yX0_ropesOf (Cond.code yX0_ropesOf cX0_ropesOf 2 (some .int) :: kr_all)) := kr_gV kq_277 kq_278 kq_279 kq_48 kq_280
theorem kg_RX0_190 : GoodIn kr_all (wsV RX0 190 RX0 yX0_weakestPlace (Cond.code yX0_weakestPlace cX0_weakestPlace 6 (some .int) :: kr_all)) := kr_gV kq_281 kq_282 kq_283 kq_48 kq_284
theorem kg_RX0_193 : GoodIn kr_all (wsV RX0 193 RX0 yX0_knotOf (Cond.code yX0_knotOf cX0_knotOf 3 (some .int) :: kr_all)) := kr_gV kq_290 kq_291 kq_292 kq_48 kq_293
theorem kg_RX0_196 : GoodIn kr_all (wsV RX0 196 RX0 yX0_strengthAt (Cond.code yX0_strengthAt cX0_strengthAt 3 (some .int) :: kr_all)) := kr_gV kq_299 kq_300 kq_301 kq_48 kq_302
set_option maxHeartbeats 4000000 in
set_option maxRecDepth 100000 in
theorem c_X0_digestWithLine (l : Launch) (D : va_G) (cy : ClassId) (h : Nat) (a : Nat → Nat) (N L : Nat) (A : Nat → Nat → Int32) (d0 : Int64) (q : Nat) (hw : kr_wf N L A) (hq : q < L) : Met l yX0_digestWithLine (Cond.code yX0_digestWithLine cX0_digestWithLine 7 (some .long) :: kr_all) ({ frames := 5, cells := 0, slots := 0, locals := 120 }) (va_Pc [.ref h, .long d0, .int (nI q)] (kr_R D (kr_W0 cy h a N L A) cy)) (vp_Sl (fun r => r = kr_dl A d0 q)) 0 0 (fun _ => False) := by
  refine kr_of (by decide) (Nat.le_of_ble_eq_true rfl) ?_
  intro p e s m below meth c ls hx hb hml hr hts hown hlocks hin hv hl
  obtain ⟨hP, hK⟩ := hv
  have hown : s.vm.findClass RX0 = some m.cls := hown
  have hl : lv_has ls 7 [(0, .ref h), (1, .long d0), (3, .int (nI q))] := hl
  have hL := hw.2.1
  obtain ⟨hrc, er⟩ := hw.rc hq
  refine lv_lload_n hx hb dX0_digestWithLine_0 rfl (lv_at hl 1 rfl) ?_
  refine lv_lstore (lv' := [(4, .long d0), (0, .ref h), (1, .long d0), (3, .int (nI q))]) hx hb dX0_digestWithLine_1 hl (by decide) rfl (fun ls hl => ?_)
  refine lv_lload hx hb dX0_digestWithLine_3 (lv_at hl 0 rfl) ?_
  refine lv_aload_n hx hb dX0_digestWithLine_5 rfl (lv_at hl 1 rfl) ?_
  refine lv_iload_n hx hb dX0_digestWithLine_6 rfl (lv_at hl 3 rfl) ?_
  refine kr_vI (n := 1) (As := [.int (nI q)]) (rest := [.long d0]) ⟨hx, hb, hml, hown, hts⟩ (c_X0_ropesOf l D cy h a N L A q hw (by omega)) kg_RX0_187 ⟨rfl, rfl⟩ (by decide +kernel) ⟨Nat.le_of_ble_eq_true rfl, Nat.le_of_ble_eq_true rfl⟩ (kr_pv0 hP hK) rfl hl.1 rfl (Nat.le_of_ble_eq_true rfl) dX0_digestWithLine_7 ⟨Nat.zero_le _, Nat.zero_le _⟩ (fun r9 e9 => ?_)
  subst e9
  refine kr_sL (n := 2) (As := [.long d0, .int (A 5 q)]) (rest := []) ⟨hx, hb, hml, hown, hts⟩ (c_X0_digestWith l d0 (A 5 q)) kg_RX0_152 ⟨rfl, rfl⟩ (by decide +kernel) ⟨Nat.le_of_ble_eq_true rfl, Nat.le_of_ble_eq_true rfl⟩ ⟨kr_blT, fun U hU hW => ⟨rfl, trivial⟩⟩ rfl hl.1 rfl (Nat.le_of_ble_eq_true rfl) dX0_digestWithLine_10 ⟨Nat.zero_le _, Nat.zero_le _⟩ (fun r9 e9 => ?_)
  subst e9
  refine lv_lstore (lv' := [(4, .long (kr_dw d0 (A 5 q))), (0, .ref h), (1, .long d0), (3, .int (nI q))]) hx hb dX0_digestWithLine_13 hl (by decide) rfl (fun ls hl => ?_)
  refine lv_lload hx hb dX0_digestWithLine_15 (lv_at hl 0 rfl) ?_
  refine lv_aload_n hx hb dX0_digestWithLine_17 rfl (lv_at hl 1 rfl) ?_
  refine lv_iload_n hx hb dX0_digestWithLine_18 rfl (lv_at hl 3 rfl) ?_
  refine kr_vI (n := 1) (As := [.int (nI q)]) (rest := [.long (kr_dw d0 (A 5 q))]) ⟨hx, hb, hml, hown, hts⟩ (c_X0_holdsUpTo l D cy h a N L A q hw (by omega)) kg_RX0_147 ⟨rfl, rfl⟩ (by decide +kernel) ⟨Nat.le_of_ble_eq_true rfl, Nat.le_of_ble_eq_true rfl⟩ (kr_pv0 hP hK) rfl hl.1 rfl (Nat.le_of_ble_eq_true rfl) dX0_digestWithLine_19 ⟨Nat.zero_le _, Nat.zero_le _⟩ (fun r9 e9 => ?_)
  subst e9
  refine kr_sL (n := 2) (As := [.long (kr_dw d0 (A 5 q)), .int (kr_hu A q)]) (rest := []) ⟨hx, hb, hml, hown, hts⟩ (c_X0_digestWith l (kr_dw d0 (A 5 q)) (kr_hu A q)) kg_RX0_152 ⟨rfl, rfl⟩ (by decide +kernel) ⟨Nat.le_of_ble_eq_true rfl, Nat.le_of_ble_eq_true rfl⟩ ⟨kr_blT, fun U hU hW => ⟨rfl, trivial⟩⟩ rfl hl.1 rfl (Nat.le_of_ble_eq_true rfl) dX0_digestWithLine_22 ⟨Nat.zero_le _, Nat.zero_le _⟩ (fun r9 e9 => ?_)
  subst e9
  refine lv_lstore (lv' := [(4, .long (kr_dw (kr_dw d0 (A 5 q)) (kr_hu A q))), (0, .ref h), (1, .long d0), (3, .int (nI q))]) hx hb dX0_digestWithLine_25 hl (by decide) rfl (fun ls hl => ?_)
  refine lv_lload hx hb dX0_digestWithLine_27 (lv_at hl 0 rfl) ?_
  refine lv_aload_n hx hb dX0_digestWithLine_29 rfl (lv_at hl 1 rfl) ?_
  refine lv_iload_n hx hb dX0_digestWithLine_30 rfl (lv_at hl 3 rfl) ?_
  refine kr_vI (n := 1) (As := [.int (nI q)]) (rest := [.long (kr_dw (kr_dw d0 (A 5 q)) (kr_hu A q))]) ⟨hx, hb, hml, hown, hts⟩ (c_X0_weakestPlace l D cy h a N L A q hw (by omega)) kg_RX0_190 ⟨rfl, rfl⟩ (by decide +kernel) ⟨Nat.le_of_ble_eq_true rfl, Nat.le_of_ble_eq_true rfl⟩ (kr_pv0 hP hK) rfl hl.1 rfl (Nat.le_of_ble_eq_true rfl) dX0_digestWithLine_31 ⟨Nat.zero_le _, Nat.zero_le _⟩ (fun r9 e9 => ?_)
  subst e9
  refine kr_sL (n := 2) (As := [.long (kr_dw (kr_dw d0 (A 5 q)) (kr_hu A q)), .int (kr_wk A q (kr_rc A q) 0 (-1))]) (rest := []) ⟨hx, hb, hml, hown, hts⟩ (c_X0_digestWith l (kr_dw (kr_dw d0 (A 5 q)) (kr_hu A q)) (kr_wk A q (kr_rc A q) 0 (-1))) kg_RX0_152 ⟨rfl, rfl⟩ (by decide +kernel) ⟨Nat.le_of_ble_eq_true rfl, Nat.le_of_ble_eq_true rfl⟩ ⟨kr_blT, fun U hU hW => ⟨rfl, trivial⟩⟩ rfl hl.1 rfl (Nat.le_of_ble_eq_true rfl) dX0_digestWithLine_34 ⟨Nat.zero_le _, Nat.zero_le _⟩ (fun r9 e9 => ?_)
  subst e9
  refine lv_lstore (lv' := [(4, .long (kr_dw (kr_dw (kr_dw d0 (A 5 q)) (kr_hu A q)) (kr_wk A q (kr_rc A q) 0 (-1)))), (0, .ref h), (1, .long d0), (3, .int (nI q))]) hx hb dX0_digestWithLine_37 hl (by decide) rfl (fun ls hl => ?_)
  refine lv_iconst (v := 0) hx hb dX0_digestWithLine_39 (by decide) ?_
  refine lv_istore (lv' := [(6, .int 0), (4, .long (kr_dw (kr_dw (kr_dw d0 (A 5 q)) (kr_hu A q)) (kr_wk A q (kr_rc A q) 0 (-1)))), (0, .ref h), (1, .long d0), (3, .int (nI q))]) hx hb dX0_digestWithLine_40 hl (by decide) rfl (fun ls hl => ?_)
  refine kr_lp (nL := 7) (fun z : Nat × Int64 => [(6, .int (nI z.1)), (4, .long z.2), (0, .ref h), (1, .long d0), (3, .int (nI q))]) (fun z => z.1 ≤ kr_rc A q ∧ kr_dp A q (kr_rc A q - z.1) z.1 z.2 = kr_dl A d0 q) (fun z => kr_rc A q - z.1) ?_ (0, kr_dw (kr_dw (kr_dw d0 (A 5 q)) (kr_hu A q)) (kr_wk A q (kr_rc A q) 0 (-1))) ⟨by omega, rfl⟩ (lv_sub hl [0, 1, 2, 3, 4] rfl)
  clear hl
  intro z ls hI hl ih
  obtain ⟨i, d⟩ := z
  have hl : lv_has ls 7 [(6, .int (nI i)), (4, .long d), (0, .ref h), (1, .long d0), (3, .int (nI q))] := hl
  obtain ⟨hi0, he⟩ : i ≤ kr_rc A q ∧ kr_dp A q (kr_rc A q - i) i d = kr_dl A d0 q := hI
  refine lv_iload hx hb dX0_digestWithLine_42 (lv_at hl 0 rfl) ?_
  refine lv_aload_n hx hb dX0_digestWithLine_44 rfl (lv_at hl 2 rfl) ?_
  refine va_get (ci := 0) (v := .ref (a 5)) (C := RX0) (T := TX0) (N := 10) hx hb hts kr_wsX0 hown hK hP 0 rfl rfl 6 (by decide) (hts _ kq_71) (fun _ h9 => h9) rfl dX0_digestWithLine_45 ?_
  refine lv_iload_n hx hb dX0_digestWithLine_48 rfl (lv_at hl 4 rfl) ?_
  refine kr_ald hx hb hK hP 6 0 rfl rfl q (by omega) (by decide) dX0_digestWithLine_49 ?_
  rw [er]
  refine lv_icmp_ge (tgt := 87) hx hb dX0_digestWithLine_50 (by decide) (fun c50 => ?_) (fun c50 => ?_)
  · have hi2 : i = kr_rc A q := by have := kr_ge (by omega) (by omega) c50; omega
    subst hi2
    refine lv_lload hx hb dX0_digestWithLine_87 (lv_at hl 1 rfl) ?_
    exact kr_eL hx hb hr hlocks rfl (by rw [Nat.sub_self] at he; exact he) dX0_digestWithLine_89
  · have hi : i < kr_rc A q := kr_lt (by omega) (by omega) c50
    rw [kr_dp_s hi] at he
    refine lv_lload hx hb dX0_digestWithLine_53 (lv_at hl 1 rfl) ?_
    refine lv_aload_n hx hb dX0_digestWithLine_55 rfl (lv_at hl 2 rfl) ?_
    refine lv_iload_n hx hb dX0_digestWithLine_56 rfl (lv_at hl 4 rfl) ?_
    refine lv_iload hx hb dX0_digestWithLine_57 (lv_at hl 0 rfl) ?_
    refine kr_vI (n := 2) (As := [.int (nI q), .int (nI i)]) (rest := [.long d]) ⟨hx, hb, hml, hown, hts⟩ (c_X0_knotOf l D cy h a N L A q i hw (by omega) (by omega)) kg_RX0_193 ⟨rfl, rfl⟩ (by decide +kernel) ⟨Nat.le_of_ble_eq_true rfl, Nat.le_of_ble_eq_true rfl⟩ (kr_pv0 hP hK) rfl hl.1 rfl (Nat.le_of_ble_eq_true rfl) dX0_digestWithLine_59 ⟨Nat.zero_le _, Nat.zero_le _⟩ (fun r9 e9 => ?_)
    subst e9
    refine kr_sL (n := 2) (As := [.long d, .int (A 6 (5 * q + i))]) (rest := []) ⟨hx, hb, hml, hown, hts⟩ (c_X0_digestWith l d (A 6 (5 * q + i))) kg_RX0_152 ⟨rfl, rfl⟩ (by decide +kernel) ⟨Nat.le_of_ble_eq_true rfl, Nat.le_of_ble_eq_true rfl⟩ ⟨kr_blT, fun U hU hW => ⟨rfl, trivial⟩⟩ rfl hl.1 rfl (Nat.le_of_ble_eq_true rfl) dX0_digestWithLine_62 ⟨Nat.zero_le _, Nat.zero_le _⟩ (fun r9 e9 => ?_)
    subst e9
    refine lv_lstore (lv' := [(4, .long (kr_dw d (A 6 (5 * q + i)))), (6, .int (nI i)), (0, .ref h), (1, .long d0), (3, .int (nI q))]) hx hb dX0_digestWithLine_65 hl (by decide) rfl (fun ls hl => ?_)
    refine lv_lload hx hb dX0_digestWithLine_67 (lv_at hl 0 rfl) ?_
    refine lv_aload_n hx hb dX0_digestWithLine_69 rfl (lv_at hl 2 rfl) ?_
    refine lv_iload_n hx hb dX0_digestWithLine_70 rfl (lv_at hl 4 rfl) ?_
    refine lv_iload hx hb dX0_digestWithLine_71 (lv_at hl 1 rfl) ?_
    refine kr_vI (n := 2) (As := [.int (nI q), .int (nI i)]) (rest := [.long (kr_dw d (A 6 (5 * q + i)))]) ⟨hx, hb, hml, hown, hts⟩ (c_X0_strengthAt l D cy h a N L A q i hw (by omega) (by omega)) kg_RX0_196 ⟨rfl, rfl⟩ (by decide +kernel) ⟨Nat.le_of_ble_eq_true rfl, Nat.le_of_ble_eq_true rfl⟩ (kr_pv0 hP hK) rfl hl.1 rfl (Nat.le_of_ble_eq_true rfl) dX0_digestWithLine_73 ⟨Nat.zero_le _, Nat.zero_le _⟩ (fun r9 e9 => ?_)
    subst e9
    refine kr_sL (n := 2) (As := [.long (kr_dw d (A 6 (5 * q + i))), .int (kr_nw A q i)]) (rest := []) ⟨hx, hb, hml, hown, hts⟩ (c_X0_digestWith l (kr_dw d (A 6 (5 * q + i))) (kr_nw A q i)) kg_RX0_152 ⟨rfl, rfl⟩ (by decide +kernel) ⟨Nat.le_of_ble_eq_true rfl, Nat.le_of_ble_eq_true rfl⟩ ⟨kr_blT, fun U hU hW => ⟨rfl, trivial⟩⟩ rfl hl.1 rfl (Nat.le_of_ble_eq_true rfl) dX0_digestWithLine_76 ⟨Nat.zero_le _, Nat.zero_le _⟩ (fun r9 e9 => ?_)
    subst e9
    refine lv_lstore (lv' := [(4, .long (kr_dw (kr_dw d (A 6 (5 * q + i))) (kr_nw A q i))), (6, .int (nI i)), (0, .ref h), (1, .long d0), (3, .int (nI q))]) hx hb dX0_digestWithLine_79 hl (by decide) rfl (fun ls hl => ?_)
    refine lv_iinc (v := nI (i + 1)) (lv' := [(6, .int (nI (i + 1))), (4, .long (kr_dw (kr_dw d (A 6 (5 * q + i))) (kr_nw A q i))), (0, .ref h), (1, .long d0), (3, .int (nI q))]) hx hb dX0_digestWithLine_81 hl (k := 1) rfl (kr_inc _) (by decide) rfl (fun ls hl => ?_)
    refine lv_goto (tgt := 42) hx hb dX0_digestWithLine_84 (by decide) ?_
    exact ih (i + 1, kr_dw (kr_dw d (A 6 (5 * q + i))) (kr_nw A q i)) ls ⟨by omega, he⟩ (by show kr_rc A q - (i + 1) < kr_rc A q - i; omega) (lv_sub hl [0, 1, 2, 3, 4] rfl)
theorem kg_RX0_156 : GoodIn kr_all (wsV RX0 156 RX0 yX0_strongestLine (Cond.code yX0_strongestLine cX0_strongestLine 5 (some .int) :: kr_all)) := kr_gV kq_227 kq_106 kq_107 kq_48 kq_108
theorem kg_RX0_163 : GoodIn kr_all (wsV RX0 163 RX0 yX0_digestWithLine (Cond.code yX0_digestWithLine cX0_digestWithLine 7 (some .long) :: kr_all)) := kr_gV kq_273 kq_275 kq_11 kq_48 kq_276
theorem kg_RX0_160 : GoodIn kr_all (wsV RX0 160 RX0 yX0_digestWithKnot (Cond.code yX0_digestWithKnot cX0_digestWithKnot 6 (some .long) :: kr_all)) := kr_gV kq_228 kq_230 kq_7 kq_48 kq_231
set_option maxHeartbeats 4000000 in
set_option maxRecDepth 100000 in
theorem c_X0_digest (l : Launch) (D : va_G) (cy : ClassId) (h : Nat) (a : Nat → Nat) (N L : Nat) (A : Nat → Nat → Int32) (hw : kr_wf N L A) : Met l yX0_digest (Cond.code yX0_digest cX0_digest 4 (some .long) :: kr_all) ({ frames := 6, cells := 0, slots := 0, locals := 146 }) (va_Pc [.ref h] (kr_R D (kr_W0 cy h a N L A) cy)) (vp_Sl (fun r => r = kr_dg N L A)) 0 0 (fun _ => False) := by
  refine kr_of (by decide) (Nat.le_of_ble_eq_true rfl) ?_
  intro p e s m below meth c ls hx hb hml hr hts hown hlocks hin hv hl
  obtain ⟨hP, hK⟩ := hv
  have hown : s.vm.findClass RX0 = some m.cls := hown
  have hl : lv_has ls 4 [(0, .ref h)] := hl
  have hN := hw.1
  have hL := hw.2.1
  refine lv_ldc2 (v := 2063) hx hb hown (hts _ kq_222) dX0_digest_0 ?_
  refine lv_lstore_n (lv' := [(1, .long 2063), (0, .ref h)]) hx hb dX0_digest_3 rfl hl (by decide) rfl (fun ls hl => ?_)
  refine lv_lload_n hx hb dX0_digest_4 rfl (lv_at hl 0 rfl) ?_
  refine lv_aload_n hx hb dX0_digest_5 rfl (lv_at hl 1 rfl) ?_
  refine va_get (ci := 0) (v := .int (nI N)) (C := RX0) (T := TX0) (N := 10) hx hb hts kr_wsX0 hown hK hP 0 rfl rfl 5 (by decide) (hts _ kq_70) (fun _ h9 => h9) rfl dX0_digest_6 ?_
  refine kr_sL (n := 2) (As := [.long 2063, .int (nI N)]) (rest := []) ⟨hx, hb, hml, hown, hts⟩ (c_X0_digestWith l 2063 (nI N)) kg_RX0_152 ⟨rfl, rfl⟩ (by decide +kernel) ⟨Nat.le_of_ble_eq_true rfl, Nat.le_of_ble_eq_true rfl⟩ ⟨kr_blT, fun U hU hW => ⟨rfl, trivial⟩⟩ rfl hl.1 rfl (Nat.le_of_ble_eq_true rfl) dX0_digest_9 ⟨Nat.zero_le _, Nat.zero_le _⟩ (fun r9 e9 => ?_)
  subst e9
  refine lv_lstore_n (lv' := [(1, .long (kr_dw 2063 (nI N))), (0, .ref h)]) hx hb dX0_digest_12 rfl hl (by decide) rfl (fun ls hl => ?_)
  refine lv_lload_n hx hb dX0_digest_13 rfl (lv_at hl 0 rfl) ?_
  refine lv_aload_n hx hb dX0_digest_14 rfl (lv_at hl 1 rfl) ?_
  refine va_get (ci := 0) (v := .int (nI L)) (C := RX0) (T := TX0) (N := 10) hx hb hts kr_wsX0 hown hK hP 0 rfl rfl 7 (by decide) (hts _ kq_72) (fun _ h9 => h9) rfl dX0_digest_15 ?_
  refine kr_sL (n := 2) (As := [.long (kr_dw 2063 (nI N)), .int (nI L)]) (rest := []) ⟨hx, hb, hml, hown, hts⟩ (c_X0_digestWith l (kr_dw 2063 (nI N)) (nI L)) kg_RX0_152 ⟨rfl, rfl⟩ (by decide +kernel) ⟨Nat.le_of_ble_eq_true rfl, Nat.le_of_ble_eq_true rfl⟩ ⟨kr_blT, fun U hU hW => ⟨rfl, trivial⟩⟩ rfl hl.1 rfl (Nat.le_of_ble_eq_true rfl) dX0_digest_18 ⟨Nat.zero_le _, Nat.zero_le _⟩ (fun r9 e9 => ?_)
  subst e9
  refine lv_lstore_n (lv' := [(1, .long (kr_dw (kr_dw 2063 (nI N)) (nI L))), (0, .ref h)]) hx hb dX0_digest_21 rfl hl (by decide) rfl (fun ls hl => ?_)
  refine lv_lload_n hx hb dX0_digest_22 rfl (lv_at hl 0 rfl) ?_
  refine lv_aload_n hx hb dX0_digest_23 rfl (lv_at hl 1 rfl) ?_
  refine kr_vI (n := 0) (As := []) (rest := [.long (kr_dw (kr_dw 2063 (nI N)) (nI L))]) ⟨hx, hb, hml, hown, hts⟩ (c_X0_strongestLine l D cy h a N L A hw) kg_RX0_156 ⟨rfl, rfl⟩ (by decide +kernel) ⟨Nat.le_of_ble_eq_true rfl, Nat.le_of_ble_eq_true rfl⟩ (kr_pv0 hP hK) rfl hl.1 rfl (Nat.le_of_ble_eq_true rfl) dX0_digest_24 ⟨Nat.zero_le _, Nat.zero_le _⟩ (fun r9 e9 => ?_)
  subst e9
  refine kr_sL (n := 2) (As := [.long (kr_dw (kr_dw 2063 (nI N)) (nI L)), .int (kr_sg A L 0 (-1))]) (rest := []) ⟨hx, hb, hml, hown, hts⟩ (c_X0_digestWith l (kr_dw (kr_dw 2063 (nI N)) (nI L)) (kr_sg A L 0 (-1))) kg_RX0_152 ⟨rfl, rfl⟩ (by decide +kernel) ⟨Nat.le_of_ble_eq_true rfl, Nat.le_of_ble_eq_true rfl⟩ ⟨kr_blT, fun U hU hW => ⟨rfl, trivial⟩⟩ rfl hl.1 rfl (Nat.le_of_ble_eq_true rfl) dX0_digest_27 ⟨Nat.zero_le _, Nat.zero_le _⟩ (fun r9 e9 => ?_)
  subst e9
  refine lv_lstore_n (lv' := [(1, .long (kr_dw (kr_dw (kr_dw 2063 (nI N)) (nI L)) (kr_sg A L 0 (-1)))), (0, .ref h)]) hx hb dX0_digest_30 rfl hl (by decide) rfl (fun ls hl => ?_)
  refine lv_iconst (v := 0) hx hb dX0_digest_31 (by decide) ?_
  refine lv_istore_n (lv' := [(3, .int 0), (1, .long (kr_dw (kr_dw (kr_dw 2063 (nI N)) (nI L)) (kr_sg A L 0 (-1)))), (0, .ref h)]) hx hb dX0_digest_32 rfl hl (by decide) rfl (fun ls hl => ?_)
  refine kr_lp (nL := 4) (fun z : Nat × Int64 => [(3, .int (nI z.1)), (1, .long z.2), (0, .ref h)]) (fun z => z.1 ≤ N ∧ kr_dks A N (N - z.1) z.1 z.2 = kr_dks A N N 0 (kr_dw (kr_dw (kr_dw 2063 (nI N)) (nI L)) (kr_sg A L 0 (-1)))) (fun z => N - z.1) ?_ (0, kr_dw (kr_dw (kr_dw 2063 (nI N)) (nI L)) (kr_sg A L 0 (-1))) ⟨by omega, rfl⟩ (lv_sub hl [0, 1, 2] rfl)
  clear hl
  intro z ls hI hl ih
  obtain ⟨i, d⟩ := z
  have hl : lv_has ls 4 [(3, .int (nI i)), (1, .long d), (0, .ref h)] := hl
  obtain ⟨hi0, he⟩ : i ≤ N ∧ kr_dks A N (N - i) i d = kr_dks A N N 0 (kr_dw (kr_dw (kr_dw 2063 (nI N)) (nI L)) (kr_sg A L 0 (-1))) := hI
  refine lv_iload_n hx hb dX0_digest_33 rfl (lv_at hl 0 rfl) ?_
  refine lv_aload_n hx hb dX0_digest_34 rfl (lv_at hl 2 rfl) ?_
  refine va_get (ci := 0) (v := .int (nI N)) (C := RX0) (T := TX0) (N := 10) hx hb hts kr_wsX0 hown hK hP 0 rfl rfl 5 (by decide) (hts _ kq_70) (fun _ h9 => h9) rfl dX0_digest_35 ?_
  refine lv_icmp_ge (tgt := 54) hx hb dX0_digest_38 (by decide) (fun c38 => ?_) (fun c38 => ?_)
  · have hi2 : i = N := by have := kr_ge (by omega) (by omega) c38; omega
    rw [hi2, Nat.sub_self] at he
    have he : d = kr_dks A N N 0 (kr_dw (kr_dw (kr_dw 2063 (nI N)) (nI L)) (kr_sg A L 0 (-1))) := he
    refine lv_iconst (v := 0) hx hb dX0_digest_54 (by decide) ?_
    refine lv_istore_n (lv' := [(3, .int 0), (1, .long d), (0, .ref h)]) hx hb dX0_digest_55 rfl hl (by decide) rfl (fun ls hl => ?_)
    refine kr_lp (nL := 4) (fun z : Nat × Int64 => [(3, .int (nI z.1)), (1, .long z.2), (0, .ref h)]) (fun z => z.1 ≤ L ∧ kr_dls A (L - z.1) z.1 z.2 = kr_dls A L 0 d) (fun z => L - z.1) ?_ (0, d) ⟨by omega, rfl⟩ (lv_sub hl [0, 1, 2] rfl)
    clear hl
    intro z ls hI hl ih
    obtain ⟨j, d2⟩ := z
    have hl : lv_has ls 4 [(3, .int (nI j)), (1, .long d2), (0, .ref h)] := hl
    obtain ⟨hj0, hf⟩ : j ≤ L ∧ kr_dls A (L - j) j d2 = kr_dls A L 0 d := hI
    refine lv_iload_n hx hb dX0_digest_56 rfl (lv_at hl 0 rfl) ?_
    refine lv_aload_n hx hb dX0_digest_57 rfl (lv_at hl 2 rfl) ?_
    refine va_get (ci := 0) (v := .int (nI L)) (C := RX0) (T := TX0) (N := 10) hx hb hts kr_wsX0 hown hK hP 0 rfl rfl 7 (by decide) (hts _ kq_72) (fun _ h9 => h9) rfl dX0_digest_58 ?_
    refine lv_icmp_ge (tgt := 77) hx hb dX0_digest_61 (by decide) (fun c61 => ?_) (fun c61 => ?_)
    · have hj2 : j = L := by have := kr_ge (by omega) (by omega) c61; omega
      rw [hj2, Nat.sub_self, he] at hf
      refine lv_lload_n hx hb dX0_digest_77 rfl (lv_at hl 1 rfl) ?_
      exact kr_eL hx hb hr hlocks rfl hf dX0_digest_78
    · have hj : j < L := kr_lt (by omega) (by omega) c61
      rw [kr_dls_s hj] at hf
      refine lv_aload_n hx hb dX0_digest_64 rfl (lv_at hl 2 rfl) ?_
      refine lv_lload_n hx hb dX0_digest_65 rfl (lv_at hl 1 rfl) ?_
      refine lv_iload_n hx hb dX0_digest_66 rfl (lv_at hl 0 rfl) ?_
      refine kr_vL (n := 2) (As := [.long d2, .int (nI j)]) (rest := []) ⟨hx, hb, hml, hown, hts⟩ (c_X0_digestWithLine l D cy h a N L A d2 j hw (by omega)) kg_RX0_163 ⟨rfl, rfl⟩ (by decide +kernel) ⟨Nat.le_of_ble_eq_true rfl, Nat.le_of_ble_eq_true rfl⟩ (kr_pv0 hP hK) rfl hl.1 rfl (Nat.le_of_ble_eq_true rfl) dX0_digest_67 ⟨Nat.zero_le _, Nat.zero_le _⟩ (fun r9 e9 => ?_)
      subst e9
      refine lv_lstore_n (lv' := [(1, .long (kr_dl A d2 j)), (3, .int (nI j)), (0, .ref h)]) hx hb dX0_digest_70 rfl hl (by decide) rfl (fun ls hl => ?_)
      refine lv_iinc (v := nI (j + 1)) (lv' := [(3, .int (nI (j + 1))), (1, .long (kr_dl A d2 j)), (0, .ref h)]) hx hb dX0_digest_71 hl (k := 1) rfl (kr_inc _) (by decide) rfl (fun ls hl => ?_)
      refine lv_goto (tgt := 56) hx hb dX0_digest_74 (by decide) ?_
      exact ih (j + 1, kr_dl A d2 j) ls ⟨by omega, hf⟩ (by show L - (j + 1) < L - j; omega) (lv_sub hl [0, 1, 2] rfl)
  · have hi : i < N := kr_lt (by omega) (by omega) c38
    rw [kr_dks_s hi] at he
    refine lv_aload_n hx hb dX0_digest_41 rfl (lv_at hl 2 rfl) ?_
    refine lv_lload_n hx hb dX0_digest_42 rfl (lv_at hl 1 rfl) ?_
    refine lv_iload_n hx hb dX0_digest_43 rfl (lv_at hl 0 rfl) ?_
    refine kr_vL (n := 2) (As := [.long d, .int (nI i)]) (rest := []) ⟨hx, hb, hml, hown, hts⟩ (c_X0_digestWithKnot l D cy h a N L A d i hw (by omega)) kg_RX0_160 ⟨rfl, rfl⟩ (by decide +kernel) ⟨Nat.le_of_ble_eq_true rfl, Nat.le_of_ble_eq_true rfl⟩ (kr_pv0 hP hK) rfl hl.1 rfl (Nat.le_of_ble_eq_true rfl) dX0_digest_44 ⟨Nat.zero_le _, Nat.zero_le _⟩ (fun r9 e9 => ?_)
    subst e9
    refine lv_lstore_n (lv' := [(1, .long (kr_dk A N d i)), (3, .int (nI i)), (0, .ref h)]) hx hb dX0_digest_47 rfl hl (by decide) rfl (fun ls hl => ?_)
    refine lv_iinc (v := nI (i + 1)) (lv' := [(3, .int (nI (i + 1))), (1, .long (kr_dk A N d i)), (0, .ref h)]) hx hb dX0_digest_48 hl (k := 1) rfl (kr_inc _) (by decide) rfl (fun ls hl => ?_)
    refine lv_goto (tgt := 33) hx hb dX0_digest_51 (by decide) ?_
    exact ih (i + 1, kr_dk A N d i) ls ⟨by omega, he⟩ (by show N - (i + 1) < N - i; omega) (lv_sub hl [0, 1, 2] rfl)
end
section
section KRX
variable {N L : Nat} {A : Nat → Nat → Int32} {ld x : Int32} {i j k n : Nat}
theorem kr_pred (hN : N < 2 ^ 30) : nI N - 1 < x ↔ nI N ≤ x := by
  have h1 : (nI N - 1).toInt = (N : Int) - 1 := pk_sub_toInt (a := N) (b := 1) hN (by decide)
  rw [Int32.lt_iff_toInt_lt, Int32.le_iff_toInt_le, h1, nI_toInt (by omega)]; omega
theorem kr_le0 (h : ∃ q, q ≤ 999 ∧ x = nI q) : x ≤ 0 ↔ x = 0 := by
  obtain ⟨q, hq, rfl⟩ := h
  constructor
  · intro h1
    have := (nI_leI (a := q) (b := 0) (by omega) (by decide)).mp h1
    have e : q = 0 := by omega
    rw [e]; rfl
  · intro h1; rw [h1]; decide
/-- a measure of a chain -/
def kr_mz (x : Int32) : Nat := if x = -1 then 0 else kr_ix x + 1
theorem kr_mz_nI (h : j < 2 ^ 31) : kr_mz (nI j) = j + 1 := by unfold kr_mz; rw [if_neg (kr_kn_ne h), kr_ix_nI h]
theorem kr_mz_lt (hw : kr_wf N L A) (hj : j < N) : kr_mz (A 4 j) < kr_mz (nI j) := by
  have := hw.1
  rw [kr_mz_nI (by omega)]
  rcases (hw.2.2.1 j hj).2.1 with e | ⟨q, hq, e⟩
  · rw [e]; show 0 < j + 1; omega
  · rw [e, kr_mz_nI (by omega)]; omega
theorem kr_mz_le (h : kr_kn N x) (hN : N ≤ 16) : kr_mz x ≤ 16 := by
  rcases h with rfl | ⟨j, hj, rfl⟩
  · show 0 ≤ 16; omega
  · rw [kr_mz_nI (by omega)]; omega
theorem kr_fm_e (n : Nat) (x : Int32) : kr_fm A ld (n + 1) x = if kr_go A ld x then kr_fm A ld n (A 4 (kr_ix x)) else x := rfl
theorem kr_sp_e (n : Nat) (x : Int32) : kr_sp A ld (n + 1) x = if kr_go A ld x then kr_sp A ld n (A 4 (kr_ix x)) + 1 else 0 := rfl
theorem kr_fa_e (n : Nat) (x g : Int32) : kr_fa A (n + 1) x g = if x = -1 then g else if A 3 (kr_ix x) = 0 then 0 else kr_fa A n (A 4 (kr_ix x)) (kr_mx g (A 3 (kr_ix x))) := rfl
theorem kr_lh_e (g : Int32 → Int32) (n : Nat) (x h : Int32) : kr_lh A g (n + 1) x h = if x = -1 then h else if h < kr_en A x then (if g x < kr_en A x then kr_mx h (g x) else kr_lh A g n (A 4 (kr_ix x)) (kr_en A x)) else kr_lh A g n (A 4 (kr_ix x)) h := rfl
theorem kr_fm_st (hw : kr_wf N L A) : ∀ (n : Nat) (x : Int32), kr_kn N x → kr_mz x ≤ n → kr_fm A ld (n + 1) x = kr_fm A ld n x
  | 0, x, h, hm => by
    rcases h with rfl | ⟨j, hj, rfl⟩
    · exact kr_fm_no (fun q => q.1 rfl) 1
    · have := hw.1; rw [kr_mz_nI (by omega)] at hm; omega
  | n + 1, x, h, hm => by
    by_cases hg : kr_go A ld x
    · obtain ⟨j, hj, rfl⟩ := kr_go_kn hw.1 h hg
      have := hw.1
      have h1 := kr_mz_lt hw hj
      rw [kr_fm_e (n + 1) (nI j), kr_fm_e n (nI j), if_pos hg, if_pos hg, kr_ix_nI (by omega)]
      exact kr_fm_st hw n _ (hw.kn hj) (by omega)
    · rw [kr_fm_no hg, kr_fm_no hg]
theorem kr_fm_16 (hw : kr_wf N L A) (hj : j < N) (hg : kr_go A ld (nI j)) : kr_fm A ld 16 (nI j) = kr_fm A ld 16 (A 4 j) := by
  have := hw.1
  have h1 := kr_mz_lt hw hj
  rw [kr_mz_nI (by omega)] at h1
  rw [kr_fm_st hw 15 _ (hw.kn hj) (by omega)]
  exact kr_fm_go (i := 0) (by omega) (by omega) hg
theorem kr_sp_st (hw : kr_wf N L A) : ∀ (n : Nat) (x : Int32), kr_kn N x → kr_mz x ≤ n → kr_sp A ld (n + 1) x = kr_sp A ld n x
  | 0, x, h, hm => by
    rcases h with rfl | ⟨j, hj, rfl⟩
    · exact kr_sp_no (fun q => q.1 rfl) 1
    · have := hw.1; rw [kr_mz_nI (by omega)] at hm; omega
  | n + 1, x, h, hm => by
    by_cases hg : kr_go A ld x
    · obtain ⟨j, hj, rfl⟩ := kr_go_kn hw.1 h hg
      have := hw.1
      have h1 := kr_mz_lt hw hj
      rw [kr_sp_e (n + 1) (nI j), kr_sp_e n (nI j), if_pos hg, if_pos hg, kr_ix_nI (by omega), kr_sp_st hw n _ (hw.kn hj) (by omega)]
    · rw [kr_sp_no hg, kr_sp_no hg]
theorem kr_sp_16 (hw : kr_wf N L A) (hj : j < N) (hg : kr_go A ld (nI j)) : kr_sp A ld 16 (nI j) = kr_sp A ld 16 (A 4 j) + 1 := by
  have := hw.1
  have h1 := kr_mz_lt hw hj
  rw [kr_mz_nI (by omega)] at h1
  rw [kr_sp_st hw 15 _ (hw.kn hj) (by omega)]
  exact kr_sp_go (i := 0) (by omega) (by omega) hg
theorem kr_fa_st (hw : kr_wf N L A) : ∀ (n : Nat) (x g : Int32), kr_kn N x → kr_mz x ≤ n → kr_fa A (n + 1) x g = kr_fa A n x g
  | 0, x, g, h, hm => by
    rcases h with rfl | ⟨j, hj, rfl⟩
    · exact kr_fa_no 1
    · have := hw.1; rw [kr_mz_nI (by omega)] at hm; omega
  | n + 1, x, g, h, hm => by
    rcases h with rfl | ⟨j, hj, rfl⟩
    · rw [kr_fa_no, kr_fa_no]
    · have := hw.1
      have h1 := kr_mz_lt hw hj
      rw [kr_fa_e (n + 1) (nI j), kr_fa_e n (nI j), kr_ix_nI (by omega), kr_fa_st hw n _ _ (hw.kn hj) (by omega)]
theorem kr_fa_16 (hw : kr_wf N L A) (hj : j < N) {g : Int32} (h0 : ¬ A 3 j = 0) : kr_fa A 16 (nI j) g = kr_fa A 16 (A 4 j) (kr_mx g (A 3 j)) := by
  have := hw.1
  have h1 := kr_mz_lt hw hj
  rw [kr_mz_nI (by omega)] at h1
  rw [kr_fa_st hw 15 _ _ (hw.kn hj) (by omega)]
  exact kr_fa_s (i := 0) (by omega) (by omega) h0
theorem kr_lh_st (hw : kr_wf N L A) {g : Int32 → Int32} : ∀ (n : Nat) (x h : Int32), kr_kn N x → kr_mz x ≤ n → kr_lh A g (n + 1) x h = kr_lh A g n x h
  | 0, x, h, hk, hm => by
    rcases hk with rfl | ⟨j, hj, rfl⟩
    · exact kr_lh_no 1
    · have := hw.1; rw [kr_mz_nI (by omega)] at hm; omega
  | n + 1, x, h, hk, hm => by
    rcases hk with rfl | ⟨j, hj, rfl⟩
    · rw [kr_lh_no, kr_lh_no]
    · have := hw.1
      have h1 := kr_mz_lt hw hj
      rw [kr_lh_e g (n + 1) (nI j), kr_lh_e g n (nI j), kr_ix_nI (by omega), kr_lh_st hw n _ _ (hw.kn hj) (by omega), kr_lh_st hw n _ _ (hw.kn hj) (by omega)]
theorem kr_lh_16 (hw : kr_wf N L A) (hj : j < N) {g : Int32 → Int32} {h : Int32} : kr_lh A g 16 (nI j) h = if h < kr_en A (nI j) then (if g (nI j) < kr_en A (nI j) then kr_mx h (g (nI j)) else kr_lh A g 16 (A 4 j) (kr_en A (nI j))) else kr_lh A g 16 (A 4 j) h := by
  have := hw.1
  have h1 := kr_mz_lt hw hj
  rw [kr_mz_nI (by omega)] at h1
  rw [kr_lh_st hw 15 _ _ (hw.kn hj) (by omega), kr_lh_st hw 15 _ _ (hw.kn hj) (by omega)]
  exact kr_lh_s (i := 0) (by omega) (by omega)
/-- a place that holds to the most: nothing comes behind -/
theorem kr_lh_end (hw : kr_wf N L A) (hj : j < N) {g : Int32 → Int32} (he : kr_en A (nI j) = 999) : kr_lh A g 16 (A 4 j) 999 = 999 := by
  have := hw.1
  obtain ⟨-, -, ⟨q, hq, eq⟩, h0⟩ := hw.2.2.1 j hj
  rw [kr_en_nI (by omega)] at he
  by_cases h3 : A 3 j = 0
  · rw [h0 h3]; exact kr_lh_no _
  · rw [if_neg h3, eq] at he
    cases q with
    | zero => exact absurd (eq.trans nI_0) h3
    | succ q =>
      rw [nI_pred] at he
      have := (nI_eq (a := q) (b := 999) (by omega) (by decide)).mp he
      omega
theorem kr_uw_s {n pl q : Nat} {g : Int32} (hn : pl < n) : kr_uw A q (n - pl) pl g = kr_uw A q (n - (pl + 1)) (pl + 1) (kr_mn g (kr_lh A (kr_st A q pl) 16 (A 6 (5 * q + pl)) 0)) := by
  obtain ⟨m, h1, h2⟩ : ∃ m, n - pl = m + 1 ∧ n - (pl + 1) = m := ⟨n - (pl + 1), by omega, rfl⟩
  rw [h1, h2]; rfl
end KRX
theorem kr_inL {L : Nat} {x : Int32} (hL : L ≤ 6) (h : ¬ x < 0 ∧ ¬ nI L ≤ x) : ∃ q, q < L ∧ x = nI q := by
  rcases pk_ix x (n := L) (by omega) with h1 | h1 | h1
  · exact absurd h1 h.1
  · exact absurd h1 h.2
  · exact h1
theorem kr_inN {N : Nat} {x : Int32} (hN : N ≤ 16) (h : ¬ x < 0 ∧ ¬ nI N ≤ x) : ∃ q, q < N ∧ x = nI q := by
  rcases pk_ix x (n := N) (by omega) with h1 | h1 | h1
  · exact absurd h1 h.1
  · exact absurd h1 h.2
  · exact h1
theorem kr_ltne {x y : Int32} (h : x < y) : ¬ x = y := fun e => by rw [e] at h; exact Int32.lt_irrefl h
end
section
set_option maxHeartbeats 4000000 in
set_option maxRecDepth 100000 in
theorem c_X1_isIn (l : Launch) (v lo hi : Int32) : Met l yX1_isIn (Cond.code yX1_isIn cX1_isIn 3 (some .boolean) :: kr_all) ({ frames := 0, cells := 0, slots := 0, locals := 0 }) (va_Pc [.int v, .int lo, .int hi] (fun _ => True)) (vp_Si (fun r => r = if ¬ v < lo ∧ ¬ hi < v then 1 else 0)) 0 0 (fun _ => False) := by
  refine kr_of (by decide) (Nat.le_of_ble_eq_true rfl) ?_
  intro p e s m below meth c ls hx hb hml hr hts hown hlocks hin hv hl
  have hown : s.vm.findClass RX1 = some m.cls := hown
  have hl : lv_has ls 3 [(0, .int v), (1, .int lo), (2, .int hi)] := hl
  refine lv_iload_n hx hb dX1_isIn_0 rfl (lv_at hl 0 rfl) ?_
  refine lv_iload_n hx hb dX1_isIn_1 rfl (lv_at hl 1 rfl) ?_
  refine lv_icmp_lt (tgt := 14) hx hb dX1_isIn_2 (by decide) (fun c2 => ?_) (fun c2 => ?_)
  · refine lv_iconst (v := 0) hx hb dX1_isIn_14 (by decide) ?_
    exact kr_eZ hx hb hr hlocks rfl (Or.inl rfl) (if_neg (fun z => z.1 c2)).symm dX1_isIn_15
  · refine lv_iload_n hx hb dX1_isIn_5 rfl (lv_at hl 0 rfl) ?_
    refine lv_iload_n hx hb dX1_isIn_6 rfl (lv_at hl 2 rfl) ?_
    refine lv_icmp_gt (tgt := 14) hx hb dX1_isIn_7 (by decide) (fun c7 => ?_) (fun c7 => ?_)
    · refine lv_iconst (v := 0) hx hb dX1_isIn_14 (by decide) ?_
      exact kr_eZ hx hb hr hlocks rfl (Or.inl rfl) (if_neg (fun z => z.2 c7)).symm dX1_isIn_15
    · refine lv_iconst (v := 1) hx hb dX1_isIn_10 (by decide) ?_
      refine lv_goto (tgt := 15) hx hb dX1_isIn_11 (by decide) ?_
      exact kr_eZ hx hb hr hlocks rfl (Or.inr rfl) (if_pos ⟨c2, c7⟩).symm dX1_isIn_15
theorem kg_RX1_41 : GoodIn kr_all (wsS RX1 41 yX1_isIn (Cond.code yX1_isIn cX1_isIn 3 (some .boolean) :: kr_all)) := kr_gS kq_584 kq_585 kq_49 kq_586
set_option maxHeartbeats 4000000 in
set_option maxRecDepth 100000 in
theorem c_X1_isKnot (l : Launch) (D : va_G) (cy : ClassId) (h : Nat) (a : Nat → Nat) (th : Int32) (N L : Nat) (A : Nat → Nat → Int32) (x : Int32) (hz : N ≤ 16) : Met l yX1_isKnot (Cond.code yX1_isKnot cX1_isKnot 2 (some .boolean) :: kr_all) ({ frames := 1, cells := 0, slots := 0, locals := 22 }) (va_Pc [.ref h, .int x] (kr_R D (kr_W1 cy h a th N L A) cy)) (vp_Si (fun r => r = if ¬ x < 0 ∧ ¬ nI N ≤ x then 1 else 0)) 0 0 (fun _ => False) := by
  refine kr_of (by decide) (Nat.le_of_ble_eq_true rfl) ?_
  intro p e s m below meth c ls hx hb hml hr hts hown hlocks hin hv hl
  obtain ⟨hP, hK⟩ := hv
  have hown : s.vm.findClass RX1 = some m.cls := hown
  have hl : lv_has ls 2 [(0, .ref h), (1, .int x)] := hl
  refine lv_iload_n hx hb dX1_isKnot_0 rfl (lv_at hl 1 rfl) ?_
  refine lv_iconst (v := 0) hx hb dX1_isKnot_1 (by decide) ?_
  refine lv_aload_n hx hb dX1_isKnot_2 rfl (lv_at hl 0 rfl) ?_
  refine va_get (ci := 1) (v := .int (nI N)) (C := RX1) (T := TX1) (N := 11) hx hb hts kr_wsX1 hown hK hP 0 rfl rfl 1 (by decide) (hts _ kq_543) (fun _ h9 => h9) rfl dX1_isKnot_3 ?_
  refine lv_iconst (v := 1) hx hb dX1_isKnot_6 (by decide) ?_
  refine lv_isub hx hb dX1_isKnot_7 ?_
  refine kr_sI (n := 3) (As := [.int x, .int 0, .int ((nI N) - 1)]) (rest := []) ⟨hx, hb, hml, hown, hts⟩ (c_X1_isIn l x 0 ((nI N) - 1)) kg_RX1_41 ⟨rfl, rfl⟩ (by decide +kernel) ⟨Nat.le_of_ble_eq_true rfl, Nat.le_of_ble_eq_true rfl⟩ ⟨kr_blT, fun U hU hW => ⟨rfl, trivial⟩⟩ rfl hl.1 rfl (Nat.le_of_ble_eq_true rfl) dX1_isKnot_8 ⟨Nat.zero_le _, Nat.zero_le _⟩ (fun r9 e9 => ?_)
  subst e9
  exact kr_eZ hx hb hr hlocks rfl kr_b01 (by simp only [kr_pred (show N < 2 ^ 30 by omega)]) dX1_isKnot_11
set_option maxHeartbeats 4000000 in
set_option maxRecDepth 100000 in
theorem c_X1_isLine (l : Launch) (D : va_G) (cy : ClassId) (h : Nat) (a : Nat → Nat) (th : Int32) (N L : Nat) (A : Nat → Nat → Int32) (x : Int32) (hz : L ≤ 16) : Met l yX1_isLine (Cond.code yX1_isLine cX1_isLine 2 (some .boolean) :: kr_all) ({ frames := 1, cells := 0, slots := 0, locals := 22 }) (va_Pc [.ref h, .int x] (kr_R D (kr_W1 cy h a th N L A) cy)) (vp_Si (fun r => r = if ¬ x < 0 ∧ ¬ nI L ≤ x then 1 else 0)) 0 0 (fun _ => False) := by
  refine kr_of (by decide) (Nat.le_of_ble_eq_true rfl) ?_
  intro p e s m below meth c ls hx hb hml hr hts hown hlocks hin hv hl
  obtain ⟨hP, hK⟩ := hv
  have hown : s.vm.findClass RX1 = some m.cls := hown
  have hl : lv_has ls 2 [(0, .ref h), (1, .int x)] := hl
  refine lv_iload_n hx hb dX1_isLine_0 rfl (lv_at hl 1 rfl) ?_
  refine lv_iconst (v := 0) hx hb dX1_isLine_1 (by decide) ?_
  refine lv_aload_n hx hb dX1_isLine_2 rfl (lv_at hl 0 rfl) ?_
  refine va_get (ci := 1) (v := .int (nI L)) (C := RX1) (T := TX1) (N := 11) hx hb hts kr_wsX1 hown hK hP 0 rfl rfl 7 (by decide) (hts _ kq_549) (fun _ h9 => h9) rfl dX1_isLine_3 ?_
  refine lv_iconst (v := 1) hx hb dX1_isLine_6 (by decide) ?_
  refine lv_isub hx hb dX1_isLine_7 ?_
  refine kr_sI (n := 3) (As := [.int x, .int 0, .int ((nI L) - 1)]) (rest := []) ⟨hx, hb, hml, hown, hts⟩ (c_X1_isIn l x 0 ((nI L) - 1)) kg_RX1_41 ⟨rfl, rfl⟩ (by decide +kernel) ⟨Nat.le_of_ble_eq_true rfl, Nat.le_of_ble_eq_true rfl⟩ ⟨kr_blT, fun U hU hW => ⟨rfl, trivial⟩⟩ rfl hl.1 rfl (Nat.le_of_ble_eq_true rfl) dX1_isLine_8 ⟨Nat.zero_le _, Nat.zero_le _⟩ (fun r9 e9 => ?_)
  subst e9
  exact kr_eZ hx hb hr hlocks rfl kr_b01 (by simp only [kr_pred (show L < 2 ^ 30 by omega)]) dX1_isLine_11
theorem kg_RX1_48 : GoodIn kr_all (wsV RX1 48 RX1 yX1_isLine (Cond.code yX1_isLine cX1_isLine 2 (some .boolean) :: kr_all)) := kr_gV kq_610 kq_612 kq_25 kq_49 kq_613
set_option maxHeartbeats 4000000 in
set_option maxRecDepth 100000 in
theorem c_X1_isPlace (l : Launch) (D : va_G) (cy : ClassId) (h : Nat) (a : Nat → Nat) (th : Int32) (N L : Nat) (A : Nat → Nat → Int32) (x y : Int32) (hw : kr_wf N L A) : Met l yX1_isPlace (Cond.code yX1_isPlace cX1_isPlace 3 (some .boolean) :: kr_all) ({ frames := 2, cells := 0, slots := 0, locals := 43 }) (va_Pc [.ref h, .int x, .int y] (kr_R D (kr_W1 cy h a th N L A) cy)) (vp_Si (fun r => r = if (¬ x < 0 ∧ ¬ nI L ≤ x) ∧ (¬ y < 0 ∧ ¬ A 5 (kr_ix x) ≤ y) then 1 else 0)) 0 0 (fun _ => False) := by
  refine kr_of (by decide) (Nat.le_of_ble_eq_true rfl) ?_
  intro p e s m below meth c ls hx hb hml hr hts hown hlocks hin hv hl
  obtain ⟨hP, hK⟩ := hv
  have hown : s.vm.findClass RX1 = some m.cls := hown
  have hl : lv_has ls 3 [(0, .ref h), (1, .int x), (2, .int y)] := hl
  have hL := hw.2.1
  refine lv_aload_n hx hb dX1_isPlace_0 rfl (lv_at hl 0 rfl) ?_
  refine lv_iload_n hx hb dX1_isPlace_1 rfl (lv_at hl 1 rfl) ?_
  refine kr_vI (n := 1) (As := [.int x]) (rest := []) ⟨hx, hb, hml, hown, hts⟩ (c_X1_isLine l D cy h a th N L A x (by omega)) kg_RX1_48 ⟨rfl, rfl⟩ (by decide +kernel) ⟨Nat.le_of_ble_eq_true rfl, Nat.le_of_ble_eq_true rfl⟩ (kr_pv1 hP hK) rfl hl.1 rfl (Nat.le_of_ble_eq_true rfl) dX1_isPlace_2 ⟨Nat.zero_le _, Nat.zero_le _⟩ (fun r9 e9 => ?_)
  subst e9
  refine lv_if_eq (tgt := 28) hx hb dX1_isPlace_5 (by decide) (fun c5 => ?_) (fun c5 => ?_)
  · refine lv_iconst (v := 0) hx hb dX1_isPlace_28 (by decide) ?_
    exact kr_eZ hx hb hr hlocks rfl (Or.inl rfl) (if_neg (fun z => kr_if0 c5 z.1)).symm dX1_isPlace_29
  · have hx1 := kr_if1 c5
    obtain ⟨q, hq, rfl⟩ : ∃ q, q < L ∧ x = nI q := kr_inL hL hx1
    obtain ⟨hrc, er⟩ := hw.rc hq
    refine lv_iload_n hx hb dX1_isPlace_8 rfl (lv_at hl 2 rfl) ?_
    refine lv_iconst (v := 0) hx hb dX1_isPlace_9 (by decide) ?_
    refine lv_aload_n hx hb dX1_isPlace_10 rfl (lv_at hl 0 rfl) ?_
    refine va_get (ci := 1) (v := .ref (a 5)) (C := RX1) (T := TX1) (N := 11) hx hb hts kr_wsX1 hown hK hP 0 rfl rfl 8 (by decide) (hts _ kq_550) (fun _ h9 => h9) rfl dX1_isPlace_11 ?_
    refine lv_iload_n hx hb dX1_isPlace_14 rfl (lv_at hl 1 rfl) ?_
    refine kr_ald hx hb hK hP 6 0 rfl rfl q (by omega) (by decide) dX1_isPlace_15 ?_
    rw [er]
    refine lv_iconst (v := 1) hx hb dX1_isPlace_16 (by decide) ?_
    refine lv_isub hx hb dX1_isPlace_17 ?_
    refine kr_sI (n := 3) (As := [.int y, .int 0, .int ((nI (kr_rc A q)) - 1)]) (rest := []) ⟨hx, hb, hml, hown, hts⟩ (c_X1_isIn l y 0 ((nI (kr_rc A q)) - 1)) kg_RX1_41 ⟨rfl, rfl⟩ (by decide +kernel) ⟨Nat.le_of_ble_eq_true rfl, Nat.le_of_ble_eq_true rfl⟩ ⟨kr_blT, fun U hU hW => ⟨rfl, trivial⟩⟩ rfl hl.1 rfl (Nat.le_of_ble_eq_true rfl) dX1_isPlace_18 ⟨Nat.zero_le _, Nat.zero_le _⟩ (fun r9 e9 => ?_)
    subst e9
    refine lv_if_eq (tgt := 28) hx hb dX1_isPlace_21 (by decide) (fun c21 => ?_) (fun c21 => ?_)
    · refine lv_iconst (v := 0) hx hb dX1_isPlace_28 (by decide) ?_
      exact kr_eZ hx hb hr hlocks rfl (Or.inl rfl) (if_neg (fun z => kr_if0 c21 ⟨z.2.1, fun w => z.2.2 (by rw [kr_ix_nI (by omega), er]; exact (kr_pred (by omega)).mp w)⟩)).symm dX1_isPlace_29
    · refine lv_iconst (v := 1) hx hb dX1_isPlace_24 (by decide) ?_
      refine lv_goto (tgt := 29) hx hb dX1_isPlace_25 (by decide) ?_
      exact kr_eZ hx hb hr hlocks rfl (Or.inr rfl) (if_pos ⟨hx1, (kr_if1 c21).1, fun w => (kr_if1 c21).2 (by rw [kr_ix_nI (by omega), er] at w; exact (kr_pred (by omega)).mpr w)⟩).symm dX1_isPlace_29
set_option maxHeartbeats 4000000 in
set_option maxRecDepth 100000 in
theorem c_X1_isLoad (l : Launch) (x : Int32) : Met l yX1_isLoad (Cond.code yX1_isLoad cX1_isLoad 1 (some .boolean) :: kr_all) ({ frames := 1, cells := 0, slots := 0, locals := 22 }) (va_Pc [.int x] (fun _ => True)) (vp_Si (fun r => r = if ¬ x < 1 ∧ ¬ 999 < x then 1 else 0)) 0 0 (fun _ => False) := by
  refine kr_of (by decide) (Nat.le_of_ble_eq_true rfl) ?_
  intro p e s m below meth c ls hx hb hml hr hts hown hlocks hin hv hl
  have hown : s.vm.findClass RX1 = some m.cls := hown
  have hl : lv_has ls 1 [(0, .int x)] := hl
  refine lv_iload_n hx hb dX1_isLoad_0 rfl (lv_at hl 0 rfl) ?_
  refine lv_iconst (v := 1) hx hb dX1_isLoad_1 (by decide) ?_
  refine lv_sipush (v := 999) hx hb dX1_isLoad_2 (by decide) ?_
  refine kr_sI (n := 3) (As := [.int x, .int 1, .int 999]) (rest := []) ⟨hx, hb, hml, hown, hts⟩ (c_X1_isIn l x 1 999) kg_RX1_41 ⟨rfl, rfl⟩ (by decide +kernel) ⟨Nat.le_of_ble_eq_true rfl, Nat.le_of_ble_eq_true rfl⟩ ⟨kr_blT, fun U hU hW => ⟨rfl, trivial⟩⟩ rfl hl.1 rfl (Nat.le_of_ble_eq_true rfl) dX1_isLoad_5 ⟨Nat.zero_le _, Nat.zero_le _⟩ (fun r9 e9 => ?_)
  subst e9
  exact kr_eZ hx hb hr hlocks rfl kr_b01 rfl dX1_isLoad_8
set_option maxHeartbeats 4000000 in
set_option maxRecDepth 100000 in
theorem c_X1_kindAt (l : Launch) (x : Int32) : Met l yX1_kindAt (Cond.code yX1_kindAt cX1_kindAt 1 (some .int) :: kr_all) ({ frames := 0, cells := 0, slots := 0, locals := 0 }) (va_Pc [.int x] (fun _ => True)) (vp_Si (fun r => r = if x = 0 then 1 else 0)) 0 0 (fun _ => False) := by
  refine kr_of (by decide) (Nat.le_of_ble_eq_true rfl) ?_
  intro p e s m below meth c ls hx hb hml hr hts hown hlocks hin hv hl
  have hown : s.vm.findClass RX1 = some m.cls := hown
  have hl : lv_has ls 1 [(0, .int x)] := hl
  refine lv_iload_n hx hb dX1_kindAt_0 rfl (lv_at hl 0 rfl) ?_
  refine lv_if_ne (tgt := 8) hx hb dX1_kindAt_1 (by decide) (fun c1 => ?_) (fun c1 => ?_)
  · refine lv_iconst (v := 0) hx hb dX1_kindAt_8 (by decide) ?_
    exact kr_eI hx hb hr hlocks rfl (if_neg c1).symm dX1_kindAt_9
  · refine lv_iconst (v := 1) hx hb dX1_kindAt_4 (by decide) ?_
    refine lv_goto (tgt := 9) hx hb dX1_kindAt_5 (by decide) ?_
    exact kr_eI hx hb hr hlocks rfl (if_pos c1).symm dX1_kindAt_9
set_option maxHeartbeats 4000000 in
set_option maxRecDepth 100000 in
theorem c_X1_goes (l : Launch) (D : va_G) (cy : ClassId) (h : Nat) (a : Nat → Nat) (th : Int32) (N L : Nat) (A : Nat → Nat → Int32) (j : Nat) (ld : Int32) (hw : kr_wf N L A) (hj : j < N) : Met l yX1_goes (Cond.code yX1_goes cX1_goes 3 (some .boolean) :: kr_all) ({ frames := 0, cells := 0, slots := 0, locals := 0 }) (va_Pc [.ref h, .int (nI j), .int ld] (kr_R D (kr_W1 cy h a th N L A) cy)) (vp_Si (fun r => r = if kr_go A ld (nI j) then 1 else 0)) 0 0 (fun _ => False) := by
  refine kr_of (by decide) (Nat.le_of_ble_eq_true rfl) ?_
  intro p e s m below meth c ls hx hb hml hr hts hown hlocks hin hv hl
  obtain ⟨hP, hK⟩ := hv
  have hown : s.vm.findClass RX1 = some m.cls := hown
  have hl : lv_has ls 3 [(0, .ref h), (1, .int (nI j)), (2, .int ld)] := hl
  have hN := hw.1
  have h3 := kr_le0 (hw.2.2.1 j hj).2.2.1
  refine lv_aload_n hx hb dX1_goes_0 rfl (lv_at hl 0 rfl) ?_
  refine va_get (ci := 1) (v := .ref (a 3)) (C := RX1) (T := TX1) (N := 11) hx hb hts kr_wsX1 hown hK hP 0 rfl rfl 5 (by decide) (hts _ kq_547) (fun _ h9 => h9) rfl dX1_goes_1 ?_
  refine lv_iload_n hx hb dX1_goes_4 rfl (lv_at hl 1 rfl) ?_
  refine kr_ald hx hb hK hP 4 0 rfl rfl j (by omega) (by decide) dX1_goes_5 ?_
  refine lv_if_le (tgt := 23) hx hb dX1_goes_6 (by decide) (fun c6 => ?_) (fun c6 => ?_)
  · refine lv_iconst (v := 0) hx hb dX1_goes_23 (by decide) ?_
    exact kr_eZ hx hb hr hlocks rfl (Or.inl rfl) (if_neg (fun q => ((kr_go_nI (by omega)).mp q).1 (h3.mp c6))).symm dX1_goes_24
  · refine lv_aload_n hx hb dX1_goes_9 rfl (lv_at hl 0 rfl) ?_
    refine va_get (ci := 1) (v := .ref (a 3)) (C := RX1) (T := TX1) (N := 11) hx hb hts kr_wsX1 hown hK hP 0 rfl rfl 5 (by decide) (hts _ kq_547) (fun _ h9 => h9) rfl dX1_goes_10 ?_
    refine lv_iload_n hx hb dX1_goes_13 rfl (lv_at hl 1 rfl) ?_
    refine kr_ald hx hb hK hP 4 0 rfl rfl j (by omega) (by decide) dX1_goes_14 ?_
    refine lv_iload_n hx hb dX1_goes_15 rfl (lv_at hl 2 rfl) ?_
    refine lv_icmp_gt (tgt := 23) hx hb dX1_goes_16 (by decide) (fun c16 => ?_) (fun c16 => ?_)
    · refine lv_iconst (v := 0) hx hb dX1_goes_23 (by decide) ?_
      exact kr_eZ hx hb hr hlocks rfl (Or.inl rfl) (if_neg (fun q => (kr_ngt c16) ((kr_go_nI (by omega)).mp q).2)).symm dX1_goes_24
    · refine lv_iconst (v := 1) hx hb dX1_goes_19 (by decide) ?_
      refine lv_goto (tgt := 24) hx hb dX1_goes_20 (by decide) ?_
      exact kr_eZ hx hb hr hlocks rfl (Or.inr rfl) (if_pos ((kr_go_nI (by omega)).mpr ⟨fun q => c6 (h3.mpr q), kr_nlt c16⟩)).symm dX1_goes_24
theorem kg_RX1_52 : GoodIn kr_all (wsV RX1 52 RX1 yX1_goes (Cond.code yX1_goes cX1_goes 3 (some .boolean) :: kr_all)) := kr_gV kq_641 kq_643 kq_30 kq_49 kq_644
set_option maxHeartbeats 4000000 in
set_option maxRecDepth 100000 in
theorem c_X1_form (l : Launch) (D : va_G) (cy : ClassId) (h : Nat) (a : Nat → Nat) (th : Int32) (N L : Nat) (A : Nat → Nat → Int32) (x ld : Int32) (hw : kr_wf N L A) (hx0 : kr_kn N x) : Met l yX1_form (Cond.code yX1_form cX1_form 4 (some .int) :: kr_all) ({ frames := 1, cells := 0, slots := 0, locals := 22 }) (va_Pc [.ref h, .int x, .int ld] (kr_R D (kr_W1 cy h a th N L A) cy)) (vp_Si (fun r => r = kr_fm A ld 16 x)) 0 0 (fun _ => False) := by
  refine kr_of (by decide) (Nat.le_of_ble_eq_true rfl) ?_
  intro p e s m below meth c ls hx hb hml hr hts hown hlocks hin hv hl
  obtain ⟨hP, hK⟩ := hv
  have hown : s.vm.findClass RX1 = some m.cls := hown
  have hl : lv_has ls 4 [(0, .ref h), (1, .int x), (2, .int ld)] := hl
  have hN := hw.1
  refine lv_iload_n hx hb dX1_form_0 rfl (lv_at hl 1 rfl) ?_
  refine lv_istore_n (lv' := [(3, .int x), (0, .ref h), (1, .int x), (2, .int ld)]) hx hb dX1_form_1 rfl hl (by decide) rfl (fun ls hl => ?_)
  refine kr_lp (nL := 4) (fun z : Int32 => [(3, .int z), (0, .ref h), (1, .int x), (2, .int ld)]) (fun z => kr_kn N z ∧ kr_fm A ld 16 z = kr_fm A ld 16 x) (fun z => kr_mz z) ?_ (x) ⟨hx0, rfl⟩ (lv_sub hl [0, 1, 2, 3] rfl)
  clear hl
  intro z ls hI hl ih
  obtain ⟨f, rfl⟩ : ∃ y, y = z := ⟨_, rfl⟩
  have hl : lv_has ls 4 [(3, .int f), (0, .ref h), (1, .int x), (2, .int ld)] := hl
  obtain ⟨hf, he⟩ : kr_kn N f ∧ kr_fm A ld 16 f = kr_fm A ld 16 x := hI
  refine lv_iload_n hx hb dX1_form_2 rfl (lv_at hl 0 rfl) ?_
  refine lv_iconst (v := -1) hx hb dX1_form_3 (by decide) ?_
  refine lv_icmp_eq (tgt := 26) hx hb dX1_form_4 (by decide) (fun c4 => ?_) (fun c4 => ?_)
  · subst c4
    refine lv_iload_n hx hb dX1_form_26 rfl (lv_at hl 0 rfl) ?_
    exact kr_eI hx hb hr hlocks rfl ((kr_fm_no (fun z => z.1 rfl) _).symm.trans he) dX1_form_27
  · obtain ⟨j, hj, rfl⟩ := kr_kn_of hN hf c4
    refine lv_aload_n hx hb dX1_form_7 rfl (lv_at hl 1 rfl) ?_
    refine lv_iload_n hx hb dX1_form_8 rfl (lv_at hl 0 rfl) ?_
    refine lv_iload_n hx hb dX1_form_9 rfl (lv_at hl 3 rfl) ?_
    refine kr_vI (n := 2) (As := [.int (nI j), .int ld]) (rest := []) ⟨hx, hb, hml, hown, hts⟩ (c_X1_goes l D cy h a th N L A j ld hw (by omega)) kg_RX1_52 ⟨rfl, rfl⟩ (by decide +kernel) ⟨Nat.le_of_ble_eq_true rfl, Nat.le_of_ble_eq_true rfl⟩ (kr_pv1 hP hK) rfl hl.1 rfl (Nat.le_of_ble_eq_true rfl) dX1_form_10 ⟨Nat.zero_le _, Nat.zero_le _⟩ (fun r9 e9 => ?_)
    subst e9
    refine lv_if_eq (tgt := 26) hx hb dX1_form_13 (by decide) (fun c13 => ?_) (fun c13 => ?_)
    · refine lv_iload_n hx hb dX1_form_26 rfl (lv_at hl 0 rfl) ?_
      exact kr_eI hx hb hr hlocks rfl ((kr_fm_no (kr_if0 c13) _).symm.trans he) dX1_form_27
    · rw [kr_fm_16 hw hj (kr_if1 c13)] at he
      refine lv_aload_n hx hb dX1_form_16 rfl (lv_at hl 1 rfl) ?_
      refine va_get (ci := 1) (v := .ref (a 4)) (C := RX1) (T := TX1) (N := 11) hx hb hts kr_wsX1 hown hK hP 0 rfl rfl 6 (by decide) (hts _ kq_548) (fun _ h9 => h9) rfl dX1_form_17 ?_
      refine lv_iload_n hx hb dX1_form_20 rfl (lv_at hl 0 rfl) ?_
      refine kr_ald hx hb hK hP 5 0 rfl rfl j (by omega) (by decide) dX1_form_21 ?_
      refine lv_istore_n (lv' := [(3, .int (A 4 j)), (0, .ref h), (1, .int x), (2, .int ld)]) hx hb dX1_form_22 rfl hl (by decide) rfl (fun ls hl => ?_)
      refine lv_goto (tgt := 2) hx hb dX1_form_23 (by decide) ?_
      exact ih (A 4 j) ls ⟨hw.kn hj, he⟩ (kr_mz_lt hw hj) (lv_sub hl [0, 1, 2, 3] rfl)
set_option maxHeartbeats 4000000 in
set_option maxRecDepth 100000 in
theorem c_X1_often (l : Launch) (D : va_G) (cy : ClassId) (h : Nat) (a : Nat → Nat) (th : Int32) (N L : Nat) (A : Nat → Nat → Int32) (k : Nat) (ld : Int32) (hw : kr_wf N L A) (hk : k < N) : Met l yX1_often (Cond.code yX1_often cX1_often 5 (some .int) :: kr_all) ({ frames := 1, cells := 0, slots := 0, locals := 22 }) (va_Pc [.ref h, .int (nI k), .int ld] (kr_R D (kr_W1 cy h a th N L A) cy)) (vp_Si (fun r => r = nI (kr_sp A ld 16 (nI k)))) 0 0 (fun _ => False) := by
  refine kr_of (by decide) (Nat.le_of_ble_eq_true rfl) ?_
  intro p e s m below meth c ls hx hb hml hr hts hown hlocks hin hv hl
  obtain ⟨hP, hK⟩ := hv
  have hown : s.vm.findClass RX1 = some m.cls := hown
  have hl : lv_has ls 5 [(0, .ref h), (1, .int (nI k)), (2, .int ld)] := hl
  have hN := hw.1
  refine lv_iconst (v := 0) hx hb dX1_often_0 (by decide) ?_
  refine lv_istore_n (lv' := [(3, .int 0), (0, .ref h), (1, .int (nI k)), (2, .int ld)]) hx hb dX1_often_1 rfl hl (by decide) rfl (fun ls hl => ?_)
  refine lv_iload_n hx hb dX1_often_2 rfl (lv_at hl 2 rfl) ?_
  refine lv_istore (lv' := [(4, .int (nI k)), (3, .int 0), (0, .ref h), (1, .int (nI k)), (2, .int ld)]) hx hb dX1_often_3 hl (by decide) rfl (fun ls hl => ?_)
  refine kr_lp (nL := 5) (fun z : Nat × Int32 => [(4, .int z.2), (3, .int (nI z.1)), (0, .ref h), (1, .int (nI k)), (2, .int ld)]) (fun z => kr_kn N z.2 ∧ z.1 + kr_sp A ld 16 z.2 = kr_sp A ld 16 (nI k)) (fun z => kr_mz z.2) ?_ (0, nI k) ⟨Or.inr ⟨k, hk, rfl⟩, Nat.zero_add _⟩ (lv_sub hl [0, 1, 2, 3, 4] rfl)
  clear hl
  intro z ls hI hl ih
  obtain ⟨g, f⟩ := z
  have hl : lv_has ls 5 [(4, .int f), (3, .int (nI g)), (0, .ref h), (1, .int (nI k)), (2, .int ld)] := hl
  obtain ⟨hf, he⟩ : kr_kn N f ∧ g + kr_sp A ld 16 f = kr_sp A ld 16 (nI k) := hI
  refine lv_iload hx hb dX1_often_5 (lv_at hl 0 rfl) ?_
  refine lv_iconst (v := -1) hx hb dX1_often_7 (by decide) ?_
  refine lv_icmp_eq (tgt := 36) hx hb dX1_often_8 (by decide) (fun c8 => ?_) (fun c8 => ?_)
  · subst c8
    rw [kr_sp_no (fun z => z.1 rfl)] at he
    refine lv_iload_n hx hb dX1_often_36 rfl (lv_at hl 1 rfl) ?_
    exact kr_eI hx hb hr hlocks rfl (congrArg nI he) dX1_often_37
  · obtain ⟨j, hj, rfl⟩ := kr_kn_of hN hf c8
    refine lv_aload_n hx hb dX1_often_11 rfl (lv_at hl 2 rfl) ?_
    refine lv_iload hx hb dX1_often_12 (lv_at hl 0 rfl) ?_
    refine lv_iload_n hx hb dX1_often_14 rfl (lv_at hl 4 rfl) ?_
    refine kr_vI (n := 2) (As := [.int (nI j), .int ld]) (rest := []) ⟨hx, hb, hml, hown, hts⟩ (c_X1_goes l D cy h a th N L A j ld hw (by omega)) kg_RX1_52 ⟨rfl, rfl⟩ (by decide +kernel) ⟨Nat.le_of_ble_eq_true rfl, Nat.le_of_ble_eq_true rfl⟩ (kr_pv1 hP hK) rfl hl.1 rfl (Nat.le_of_ble_eq_true rfl) dX1_often_15 ⟨Nat.zero_le _, Nat.zero_le _⟩ (fun r9 e9 => ?_)
    subst e9
    refine lv_if_eq (tgt := 36) hx hb dX1_often_18 (by decide) (fun c18 => ?_) (fun c18 => ?_)
    · rw [kr_sp_no (kr_if0 c18)] at he
      refine lv_iload_n hx hb dX1_often_36 rfl (lv_at hl 1 rfl) ?_
      exact kr_eI hx hb hr hlocks rfl (congrArg nI he) dX1_often_37
    · rw [kr_sp_16 hw hj (kr_if1 c18)] at he
      refine lv_iinc (v := nI (g + 1)) (lv' := [(3, .int (nI (g + 1))), (4, .int (nI j)), (0, .ref h), (1, .int (nI k)), (2, .int ld)]) hx hb dX1_often_21 hl (k := 1) rfl (kr_inc _) (by decide) rfl (fun ls hl => ?_)
      refine lv_aload_n hx hb dX1_often_24 rfl (lv_at hl 2 rfl) ?_
      refine va_get (ci := 1) (v := .ref (a 4)) (C := RX1) (T := TX1) (N := 11) hx hb hts kr_wsX1 hown hK hP 0 rfl rfl 6 (by decide) (hts _ kq_548) (fun _ h9 => h9) rfl dX1_often_25 ?_
      refine lv_iload hx hb dX1_often_28 (lv_at hl 1 rfl) ?_
      refine kr_ald hx hb hK hP 5 0 rfl rfl j (by omega) (by decide) dX1_often_30 ?_
      refine lv_istore (lv' := [(4, .int (A 4 j)), (3, .int (nI (g + 1))), (0, .ref h), (1, .int (nI k)), (2, .int ld)]) hx hb dX1_often_31 hl (by decide) rfl (fun ls hl => ?_)
      refine lv_goto (tgt := 5) hx hb dX1_often_33 (by decide) ?_
      exact ih (g + 1, A 4 j) ls ⟨hw.kn hj, by show g + 1 + kr_sp A ld 16 (A 4 j) = _; omega⟩ (kr_mz_lt hw hj) (lv_sub hl [0, 1, 2, 3, 4] rfl)
set_option maxHeartbeats 4000000 in
set_option maxRecDepth 100000 in
theorem c_X1_apart (l : Launch) (D : va_G) (cy : ClassId) (h : Nat) (a : Nat → Nat) (th : Int32) (N L : Nat) (A : Nat → Nat → Int32) (k : Nat) (hw : kr_wf N L A) (hk : k < N) : Met l yX1_apart (Cond.code yX1_apart cX1_apart 4 (some .int) :: kr_all) ({ frames := 1, cells := 0, slots := 0, locals := 13 }) (va_Pc [.ref h, .int (nI k)] (kr_R D (kr_W1 cy h a th N L A) cy)) (vp_Si (fun r => r = kr_fa A 16 (nI k) 0)) 0 0 (fun _ => False) := by
  refine kr_of (by decide) (Nat.le_of_ble_eq_true rfl) ?_
  intro p e s m below meth c ls hx hb hml hr hts hown hlocks hin hv hl
  obtain ⟨hP, hK⟩ := hv
  have hown : s.vm.findClass RX1 = some m.cls := hown
  have hl : lv_has ls 4 [(0, .ref h), (1, .int (nI k))] := hl
  have hN := hw.1
  refine lv_iconst (v := 0) hx hb dX1_apart_0 (by decide) ?_
  refine lv_istore_n (lv' := [(2, .int 0), (0, .ref h), (1, .int (nI k))]) hx hb dX1_apart_1 rfl hl (by decide) rfl (fun ls hl => ?_)
  refine lv_iload_n hx hb dX1_apart_2 rfl (lv_at hl 2 rfl) ?_
  refine lv_istore_n (lv' := [(3, .int (nI k)), (2, .int 0), (0, .ref h), (1, .int (nI k))]) hx hb dX1_apart_3 rfl hl (by decide) rfl (fun ls hl => ?_)
  refine kr_lp (nL := 4) (fun z : Int32 × Int32 => [(3, .int z.1), (2, .int z.2), (0, .ref h), (1, .int (nI k))]) (fun z => kr_kn N z.1 ∧ kr_fa A 16 z.1 z.2 = kr_fa A 16 (nI k) 0) (fun z => kr_mz z.1) ?_ (nI k, 0) ⟨Or.inr ⟨k, hk, rfl⟩, rfl⟩ (lv_sub hl [0, 1, 2, 3] rfl)
  clear hl
  intro z ls hI hl ih
  obtain ⟨f, g⟩ := z
  have hl : lv_has ls 4 [(3, .int f), (2, .int g), (0, .ref h), (1, .int (nI k))] := hl
  obtain ⟨hf, he⟩ : kr_kn N f ∧ kr_fa A 16 f g = kr_fa A 16 (nI k) 0 := hI
  refine lv_iload_n hx hb dX1_apart_4 rfl (lv_at hl 0 rfl) ?_
  refine lv_iconst (v := -1) hx hb dX1_apart_5 (by decide) ?_
  refine lv_icmp_eq (tgt := 41) hx hb dX1_apart_6 (by decide) (fun c6 => ?_) (fun c6 => ?_)
  · subst c6
    refine lv_iload_n hx hb dX1_apart_41 rfl (lv_at hl 1 rfl) ?_
    exact kr_eI hx hb hr hlocks rfl ((kr_fa_no _).symm.trans he) dX1_apart_42
  · obtain ⟨j, hj, rfl⟩ := kr_kn_of hN hf c6
    refine lv_aload_n hx hb dX1_apart_9 rfl (lv_at hl 2 rfl) ?_
    refine va_get (ci := 1) (v := .ref (a 3)) (C := RX1) (T := TX1) (N := 11) hx hb hts kr_wsX1 hown hK hP 0 rfl rfl 5 (by decide) (hts _ kq_547) (fun _ h9 => h9) rfl dX1_apart_10 ?_
    refine lv_iload_n hx hb dX1_apart_13 rfl (lv_at hl 0 rfl) ?_
    refine kr_ald hx hb hK hP 4 0 rfl rfl j (by omega) (by decide) dX1_apart_14 ?_
    refine lv_if_ne (tgt := 20) hx hb dX1_apart_15 (by decide) (fun c15 => ?_) (fun c15 => ?_)
    · rw [kr_fa_16 hw hj c15] at he
      refine lv_iload_n hx hb dX1_apart_20 rfl (lv_at hl 1 rfl) ?_
      refine lv_aload_n hx hb dX1_apart_21 rfl (lv_at hl 2 rfl) ?_
      refine va_get (ci := 1) (v := .ref (a 3)) (C := RX1) (T := TX1) (N := 11) hx hb hts kr_wsX1 hown hK hP 0 rfl rfl 5 (by decide) (hts _ kq_547) (fun _ h9 => h9) rfl dX1_apart_22 ?_
      refine lv_iload_n hx hb dX1_apart_25 rfl (lv_at hl 0 rfl) ?_
      refine kr_ald hx hb hK hP 4 0 rfl rfl j (by omega) (by decide) dX1_apart_26 ?_
      refine va_mmax hx hb (hml.trans hl.1.symm) hown (hts _ kq_730) (hts _ kq_212) (hts _ kq_56) (hts _ kq_213) (Nat.le_of_ble_eq_true rfl) (Nat.le_of_ble_eq_true rfl) (Nat.zero_le _) (Nat.zero_le _) dX1_apart_27 ?_
      show W _ _ _ _ _ _ _ _ _ _ _ _ _ _ _ (F0 _ _ _ (.int (kr_mx g (A 3 j)) :: _))
      refine lv_istore_n (lv' := [(2, .int (kr_mx g (A 3 j))), (3, .int (nI j)), (0, .ref h), (1, .int (nI k))]) hx hb dX1_apart_30 rfl hl (by decide) rfl (fun ls hl => ?_)
      refine lv_aload_n hx hb dX1_apart_31 rfl (lv_at hl 2 rfl) ?_
      refine va_get (ci := 1) (v := .ref (a 4)) (C := RX1) (T := TX1) (N := 11) hx hb hts kr_wsX1 hown hK hP 0 rfl rfl 6 (by decide) (hts _ kq_548) (fun _ h9 => h9) rfl dX1_apart_32 ?_
      refine lv_iload_n hx hb dX1_apart_35 rfl (lv_at hl 1 rfl) ?_
      refine kr_ald hx hb hK hP 5 0 rfl rfl j (by omega) (by decide) dX1_apart_36 ?_
      refine lv_istore_n (lv' := [(3, .int (A 4 j)), (2, .int (kr_mx g (A 3 j))), (0, .ref h), (1, .int (nI k))]) hx hb dX1_apart_37 rfl hl (by decide) rfl (fun ls hl => ?_)
      refine lv_goto (tgt := 4) hx hb dX1_apart_38 (by decide) ?_
      exact ih (A 4 j, kr_mx g (A 3 j)) ls ⟨hw.kn hj, he⟩ (kr_mz_lt hw hj) (lv_sub hl [0, 1, 2, 3] rfl)
    · refine lv_iconst (v := 0) hx hb dX1_apart_18 (by decide) ?_
      exact kr_eI hx hb hr hlocks rfl ((kr_fa_0 (i := 0) (by omega) (by omega) c15).symm.trans he) dX1_apart_19
set_option maxHeartbeats 4000000 in
set_option maxRecDepth 100000 in
theorem c_X1_isAhead (l : Launch) (D : va_G) (cy : ClassId) (h : Nat) (a : Nat → Nat) (th : Int32) (N L : Nat) (A : Nat → Nat → Int32) (j k : Nat) (hj : j < 16) (hk : k < 16) : Met l yX1_isAhead (Cond.code yX1_isAhead cX1_isAhead 3 (some .boolean) :: kr_all) ({ frames := 0, cells := 0, slots := 0, locals := 0 }) (va_Pc [.ref h, .int (nI j), .int (nI k)] (kr_R D (kr_W1 cy h a th N L A) cy)) (vp_Si (fun r => r = if kr_ah A j k then 1 else 0)) 0 0 (fun _ => False) := by
  refine kr_of (by decide) (Nat.le_of_ble_eq_true rfl) ?_
  intro p e s m below meth c ls hx hb hml hr hts hown hlocks hin hv hl
  obtain ⟨hP, hK⟩ := hv
  have hown : s.vm.findClass RX1 = some m.cls := hown
  have hl : lv_has ls 3 [(0, .ref h), (1, .int (nI j)), (2, .int (nI k))] := hl
  refine lv_aload_n hx hb dX1_isAhead_0 rfl (lv_at hl 0 rfl) ?_
  refine va_get (ci := 1) (v := .ref (a 0)) (C := RX1) (T := TX1) (N := 11) hx hb hts kr_wsX1 hown hK hP 0 rfl rfl 2 (by decide) (hts _ kq_544) (fun _ h9 => h9) rfl dX1_isAhead_1 ?_
  refine lv_iload_n hx hb dX1_isAhead_4 rfl (lv_at hl 1 rfl) ?_
  refine kr_ald hx hb hK hP 1 0 rfl rfl j (by omega) (by decide) dX1_isAhead_5 ?_
  refine lv_aload_n hx hb dX1_isAhead_6 rfl (lv_at hl 0 rfl) ?_
  refine va_get (ci := 1) (v := .ref (a 0)) (C := RX1) (T := TX1) (N := 11) hx hb hts kr_wsX1 hown hK hP 0 rfl rfl 2 (by decide) (hts _ kq_544) (fun _ h9 => h9) rfl dX1_isAhead_7 ?_
  refine lv_iload_n hx hb dX1_isAhead_10 rfl (lv_at hl 2 rfl) ?_
  refine kr_ald hx hb hK hP 1 0 rfl rfl k (by omega) (by decide) dX1_isAhead_11 ?_
  refine lv_icmp_eq (tgt := 17) hx hb dX1_isAhead_12 (by decide) (fun c12 => ?_) (fun c12 => ?_)
  · refine lv_aload_n hx hb dX1_isAhead_17 rfl (lv_at hl 0 rfl) ?_
    refine va_get (ci := 1) (v := .ref (a 1)) (C := RX1) (T := TX1) (N := 11) hx hb hts kr_wsX1 hown hK hP 0 rfl rfl 3 (by decide) (hts _ kq_545) (fun _ h9 => h9) rfl dX1_isAhead_18 ?_
    refine lv_iload_n hx hb dX1_isAhead_21 rfl (lv_at hl 1 rfl) ?_
    refine kr_ald hx hb hK hP 2 0 rfl rfl j (by omega) (by decide) dX1_isAhead_22 ?_
    refine lv_aload_n hx hb dX1_isAhead_23 rfl (lv_at hl 0 rfl) ?_
    refine va_get (ci := 1) (v := .ref (a 1)) (C := RX1) (T := TX1) (N := 11) hx hb hts kr_wsX1 hown hK hP 0 rfl rfl 3 (by decide) (hts _ kq_545) (fun _ h9 => h9) rfl dX1_isAhead_24 ?_
    refine lv_iload_n hx hb dX1_isAhead_27 rfl (lv_at hl 2 rfl) ?_
    refine kr_ald hx hb hK hP 2 0 rfl rfl k (by omega) (by decide) dX1_isAhead_28 ?_
    refine lv_icmp_eq (tgt := 53) hx hb dX1_isAhead_29 (by decide) (fun c29 => ?_) (fun c29 => ?_)
    · refine lv_aload_n hx hb dX1_isAhead_53 rfl (lv_at hl 0 rfl) ?_
      refine va_get (ci := 1) (v := .ref (a 2)) (C := RX1) (T := TX1) (N := 11) hx hb hts kr_wsX1 hown hK hP 0 rfl rfl 4 (by decide) (hts _ kq_546) (fun _ h9 => h9) rfl dX1_isAhead_54 ?_
      refine lv_iload_n hx hb dX1_isAhead_57 rfl (lv_at hl 1 rfl) ?_
      refine kr_ald hx hb hK hP 3 0 rfl rfl j (by omega) (by decide) dX1_isAhead_58 ?_
      refine lv_aload_n hx hb dX1_isAhead_59 rfl (lv_at hl 0 rfl) ?_
      refine va_get (ci := 1) (v := .ref (a 2)) (C := RX1) (T := TX1) (N := 11) hx hb hts kr_wsX1 hown hK hP 0 rfl rfl 4 (by decide) (hts _ kq_546) (fun _ h9 => h9) rfl dX1_isAhead_60 ?_
      refine lv_iload_n hx hb dX1_isAhead_63 rfl (lv_at hl 2 rfl) ?_
      refine kr_ald hx hb hK hP 3 0 rfl rfl k (by omega) (by decide) dX1_isAhead_64 ?_
      refine lv_icmp_lt (tgt := 88) hx hb dX1_isAhead_65 (by decide) (fun c65 => ?_) (fun c65 => ?_)
      · refine lv_iconst (v := 1) hx hb dX1_isAhead_88 (by decide) ?_
        refine lv_goto (tgt := 93) hx hb dX1_isAhead_89 (by decide) ?_
        exact kr_eZ hx hb hr hlocks rfl (Or.inr rfl) (if_pos (by unfold kr_ah kr_ia; rw [if_pos c29, if_neg (kr_ltne c65)]; exact ⟨c12, c65⟩)).symm dX1_isAhead_93
      · refine lv_aload_n hx hb dX1_isAhead_68 rfl (lv_at hl 0 rfl) ?_
        refine va_get (ci := 1) (v := .ref (a 2)) (C := RX1) (T := TX1) (N := 11) hx hb hts kr_wsX1 hown hK hP 0 rfl rfl 4 (by decide) (hts _ kq_546) (fun _ h9 => h9) rfl dX1_isAhead_69 ?_
        refine lv_iload_n hx hb dX1_isAhead_72 rfl (lv_at hl 1 rfl) ?_
        refine kr_ald hx hb hK hP 3 0 rfl rfl j (by omega) (by decide) dX1_isAhead_73 ?_
        refine lv_aload_n hx hb dX1_isAhead_74 rfl (lv_at hl 0 rfl) ?_
        refine va_get (ci := 1) (v := .ref (a 2)) (C := RX1) (T := TX1) (N := 11) hx hb hts kr_wsX1 hown hK hP 0 rfl rfl 4 (by decide) (hts _ kq_546) (fun _ h9 => h9) rfl dX1_isAhead_75 ?_
        refine lv_iload_n hx hb dX1_isAhead_78 rfl (lv_at hl 2 rfl) ?_
        refine kr_ald hx hb hK hP 3 0 rfl rfl k (by omega) (by decide) dX1_isAhead_79 ?_
        refine lv_icmp_ne (tgt := 92) hx hb dX1_isAhead_80 (by decide) (fun c80 => ?_) (fun c80 => ?_)
        · refine lv_iconst (v := 0) hx hb dX1_isAhead_92 (by decide) ?_
          exact kr_eZ hx hb hr hlocks rfl (Or.inl rfl) (if_neg (by unfold kr_ah kr_ia; rw [if_pos c29, if_neg c80]; exact fun z => c65 z.2)).symm dX1_isAhead_93
        · refine lv_iload_n hx hb dX1_isAhead_83 rfl (lv_at hl 1 rfl) ?_
          refine lv_iload_n hx hb dX1_isAhead_84 rfl (lv_at hl 2 rfl) ?_
          refine lv_icmp_ge (tgt := 92) hx hb dX1_isAhead_85 (by decide) (fun c85 => ?_) (fun c85 => ?_)
          · refine lv_iconst (v := 0) hx hb dX1_isAhead_92 (by decide) ?_
            exact kr_eZ hx hb hr hlocks rfl (Or.inl rfl) (if_neg (by unfold kr_ah kr_ia; rw [if_pos c29, if_pos c80]; have := kr_ge (by omega) (by omega) c85; omega)).symm dX1_isAhead_93
          · refine lv_iconst (v := 1) hx hb dX1_isAhead_88 (by decide) ?_
            refine lv_goto (tgt := 93) hx hb dX1_isAhead_89 (by decide) ?_
            exact kr_eZ hx hb hr hlocks rfl (Or.inr rfl) (if_pos (by unfold kr_ah kr_ia; rw [if_pos c29, if_pos c80]; exact ⟨c12, kr_lt (by omega) (by omega) c85⟩)).symm dX1_isAhead_93
    · refine lv_aload_n hx hb dX1_isAhead_32 rfl (lv_at hl 0 rfl) ?_
      refine va_get (ci := 1) (v := .ref (a 1)) (C := RX1) (T := TX1) (N := 11) hx hb hts kr_wsX1 hown hK hP 0 rfl rfl 3 (by decide) (hts _ kq_545) (fun _ h9 => h9) rfl dX1_isAhead_33 ?_
      refine lv_iload_n hx hb dX1_isAhead_36 rfl (lv_at hl 1 rfl) ?_
      refine kr_ald hx hb hK hP 2 0 rfl rfl j (by omega) (by decide) dX1_isAhead_37 ?_
      refine lv_aload_n hx hb dX1_isAhead_38 rfl (lv_at hl 0 rfl) ?_
      refine va_get (ci := 1) (v := .ref (a 1)) (C := RX1) (T := TX1) (N := 11) hx hb hts kr_wsX1 hown hK hP 0 rfl rfl 3 (by decide) (hts _ kq_545) (fun _ h9 => h9) rfl dX1_isAhead_39 ?_
      refine lv_iload_n hx hb dX1_isAhead_42 rfl (lv_at hl 2 rfl) ?_
      refine kr_ald hx hb hK hP 2 0 rfl rfl k (by omega) (by decide) dX1_isAhead_43 ?_
      refine lv_icmp_le (tgt := 51) hx hb dX1_isAhead_44 (by decide) (fun c44 => ?_) (fun c44 => ?_)
      · refine lv_iconst (v := 0) hx hb dX1_isAhead_51 (by decide) ?_
        exact kr_eZ hx hb hr hlocks rfl (Or.inl rfl) (if_neg (by unfold kr_ah kr_ia; rw [if_neg c29]; exact fun z => kr_ngt2 c44 z.2)).symm dX1_isAhead_52
      · refine lv_iconst (v := 1) hx hb dX1_isAhead_47 (by decide) ?_
        refine lv_goto (tgt := 52) hx hb dX1_isAhead_48 (by decide) ?_
        exact kr_eZ hx hb hr hlocks rfl (Or.inr rfl) (if_pos (by unfold kr_ah kr_ia; rw [if_neg c29]; exact ⟨c12, kr_nle2 c44⟩)).symm dX1_isAhead_52
  · refine lv_iconst (v := 0) hx hb dX1_isAhead_15 (by decide) ?_
    exact kr_eZ hx hb hr hlocks rfl (Or.inl rfl) (if_neg (fun z => c12 z.1)).symm dX1_isAhead_16
theorem kg_RX1_62 : GoodIn kr_all (wsV RX1 62 RX1 yX1_isAhead (Cond.code yX1_isAhead cX1_isAhead 3 (some .boolean) :: kr_all)) := kr_gV kq_698 kq_700 kq_36 kq_49 kq_701
set_option maxHeartbeats 4000000 in
set_option maxRecDepth 100000 in
theorem c_X1_rank (l : Launch) (D : va_G) (cy : ClassId) (h : Nat) (a : Nat → Nat) (th : Int32) (N L : Nat) (A : Nat → Nat → Int32) (k : Nat) (hN : N ≤ 16) (hk : k < N) : Met l yX1_rank (Cond.code yX1_rank cX1_rank 4 (some .int) :: kr_all) ({ frames := 1, cells := 0, slots := 0, locals := 22 }) (va_Pc [.ref h, .int (nI k)] (kr_R D (kr_W1 cy h a th N L A) cy)) (vp_Si (fun r => r = nI (kr_rk A k N))) 0 0 (fun _ => False) := by
  refine kr_of (by decide) (Nat.le_of_ble_eq_true rfl) ?_
  intro p e s m below meth c ls hx hb hml hr hts hown hlocks hin hv hl
  obtain ⟨hP, hK⟩ := hv
  have hown : s.vm.findClass RX1 = some m.cls := hown
  have hl : lv_has ls 4 [(0, .ref h), (1, .int (nI k))] := hl
  refine lv_iconst (v := 0) hx hb dX1_rank_0 (by decide) ?_
  refine lv_istore_n (lv' := [(2, .int 0), (0, .ref h), (1, .int (nI k))]) hx hb dX1_rank_1 rfl hl (by decide) rfl (fun ls hl => ?_)
  refine lv_iconst (v := 0) hx hb dX1_rank_2 (by decide) ?_
  refine lv_istore_n (lv' := [(3, .int 0), (2, .int 0), (0, .ref h), (1, .int (nI k))]) hx hb dX1_rank_3 rfl hl (by decide) rfl (fun ls hl => ?_)
  refine kr_lp (nL := 4) (fun z : Nat × Nat => [(3, .int (nI z.1)), (2, .int (nI z.2)), (0, .ref h), (1, .int (nI k))]) (fun z => z.1 ≤ N ∧ z.2 = kr_rk A k z.1) (fun z => N - z.1) ?_ (0, 0) ⟨by omega, rfl⟩ (lv_sub hl [0, 1, 2, 3] rfl)
  clear hl
  intro z ls hI hl ih
  obtain ⟨i, g⟩ := z
  have hl : lv_has ls 4 [(3, .int (nI i)), (2, .int (nI g)), (0, .ref h), (1, .int (nI k))] := hl
  obtain ⟨hi0, hg⟩ : i ≤ N ∧ g = kr_rk A k i := hI
  refine lv_iload_n hx hb dX1_rank_4 rfl (lv_at hl 0 rfl) ?_
  refine lv_aload_n hx hb dX1_rank_5 rfl (lv_at hl 2 rfl) ?_
  refine va_get (ci := 1) (v := .int (nI N)) (C := RX1) (T := TX1) (N := 11) hx hb hts kr_wsX1 hown hK hP 0 rfl rfl 1 (by decide) (hts _ kq_543) (fun _ h9 => h9) rfl dX1_rank_6 ?_
  refine lv_icmp_ge (tgt := 35) hx hb dX1_rank_9 (by decide) (fun c9 => ?_) (fun c9 => ?_)
  · have hi2 : i = N := by have := kr_ge (by omega) (by omega) c9; omega
    refine lv_iload_n hx hb dX1_rank_35 rfl (lv_at hl 1 rfl) ?_
    exact kr_eI hx hb hr hlocks rfl (by rw [hg, hi2]) dX1_rank_36
  · have hi : i < N := kr_lt (by omega) (by omega) c9
    refine lv_iload_n hx hb dX1_rank_12 rfl (lv_at hl 1 rfl) ?_
    refine lv_aload_n hx hb dX1_rank_13 rfl (lv_at hl 2 rfl) ?_
    refine lv_iload_n hx hb dX1_rank_14 rfl (lv_at hl 0 rfl) ?_
    refine lv_iload_n hx hb dX1_rank_15 rfl (lv_at hl 3 rfl) ?_
    refine kr_vI (n := 2) (As := [.int (nI i), .int (nI k)]) (rest := [.int (nI g)]) ⟨hx, hb, hml, hown, hts⟩ (c_X1_isAhead l D cy h a th N L A i k (by omega) (by omega)) kg_RX1_62 ⟨rfl, rfl⟩ (by decide +kernel) ⟨Nat.le_of_ble_eq_true rfl, Nat.le_of_ble_eq_true rfl⟩ (kr_pv1 hP hK) rfl hl.1 rfl (Nat.le_of_ble_eq_true rfl) dX1_rank_16 ⟨Nat.zero_le _, Nat.zero_le _⟩ (fun r9 e9 => ?_)
    subst e9
    refine lv_if_eq (tgt := 26) hx hb dX1_rank_19 (by decide) (fun c19 => ?_) (fun c19 => ?_)
    · refine lv_iconst (v := 0) hx hb dX1_rank_26 (by decide) ?_
      refine kr_iaddN hx hb g 0 dX1_rank_27 ?_
      refine lv_istore_n (lv' := [(2, .int (nI (g + 0))), (3, .int (nI i)), (0, .ref h), (1, .int (nI k))]) hx hb dX1_rank_28 rfl hl (by decide) rfl (fun ls hl => ?_)
      refine lv_iinc (v := nI (i + 1)) (lv' := [(3, .int (nI (i + 1))), (2, .int (nI (g + 0))), (0, .ref h), (1, .int (nI k))]) hx hb dX1_rank_29 hl (k := 1) rfl (kr_inc _) (by decide) rfl (fun ls hl => ?_)
      refine lv_goto (tgt := 4) hx hb dX1_rank_32 (by decide) ?_
      exact ih (i + 1, g + 0) ls ⟨by omega, by rw [hg, kr_rk_s, if_neg (kr_if0 c19)]⟩ (by show N - (i + 1) < N - i; omega) (lv_sub hl [0, 1, 2, 3] rfl)
    · refine lv_iconst (v := 1) hx hb dX1_rank_22 (by decide) ?_
      refine lv_goto (tgt := 27) hx hb dX1_rank_23 (by decide) ?_
      refine kr_iaddN hx hb g 1 dX1_rank_27 ?_
      refine lv_istore_n (lv' := [(2, .int (nI (g + 1))), (3, .int (nI i)), (0, .ref h), (1, .int (nI k))]) hx hb dX1_rank_28 rfl hl (by decide) rfl (fun ls hl => ?_)
      refine lv_iinc (v := nI (i + 1)) (lv' := [(3, .int (nI (i + 1))), (2, .int (nI (g + 1))), (0, .ref h), (1, .int (nI k))]) hx hb dX1_rank_29 hl (k := 1) rfl (kr_inc _) (by decide) rfl (fun ls hl => ?_)
      refine lv_goto (tgt := 4) hx hb dX1_rank_32 (by decide) ?_
      exact ih (i + 1, g + 1) ls ⟨by omega, by rw [hg, kr_rk_s, if_pos (kr_if1 c19)]⟩ (by show N - (i + 1) < N - i; omega) (lv_sub hl [0, 1, 2, 3] rfl)
set_option maxHeartbeats 4000000 in
set_option maxRecDepth 100000 in
theorem c_X1_strength (l : Launch) (D : va_G) (cy : ClassId) (h : Nat) (a : Nat → Nat) (th : Int32) (N L : Nat) (A : Nat → Nat → Int32) (q pl k : Nat) (hq : q < 6) (hp : pl < 5) (hk : k < 16) : Met l yX1_strength (Cond.code yX1_strength cX1_strength 5 (some .int) :: kr_all) ({ frames := 1, cells := 0, slots := 0, locals := 13 }) (va_Pc [.ref h, .int (nI q), .int (nI pl), .int (nI k)] (kr_R D (kr_W1 cy h a th N L A) cy)) (vp_Si (fun r => r = kr_st A q pl (nI k))) 0 0 (fun _ => False) := by
  refine kr_of (by decide) (Nat.le_of_ble_eq_true rfl) ?_
  intro p e s m below meth c ls hx hb hml hr hts hown hlocks hin hv hl
  obtain ⟨hP, hK⟩ := hv
  have hown : s.vm.findClass RX1 = some m.cls := hown
  have hl : lv_has ls 5 [(0, .ref h), (1, .int (nI q)), (2, .int (nI pl)), (3, .int (nI k))] := hl
  refine lv_aload_n hx hb dX1_strength_0 rfl (lv_at hl 0 rfl) ?_
  refine va_get (ci := 1) (v := .ref (a 7)) (C := RX1) (T := TX1) (N := 11) hx hb hts kr_wsX1 hown hK hP 0 rfl rfl 9 (by decide) (hts _ kq_551) (fun _ h9 => h9) rfl dX1_strength_1 ?_
  refine lv_iconst (v := 5) hx hb dX1_strength_4 (by decide) ?_
  refine lv_iload_n hx hb dX1_strength_5 rfl (lv_at hl 1 rfl) ?_
  refine kr_imulN hx hb 5 q dX1_strength_6 ?_
  refine lv_iload_n hx hb dX1_strength_7 rfl (lv_at hl 2 rfl) ?_
  refine kr_iaddN hx hb (5 * q) pl dX1_strength_8 ?_
  refine kr_ald hx hb hK hP 8 0 rfl rfl ((5 * q) + pl) (by omega) (by decide) dX1_strength_9 ?_
  refine lv_istore (lv' := [(4, .int (A 7 ((5 * q) + pl))), (0, .ref h), (1, .int (nI q)), (2, .int (nI pl)), (3, .int (nI k))]) hx hb dX1_strength_10 hl (by decide) rfl (fun ls hl => ?_)
  refine lv_iload_n hx hb dX1_strength_12 rfl (lv_at hl 3 rfl) ?_
  refine lv_if_le (tgt := 35) hx hb dX1_strength_13 (by decide) (fun c13 => ?_) (fun c13 => ?_)
  · refine lv_iload hx hb dX1_strength_35 (lv_at hl 0 rfl) ?_
    refine lv_aload_n hx hb dX1_strength_37 rfl (lv_at hl 1 rfl) ?_
    refine va_get (ci := 1) (v := .ref (a 1)) (C := RX1) (T := TX1) (N := 11) hx hb hts kr_wsX1 hown hK hP 0 rfl rfl 3 (by decide) (hts _ kq_545) (fun _ h9 => h9) rfl dX1_strength_38 ?_
    refine lv_iload_n hx hb dX1_strength_41 rfl (lv_at hl 4 rfl) ?_
    refine kr_ald hx hb hK hP 2 0 rfl rfl k (by omega) (by decide) dX1_strength_42 ?_
    refine lv_imul hx hb dX1_strength_43 ?_
    refine lv_bipush (v := 100) hx hb dX1_strength_44 (by decide) ?_
    refine lv_idiv hx hb dX1_strength_46 (by decide) ?_
    exact kr_eI hx hb hr hlocks rfl (kr_st_0 (by have := kr_ge (a := 0) (b := pl) (by decide) (by omega) c13; omega) (by omega)).symm dX1_strength_47
  · have hp0 : 0 < pl := kr_lt (a := 0) (by decide) (by omega) c13
    refine lv_iload hx hb dX1_strength_16 (lv_at hl 0 rfl) ?_
    refine lv_aload_n hx hb dX1_strength_18 rfl (lv_at hl 1 rfl) ?_
    refine va_get (ci := 1) (v := .ref (a 7)) (C := RX1) (T := TX1) (N := 11) hx hb hts kr_wsX1 hown hK hP 0 rfl rfl 9 (by decide) (hts _ kq_551) (fun _ h9 => h9) rfl dX1_strength_19 ?_
    refine lv_iconst (v := 5) hx hb dX1_strength_22 (by decide) ?_
    refine lv_iload_n hx hb dX1_strength_23 rfl (lv_at hl 2 rfl) ?_
    refine kr_imulN hx hb 5 q dX1_strength_24 ?_
    refine lv_iload_n hx hb dX1_strength_25 rfl (lv_at hl 3 rfl) ?_
    refine kr_iaddN hx hb (5 * q) pl dX1_strength_26 ?_
    refine lv_iconst (v := 1) hx hb dX1_strength_27 (by decide) ?_
    refine kr_isubN hx hb ((5 * q) + pl) 1 (by omega) dX1_strength_28 ?_
    refine kr_ald hx hb hK hP 8 0 rfl rfl (((5 * q) + pl) - 1) (by omega) (by decide) dX1_strength_29 ?_
    refine va_mmin hx hb (hml.trans hl.1.symm) hown (hts _ kq_649) (hts _ kq_209) (hts _ kq_56) (hts _ kq_210) (Nat.le_of_ble_eq_true rfl) (Nat.le_of_ble_eq_true rfl) (Nat.zero_le _) (Nat.zero_le _) dX1_strength_30 ?_
    show W _ _ _ _ _ _ _ _ _ _ _ _ _ _ _ (F0 _ _ _ (.int (kr_mn (A 7 ((5 * q) + pl)) (A 7 (((5 * q) + pl) - 1))) :: _))
    refine lv_istore (lv' := [(4, .int (kr_mn (A 7 ((5 * q) + pl)) (A 7 (((5 * q) + pl) - 1)))), (0, .ref h), (1, .int (nI q)), (2, .int (nI pl)), (3, .int (nI k))]) hx hb dX1_strength_33 hl (by decide) rfl (fun ls hl => ?_)
    refine lv_iload hx hb dX1_strength_35 (lv_at hl 0 rfl) ?_
    refine lv_aload_n hx hb dX1_strength_37 rfl (lv_at hl 1 rfl) ?_
    refine va_get (ci := 1) (v := .ref (a 1)) (C := RX1) (T := TX1) (N := 11) hx hb hts kr_wsX1 hown hK hP 0 rfl rfl 3 (by decide) (hts _ kq_545) (fun _ h9 => h9) rfl dX1_strength_38 ?_
    refine lv_iload_n hx hb dX1_strength_41 rfl (lv_at hl 4 rfl) ?_
    refine kr_ald hx hb hK hP 2 0 rfl rfl k (by omega) (by decide) dX1_strength_42 ?_
    refine lv_imul hx hb dX1_strength_43 ?_
    refine lv_bipush (v := 100) hx hb dX1_strength_44 (by decide) ?_
    refine lv_idiv hx hb dX1_strength_46 (by decide) ?_
    exact kr_eI hx hb hr hlocks rfl (kr_st_s (by omega) (by omega)).symm dX1_strength_47
theorem kg_RX1_71 : GoodIn kr_all (wsV RX1 71 RX1 yX1_strength (Cond.code yX1_strength cX1_strength 5 (some .int) :: kr_all)) := kr_gV kq_645 kq_647 kq_31 kq_49 kq_648
set_option maxHeartbeats 4000000 in
set_option maxRecDepth 100000 in
theorem c_X1_now (l : Launch) (D : va_G) (cy : ClassId) (h : Nat) (a : Nat → Nat) (th : Int32) (N L : Nat) (A : Nat → Nat → Int32) (q pl : Nat) (hw : kr_wf N L A) (hq : q < L) (hp : pl < kr_rc A q) : Met l yX1_now (Cond.code yX1_now cX1_now 3 (some .int) :: kr_all) ({ frames := 2, cells := 0, slots := 0, locals := 37 }) (va_Pc [.ref h, .int (nI q), .int (nI pl)] (kr_R D (kr_W1 cy h a th N L A) cy)) (vp_Si (fun r => r = kr_nw A q pl)) 0 0 (fun _ => False) := by
  refine kr_of (by decide) (Nat.le_of_ble_eq_true rfl) ?_
  intro p e s m below meth c ls hx hb hml hr hts hown hlocks hin hv hl
  obtain ⟨hP, hK⟩ := hv
  have hown : s.vm.findClass RX1 = some m.cls := hown
  have hl : lv_has ls 3 [(0, .ref h), (1, .int (nI q)), (2, .int (nI pl))] := hl
  have hN := hw.1
  have hL := hw.2.1
  have hrc := (hw.rc hq).1
  refine lv_aload_n hx hb dX1_now_0 rfl (lv_at hl 0 rfl) ?_
  refine lv_iload_n hx hb dX1_now_1 rfl (lv_at hl 1 rfl) ?_
  refine lv_iload_n hx hb dX1_now_2 rfl (lv_at hl 2 rfl) ?_
  refine lv_aload_n hx hb dX1_now_3 rfl (lv_at hl 0 rfl) ?_
  refine va_get (ci := 1) (v := .ref (a 6)) (C := RX1) (T := TX1) (N := 11) hx hb hts kr_wsX1 hown hK hP 0 rfl rfl 10 (by decide) (hts _ kq_552) (fun _ h9 => h9) rfl dX1_now_4 ?_
  refine lv_iconst (v := 5) hx hb dX1_now_7 (by decide) ?_
  refine lv_iload_n hx hb dX1_now_8 rfl (lv_at hl 1 rfl) ?_
  refine kr_imulN hx hb 5 q dX1_now_9 ?_
  refine lv_iload_n hx hb dX1_now_10 rfl (lv_at hl 2 rfl) ?_
  refine kr_iaddN hx hb (5 * q) pl dX1_now_11 ?_
  refine kr_ald hx hb hK hP 7 0 rfl rfl ((5 * q) + pl) (by omega) (by decide) dX1_now_12 ?_
  obtain ⟨k, hk, ek⟩ := hw.tk hq hp
  rw [ek]
  refine kr_vI (n := 3) (As := [.int (nI q), .int (nI pl), .int (nI k)]) (rest := []) ⟨hx, hb, hml, hown, hts⟩ (c_X1_strength l D cy h a th N L A q pl k (by omega) (by omega) (by omega)) kg_RX1_71 ⟨rfl, rfl⟩ (by decide +kernel) ⟨Nat.le_of_ble_eq_true rfl, Nat.le_of_ble_eq_true rfl⟩ (kr_pv1 hP hK) rfl hl.1 rfl (Nat.le_of_ble_eq_true rfl) dX1_now_13 ⟨Nat.zero_le _, Nat.zero_le _⟩ (fun r9 e9 => ?_)
  subst e9
  exact kr_eI hx hb hr hlocks rfl (by unfold kr_nw; rw [ek]) dX1_now_16
theorem kg_RX1_68 : GoodIn kr_all (wsV RX1 68 RX1 yX1_form (Cond.code yX1_form cX1_form 4 (some .int) :: kr_all)) := kr_gV kq_637 kq_639 kq_29 kq_49 kq_640
set_option maxHeartbeats 4000000 in
set_option maxRecDepth 100000 in
theorem c_X1_placeHolds (l : Launch) (D : va_G) (cy : ClassId) (h : Nat) (a : Nat → Nat) (th : Int32) (N L : Nat) (A : Nat → Nat → Int32) (q pl : Nat) (ld : Int32) (hw : kr_wf N L A) (hq : q < L) (hp : pl < kr_rc A q) : Met l yX1_placeHolds (Cond.code yX1_placeHolds cX1_placeHolds 5 (some .boolean) :: kr_all) ({ frames := 2, cells := 0, slots := 0, locals := 45 }) (va_Pc [.ref h, .int (nI q), .int (nI pl), .int ld] (kr_R D (kr_W1 cy h a th N L A) cy)) (vp_Si (fun r => r = if kr_ph A q ld pl then 1 else 0)) 0 0 (fun _ => False) := by
  refine kr_of (by decide) (Nat.le_of_ble_eq_true rfl) ?_
  intro p e s m below meth c ls hx hb hml hr hts hown hlocks hin hv hl
  obtain ⟨hP, hK⟩ := hv
  have hown : s.vm.findClass RX1 = some m.cls := hown
  have hl : lv_has ls 5 [(0, .ref h), (1, .int (nI q)), (2, .int (nI pl)), (3, .int ld)] := hl
  have hN := hw.1
  have hL := hw.2.1
  have hrc := (hw.rc hq).1
  refine lv_aload_n hx hb dX1_placeHolds_0 rfl (lv_at hl 0 rfl) ?_
  refine lv_aload_n hx hb dX1_placeHolds_1 rfl (lv_at hl 0 rfl) ?_
  refine va_get (ci := 1) (v := .ref (a 6)) (C := RX1) (T := TX1) (N := 11) hx hb hts kr_wsX1 hown hK hP 0 rfl rfl 10 (by decide) (hts _ kq_552) (fun _ h9 => h9) rfl dX1_placeHolds_2 ?_
  refine lv_iconst (v := 5) hx hb dX1_placeHolds_5 (by decide) ?_
  refine lv_iload_n hx hb dX1_placeHolds_6 rfl (lv_at hl 1 rfl) ?_
  refine kr_imulN hx hb 5 q dX1_placeHolds_7 ?_
  refine lv_iload_n hx hb dX1_placeHolds_8 rfl (lv_at hl 2 rfl) ?_
  refine kr_iaddN hx hb (5 * q) pl dX1_placeHolds_9 ?_
  refine kr_ald hx hb hK hP 7 0 rfl rfl ((5 * q) + pl) (by omega) (by decide) dX1_placeHolds_10 ?_
  refine lv_iload_n hx hb dX1_placeHolds_11 rfl (lv_at hl 3 rfl) ?_
  refine kr_vI (n := 2) (As := [.int (A 6 ((5 * q) + pl)), .int ld]) (rest := []) ⟨hx, hb, hml, hown, hts⟩ (c_X1_form l D cy h a th N L A (A 6 ((5 * q) + pl)) ld hw (by first | assumption | exact Or.inr ⟨_, by assumption, rfl⟩ | exact hw.tn (by assumption) (by assumption))) kg_RX1_68 ⟨rfl, rfl⟩ (by decide +kernel) ⟨Nat.le_of_ble_eq_true rfl, Nat.le_of_ble_eq_true rfl⟩ (kr_pv1 hP hK) rfl hl.1 rfl (Nat.le_of_ble_eq_true rfl) dX1_placeHolds_12 ⟨Nat.zero_le _, Nat.zero_le _⟩ (fun r9 e9 => ?_)
  subst e9
  refine lv_topi (fun f ef => ?_)
  have hf : kr_kn N f := ef ▸ kr_fm_kn hw 16 _ (hw.tn hq hp)
  refine lv_istore (lv' := [(4, .int f), (0, .ref h), (1, .int (nI q)), (2, .int (nI pl)), (3, .int ld)]) hx hb dX1_placeHolds_15 hl (by decide) rfl (fun ls hl => ?_)
  refine lv_iload hx hb dX1_placeHolds_17 (lv_at hl 0 rfl) ?_
  refine lv_iconst (v := -1) hx hb dX1_placeHolds_19 (by decide) ?_
  refine lv_icmp_eq (tgt := 39) hx hb dX1_placeHolds_20 (by decide) (fun c20 => ?_) (fun c20 => ?_)
  · refine lv_iconst (v := 0) hx hb dX1_placeHolds_39 (by decide) ?_
    exact kr_eZ hx hb hr hlocks rfl (Or.inl rfl) (if_neg (fun z => z.1 (ef ▸ c20))).symm dX1_placeHolds_40
  · obtain ⟨k, hk, rfl⟩ := kr_kn_of hN hf c20
    refine lv_aload_n hx hb dX1_placeHolds_23 rfl (lv_at hl 1 rfl) ?_
    refine lv_iload_n hx hb dX1_placeHolds_24 rfl (lv_at hl 2 rfl) ?_
    refine lv_iload_n hx hb dX1_placeHolds_25 rfl (lv_at hl 3 rfl) ?_
    refine lv_iload hx hb dX1_placeHolds_26 (lv_at hl 0 rfl) ?_
    refine kr_vI (n := 3) (As := [.int (nI q), .int (nI pl), .int (nI k)]) (rest := []) ⟨hx, hb, hml, hown, hts⟩ (c_X1_strength l D cy h a th N L A q pl k (by omega) (by omega) (by omega)) kg_RX1_71 ⟨rfl, rfl⟩ (by decide +kernel) ⟨Nat.le_of_ble_eq_true rfl, Nat.le_of_ble_eq_true rfl⟩ (kr_pv1 hP hK) rfl hl.1 rfl (Nat.le_of_ble_eq_true rfl) dX1_placeHolds_28 ⟨Nat.zero_le _, Nat.zero_le _⟩ (fun r9 e9 => ?_)
    subst e9
    refine lv_iload_n hx hb dX1_placeHolds_31 rfl (lv_at hl 4 rfl) ?_
    refine lv_icmp_lt (tgt := 39) hx hb dX1_placeHolds_32 (by decide) (fun c32 => ?_) (fun c32 => ?_)
    · refine lv_iconst (v := 0) hx hb dX1_placeHolds_39 (by decide) ?_
      exact kr_eZ hx hb hr hlocks rfl (Or.inl rfl) (if_neg (fun z => kr_ngt c32 (by have := z.2; rw [← ef] at this; exact this))).symm dX1_placeHolds_40
    · refine lv_iconst (v := 1) hx hb dX1_placeHolds_35 (by decide) ?_
      refine lv_goto (tgt := 40) hx hb dX1_placeHolds_36 (by decide) ?_
      exact kr_eZ hx hb hr hlocks rfl (Or.inr rfl) (if_pos ⟨by rw [← ef]; exact kr_kn_ne (by omega), by rw [← ef]; exact kr_nlt c32⟩).symm dX1_placeHolds_40
theorem kg_RX1_75 : GoodIn kr_all (wsV RX1 75 RX1 yX1_placeHolds (Cond.code yX1_placeHolds cX1_placeHolds 5 (some .boolean) :: kr_all)) := kr_gV kq_633 kq_635 kq_28 kq_49 kq_636
set_option maxHeartbeats 4000000 in
set_option maxRecDepth 100000 in
theorem c_X1_giving (l : Launch) (D : va_G) (cy : ClassId) (h : Nat) (a : Nat → Nat) (th : Int32) (N L : Nat) (A : Nat → Nat → Int32) (q : Nat) (ld : Int32) (hw : kr_wf N L A) (hq : q < L) : Met l yX1_giving (Cond.code yX1_giving cX1_giving 4 (some .int) :: kr_all) ({ frames := 3, cells := 0, slots := 0, locals := 69 }) (va_Pc [.ref h, .int (nI q), .int ld] (kr_R D (kr_W1 cy h a th N L A) cy)) (vp_Si (fun r => r = kr_gw A q ld)) 0 0 (fun _ => False) := by
  refine kr_of (by decide) (Nat.le_of_ble_eq_true rfl) ?_
  intro p e s m below meth c ls hx hb hml hr hts hown hlocks hin hv hl
  obtain ⟨hP, hK⟩ := hv
  have hown : s.vm.findClass RX1 = some m.cls := hown
  have hl : lv_has ls 4 [(0, .ref h), (1, .int (nI q)), (2, .int ld)] := hl
  have hL := hw.2.1
  obtain ⟨hrc, er⟩ := hw.rc hq
  refine lv_iconst (v := 0) hx hb dX1_giving_0 (by decide) ?_
  refine lv_istore_n (lv' := [(3, .int 0), (0, .ref h), (1, .int (nI q)), (2, .int ld)]) hx hb dX1_giving_1 rfl hl (by decide) rfl (fun ls hl => ?_)
  refine kr_lp (nL := 4) (fun z : Nat => [(3, .int (nI z)), (0, .ref h), (1, .int (nI q)), (2, .int ld)]) (fun z => z ≤ kr_rc A q ∧ kr_fg A q ld (kr_rc A q - z) z = kr_gw A q ld) (fun z => kr_rc A q - z) ?_ (0) ⟨by omega, rfl⟩ (lv_sub hl [0, 1, 2, 3] rfl)
  clear hl
  intro z ls hI hl ih
  obtain ⟨i, rfl⟩ : ∃ y, y = z := ⟨_, rfl⟩
  have hl : lv_has ls 4 [(3, .int (nI i)), (0, .ref h), (1, .int (nI q)), (2, .int ld)] := hl
  obtain ⟨hi0, he⟩ : i ≤ kr_rc A q ∧ kr_fg A q ld (kr_rc A q - i) i = kr_gw A q ld := hI
  refine lv_iload_n hx hb dX1_giving_2 rfl (lv_at hl 0 rfl) ?_
  refine lv_aload_n hx hb dX1_giving_3 rfl (lv_at hl 1 rfl) ?_
  refine va_get (ci := 1) (v := .ref (a 5)) (C := RX1) (T := TX1) (N := 11) hx hb hts kr_wsX1 hown hK hP 0 rfl rfl 8 (by decide) (hts _ kq_550) (fun _ h9 => h9) rfl dX1_giving_4 ?_
  refine lv_iload_n hx hb dX1_giving_7 rfl (lv_at hl 2 rfl) ?_
  refine kr_ald hx hb hK hP 6 0 rfl rfl q (by omega) (by decide) dX1_giving_8 ?_
  rw [er]
  refine lv_icmp_ge (tgt := 30) hx hb dX1_giving_9 (by decide) (fun c9 => ?_) (fun c9 => ?_)
  · have hi2 : i = kr_rc A q := by have := kr_ge (by omega) (by omega) c9; omega
    refine lv_iconst (v := -1) hx hb dX1_giving_30 (by decide) ?_
    exact kr_eI hx hb hr hlocks rfl (by rw [hi2, Nat.sub_self] at he; exact he) dX1_giving_31
  · have hi : i < kr_rc A q := kr_lt (by omega) (by omega) c9
    refine lv_aload_n hx hb dX1_giving_12 rfl (lv_at hl 1 rfl) ?_
    refine lv_iload_n hx hb dX1_giving_13 rfl (lv_at hl 2 rfl) ?_
    refine lv_iload_n hx hb dX1_giving_14 rfl (lv_at hl 0 rfl) ?_
    refine lv_iload_n hx hb dX1_giving_15 rfl (lv_at hl 3 rfl) ?_
    refine kr_vI (n := 3) (As := [.int (nI q), .int (nI i), .int ld]) (rest := []) ⟨hx, hb, hml, hown, hts⟩ (c_X1_placeHolds l D cy h a th N L A q i ld hw (by omega) (by omega)) kg_RX1_75 ⟨rfl, rfl⟩ (by decide +kernel) ⟨Nat.le_of_ble_eq_true rfl, Nat.le_of_ble_eq_true rfl⟩ (kr_pv1 hP hK) rfl hl.1 rfl (Nat.le_of_ble_eq_true rfl) dX1_giving_16 ⟨Nat.zero_le _, Nat.zero_le _⟩ (fun r9 e9 => ?_)
    subst e9
    refine lv_if_ne (tgt := 24) hx hb dX1_giving_19 (by decide) (fun c19 => ?_) (fun c19 => ?_)
    · refine lv_iinc (v := nI (i + 1)) (lv' := [(3, .int (nI (i + 1))), (0, .ref h), (1, .int (nI q)), (2, .int ld)]) hx hb dX1_giving_24 hl (k := 0) rfl (kr_inc _) (by decide) rfl (fun ls hl => ?_)
      refine lv_goto (tgt := 2) hx hb dX1_giving_27 (by decide) ?_
      exact ih (i + 1) ls ⟨by omega, (kr_fg_s (kr_if1 c19) hi).symm.trans he⟩ (by show kr_rc A q - (i + 1) < kr_rc A q - i; omega) (lv_sub hl [0, 1, 2, 3] rfl)
    · refine lv_iload_n hx hb dX1_giving_22 rfl (lv_at hl 0 rfl) ?_
      exact kr_eI hx hb hr hlocks rfl ((kr_fg_no (kr_if0 c19) hi).symm.trans he) dX1_giving_23
set_option maxHeartbeats 4000000 in
set_option maxRecDepth 100000 in
theorem c_X1_placeUpTo (l : Launch) (D : va_G) (cy : ClassId) (h : Nat) (a : Nat → Nat) (th : Int32) (N L : Nat) (A : Nat → Nat → Int32) (q pl : Nat) (hw : kr_wf N L A) (hq : q < L) (hp : pl < kr_rc A q) : Met l yX1_placeUpTo (Cond.code yX1_placeUpTo cX1_placeUpTo 7 (some .int) :: kr_all) ({ frames := 2, cells := 0, slots := 0, locals := 37 }) (va_Pc [.ref h, .int (nI q), .int (nI pl)] (kr_R D (kr_W1 cy h a th N L A) cy)) (vp_Si (fun r => r = kr_lh A (kr_st A q pl) 16 (A 6 (5 * q + pl)) 0)) 0 0 (fun _ => False) := by
  refine kr_of (by decide) (Nat.le_of_ble_eq_true rfl) ?_
  intro p e s m below meth c ls hx hb hml hr hts hown hlocks hin hv hl
  obtain ⟨hP, hK⟩ := hv
  have hown : s.vm.findClass RX1 = some m.cls := hown
  have hl : lv_has ls 7 [(0, .ref h), (1, .int (nI q)), (2, .int (nI pl))] := hl
  have hN := hw.1
  have hL := hw.2.1
  have hrc := (hw.rc hq).1
  refine lv_iconst (v := 0) hx hb dX1_placeUpTo_0 (by decide) ?_
  refine lv_istore_n (lv' := [(3, .int 0), (0, .ref h), (1, .int (nI q)), (2, .int (nI pl))]) hx hb dX1_placeUpTo_1 rfl hl (by decide) rfl (fun ls hl => ?_)
  refine lv_aload_n hx hb dX1_placeUpTo_2 rfl (lv_at hl 1 rfl) ?_
  refine va_get (ci := 1) (v := .ref (a 6)) (C := RX1) (T := TX1) (N := 11) hx hb hts kr_wsX1 hown hK hP 0 rfl rfl 10 (by decide) (hts _ kq_552) (fun _ h9 => h9) rfl dX1_placeUpTo_3 ?_
  refine lv_iconst (v := 5) hx hb dX1_placeUpTo_6 (by decide) ?_
  refine lv_iload_n hx hb dX1_placeUpTo_7 rfl (lv_at hl 2 rfl) ?_
  refine kr_imulN hx hb 5 q dX1_placeUpTo_8 ?_
  refine lv_iload_n hx hb dX1_placeUpTo_9 rfl (lv_at hl 3 rfl) ?_
  refine kr_iaddN hx hb (5 * q) pl dX1_placeUpTo_10 ?_
  refine kr_ald hx hb hK hP 7 0 rfl rfl ((5 * q) + pl) (by omega) (by decide) dX1_placeUpTo_11 ?_
  refine lv_istore (lv' := [(4, .int (A 6 ((5 * q) + pl))), (3, .int 0), (0, .ref h), (1, .int (nI q)), (2, .int (nI pl))]) hx hb dX1_placeUpTo_12 hl (by decide) rfl (fun ls hl => ?_)
  refine kr_lp (nL := 7) (fun z : Int32 × Int32 => [(4, .int z.1), (3, .int z.2), (0, .ref h), (1, .int (nI q)), (2, .int (nI pl))]) (fun z => kr_kn N z.1 ∧ kr_lh A (kr_st A q pl) 16 z.1 z.2 = kr_lh A (kr_st A q pl) 16 (A 6 (5 * q + pl)) 0) (fun z => kr_mz z.1) ?_ (A 6 (5 * q + pl), 0) ⟨hw.tn hq hp, rfl⟩ (lv_sub hl [0, 1, 2, 3, 4] rfl)
  clear hl
  intro z ls hI hl ih
  obtain ⟨f, g⟩ := z
  have hl : lv_has ls 7 [(4, .int f), (3, .int g), (0, .ref h), (1, .int (nI q)), (2, .int (nI pl))] := hl
  obtain ⟨hf, he⟩ : kr_kn N f ∧ kr_lh A (kr_st A q pl) 16 f g = kr_lh A (kr_st A q pl) 16 (A 6 (5 * q + pl)) 0 := hI
  refine lv_iload hx hb dX1_placeUpTo_14 (lv_at hl 0 rfl) ?_
  refine lv_iconst (v := -1) hx hb dX1_placeUpTo_16 (by decide) ?_
  refine lv_icmp_eq (tgt := 107) hx hb dX1_placeUpTo_17 (by decide) (fun c17 => ?_) (fun c17 => ?_)
  · subst c17
    refine lv_iload_n hx hb dX1_placeUpTo_107 rfl (lv_at hl 1 rfl) ?_
    exact kr_eI hx hb hr hlocks rfl ((kr_lh_no _).symm.trans he) dX1_placeUpTo_108
  · obtain ⟨j, hj, rfl⟩ := kr_kn_of hN hf c17
    rw [kr_lh_16 hw hj] at he
    have een := kr_en_nI (A := A) (j := j) (by omega)
    refine kr_jn (pcJ := 45) (stJ := []) (fun v => v = kr_en A (nI j)) (fun w ew => ?_) (fun J => ?_)
    · rw [← ew] at he
      refine lv_istore (lv' := [(5, .int w), (4, .int (nI j)), (3, .int g), (0, .ref h), (1, .int (nI q)), (2, .int (nI pl))]) hx hb dX1_placeUpTo_45 hl (by decide) rfl (fun ls hl => ?_)
      refine lv_iload hx hb dX1_placeUpTo_47 (lv_at hl 0 rfl) ?_
      refine lv_iload_n hx hb dX1_placeUpTo_49 rfl (lv_at hl 2 rfl) ?_
      refine lv_icmp_gt (tgt := 56) hx hb dX1_placeUpTo_50 (by decide) (fun c50 => ?_) (fun c50 => ?_)
      · rw [if_pos c50] at he
        refine lv_aload_n hx hb dX1_placeUpTo_56 rfl (lv_at hl 3 rfl) ?_
        refine lv_iload_n hx hb dX1_placeUpTo_57 rfl (lv_at hl 4 rfl) ?_
        refine lv_iload_n hx hb dX1_placeUpTo_58 rfl (lv_at hl 5 rfl) ?_
        refine lv_iload hx hb dX1_placeUpTo_59 (lv_at hl 1 rfl) ?_
        refine kr_vI (n := 3) (As := [.int (nI q), .int (nI pl), .int (nI j)]) (rest := []) ⟨hx, hb, hml, hown, hts⟩ (c_X1_strength l D cy h a th N L A q pl j (by omega) (by omega) (by omega)) kg_RX1_71 ⟨rfl, rfl⟩ (by decide +kernel) ⟨Nat.le_of_ble_eq_true rfl, Nat.le_of_ble_eq_true rfl⟩ (kr_pv1 hP hK) rfl hl.1 rfl (Nat.le_of_ble_eq_true rfl) dX1_placeUpTo_61 ⟨Nat.zero_le _, Nat.zero_le _⟩ (fun r9 e9 => ?_)
        subst e9
        refine lv_istore (lv' := [(6, .int (kr_st A q pl (nI j))), (5, .int w), (4, .int (nI j)), (3, .int g), (0, .ref h), (1, .int (nI q)), (2, .int (nI pl))]) hx hb dX1_placeUpTo_64 hl (by decide) rfl (fun ls hl => ?_)
        refine lv_iload hx hb dX1_placeUpTo_66 (lv_at hl 0 rfl) ?_
        refine lv_iload hx hb dX1_placeUpTo_68 (lv_at hl 1 rfl) ?_
        refine lv_icmp_ge (tgt := 80) hx hb dX1_placeUpTo_70 (by decide) (fun c70 => ?_) (fun c70 => ?_)
        · rw [if_neg (kr_ngt2 c70)] at he
          refine lv_iload hx hb dX1_placeUpTo_80 (lv_at hl 1 rfl) ?_
          refine lv_istore_n (lv' := [(3, .int w), (6, .int (kr_st A q pl (nI j))), (5, .int w), (4, .int (nI j)), (0, .ref h), (1, .int (nI q)), (2, .int (nI pl))]) hx hb dX1_placeUpTo_82 rfl hl (by decide) rfl (fun ls hl => ?_)
          refine lv_iload hx hb dX1_placeUpTo_83 (lv_at hl 2 rfl) ?_
          refine lv_sipush (v := 999) hx hb dX1_placeUpTo_85 (by decide) ?_
          refine lv_icmp_ne (tgt := 95) hx hb dX1_placeUpTo_88 (by decide) (fun c88 => ?_) (fun c88 => ?_)
          · refine lv_aload_n hx hb dX1_placeUpTo_95 rfl (lv_at hl 4 rfl) ?_
            refine va_get (ci := 1) (v := .ref (a 4)) (C := RX1) (T := TX1) (N := 11) hx hb hts kr_wsX1 hown hK hP 0 rfl rfl 6 (by decide) (hts _ kq_548) (fun _ h9 => h9) rfl dX1_placeUpTo_96 ?_
            refine lv_iload hx hb dX1_placeUpTo_99 (lv_at hl 3 rfl) ?_
            refine kr_ald hx hb hK hP 5 0 rfl rfl j (by omega) (by decide) dX1_placeUpTo_101 ?_
            refine lv_istore (lv' := [(4, .int (A 4 j)), (3, .int w), (6, .int (kr_st A q pl (nI j))), (5, .int w), (0, .ref h), (1, .int (nI q)), (2, .int (nI pl))]) hx hb dX1_placeUpTo_102 hl (by decide) rfl (fun ls hl => ?_)
            refine lv_goto (tgt := 14) hx hb dX1_placeUpTo_104 (by decide) ?_
            exact ih (A 4 j, w) ls ⟨hw.kn hj, he⟩ (kr_mz_lt hw hj) (lv_sub hl [0, 1, 4, 5, 6] rfl)
          · subst c88
            refine lv_sipush (v := 999) hx hb dX1_placeUpTo_91 (by decide) ?_
            exact kr_eI hx hb hr hlocks rfl ((kr_lh_end hw hj ew.symm).symm.trans he) dX1_placeUpTo_94
        · rw [if_pos (kr_nle2 c70)] at he
          refine lv_iload_n hx hb dX1_placeUpTo_73 rfl (lv_at hl 3 rfl) ?_
          refine lv_iload hx hb dX1_placeUpTo_74 (lv_at hl 0 rfl) ?_
          refine va_mmax hx hb (hml.trans hl.1.symm) hown (hts _ kq_730) (hts _ kq_212) (hts _ kq_56) (hts _ kq_213) (Nat.le_of_ble_eq_true rfl) (Nat.le_of_ble_eq_true rfl) (Nat.zero_le _) (Nat.zero_le _) dX1_placeUpTo_76 ?_
          show W _ _ _ _ _ _ _ _ _ _ _ _ _ _ _ (F0 _ _ _ (.int (kr_mx g (kr_st A q pl (nI j))) :: _))
          exact kr_eI hx hb hr hlocks rfl he dX1_placeUpTo_79
      · rw [if_neg c50] at he
        refine lv_goto (tgt := 95) hx hb dX1_placeUpTo_53 (by decide) ?_
        refine lv_aload_n hx hb dX1_placeUpTo_95 rfl (lv_at hl 3 rfl) ?_
        refine va_get (ci := 1) (v := .ref (a 4)) (C := RX1) (T := TX1) (N := 11) hx hb hts kr_wsX1 hown hK hP 0 rfl rfl 6 (by decide) (hts _ kq_548) (fun _ h9 => h9) rfl dX1_placeUpTo_96 ?_
        refine lv_iload hx hb dX1_placeUpTo_99 (lv_at hl 1 rfl) ?_
        refine kr_ald hx hb hK hP 5 0 rfl rfl j (by omega) (by decide) dX1_placeUpTo_101 ?_
        refine lv_istore (lv' := [(4, .int (A 4 j)), (5, .int w), (3, .int g), (0, .ref h), (1, .int (nI q)), (2, .int (nI pl))]) hx hb dX1_placeUpTo_102 hl (by decide) rfl (fun ls hl => ?_)
        refine lv_goto (tgt := 14) hx hb dX1_placeUpTo_104 (by decide) ?_
        exact ih (A 4 j, g) ls ⟨hw.kn hj, he⟩ (kr_mz_lt hw hj) (lv_sub hl [0, 2, 3, 4, 5] rfl)
    · refine lv_aload_n hx hb dX1_placeUpTo_20 rfl (lv_at hl 2 rfl) ?_
      refine va_get (ci := 1) (v := .ref (a 3)) (C := RX1) (T := TX1) (N := 11) hx hb hts kr_wsX1 hown hK hP 0 rfl rfl 5 (by decide) (hts _ kq_547) (fun _ h9 => h9) rfl dX1_placeUpTo_21 ?_
      refine lv_iload hx hb dX1_placeUpTo_24 (lv_at hl 0 rfl) ?_
      refine kr_ald hx hb hK hP 4 0 rfl rfl j (by omega) (by decide) dX1_placeUpTo_26 ?_
      refine lv_if_ne (tgt := 36) hx hb dX1_placeUpTo_27 (by decide) (fun c27 => ?_) (fun c27 => ?_)
      · refine lv_aload_n hx hb dX1_placeUpTo_36 rfl (lv_at hl 2 rfl) ?_
        refine va_get (ci := 1) (v := .ref (a 3)) (C := RX1) (T := TX1) (N := 11) hx hb hts kr_wsX1 hown hK hP 0 rfl rfl 5 (by decide) (hts _ kq_547) (fun _ h9 => h9) rfl dX1_placeUpTo_37 ?_
        refine lv_iload hx hb dX1_placeUpTo_40 (lv_at hl 0 rfl) ?_
        refine kr_ald hx hb hK hP 4 0 rfl rfl j (by omega) (by decide) dX1_placeUpTo_42 ?_
        refine lv_iconst (v := 1) hx hb dX1_placeUpTo_43 (by decide) ?_
        refine lv_isub hx hb dX1_placeUpTo_44 ?_
        exact J _ (by rw [een, if_neg c27])
      · refine lv_sipush (v := 999) hx hb dX1_placeUpTo_30 (by decide) ?_
        refine lv_goto (tgt := 45) hx hb dX1_placeUpTo_33 (by decide) ?_
        exact J _ (by rw [een, if_pos c27])
theorem kg_RX1_78 : GoodIn kr_all (wsV RX1 78 RX1 yX1_placeUpTo (Cond.code yX1_placeUpTo cX1_placeUpTo 7 (some .int) :: kr_all)) := kr_gV kq_775 kq_777 kq_44 kq_49 kq_778
set_option maxHeartbeats 4000000 in
set_option maxRecDepth 100000 in
theorem c_X1_upTo (l : Launch) (D : va_G) (cy : ClassId) (h : Nat) (a : Nat → Nat) (th : Int32) (N L : Nat) (A : Nat → Nat → Int32) (q : Nat) (hw : kr_wf N L A) (hq : q < L) : Met l yX1_upTo (Cond.code yX1_upTo cX1_upTo 4 (some .int) :: kr_all) ({ frames := 3, cells := 0, slots := 0, locals := 63 }) (va_Pc [.ref h, .int (nI q)] (kr_R D (kr_W1 cy h a th N L A) cy)) (vp_Si (fun r => r = kr_hu A q)) 0 0 (fun _ => False) := by
  refine kr_of (by decide) (Nat.le_of_ble_eq_true rfl) ?_
  intro p e s m below meth c ls hx hb hml hr hts hown hlocks hin hv hl
  obtain ⟨hP, hK⟩ := hv
  have hown : s.vm.findClass RX1 = some m.cls := hown
  have hl : lv_has ls 4 [(0, .ref h), (1, .int (nI q))] := hl
  have hL := hw.2.1
  obtain ⟨hrc, er⟩ := hw.rc hq
  refine kr_jn (pcJ := 16) (stJ := []) (fun v => v = if A 5 q = 0 then 0 else 999) (fun w ew => ?_) (fun J => ?_)
  · refine lv_istore_n (lv' := [(2, .int w), (0, .ref h), (1, .int (nI q))]) hx hb dX1_upTo_16 rfl hl (by decide) rfl (fun ls hl => ?_)
    refine lv_iconst (v := 0) hx hb dX1_upTo_17 (by decide) ?_
    refine lv_istore_n (lv' := [(3, .int 0), (2, .int w), (0, .ref h), (1, .int (nI q))]) hx hb dX1_upTo_18 rfl hl (by decide) rfl (fun ls hl => ?_)
    refine kr_lp (nL := 4) (fun z : Nat × Int32 => [(3, .int (nI z.1)), (2, .int z.2), (0, .ref h), (1, .int (nI q))]) (fun z => z.1 ≤ kr_rc A q ∧ kr_uw A q (kr_rc A q - z.1) z.1 z.2 = kr_hu A q) (fun z => kr_rc A q - z.1) ?_ (0, w) ⟨by omega, by rw [ew]; rfl⟩ (lv_sub hl [0, 1, 2, 3] rfl)
    clear hl
    intro z ls hI hl ih
    obtain ⟨i, g⟩ := z
    have hl : lv_has ls 4 [(3, .int (nI i)), (2, .int g), (0, .ref h), (1, .int (nI q))] := hl
    obtain ⟨hi0, he⟩ : i ≤ kr_rc A q ∧ kr_uw A q (kr_rc A q - i) i g = kr_hu A q := hI
    refine lv_iload_n hx hb dX1_upTo_19 rfl (lv_at hl 0 rfl) ?_
    refine lv_aload_n hx hb dX1_upTo_20 rfl (lv_at hl 2 rfl) ?_
    refine va_get (ci := 1) (v := .ref (a 5)) (C := RX1) (T := TX1) (N := 11) hx hb hts kr_wsX1 hown hK hP 0 rfl rfl 8 (by decide) (hts _ kq_550) (fun _ h9 => h9) rfl dX1_upTo_21 ?_
    refine lv_iload_n hx hb dX1_upTo_24 rfl (lv_at hl 3 rfl) ?_
    refine kr_ald hx hb hK hP 6 0 rfl rfl q (by omega) (by decide) dX1_upTo_25 ?_
    rw [er]
    refine lv_icmp_ge (tgt := 46) hx hb dX1_upTo_26 (by decide) (fun c26 => ?_) (fun c26 => ?_)
    · have hi2 : i = kr_rc A q := by have := kr_ge (by omega) (by omega) c26; omega
      refine lv_iload_n hx hb dX1_upTo_46 rfl (lv_at hl 1 rfl) ?_
      exact kr_eI hx hb hr hlocks rfl (by rw [hi2, Nat.sub_self] at he; exact he) dX1_upTo_47
    · have hi : i < kr_rc A q := kr_lt (by omega) (by omega) c26
      rw [kr_uw_s hi] at he
      refine lv_iload_n hx hb dX1_upTo_29 rfl (lv_at hl 1 rfl) ?_
      refine lv_aload_n hx hb dX1_upTo_30 rfl (lv_at hl 2 rfl) ?_
      refine lv_iload_n hx hb dX1_upTo_31 rfl (lv_at hl 3 rfl) ?_
      refine lv_iload_n hx hb dX1_upTo_32 rfl (lv_at hl 0 rfl) ?_
      refine kr_vI (n := 2) (As := [.int (nI q), .int (nI i)]) (rest := [.int g]) ⟨hx, hb, hml, hown, hts⟩ (c_X1_placeUpTo l D cy h a th N L A q i hw (by omega) (by omega)) kg_RX1_78 ⟨rfl, rfl⟩ (by decide +kernel) ⟨Nat.le_of_ble_eq_true rfl, Nat.le_of_ble_eq_true rfl⟩ (kr_pv1 hP hK) rfl hl.1 rfl (Nat.le_of_ble_eq_true rfl) dX1_upTo_33 ⟨Nat.zero_le _, Nat.zero_le _⟩ (fun r9 e9 => ?_)
      subst e9
      refine va_mmin hx hb (hml.trans hl.1.symm) hown (hts _ kq_649) (hts _ kq_209) (hts _ kq_56) (hts _ kq_210) (Nat.le_of_ble_eq_true rfl) (Nat.le_of_ble_eq_true rfl) (Nat.zero_le _) (Nat.zero_le _) dX1_upTo_36 ?_
      show W _ _ _ _ _ _ _ _ _ _ _ _ _ _ _ (F0 _ _ _ (.int (kr_mn g (kr_lh A (kr_st A q i) 16 (A 6 (5 * q + i)) 0)) :: _))
      refine lv_istore_n (lv' := [(2, .int (kr_mn g (kr_lh A (kr_st A q i) 16 (A 6 (5 * q + i)) 0))), (3, .int (nI i)), (0, .ref h), (1, .int (nI q))]) hx hb dX1_upTo_39 rfl hl (by decide) rfl (fun ls hl => ?_)
      refine lv_iinc (v := nI (i + 1)) (lv' := [(3, .int (nI (i + 1))), (2, .int (kr_mn g (kr_lh A (kr_st A q i) 16 (A 6 (5 * q + i)) 0))), (0, .ref h), (1, .int (nI q))]) hx hb dX1_upTo_40 hl (k := 1) rfl (kr_inc _) (by decide) rfl (fun ls hl => ?_)
      refine lv_goto (tgt := 19) hx hb dX1_upTo_43 (by decide) ?_
      exact ih (i + 1, kr_mn g (kr_lh A (kr_st A q i) 16 (A 6 (5 * q + i)) 0)) ls ⟨by omega, he⟩ (by show kr_rc A q - (i + 1) < kr_rc A q - i; omega) (lv_sub hl [0, 1, 2, 3] rfl)
  · refine lv_aload_n hx hb dX1_upTo_0 rfl (lv_at hl 0 rfl) ?_
    refine va_get (ci := 1) (v := .ref (a 5)) (C := RX1) (T := TX1) (N := 11) hx hb hts kr_wsX1 hown hK hP 0 rfl rfl 8 (by decide) (hts _ kq_550) (fun _ h9 => h9) rfl dX1_upTo_1 ?_
    refine lv_iload_n hx hb dX1_upTo_4 rfl (lv_at hl 1 rfl) ?_
    refine kr_ald hx hb hK hP 6 0 rfl rfl q (by omega) (by decide) dX1_upTo_5 ?_
    refine lv_if_ne (tgt := 13) hx hb dX1_upTo_6 (by decide) (fun c6 => ?_) (fun c6 => ?_)
    · refine lv_sipush (v := 999) hx hb dX1_upTo_13 (by decide) ?_
      exact J _ (if_neg c6).symm
    · refine lv_iconst (v := 0) hx hb dX1_upTo_9 (by decide) ?_
      refine lv_goto (tgt := 16) hx hb dX1_upTo_10 (by decide) ?_
      exact J _ (if_pos c6).symm
theorem kg_RX1_81 : GoodIn kr_all (wsV RX1 81 RX1 yX1_now (Cond.code yX1_now cX1_now 3 (some .int) :: kr_all)) := kr_gV kq_747 kq_749 kq_40 kq_49 kq_750
set_option maxHeartbeats 4000000 in
set_option maxRecDepth 100000 in
theorem c_X1_weakest (l : Launch) (D : va_G) (cy : ClassId) (h : Nat) (a : Nat → Nat) (th : Int32) (N L : Nat) (A : Nat → Nat → Int32) (q : Nat) (hw : kr_wf N L A) (hq : q < L) : Met l yX1_weakest (Cond.code yX1_weakest cX1_weakest 4 (some .int) :: kr_all) ({ frames := 3, cells := 0, slots := 0, locals := 59 }) (va_Pc [.ref h, .int (nI q)] (kr_R D (kr_W1 cy h a th N L A) cy)) (vp_Si (fun r => r = kr_wk A q (kr_rc A q) 0 (-1))) 0 0 (fun _ => False) := by
  refine kr_of (by decide) (Nat.le_of_ble_eq_true rfl) ?_
  intro p e s m below meth c ls hx hb hml hr hts hown hlocks hin hv hl
  obtain ⟨hP, hK⟩ := hv
  have hown : s.vm.findClass RX1 = some m.cls := hown
  have hl : lv_has ls 4 [(0, .ref h), (1, .int (nI q))] := hl
  have hL := hw.2.1
  obtain ⟨hrc, er⟩ := hw.rc hq
  refine lv_iconst (v := -1) hx hb dX1_weakest_0 (by decide) ?_
  refine lv_istore_n (lv' := [(2, .int (-1)), (0, .ref h), (1, .int (nI q))]) hx hb dX1_weakest_1 rfl hl (by decide) rfl (fun ls hl => ?_)
  refine lv_iconst (v := 0) hx hb dX1_weakest_2 (by decide) ?_
  refine lv_istore_n (lv' := [(3, .int 0), (2, .int (-1)), (0, .ref h), (1, .int (nI q))]) hx hb dX1_weakest_3 rfl hl (by decide) rfl (fun ls hl => ?_)
  refine kr_lp (nL := 4) (fun z : Nat × Int32 => [(3, .int (nI z.1)), (2, .int z.2), (0, .ref h), (1, .int (nI q))]) (fun z => z.1 ≤ kr_rc A q ∧ (z.2 = -1 ∨ ∃ j, j < kr_rc A q ∧ z.2 = nI j) ∧ kr_wk A q (kr_rc A q - z.1) z.1 z.2 = kr_wk A q (kr_rc A q) 0 (-1)) (fun z => kr_rc A q - z.1) ?_ (0, -1) ⟨by omega, Or.inl rfl, rfl⟩ (lv_sub hl [0, 1, 2, 3] rfl)
  clear hl
  intro z ls hI hl ih
  obtain ⟨i, b⟩ := z
  have hl : lv_has ls 4 [(3, .int (nI i)), (2, .int b), (0, .ref h), (1, .int (nI q))] := hl
  obtain ⟨hi0, hb2, he⟩ : i ≤ kr_rc A q ∧ (b = -1 ∨ ∃ j, j < kr_rc A q ∧ b = nI j) ∧ kr_wk A q (kr_rc A q - i) i b = kr_wk A q (kr_rc A q) 0 (-1) := hI
  refine lv_iload_n hx hb dX1_weakest_4 rfl (lv_at hl 0 rfl) ?_
  refine lv_aload_n hx hb dX1_weakest_5 rfl (lv_at hl 2 rfl) ?_
  refine va_get (ci := 1) (v := .ref (a 5)) (C := RX1) (T := TX1) (N := 11) hx hb hts kr_wsX1 hown hK hP 0 rfl rfl 8 (by decide) (hts _ kq_550) (fun _ h9 => h9) rfl dX1_weakest_6 ?_
  refine lv_iload_n hx hb dX1_weakest_9 rfl (lv_at hl 3 rfl) ?_
  refine kr_ald hx hb hK hP 6 0 rfl rfl q (by omega) (by decide) dX1_weakest_10 ?_
  rw [er]
  refine lv_icmp_ge (tgt := 42) hx hb dX1_weakest_11 (by decide) (fun c11 => ?_) (fun c11 => ?_)
  · have hi2 : i = kr_rc A q := by have := kr_ge (by omega) (by omega) c11; omega
    refine lv_iload_n hx hb dX1_weakest_42 rfl (lv_at hl 1 rfl) ?_
    exact kr_eI hx hb hr hlocks rfl (by rw [hi2, Nat.sub_self] at he; exact he) dX1_weakest_43
  · have hi : i < kr_rc A q := kr_lt (by omega) (by omega) c11
    rw [kr_wk_s hi] at he
    refine lv_iload_n hx hb dX1_weakest_14 rfl (lv_at hl 1 rfl) ?_
    refine lv_iconst (v := -1) hx hb dX1_weakest_15 (by decide) ?_
    refine lv_icmp_eq (tgt := 34) hx hb dX1_weakest_16 (by decide) (fun c16 => ?_) (fun c16 => ?_)
    · rw [if_pos (Or.inl c16)] at he
      refine lv_iload_n hx hb dX1_weakest_34 rfl (lv_at hl 0 rfl) ?_
      refine lv_istore_n (lv' := [(2, .int (nI i)), (3, .int (nI i)), (0, .ref h), (1, .int (nI q))]) hx hb dX1_weakest_35 rfl hl (by decide) rfl (fun ls hl => ?_)
      refine lv_iinc (v := nI (i + 1)) (lv' := [(3, .int (nI (i + 1))), (2, .int (nI i)), (0, .ref h), (1, .int (nI q))]) hx hb dX1_weakest_36 hl (k := 1) rfl (kr_inc _) (by decide) rfl (fun ls hl => ?_)
      refine lv_goto (tgt := 4) hx hb dX1_weakest_39 (by decide) ?_
      exact ih (i + 1, nI i) ls ⟨by omega, Or.inr ⟨i, by omega, rfl⟩, he⟩ (by show kr_rc A q - (i + 1) < kr_rc A q - i; omega) (lv_sub hl [0, 1, 2, 3] rfl)
    · obtain ⟨j, hj, rfl⟩ := hb2.resolve_left c16
      rw [kr_ix_nI (by omega)] at he
      refine lv_aload_n hx hb dX1_weakest_19 rfl (lv_at hl 2 rfl) ?_
      refine lv_iload_n hx hb dX1_weakest_20 rfl (lv_at hl 3 rfl) ?_
      refine lv_iload_n hx hb dX1_weakest_21 rfl (lv_at hl 0 rfl) ?_
      refine kr_vI (n := 2) (As := [.int (nI q), .int (nI i)]) (rest := []) ⟨hx, hb, hml, hown, hts⟩ (c_X1_now l D cy h a th N L A q i hw (by omega) (by omega)) kg_RX1_81 ⟨rfl, rfl⟩ (by decide +kernel) ⟨Nat.le_of_ble_eq_true rfl, Nat.le_of_ble_eq_true rfl⟩ (kr_pv1 hP hK) rfl hl.1 rfl (Nat.le_of_ble_eq_true rfl) dX1_weakest_22 ⟨Nat.zero_le _, Nat.zero_le _⟩ (fun r9 e9 => ?_)
      subst e9
      refine lv_aload_n hx hb dX1_weakest_25 rfl (lv_at hl 2 rfl) ?_
      refine lv_iload_n hx hb dX1_weakest_26 rfl (lv_at hl 3 rfl) ?_
      refine lv_iload_n hx hb dX1_weakest_27 rfl (lv_at hl 1 rfl) ?_
      refine kr_vI (n := 2) (As := [.int (nI q), .int (nI j)]) (rest := [.int (kr_nw A q i)]) ⟨hx, hb, hml, hown, hts⟩ (c_X1_now l D cy h a th N L A q j hw (by omega) (by omega)) kg_RX1_81 ⟨rfl, rfl⟩ (by decide +kernel) ⟨Nat.le_of_ble_eq_true rfl, Nat.le_of_ble_eq_true rfl⟩ (kr_pv1 hP hK) rfl hl.1 rfl (Nat.le_of_ble_eq_true rfl) dX1_weakest_28 ⟨Nat.zero_le _, Nat.zero_le _⟩ (fun r9 e9 => ?_)
      subst e9
      refine lv_icmp_ge (tgt := 36) hx hb dX1_weakest_31 (by decide) (fun c31 => ?_) (fun c31 => ?_)
      · rw [if_neg (fun z => z.elim (kr_kn_ne (by omega)) (kr_ngt2 c31))] at he
        refine lv_iinc (v := nI (i + 1)) (lv' := [(3, .int (nI (i + 1))), (2, .int (nI j)), (0, .ref h), (1, .int (nI q))]) hx hb dX1_weakest_36 hl (k := 0) rfl (kr_inc _) (by decide) rfl (fun ls hl => ?_)
        refine lv_goto (tgt := 4) hx hb dX1_weakest_39 (by decide) ?_
        exact ih (i + 1, nI j) ls ⟨by omega, Or.inr ⟨j, hj, rfl⟩, he⟩ (by show kr_rc A q - (i + 1) < kr_rc A q - i; omega) (lv_sub hl [0, 1, 2, 3] rfl)
      · rw [if_pos (Or.inr (kr_nle2 c31))] at he
        refine lv_iload_n hx hb dX1_weakest_34 rfl (lv_at hl 0 rfl) ?_
        refine lv_istore_n (lv' := [(2, .int (nI i)), (3, .int (nI i)), (0, .ref h), (1, .int (nI q))]) hx hb dX1_weakest_35 rfl hl (by decide) rfl (fun ls hl => ?_)
        refine lv_iinc (v := nI (i + 1)) (lv' := [(3, .int (nI (i + 1))), (2, .int (nI i)), (0, .ref h), (1, .int (nI q))]) hx hb dX1_weakest_36 hl (k := 1) rfl (kr_inc _) (by decide) rfl (fun ls hl => ?_)
        refine lv_goto (tgt := 4) hx hb dX1_weakest_39 (by decide) ?_
        exact ih (i + 1, nI i) ls ⟨by omega, Or.inr ⟨i, by omega, rfl⟩, he⟩ (by show kr_rc A q - (i + 1) < kr_rc A q - i; omega) (lv_sub hl [0, 1, 2, 3] rfl)
theorem kg_RX1_84 : GoodIn kr_all (wsV RX1 84 RX1 yX1_upTo (Cond.code yX1_upTo cX1_upTo 4 (some .int) :: kr_all)) := kr_gV kq_771 kq_773 kq_43 kq_49 kq_774
set_option maxHeartbeats 4000000 in
set_option maxRecDepth 100000 in
theorem c_X1_strongest (l : Launch) (D : va_G) (cy : ClassId) (h : Nat) (a : Nat → Nat) (th : Int32) (N L : Nat) (A : Nat → Nat → Int32) (hw : kr_wf N L A) : Met l yX1_strongest (Cond.code yX1_strongest cX1_strongest 3 (some .int) :: kr_all) ({ frames := 4, cells := 0, slots := 0, locals := 86 }) (va_Pc [.ref h] (kr_R D (kr_W1 cy h a th N L A) cy)) (vp_Si (fun r => r = kr_sg A L 0 (-1))) 0 0 (fun _ => False) := by
  refine kr_of (by decide) (Nat.le_of_ble_eq_true rfl) ?_
  intro p e s m below meth c ls hx hb hml hr hts hown hlocks hin hv hl
  obtain ⟨hP, hK⟩ := hv
  have hown : s.vm.findClass RX1 = some m.cls := hown
  have hl : lv_has ls 3 [(0, .ref h)] := hl
  have hL := hw.2.1
  refine lv_iconst (v := -1) hx hb dX1_strongest_0 (by decide) ?_
  refine lv_istore_n (lv' := [(1, .int (-1)), (0, .ref h)]) hx hb dX1_strongest_1 rfl hl (by decide) rfl (fun ls hl => ?_)
  refine lv_iconst (v := 0) hx hb dX1_strongest_2 (by decide) ?_
  refine lv_istore_n (lv' := [(2, .int 0), (1, .int (-1)), (0, .ref h)]) hx hb dX1_strongest_3 rfl hl (by decide) rfl (fun ls hl => ?_)
  refine kr_lp (nL := 3) (fun z : Nat × Int32 => [(2, .int (nI z.1)), (1, .int z.2), (0, .ref h)]) (fun z => z.1 ≤ L ∧ (z.2 = -1 ∨ ∃ j, j < L ∧ z.2 = nI j) ∧ kr_sg A (L - z.1) z.1 z.2 = kr_sg A L 0 (-1)) (fun z => L - z.1) ?_ (0, -1) ⟨by omega, Or.inl rfl, rfl⟩ (lv_sub hl [0, 1, 2] rfl)
  clear hl
  intro z ls hI hl ih
  obtain ⟨i, b⟩ := z
  have hl : lv_has ls 3 [(2, .int (nI i)), (1, .int b), (0, .ref h)] := hl
  obtain ⟨hi0, hb2, he⟩ : i ≤ L ∧ (b = -1 ∨ ∃ j, j < L ∧ b = nI j) ∧ kr_sg A (L - i) i b = kr_sg A L 0 (-1) := hI
  refine lv_iload_n hx hb dX1_strongest_4 rfl (lv_at hl 0 rfl) ?_
  refine lv_aload_n hx hb dX1_strongest_5 rfl (lv_at hl 2 rfl) ?_
  refine va_get (ci := 1) (v := .int (nI L)) (C := RX1) (T := TX1) (N := 11) hx hb hts kr_wsX1 hown hK hP 0 rfl rfl 7 (by decide) (hts _ kq_549) (fun _ h9 => h9) rfl dX1_strongest_6 ?_
  refine lv_icmp_ge (tgt := 38) hx hb dX1_strongest_9 (by decide) (fun c9 => ?_) (fun c9 => ?_)
  · have hi2 : i = L := by have := kr_ge (by omega) (by omega) c9; omega
    refine lv_iload_n hx hb dX1_strongest_38 rfl (lv_at hl 1 rfl) ?_
    exact kr_eI hx hb hr hlocks rfl (by rw [hi2, Nat.sub_self] at he; exact he) dX1_strongest_39
  · have hi : i < L := kr_lt (by omega) (by omega) c9
    rw [kr_sg_s hi] at he
    refine lv_iload_n hx hb dX1_strongest_12 rfl (lv_at hl 1 rfl) ?_
    refine lv_iconst (v := -1) hx hb dX1_strongest_13 (by decide) ?_
    refine lv_icmp_eq (tgt := 30) hx hb dX1_strongest_14 (by decide) (fun c14 => ?_) (fun c14 => ?_)
    · rw [if_pos (Or.inl c14)] at he
      refine lv_iload_n hx hb dX1_strongest_30 rfl (lv_at hl 0 rfl) ?_
      refine lv_istore_n (lv' := [(1, .int (nI i)), (2, .int (nI i)), (0, .ref h)]) hx hb dX1_strongest_31 rfl hl (by decide) rfl (fun ls hl => ?_)
      refine lv_iinc (v := nI (i + 1)) (lv' := [(2, .int (nI (i + 1))), (1, .int (nI i)), (0, .ref h)]) hx hb dX1_strongest_32 hl (k := 1) rfl (kr_inc _) (by decide) rfl (fun ls hl => ?_)
      refine lv_goto (tgt := 4) hx hb dX1_strongest_35 (by decide) ?_
      exact ih (i + 1, nI i) ls ⟨by omega, Or.inr ⟨i, by omega, rfl⟩, he⟩ (by show L - (i + 1) < L - i; omega) (lv_sub hl [0, 1, 2] rfl)
    · obtain ⟨j, hj, rfl⟩ := hb2.resolve_left c14
      rw [kr_ix_nI (by omega)] at he
      refine lv_aload_n hx hb dX1_strongest_17 rfl (lv_at hl 2 rfl) ?_
      refine lv_iload_n hx hb dX1_strongest_18 rfl (lv_at hl 0 rfl) ?_
      refine kr_vI (n := 1) (As := [.int (nI i)]) (rest := []) ⟨hx, hb, hml, hown, hts⟩ (c_X1_upTo l D cy h a th N L A i hw (by omega)) kg_RX1_84 ⟨rfl, rfl⟩ (by decide +kernel) ⟨Nat.le_of_ble_eq_true rfl, Nat.le_of_ble_eq_true rfl⟩ (kr_pv1 hP hK) rfl hl.1 rfl (Nat.le_of_ble_eq_true rfl) dX1_strongest_19 ⟨Nat.zero_le _, Nat.zero_le _⟩ (fun r9 e9 => ?_)
      subst e9
      refine lv_aload_n hx hb dX1_strongest_22 rfl (lv_at hl 2 rfl) ?_
      refine lv_iload_n hx hb dX1_strongest_23 rfl (lv_at hl 1 rfl) ?_
      refine kr_vI (n := 1) (As := [.int (nI j)]) (rest := [.int (kr_hu A i)]) ⟨hx, hb, hml, hown, hts⟩ (c_X1_upTo l D cy h a th N L A j hw (by omega)) kg_RX1_84 ⟨rfl, rfl⟩ (by decide +kernel) ⟨Nat.le_of_ble_eq_true rfl, Nat.le_of_ble_eq_true rfl⟩ (kr_pv1 hP hK) rfl hl.1 rfl (Nat.le_of_ble_eq_true rfl) dX1_strongest_24 ⟨Nat.zero_le _, Nat.zero_le _⟩ (fun r9 e9 => ?_)
      subst e9
      refine lv_icmp_le (tgt := 32) hx hb dX1_strongest_27 (by decide) (fun c27 => ?_) (fun c27 => ?_)
      · rw [if_neg (fun z => z.elim (kr_kn_ne (by omega)) (kr_ngt2 c27))] at he
        refine lv_iinc (v := nI (i + 1)) (lv' := [(2, .int (nI (i + 1))), (1, .int (nI j)), (0, .ref h)]) hx hb dX1_strongest_32 hl (k := 0) rfl (kr_inc _) (by decide) rfl (fun ls hl => ?_)
        refine lv_goto (tgt := 4) hx hb dX1_strongest_35 (by decide) ?_
        exact ih (i + 1, nI j) ls ⟨by omega, Or.inr ⟨j, hj, rfl⟩, he⟩ (by show L - (i + 1) < L - i; omega) (lv_sub hl [0, 1, 2] rfl)
      · rw [if_pos (Or.inr (kr_nle2 c27))] at he
        refine lv_iload_n hx hb dX1_strongest_30 rfl (lv_at hl 0 rfl) ?_
        refine lv_istore_n (lv' := [(1, .int (nI i)), (2, .int (nI i)), (0, .ref h)]) hx hb dX1_strongest_31 rfl hl (by decide) rfl (fun ls hl => ?_)
        refine lv_iinc (v := nI (i + 1)) (lv' := [(2, .int (nI (i + 1))), (1, .int (nI i)), (0, .ref h)]) hx hb dX1_strongest_32 hl (k := 1) rfl (kr_inc _) (by decide) rfl (fun ls hl => ?_)
        refine lv_goto (tgt := 4) hx hb dX1_strongest_35 (by decide) ?_
        exact ih (i + 1, nI i) ls ⟨by omega, Or.inr ⟨i, by omega, rfl⟩, he⟩ (by show L - (i + 1) < L - i; omega) (lv_sub hl [0, 1, 2] rfl)
set_option maxHeartbeats 4000000 in
set_option maxRecDepth 100000 in
theorem c_X1_many (l : Launch) (D : va_G) (cy : ClassId) (h : Nat) (a : Nat → Nat) (th : Int32) (N L : Nat) (A : Nat → Nat → Int32) (kd : Int32) (hN : N ≤ 16) : Met l yX1_many (Cond.code yX1_many cX1_many 4 (some .int) :: kr_all) ({ frames := 0, cells := 0, slots := 0, locals := 0 }) (va_Pc [.ref h, .int kd] (kr_R D (kr_W1 cy h a th N L A) cy)) (vp_Si (fun r => r = nI (kr_cn A kd N))) 0 0 (fun _ => False) := by
  refine kr_of (by decide) (Nat.le_of_ble_eq_true rfl) ?_
  intro p e s m below meth c ls hx hb hml hr hts hown hlocks hin hv hl
  obtain ⟨hP, hK⟩ := hv
  have hown : s.vm.findClass RX1 = some m.cls := hown
  have hl : lv_has ls 4 [(0, .ref h), (1, .int kd)] := hl
  refine lv_iconst (v := 0) hx hb dX1_many_0 (by decide) ?_
  refine lv_istore_n (lv' := [(2, .int 0), (0, .ref h), (1, .int kd)]) hx hb dX1_many_1 rfl hl (by decide) rfl (fun ls hl => ?_)
  refine lv_iconst (v := 0) hx hb dX1_many_2 (by decide) ?_
  refine lv_istore_n (lv' := [(3, .int 0), (2, .int 0), (0, .ref h), (1, .int kd)]) hx hb dX1_many_3 rfl hl (by decide) rfl (fun ls hl => ?_)
  refine kr_lp (nL := 4) (fun z : Nat × Nat => [(3, .int (nI z.1)), (2, .int (nI z.2)), (0, .ref h), (1, .int kd)]) (fun z => z.1 ≤ N ∧ z.2 = kr_cn A kd z.1) (fun z => N - z.1) ?_ (0, 0) ⟨by omega, rfl⟩ (lv_sub hl [0, 1, 2, 3] rfl)
  clear hl
  intro z ls hI hl ih
  obtain ⟨i, g⟩ := z
  have hl : lv_has ls 4 [(3, .int (nI i)), (2, .int (nI g)), (0, .ref h), (1, .int kd)] := hl
  obtain ⟨hi0, hg⟩ : i ≤ N ∧ g = kr_cn A kd i := hI
  refine lv_iload_n hx hb dX1_many_4 rfl (lv_at hl 0 rfl) ?_
  refine lv_aload_n hx hb dX1_many_5 rfl (lv_at hl 2 rfl) ?_
  refine va_get (ci := 1) (v := .int (nI N)) (C := RX1) (T := TX1) (N := 11) hx hb hts kr_wsX1 hown hK hP 0 rfl rfl 1 (by decide) (hts _ kq_543) (fun _ h9 => h9) rfl dX1_many_6 ?_
  refine lv_icmp_ge (tgt := 36) hx hb dX1_many_9 (by decide) (fun c9 => ?_) (fun c9 => ?_)
  · have hi2 : i = N := by have := kr_ge (by omega) (by omega) c9; omega
    refine lv_iload_n hx hb dX1_many_36 rfl (lv_at hl 1 rfl) ?_
    exact kr_eI hx hb hr hlocks rfl (by rw [hg, hi2]) dX1_many_37
  · have hi : i < N := kr_lt (by omega) (by omega) c9
    refine lv_iload_n hx hb dX1_many_12 rfl (lv_at hl 1 rfl) ?_
    refine lv_aload_n hx hb dX1_many_13 rfl (lv_at hl 2 rfl) ?_
    refine va_get (ci := 1) (v := .ref (a 0)) (C := RX1) (T := TX1) (N := 11) hx hb hts kr_wsX1 hown hK hP 0 rfl rfl 2 (by decide) (hts _ kq_544) (fun _ h9 => h9) rfl dX1_many_14 ?_
    refine lv_iload_n hx hb dX1_many_17 rfl (lv_at hl 0 rfl) ?_
    refine kr_ald hx hb hK hP 1 0 rfl rfl i (by omega) (by decide) dX1_many_18 ?_
    refine lv_iload_n hx hb dX1_many_19 rfl (lv_at hl 3 rfl) ?_
    refine lv_icmp_ne (tgt := 27) hx hb dX1_many_20 (by decide) (fun c20 => ?_) (fun c20 => ?_)
    · refine lv_iconst (v := 0) hx hb dX1_many_27 (by decide) ?_
      refine kr_iaddN hx hb g 0 dX1_many_28 ?_
      refine lv_istore_n (lv' := [(2, .int (nI (g + 0))), (3, .int (nI i)), (0, .ref h), (1, .int kd)]) hx hb dX1_many_29 rfl hl (by decide) rfl (fun ls hl => ?_)
      refine lv_iinc (v := nI (i + 1)) (lv' := [(3, .int (nI (i + 1))), (2, .int (nI (g + 0))), (0, .ref h), (1, .int kd)]) hx hb dX1_many_30 hl (k := 1) rfl (kr_inc _) (by decide) rfl (fun ls hl => ?_)
      refine lv_goto (tgt := 4) hx hb dX1_many_33 (by decide) ?_
      exact ih (i + 1, g + 0) ls ⟨by omega, by rw [hg, kr_cn_s, if_neg c20]⟩ (by show N - (i + 1) < N - i; omega) (lv_sub hl [0, 1, 2, 3] rfl)
    · refine lv_iconst (v := 1) hx hb dX1_many_23 (by decide) ?_
      refine lv_goto (tgt := 28) hx hb dX1_many_24 (by decide) ?_
      refine kr_iaddN hx hb g 1 dX1_many_28 ?_
      refine lv_istore_n (lv' := [(2, .int (nI (g + 1))), (3, .int (nI i)), (0, .ref h), (1, .int kd)]) hx hb dX1_many_29 rfl hl (by decide) rfl (fun ls hl => ?_)
      refine lv_iinc (v := nI (i + 1)) (lv' := [(3, .int (nI (i + 1))), (2, .int (nI (g + 1))), (0, .ref h), (1, .int kd)]) hx hb dX1_many_30 hl (k := 1) rfl (kr_inc _) (by decide) rfl (fun ls hl => ?_)
      refine lv_goto (tgt := 4) hx hb dX1_many_33 (by decide) ?_
      exact ih (i + 1, g + 1) ls ⟨by omega, by rw [hg, kr_cn_s, if_pos c20]⟩ (by show N - (i + 1) < N - i; omega) (lv_sub hl [0, 1, 2, 3] rfl)
end
section
/-! what throws: the words, the premises, the calls -/
theorem kr_atw {L : List Cond} (is : List Nat) (h : (L.filter goodWord).all (fun w => decide (w ∈ is.filterMap (fun i => lw_tbl[i]?))) = true) : ∀ w ∈ L.filter goodWord, w ∈ kr_all := by
  intro w hw
  have h1 := List.all_eq_true.mp h w hw
  simp only [decide_eq_true_eq] at h1
  obtain ⟨i, -, hi⟩ := List.mem_filterMap.mp h1
  exact List.mem_filter.mpr ⟨List.mem_of_getElem? hi, (List.mem_filter.mp hw).2⟩
abbrev kr_up2 : List String := ["java/lang/RuntimeException", "java/lang/Exception"]
theorem kr_atI : ∀ w ∈ (vx_atS RX0 120 "java/lang/IndexOutOfBoundsException" kr_up2).filter goodWord, w ∈ kr_all := kr_atw (1 :: 50 :: 51 :: 52 :: 53 :: 54 :: 55 :: 63 :: 64 :: [117, 118, 119, 120, 121, 122, 123, 124, 125, 126, 127, 128, 129, 130, 131, 132, 133, 134, 135, 136, 137, 138, 139, 140, 141, 142, 143, 144, 145, 146, 147, 148, 149, 150, 151, 152, 153, 154, 155, 156, 157, 158, 159, 160, 161, 162, 163, 164, 165, 166, 167, 168, 169, 170, 171, 172, 173, 174, 175, 176, 177, 178, 179, 180, 181, 182, 183]) (by decide +kernel)
theorem kr_gdI : ∀ w ∈ Cond.classLink RX0 116 "java/lang/IndexOutOfBoundsException" :: Cond.initialized "java/lang/IndexOutOfBoundsException" :: vx_atS RX0 120 "java/lang/IndexOutOfBoundsException" kr_up2, vx_ot w = true := by decide +kernel
theorem kr_bdI : ∀ w ∈ (vx_atS RX0 120 "java/lang/IndexOutOfBoundsException" kr_up2).filter (fun w => !goodWord w), w ∈ [Cond.castable "java/lang/IndexOutOfBoundsException" "java/lang/IndexOutOfBoundsException", Cond.declares (Bundle.initS "java/lang/RuntimeException"), Cond.declares (Bundle.initS "java/lang/Exception"), Cond.declares (Bundle.initS Bundle.tN)] := by decide +kernel
theorem kr_atA : ∀ w ∈ (vx_atS RX0 49 "java/lang/IllegalArgumentException" kr_up2).filter goodWord, w ∈ kr_all := kr_atw (1 :: 50 :: 51 :: 52 :: 53 :: 54 :: 55 :: 63 :: 64 :: [117, 118, 119, 120, 121, 122, 123, 124, 125, 126, 127, 128, 129, 130, 131, 132, 133, 134, 135, 136, 137, 138, 139, 140, 141, 142, 143, 144, 145, 146, 147, 148, 149, 150, 151, 152, 153, 154, 155, 156, 157, 158, 159, 160, 161, 162, 163, 164, 165, 166, 167, 168, 169, 170, 171, 172, 173, 174, 175, 176, 177, 178, 179, 180, 181, 182, 183, 317, 318, 319, 320, 321, 322, 323, 324, 325, 326, 327, 328, 329, 330, 331, 332]) (by decide +kernel)
theorem kr_gdA : ∀ w ∈ Cond.classLink RX0 45 "java/lang/IllegalArgumentException" :: Cond.initialized "java/lang/IllegalArgumentException" :: vx_atS RX0 49 "java/lang/IllegalArgumentException" kr_up2, vx_ot w = true := by decide +kernel
theorem kr_bdA : ∀ w ∈ (vx_atS RX0 49 "java/lang/IllegalArgumentException" kr_up2).filter (fun w => !goodWord w), w ∈ [Cond.castable "java/lang/IllegalArgumentException" "java/lang/IllegalArgumentException", Cond.declares (Bundle.initS "java/lang/RuntimeException"), Cond.declares (Bundle.initS "java/lang/Exception"), Cond.declares (Bundle.initS Bundle.tN)] := by decide +kernel
theorem kr_atS : ∀ w ∈ (vx_atS RX0 58 "java/lang/IllegalStateException" kr_up2).filter goodWord, w ∈ kr_all := kr_atw (1 :: 50 :: 51 :: 52 :: 53 :: 54 :: 55 :: 63 :: 64 :: [117, 118, 119, 120, 121, 122, 123, 124, 125, 126, 127, 128, 129, 130, 131, 132, 133, 134, 135, 136, 137, 138, 139, 140, 141, 142, 143, 144, 145, 146, 147, 148, 149, 150, 151, 152, 153, 154, 155, 156, 157, 158, 159, 160, 161, 162, 163, 164, 165, 166, 167, 168, 169, 170, 171, 172, 173, 174, 175, 176, 177, 178, 179, 180, 181, 182, 183, 334, 335, 336, 337, 338, 339, 340, 341, 342, 343, 344, 345, 346, 347, 348, 349]) (by decide +kernel)
theorem kr_gdS : ∀ w ∈ Cond.classLink RX0 54 "java/lang/IllegalStateException" :: Cond.initialized "java/lang/IllegalStateException" :: vx_atS RX0 58 "java/lang/IllegalStateException" kr_up2, vx_ot w = true := by decide +kernel
theorem kr_bdS : ∀ w ∈ (vx_atS RX0 58 "java/lang/IllegalStateException" kr_up2).filter (fun w => !goodWord w), w ∈ [Cond.castable "java/lang/IllegalStateException" "java/lang/IllegalStateException", Cond.declares (Bundle.initS "java/lang/RuntimeException"), Cond.declares (Bundle.initS "java/lang/Exception"), Cond.declares (Bundle.initS Bundle.tN)] := by decide +kernel
def kr_tx : List (Nat × String) := [(47, "efficiency is not 10 to 100"), (52, "crossings is not 1 to 9"), (56, "there are 16 knots"), (65, "into is not -1 and not the number of a knot ahead of this one"), (67, "into is of another kind"), (76, "there are 6 lines"), (88, "the line has 5 ropes"), (118, "there is no such rank"), (201, "kind is not 0 or 1"), (203, "there is no such knot"), (205, "the knot is of the other kind"), (207, "load is not 1 to 999"), (209, "strength is not 1 to 999"), (211, "there is no such line"), (213, "the line has no such place"), (215, "the line is gone")]
/-- what a throw and its catching want of the launch: two statics of Throwable, words of the tables, the texts -/
def kr_T (U : State) : Prop := vx_Zq Bundle.tN "UNASSIGNED_STACK" Bundle.steD (fun _ => False) U U.heap ∧ vx_Zq Bundle.tN "SUPPRESSED_SENTINEL" Bundle.listD (fun _ => False) U U.heap ∧ va_Nw (.declares (Bundle.initS "java/lang/RuntimeException")) U ∧ va_Nw (.declares (Bundle.initS "java/lang/Exception")) U ∧ va_Nw (.declares (Bundle.initS Bundle.tN)) U ∧ va_Nw (.castable "java/lang/IndexOutOfBoundsException" "java/lang/IndexOutOfBoundsException") U ∧ va_Nw (.castable "java/lang/IllegalArgumentException" "java/lang/IllegalArgumentException") U ∧ va_Nw (.castable "java/lang/IllegalStateException" "java/lang/IllegalStateException") U ∧ va_Nc "java/lang/IllegalArgumentException" "java/lang/IndexOutOfBoundsException" U ∧ va_Nc "java/lang/IllegalStateException" "java/lang/IndexOutOfBoundsException" U ∧ va_Nc "java/lang/IllegalStateException" "java/lang/IllegalArgumentException" U ∧ ∀ q ∈ kr_tx, ∃ sa : Nat, vk_R RX0 q.1 q.2 sa U
theorem kr_T.go {s U : State} {H : Heap} (h : kr_T s) (hU : U.heap = H) (hk : ∀ a : Nat, a < s.heap.size → H[a]? = s.heap[a]?) (hW : s.WarmedH U.vm) : kr_T U := by
  obtain ⟨z1, z2, d1, d2, d3, k1, k2, k3, n1, n2, n3, ht⟩ := h
  refine ⟨?_, ?_, d1.warmD hW, d2.warmD hW, d3.warmD hW, k1.warmC hW, k2.warmC hW, k3.warmC hW, n1.moved hW.alike, n2.moved hW.alike, n3.moved hW.alike, fun q hq => ?_⟩
  · rw [hU]; exact vx_Zq.moved hW.alike (z1.kept (fun a ha _ => hk a ha))
  · rw [hU]; exact vx_Zq.moved hW.alike (z2.kept (fun a ha _ => hk a ha))
  · obtain ⟨sa, hs⟩ := ht q hq
    exact ⟨sa, vk_R.warm hW hs⟩
theorem kr_T.calling {U : State} (h : kr_T U) (g : JFrame) (mk : MethodId) (a : Array Value) : kr_T (U.calling g mk a) := h.go (U := U.calling g mk a) rfl (fun _ _ => rfl) (State.WarmedH.refl U)
def kr_RT (D : va_G) (ws : va_W) (cy : ClassId) (U : State) : Prop := kr_R D ws cy U ∧ kr_T U
theorem kr_blX {D : va_G} {ws : va_W} {cy : ClassId} {av : List Value} : FrameBlind (va_Pc av (kr_RT D ws cy)) := fun a U g mk q => ⟨q.1, ⟨q.2.1.1, va_K.moved (u := U) (U := U.calling g mk a) (Vm.Alike.refl U.vm) q.2.1.2⟩, q.2.2.calling g mk a⟩
theorem kr_blX0 {av : List Value} : FrameBlind (va_Pc av kr_T) := fun a U g mk q => ⟨q.1, q.2.calling g mk a⟩
abbrev kr_no : Array Value → State → Outcome → State → Prop := fun _ _ _ _ => False
abbrev kr_XC (cls : String) : String → State → State → Prop := vx_X (fun _ : Unit => True) (fun E _ _ => E = cls) (fun _ => False)
theorem kr_pvx {D : va_G} {cy : ClassId} {h : Nat} {a : Nat → Nat} {N L : Nat} {A : Nat → Nat → Int32} {As : List Value} {H : Heap} {s : State} (hP : va_P D vwCl (kr_W0 cy h a N L A) H) (hK : va_K D vwCl [(cy, .int)] s) (hT : kr_T s) (hk : ∀ q : Nat, q < s.heap.size → H[q]? = s.heap[q]?) : PreV s H RX0 h (va_Pc (.ref h :: As) (kr_RT D (kr_W0 cy h a N L A) cy)) As := ⟨kr_blX, va_recv hK hP (ci := 0) (q0 := 0) rfl rfl, fun U hU hW => ⟨rfl, ⟨by rw [hU]; exact hP, va_K.moved hW.alike hK⟩, hT.go hU hk hW⟩⟩
theorem kr_psx {As : List Value} {H : Heap} {s : State} (hT : kr_T s) (hk : ∀ q : Nat, q < s.heap.size → H[q]? = s.heap[q]?) : PreS s H (va_Pc As kr_T) As := ⟨kr_blX0, fun U hU hW => ⟨rfl, hT.go hU hk hW⟩⟩
section KRXW
variable {p : Program} {l : Launch} {e : Env} {R : Room} {s : State} {m : MethodId} {args : Array Value} {below : List Frame} {meth : Method} {c : Code} {cc : ByteArray} {pc : Nat} {ls : Array Slot} {rest st0 : List Value}
theorem kr_xgo {g : JFrame} {cls : String} (hr : vx_Run p l e R s m args below meth c s.heap [] 0 0 1 6 (F0 m pc ls st0) rest (fun _ _ _ => False) (kr_XC cls) (fun _ => False)) (ht : ∀ x ∈ c.exceptionTable.toList, False) (hlocks : meth.locks = false) : W p l e R s m args below meth c s.heap [] 0 0 (vx_MQ below kr_no (kr_XC cls) args s 1 6 (fun _ => False)) (F0 m pc ls st0) := by
  intro T hT X
  rcases hr T hT X with ⟨v, st₀, t, T', L, h0, X', hL, e1, e2, hq, st⟩ | ⟨q, st₀, t, T', L, E, ce, h0, X', hL, e1, e2, ⟨u, hu, hE, hF⟩, hce, hcv, hcl, st⟩
  · exact hq.elim
  · have k : vx_W p l e R s m args below meth c T'.heap ([] ++ L) (0 + 1) (0 + 6) (vx_MQ below kr_no (kr_XC cls) args s 1 6 (fun _ => False)) (F0 m pc ls rest) q := by
      refine vx_out (E := E) (ce := ce) (fun x hx => (ht x hx).elim) hlocks (by rw [e1]; exact hce) hcv hcl (fun t2 ht2 _ => ⟨(), trivial, hE, ?_⟩) (fun z hz => hL z hz) (Nat.le_refl _) (Nat.le_refl _)
      refine ⟨by rw [ht2, e1, ← h0]; exact hF.1, fun z h1 h2 => ?_⟩
      rw [ht2, e1, hF.2 z (by rw [h0]; exact h1) h2, h0]
    obtain ⟨t2, a1, b1⟩ := k T' rfl X'
    exact ⟨t2, st.trans a1, b1⟩
/-- a call that throws, not caught here -/
theorem kr_xV {own C : String} {idx maxL nL n : Nat} {y : MethodName} {bytes : ByteArray} {ret : Option FieldType} {rm : Room} {b : Addr} {As : List Value} {Pc : Array Value → State → Prop} {cls : String} (S : CallFix p m c cc nL s args kr_all own) (hM : vx_Met l y (Cond.code y bytes maxL ret :: kr_all) rm Pc kr_no (kr_XC cls) 1 6 (fun _ => False)) (g : GoodIn kr_all (wsV own idx C y (Cond.code y bytes maxL ret :: kr_all))) (hr0 : rm.cells = 1 ∧ rm.slots = 6)
    (hd : y.cls = C ∧ y.cls ≠ "java/lang/invoke/MethodHandle" ∧ y.cls ≠ "java/lang/invoke/VarHandle" ∧ (parseMethodDescriptor y.desc).map (fun d => d.parameters.length) = some n) (hR : rm.frames + 1 ≤ R.frames ∧ 8 + (maxL + 11) + rm.locals ≤ R.locals) (hp : PreV s s.heap C b Pc As) (hn : As.length = n) (hsize : ls.size = nL) (hst : st0 = As.reverse ++ .ref b :: rest) (hW : (rest.map fun v => v.category).sum ≤ 8) (hdg : decode cc pc = .ok (.invokevirtual idx, 3)) (hf : 0 + 1 ≤ R.cells ∧ 0 + 6 ≤ R.slots) (ht : ∀ x ∈ c.exceptionTable.toList, False) (hlocks : meth.locks = false) :
    W p l e R s m args below meth c s.heap [] 0 0 (vx_MQ below kr_no (kr_XC cls) args s 1 6 (fun _ => False)) (F0 m pc ls st0) :=
  kr_xgo (g := F0 m pc ls st0) (vx_runV S hM (cwV n S.2.2.2.2 g rfl hr0.1 hr0.2 hd hR) hp rfl hn hsize hst (lv_room (pc := pc) (ls := ls) (m := m) (rest := st0) hW) hdg hf) ht hlocks
theorem kr_xS {own : String} {idx maxL nL n : Nat} {y : MethodName} {bytes : ByteArray} {ret : Option FieldType} {rm : Room} {As : List Value} {Pc : Array Value → State → Prop} {cls : String} (S : CallFix p m c cc nL s args kr_all own) (hM : vx_Met l y (Cond.code y bytes maxL ret :: kr_all) rm Pc kr_no (kr_XC cls) 1 6 (fun _ => False)) (g : GoodIn kr_all (wsS own idx y (Cond.code y bytes maxL ret :: kr_all))) (hr0 : rm.cells = 1 ∧ rm.slots = 6)
    (hd : y.cls = own ∧ y.cls ≠ "java/lang/invoke/MethodHandle" ∧ y.cls ≠ "java/lang/invoke/VarHandle" ∧ (parseMethodDescriptor y.desc).map (fun d => d.parameters.length) = some n) (hR : rm.frames + 1 ≤ R.frames ∧ 8 + (maxL + 11) + rm.locals ≤ R.locals) (hp : PreS s s.heap Pc As) (hn : As.length = n) (hsize : ls.size = nL) (hst : st0 = As.reverse ++ rest) (hW : (rest.map fun v => v.category).sum ≤ 8) (hdg : decode cc pc = .ok (.invokestatic idx, 3)) (hf : 0 + 1 ≤ R.cells ∧ 0 + 6 ≤ R.slots) (ht : ∀ x ∈ c.exceptionTable.toList, False) (hlocks : meth.locks = false) :
    W p l e R s m args below meth c s.heap [] 0 0 (vx_MQ below kr_no (kr_XC cls) args s 1 6 (fun _ => False)) (F0 m pc ls st0) :=
  kr_xgo (g := F0 m pc ls st0) (vx_runS S hM (cwS n S.2.2.2.2 g rfl hr0.1 hr0.2 hd hR) hp rfl hn hsize hst (lv_room (pc := pc) (ls := ls) (m := m) (rest := st0) hW) hdg hf) ht hlocks
theorem kr_thrI {is : Nat} {text : String} (hx : p.tables.exec = Jvm.exec) (hb : c.code = cc) (hl0 : l.stackTraces = false) (hown : s.vm.findClass RX0 = some m.cls) (hts : ∀ w ∈ kr_all, w.before args s = true) (hT : kr_T s) (htx : (is, text) ∈ kr_tx) (hsize : ls.size = c.maxLocals) (d0 : decode cc pc = .ok (.new 116, 3)) (d3 : decode cc (pc + 3) = .ok (.dup, 1)) (d4 : decode cc (pc + 4) = .ok (.ldc is, 2)) (d6 : decode cc (pc + 6) = .ok (.invokespecial 120, 3)) (d9 : decode cc (pc + 9) = .ok (.athrow, 1)) (ht : ∀ x ∈ c.exceptionTable.toList, False) (hR : 5 < R.frames ∧ (rest.map fun v => v.category).sum + 82 ≤ R.locals ∧ 0 + 1 ≤ R.cells ∧ 0 + 6 ≤ R.slots) (hlocks : meth.locks = false) :
    W p l e R s m args below meth c s.heap [] 0 0 (vx_MQ below kr_no (kr_XC "java/lang/IndexOutOfBoundsException") args s 1 6 (fun _ => False)) (F0 m pc ls rest) := by
  obtain ⟨z1, z2, d1, d2, d3w, k1, k2, k3, n1, n2, n3, htt⟩ := hT
  obtain ⟨sa, hs⟩ := htt _ htx
  exact vx_throwS (A := fun _ => False) hx hb hl0 hown (by decide) (by decide) (hts _ kq_117) (hts _ kq_53) hs (vx_hat (fun w hw => hts w (kr_atI w hw)) kr_bdI (vx_c (va_Nw.use rfl k1) (vx_c (va_Nw.use rfl d1) (vx_c (va_Nw.use rfl d2) (vx_c (va_Nw.use rfl d3w) vx_n))))) kr_gdI z1 z2 va_S.rf hsize d0 d3 d4 d6 d9 (fun x hx => (ht x hx).elim) hR.1 hR.2.1 hR.2.2.1 hR.2.2.2 hlocks (fun t _ h1 h2 => ⟨(), trivial, rfl, h1, fun q hq _ => h2 q hq⟩) (fun z hz => absurd hz List.not_mem_nil) (Nat.le_refl _) (Nat.le_refl _)
theorem kr_thrA {is : Nat} {text : String} (hx : p.tables.exec = Jvm.exec) (hb : c.code = cc) (hl0 : l.stackTraces = false) (hown : s.vm.findClass RX0 = some m.cls) (hts : ∀ w ∈ kr_all, w.before args s = true) (hT : kr_T s) (htx : (is, text) ∈ kr_tx) (hsize : ls.size = c.maxLocals) (d0 : decode cc pc = .ok (.new 45, 3)) (d3 : decode cc (pc + 3) = .ok (.dup, 1)) (d4 : decode cc (pc + 4) = .ok (.ldc is, 2)) (d6 : decode cc (pc + 6) = .ok (.invokespecial 49, 3)) (d9 : decode cc (pc + 9) = .ok (.athrow, 1)) (ht : ∀ x ∈ c.exceptionTable.toList, False) (hR : 5 < R.frames ∧ (rest.map fun v => v.category).sum + 82 ≤ R.locals ∧ 0 + 1 ≤ R.cells ∧ 0 + 6 ≤ R.slots) (hlocks : meth.locks = false) :
    W p l e R s m args below meth c s.heap [] 0 0 (vx_MQ below kr_no (kr_XC "java/lang/IllegalArgumentException") args s 1 6 (fun _ => False)) (F0 m pc ls rest) := by
  obtain ⟨z1, z2, d1, d2, d3w, k1, k2, k3, n1, n2, n3, htt⟩ := hT
  obtain ⟨sa, hs⟩ := htt _ htx
  exact vx_throwS (A := fun _ => False) hx hb hl0 hown (by decide) (by decide) (hts _ kq_317) (hts _ kq_54) hs (vx_hat (fun w hw => hts w (kr_atA w hw)) kr_bdA (vx_c (va_Nw.use rfl k2) (vx_c (va_Nw.use rfl d1) (vx_c (va_Nw.use rfl d2) (vx_c (va_Nw.use rfl d3w) vx_n))))) kr_gdA z1 z2 va_S.rf hsize d0 d3 d4 d6 d9 (fun x hx => (ht x hx).elim) hR.1 hR.2.1 hR.2.2.1 hR.2.2.2 hlocks (fun t _ h1 h2 => ⟨(), trivial, rfl, h1, fun q hq _ => h2 q hq⟩) (fun z hz => absurd hz List.not_mem_nil) (Nat.le_refl _) (Nat.le_refl _)
theorem kr_thrS {is : Nat} {text : String} (hx : p.tables.exec = Jvm.exec) (hb : c.code = cc) (hl0 : l.stackTraces = false) (hown : s.vm.findClass RX0 = some m.cls) (hts : ∀ w ∈ kr_all, w.before args s = true) (hT : kr_T s) (htx : (is, text) ∈ kr_tx) (hsize : ls.size = c.maxLocals) (d0 : decode cc pc = .ok (.new 54, 3)) (d3 : decode cc (pc + 3) = .ok (.dup, 1)) (d4 : decode cc (pc + 4) = .ok (.ldc is, 2)) (d6 : decode cc (pc + 6) = .ok (.invokespecial 58, 3)) (d9 : decode cc (pc + 9) = .ok (.athrow, 1)) (ht : ∀ x ∈ c.exceptionTable.toList, False) (hR : 5 < R.frames ∧ (rest.map fun v => v.category).sum + 82 ≤ R.locals ∧ 0 + 1 ≤ R.cells ∧ 0 + 6 ≤ R.slots) (hlocks : meth.locks = false) :
    W p l e R s m args below meth c s.heap [] 0 0 (vx_MQ below kr_no (kr_XC "java/lang/IllegalStateException") args s 1 6 (fun _ => False)) (F0 m pc ls rest) := by
  obtain ⟨z1, z2, d1, d2, d3w, k1, k2, k3, n1, n2, n3, htt⟩ := hT
  obtain ⟨sa, hs⟩ := htt _ htx
  exact vx_throwS (A := fun _ => False) hx hb hl0 hown (by decide) (by decide) (hts _ kq_334) (hts _ kq_55) hs (vx_hat (fun w hw => hts w (kr_atS w hw)) kr_bdS (vx_c (va_Nw.use rfl k3) (vx_c (va_Nw.use rfl d1) (vx_c (va_Nw.use rfl d2) (vx_c (va_Nw.use rfl d3w) vx_n))))) kr_gdS z1 z2 va_S.rf hsize d0 d3 d4 d6 d9 (fun x hx => (ht x hx).elim) hR.1 hR.2.1 hR.2.2.1 hR.2.2.2 hlocks (fun t _ h1 h2 => ⟨(), trivial, rfl, h1, fun q hq _ => h2 q hq⟩) (fun z hz => absurd hz List.not_mem_nil) (Nat.le_refl _) (Nat.le_refl _)
end KRXW
end
section
/-! which exception, if any: 0 none, 1, 2, 3 in the document's order -/
abbrev kr_i (N : Nat) (x : Int32) : Prop := ¬ x < 0 ∧ ¬ nI N ≤ x
abbrev kr_o (x : Int32) : Prop := ¬ x < 1 ∧ ¬ 999 < x
abbrev kr_q (L : Nat) (A : Nat → Nat → Int32) (x y : Int32) : Prop := kr_i L x ∧ (¬ y < 0 ∧ ¬ A 5 (kr_ix x) ≤ y)
def kr_cd (P Q R : Prop) [Decidable P] [Decidable Q] [Decidable R] : Int32 := if P then (if Q then (if R then 0 else 3) else 2) else 1
def kr_E (c : Int32) : String := if c = 1 then "java/lang/IndexOutOfBoundsException" else if c = 2 then "java/lang/IllegalArgumentException" else "java/lang/IllegalStateException"
section KRC
theorem kr_cd0 {P Q R : Prop} [Decidable P] [Decidable Q] [Decidable R] (h1 : P) (h2 : Q) (h3 : R) : kr_cd P Q R = 0 := by unfold kr_cd; rw [if_pos h1, if_pos h2, if_pos h3]
theorem kr_cd1 {P Q R : Prop} [Decidable P] [Decidable Q] [Decidable R] (h : ¬ P) : kr_cd P Q R = 1 := by unfold kr_cd; rw [if_neg h]
theorem kr_cd2 {P Q R : Prop} [Decidable P] [Decidable Q] [Decidable R] (h1 : P) (h : ¬ Q) : kr_cd P Q R = 2 := by unfold kr_cd; rw [if_pos h1, if_neg h]
theorem kr_cd3 {P Q R : Prop} [Decidable P] [Decidable Q] [Decidable R] (h1 : P) (h2 : Q) (h : ¬ R) : kr_cd P Q R = 3 := by unfold kr_cd; rw [if_pos h1, if_pos h2, if_neg h]
theorem kr_cdE {P Q R : Prop} [Decidable P] [Decidable Q] [Decidable R] (h : kr_cd P Q R = 0) : P ∧ Q ∧ R := by
  unfold kr_cd at h
  by_cases h1 : P
  · rw [if_pos h1] at h
    by_cases h2 : Q
    · rw [if_pos h2] at h
      by_cases h3 : R
      · exact ⟨h1, h2, h3⟩
      · rw [if_neg h3] at h; exact absurd h (by decide)
    · rw [if_neg h2] at h; exact absurd h (by decide)
  · rw [if_neg h1] at h; exact absurd h (by decide)
theorem kr_cdX {P Q R : Prop} [Decidable P] [Decidable Q] [Decidable R] (h : ¬ kr_cd P Q R = 0) : kr_cd P Q R = 1 ∧ ¬ P ∨ kr_cd P Q R = 2 ∧ P ∧ ¬ Q ∨ kr_cd P Q R = 3 ∧ P ∧ Q ∧ ¬ R := by
  by_cases h1 : P
  · by_cases h2 : Q
    · by_cases h3 : R
      · exact absurd (kr_cd0 h1 h2 h3) h
      · exact Or.inr (Or.inr ⟨kr_cd3 h1 h2 h3, h1, h2, h3⟩)
    · exact Or.inr (Or.inl ⟨kr_cd2 h1 h2, h1, h2⟩)
  · exact Or.inl ⟨kr_cd1 h1, h1⟩
theorem kr_E1 : kr_E 1 = "java/lang/IndexOutOfBoundsException" := rfl
theorem kr_E2 : kr_E 2 = "java/lang/IllegalArgumentException" := rfl
theorem kr_E3 : kr_E 3 = "java/lang/IllegalStateException" := rfl
end KRC
theorem kr_inS {k : Nat} {z : Int32} (hk : k < 2 ^ 31) (h1 : ¬ z < -1) (h2 : z < nI k) (h3 : ¬ z = -1) : ∃ j, j < k ∧ z = nI j := by
  have h0 : ¬ z < 0 := by
    intro h
    have h4 : ¬ z.toInt = -1 := lv_neT h3 (by decide)
    rw [Int32.lt_iff_toInt_lt] at h1 h
    rw [show (-1 : Int32).toInt = -1 by decide] at h1
    rw [show (0 : Int32).toInt = 0 by decide] at h
    omega
  rcases pk_ix z (n := k) hk with h4 | h4 | h4
  · exact absurd h4 h0
  · exact absurd h2 (kr_ngt2 h4)
  · exact h4
theorem kr_inP {N L : Nat} {A : Nat → Nat → Int32} {x y : Int32} (hw : kr_wf N L A) (h : kr_q L A x y) : ∃ q pl, q < L ∧ pl < kr_rc A q ∧ x = nI q ∧ y = nI pl := by
  obtain ⟨q, hq, rfl⟩ := kr_inL hw.2.1 h.1
  obtain ⟨hrc, er⟩ := hw.rc hq
  have hL := hw.2.1
  have h2 := h.2
  rw [kr_ix_nI (by omega), er] at h2
  rcases pk_ix y (n := kr_rc A q) (by omega) with h4 | h4 | ⟨j, hj, h4⟩
  · exact absurd h4 h2.1
  · exact absurd h4 h2.2
  · exact ⟨q, j, hq, hj, rfl, h4⟩
end
section
set_option maxHeartbeats 4000000 in
set_option maxRecDepth 100000 in
theorem x_X0_checkKind (l : Launch) (hl0 : l.stackTraces = false) (x : Int32) (hx0 : ¬ (x = 0 ∨ x = 1)) : vx_Met l yX0_checkKind (Cond.code yX0_checkKind cX0_checkKind 1 none :: kr_all) ({ frames := 6, cells := 1, slots := 6, locals := 90 }) (va_Pc [.int x] kr_T) kr_no (kr_XC "java/lang/IndexOutOfBoundsException") 1 6 (fun _ => False) := by
  refine kr_ofX (by decide) (Nat.le_of_ble_eq_true rfl) ?_
  intro p e s m below meth c ls hx hb hml hr hts hown hlocks ht hv hl
  have hT := hv
  have hown : s.vm.findClass RX0 = some m.cls := hown
  have hl : lv_has ls 1 [(0, .int x)] := hl
  refine lv_iload_n hx hb dX0_checkKind_0 rfl (lv_at hl 0 rfl) ?_
  refine lv_if_eq (tgt := 19) hx hb dX0_checkKind_1 (by decide) (fun c1 => absurd (Or.inl c1) hx0) (fun c1 => ?_)
  refine lv_iload_n hx hb dX0_checkKind_4 rfl (lv_at hl 0 rfl) ?_
  refine lv_iconst (v := 1) hx hb dX0_checkKind_5 (by decide) ?_
  refine lv_icmp_eq (tgt := 19) hx hb dX0_checkKind_6 (by decide) (fun c6 => absurd (Or.inr c6) hx0) (fun c6 => ?_)
  exact kr_thrI hx hb hl0 hown hts hT (List.mem_of_getElem? (i := 8) rfl) (hl.1.trans hml.symm) dX0_checkKind_9 dX0_checkKind_12 dX0_checkKind_13 dX0_checkKind_15 dX0_checkKind_18 ht ⟨by decide, by decide, by decide, by decide⟩ hlocks
set_option maxHeartbeats 4000000 in
set_option maxRecDepth 100000 in
theorem x_X0_checkKnot (l : Launch) (hl0 : l.stackTraces = false) (D : va_G) (cy : ClassId) (h : Nat) (a : Nat → Nat) (N L : Nat) (A : Nat → Nat → Int32) (x : Int32) (hx0 : ¬ kr_i N x) : vx_Met l yX0_checkKnot (Cond.code yX0_checkKnot cX0_checkKnot 2 none :: kr_all) ({ frames := 6, cells := 1, slots := 6, locals := 90 }) (va_Pc [.ref h, .int x] (kr_RT D (kr_W0 cy h a N L A) cy)) kr_no (kr_XC "java/lang/IndexOutOfBoundsException") 1 6 (fun _ => False) := by
  refine kr_ofX (by decide) (Nat.le_of_ble_eq_true rfl) ?_
  intro p e s m below meth c ls hx hb hml hr hts hown hlocks ht hv hl
  obtain ⟨⟨hP, hK⟩, hT⟩ := hv
  have hown : s.vm.findClass RX0 = some m.cls := hown
  have hl : lv_has ls 2 [(0, .ref h), (1, .int x)] := hl
  refine lv_aload_n hx hb dX0_checkKnot_0 rfl (lv_at hl 0 rfl) ?_
  refine lv_iload_n hx hb dX0_checkKnot_1 rfl (lv_at hl 1 rfl) ?_
  refine kr_vI (n := 1) (As := [.int x]) (rest := []) ⟨hx, hb, hml, hown, hts⟩ (c_X0_isKnot l D cy h a N L A x) kg_RX0_125 ⟨rfl, rfl⟩ (by decide +kernel) ⟨Nat.le_of_ble_eq_true rfl, Nat.le_of_ble_eq_true rfl⟩ (kr_pv0 hP hK) rfl hl.1 rfl (Nat.le_of_ble_eq_true rfl) dX0_checkKnot_2 ⟨Nat.zero_le _, Nat.zero_le _⟩ (fun r9 e9 => ?_)
  subst e9
  refine lv_if_ne (tgt := 18) hx hb dX0_checkKnot_5 (by decide) (fun c5 => absurd (kr_if1 c5) hx0) (fun c5 => ?_)
  exact kr_thrI hx hb hl0 hown hts hT (List.mem_of_getElem? (i := 9) rfl) (hl.1.trans hml.symm) dX0_checkKnot_8 dX0_checkKnot_11 dX0_checkKnot_12 dX0_checkKnot_14 dX0_checkKnot_17 ht ⟨by decide, by decide, by decide, by decide⟩ hlocks
set_option maxHeartbeats 4000000 in
set_option maxRecDepth 100000 in
theorem x_X0_checkOfKind (l : Launch) (hl0 : l.stackTraces = false) (D : va_G) (cy : ClassId) (h : Nat) (a : Nat → Nat) (N L : Nat) (A : Nat → Nat → Int32) (k : Nat) (kd : Int32) (hk : k < 16) (he : ¬ A 0 k = kd) : vx_Met l yX0_checkOfKind (Cond.code yX0_checkOfKind cX0_checkOfKind 3 none :: kr_all) ({ frames := 6, cells := 1, slots := 6, locals := 90 }) (va_Pc [.ref h, .int (nI k), .int kd] (kr_RT D (kr_W0 cy h a N L A) cy)) kr_no (kr_XC "java/lang/IllegalArgumentException") 1 6 (fun _ => False) := by
  refine kr_ofX (by decide) (Nat.le_of_ble_eq_true rfl) ?_
  intro p e s m below meth c ls hx hb hml hr hts hown hlocks ht hv hl
  obtain ⟨⟨hP, hK⟩, hT⟩ := hv
  have hown : s.vm.findClass RX0 = some m.cls := hown
  have hl : lv_has ls 3 [(0, .ref h), (1, .int (nI k)), (2, .int kd)] := hl
  refine lv_aload_n hx hb dX0_checkOfKind_0 rfl (lv_at hl 0 rfl) ?_
  refine va_get (ci := 0) (v := .ref (a 0)) (C := RX0) (T := TX0) (N := 10) hx hb hts kr_wsX0 hown hK hP 0 rfl rfl 0 (by decide) (hts _ kq_65) (fun _ h9 => h9) rfl dX0_checkOfKind_1 ?_
  refine lv_iload_n hx hb dX0_checkOfKind_4 rfl (lv_at hl 1 rfl) ?_
  refine kr_ald hx hb hK hP 1 0 rfl rfl k (by omega) (by decide) dX0_checkOfKind_5 ?_
  refine lv_iload_n hx hb dX0_checkOfKind_6 rfl (lv_at hl 2 rfl) ?_
  refine lv_icmp_eq (tgt := 20) hx hb dX0_checkOfKind_7 (by decide) (fun c7 => absurd c7 he) (fun c7 => ?_)
  exact kr_thrA hx hb hl0 hown hts hT (List.mem_of_getElem? (i := 10) rfl) (hl.1.trans hml.symm) dX0_checkOfKind_10 dX0_checkOfKind_13 dX0_checkOfKind_14 dX0_checkOfKind_16 dX0_checkOfKind_19 ht ⟨by decide, by decide, by decide, by decide⟩ hlocks
set_option maxHeartbeats 4000000 in
set_option maxRecDepth 100000 in
theorem x_X0_checkLoad (l : Launch) (hl0 : l.stackTraces = false) (x : Int32) (hx0 : ¬ kr_o x) : vx_Met l yX0_checkLoad (Cond.code yX0_checkLoad cX0_checkLoad 1 none :: kr_all) ({ frames := 6, cells := 1, slots := 6, locals := 90 }) (va_Pc [.int x] kr_T) kr_no (kr_XC "java/lang/IllegalArgumentException") 1 6 (fun _ => False) := by
  refine kr_ofX (by decide) (Nat.le_of_ble_eq_true rfl) ?_
  intro p e s m below meth c ls hx hb hml hr hts hown hlocks ht hv hl
  have hT := hv
  have hown : s.vm.findClass RX0 = some m.cls := hown
  have hl : lv_has ls 1 [(0, .int x)] := hl
  refine lv_iload_n hx hb dX0_checkLoad_0 rfl (lv_at hl 0 rfl) ?_
  refine lv_iconst (v := 1) hx hb dX0_checkLoad_1 (by decide) ?_
  refine lv_icmp_lt (tgt := 12) hx hb dX0_checkLoad_2 (by decide) (fun c2 => ?_) (fun c2 => ?_)
  · exact kr_thrA hx hb hl0 hown hts hT (List.mem_of_getElem? (i := 11) rfl) (hl.1.trans hml.symm) dX0_checkLoad_12 dX0_checkLoad_15 dX0_checkLoad_16 dX0_checkLoad_18 dX0_checkLoad_21 ht ⟨by decide, by decide, by decide, by decide⟩ hlocks
  · refine lv_iload_n hx hb dX0_checkLoad_5 rfl (lv_at hl 0 rfl) ?_
    refine lv_sipush (v := 999) hx hb dX0_checkLoad_6 (by decide) ?_
    refine lv_icmp_le (tgt := 22) hx hb dX0_checkLoad_9 (by decide) (fun c9 => absurd ⟨c2, kr_ngt2 c9⟩ hx0) (fun c9 => ?_)
    exact kr_thrA hx hb hl0 hown hts hT (List.mem_of_getElem? (i := 11) rfl) (hl.1.trans hml.symm) dX0_checkLoad_12 dX0_checkLoad_15 dX0_checkLoad_16 dX0_checkLoad_18 dX0_checkLoad_21 ht ⟨by decide, by decide, by decide, by decide⟩ hlocks
set_option maxHeartbeats 4000000 in
set_option maxRecDepth 100000 in
theorem x_X0_checkStrength (l : Launch) (hl0 : l.stackTraces = false) (x : Int32) (hx0 : ¬ kr_o x) : vx_Met l yX0_checkStrength (Cond.code yX0_checkStrength cX0_checkStrength 1 none :: kr_all) ({ frames := 6, cells := 1, slots := 6, locals := 90 }) (va_Pc [.int x] kr_T) kr_no (kr_XC "java/lang/IllegalArgumentException") 1 6 (fun _ => False) := by
  refine kr_ofX (by decide) (Nat.le_of_ble_eq_true rfl) ?_
  intro p e s m below meth c ls hx hb hml hr hts hown hlocks ht hv hl
  have hT := hv
  have hown : s.vm.findClass RX0 = some m.cls := hown
  have hl : lv_has ls 1 [(0, .int x)] := hl
  refine lv_iload_n hx hb dX0_checkStrength_0 rfl (lv_at hl 0 rfl) ?_
  refine lv_iconst (v := 1) hx hb dX0_checkStrength_1 (by decide) ?_
  refine lv_icmp_lt (tgt := 12) hx hb dX0_checkStrength_2 (by decide) (fun c2 => ?_) (fun c2 => ?_)
  · exact kr_thrA hx hb hl0 hown hts hT (List.mem_of_getElem? (i := 12) rfl) (hl.1.trans hml.symm) dX0_checkStrength_12 dX0_checkStrength_15 dX0_checkStrength_16 dX0_checkStrength_18 dX0_checkStrength_21 ht ⟨by decide, by decide, by decide, by decide⟩ hlocks
  · refine lv_iload_n hx hb dX0_checkStrength_5 rfl (lv_at hl 0 rfl) ?_
    refine lv_sipush (v := 999) hx hb dX0_checkStrength_6 (by decide) ?_
    refine lv_icmp_le (tgt := 22) hx hb dX0_checkStrength_9 (by decide) (fun c9 => absurd ⟨c2, kr_ngt2 c9⟩ hx0) (fun c9 => ?_)
    exact kr_thrA hx hb hl0 hown hts hT (List.mem_of_getElem? (i := 12) rfl) (hl.1.trans hml.symm) dX0_checkStrength_12 dX0_checkStrength_15 dX0_checkStrength_16 dX0_checkStrength_18 dX0_checkStrength_21 ht ⟨by decide, by decide, by decide, by decide⟩ hlocks
set_option maxHeartbeats 4000000 in
set_option maxRecDepth 100000 in
theorem x_X0_checkLine (l : Launch) (hl0 : l.stackTraces = false) (D : va_G) (cy : ClassId) (h : Nat) (a : Nat → Nat) (N L : Nat) (A : Nat → Nat → Int32) (x : Int32) (hx0 : ¬ kr_i L x) : vx_Met l yX0_checkLine (Cond.code yX0_checkLine cX0_checkLine 2 none :: kr_all) ({ frames := 6, cells := 1, slots := 6, locals := 90 }) (va_Pc [.ref h, .int x] (kr_RT D (kr_W0 cy h a N L A) cy)) kr_no (kr_XC "java/lang/IndexOutOfBoundsException") 1 6 (fun _ => False) := by
  refine kr_ofX (by decide) (Nat.le_of_ble_eq_true rfl) ?_
  intro p e s m below meth c ls hx hb hml hr hts hown hlocks ht hv hl
  obtain ⟨⟨hP, hK⟩, hT⟩ := hv
  have hown : s.vm.findClass RX0 = some m.cls := hown
  have hl : lv_has ls 2 [(0, .ref h), (1, .int x)] := hl
  refine lv_iload_n hx hb dX0_checkLine_0 rfl (lv_at hl 1 rfl) ?_
  refine lv_if_lt (tgt := 12) hx hb dX0_checkLine_1 (by decide) (fun c1 => ?_) (fun c1 => ?_)
  · exact kr_thrI hx hb hl0 hown hts hT (List.mem_of_getElem? (i := 13) rfl) (hl.1.trans hml.symm) dX0_checkLine_12 dX0_checkLine_15 dX0_checkLine_16 dX0_checkLine_18 dX0_checkLine_21 ht ⟨by decide, by decide, by decide, by decide⟩ hlocks
  · refine lv_iload_n hx hb dX0_checkLine_4 rfl (lv_at hl 1 rfl) ?_
    refine lv_aload_n hx hb dX0_checkLine_5 rfl (lv_at hl 0 rfl) ?_
    refine va_get (ci := 0) (v := .int (nI L)) (C := RX0) (T := TX0) (N := 10) hx hb hts kr_wsX0 hown hK hP 0 rfl rfl 7 (by decide) (hts _ kq_72) (fun _ h9 => h9) rfl dX0_checkLine_6 ?_
    refine lv_icmp_lt (tgt := 22) hx hb dX0_checkLine_9 (by decide) (fun c9 => absurd ⟨c1, kr_ngt c9⟩ hx0) (fun c9 => ?_)
    exact kr_thrI hx hb hl0 hown hts hT (List.mem_of_getElem? (i := 13) rfl) (hl.1.trans hml.symm) dX0_checkLine_12 dX0_checkLine_15 dX0_checkLine_16 dX0_checkLine_18 dX0_checkLine_21 ht ⟨by decide, by decide, by decide, by decide⟩ hlocks
set_option maxHeartbeats 4000000 in
set_option maxRecDepth 100000 in
theorem x_X0_checkPlace (l : Launch) (hl0 : l.stackTraces = false) (D : va_G) (cy : ClassId) (h : Nat) (a : Nat → Nat) (N L : Nat) (A : Nat → Nat → Int32) (x y : Int32) (hw : kr_wf N L A) (hx0 : ¬ kr_q L A x y) : vx_Met l yX0_checkPlace (Cond.code yX0_checkPlace cX0_checkPlace 3 none :: kr_all) ({ frames := 7, cells := 1, slots := 6, locals := 111 }) (va_Pc [.ref h, .int x, .int y] (kr_RT D (kr_W0 cy h a N L A) cy)) kr_no (kr_XC "java/lang/IndexOutOfBoundsException") 1 6 (fun _ => False) := by
  refine kr_ofX (by decide) (Nat.le_of_ble_eq_true rfl) ?_
  intro p e s m below meth c ls hx hb hml hr hts hown hlocks ht hv hl
  obtain ⟨⟨hP, hK⟩, hT⟩ := hv
  have hown : s.vm.findClass RX0 = some m.cls := hown
  have hl : lv_has ls 3 [(0, .ref h), (1, .int x), (2, .int y)] := hl
  have hL := hw.2.1
  refine lv_aload_n hx hb dX0_checkPlace_0 rfl (lv_at hl 0 rfl) ?_
  refine lv_iload_n hx hb dX0_checkPlace_1 rfl (lv_at hl 1 rfl) ?_
  by_cases hk : kr_i L x
  · obtain ⟨q, hq, rfl⟩ := kr_inL hL hk
    refine kr_vV (n := 1) (As := [.int (nI q)]) (rest := []) ⟨hx, hb, hml, hown, hts⟩ (c_X0_checkLine l D cy h a N L A q (by omega) (by omega)) kg_RX0_82 ⟨rfl, rfl⟩ (by decide +kernel) ⟨Nat.le_of_ble_eq_true rfl, Nat.le_of_ble_eq_true rfl⟩ (kr_pv0 hP hK) rfl hl.1 rfl (Nat.le_of_ble_eq_true rfl) dX0_checkPlace_2 ⟨Nat.zero_le _, Nat.zero_le _⟩ ?_
    refine lv_iload_n hx hb dX0_checkPlace_5 rfl (lv_at hl 2 rfl) ?_
    refine lv_if_lt (tgt := 19) hx hb dX0_checkPlace_6 (by decide) (fun c6 => ?_) (fun c6 => ?_)
    · exact kr_thrI hx hb hl0 hown hts hT (List.mem_of_getElem? (i := 14) rfl) (hl.1.trans hml.symm) dX0_checkPlace_19 dX0_checkPlace_22 dX0_checkPlace_23 dX0_checkPlace_25 dX0_checkPlace_28 ht ⟨by decide, by decide, by decide, by decide⟩ hlocks
    · refine lv_iload_n hx hb dX0_checkPlace_9 rfl (lv_at hl 2 rfl) ?_
      refine lv_aload_n hx hb dX0_checkPlace_10 rfl (lv_at hl 0 rfl) ?_
      refine va_get (ci := 0) (v := .ref (a 5)) (C := RX0) (T := TX0) (N := 10) hx hb hts kr_wsX0 hown hK hP 0 rfl rfl 6 (by decide) (hts _ kq_71) (fun _ h9 => h9) rfl dX0_checkPlace_11 ?_
      refine lv_iload_n hx hb dX0_checkPlace_14 rfl (lv_at hl 1 rfl) ?_
      refine kr_ald hx hb hK hP 6 0 rfl rfl q (by omega) (by decide) dX0_checkPlace_15 ?_
      refine lv_icmp_lt (tgt := 29) hx hb dX0_checkPlace_16 (by decide) (fun c16 => absurd ⟨hk, c6, by rw [kr_ix_nI (by omega)]; exact kr_ngt c16⟩ hx0) (fun c16 => ?_)
      exact kr_thrI hx hb hl0 hown hts hT (List.mem_of_getElem? (i := 14) rfl) (hl.1.trans hml.symm) dX0_checkPlace_19 dX0_checkPlace_22 dX0_checkPlace_23 dX0_checkPlace_25 dX0_checkPlace_28 ht ⟨by decide, by decide, by decide, by decide⟩ hlocks
  · exact kr_xV (n := 1) (As := [.int x]) (rest := []) ⟨hx, hb, hml, hown, hts⟩ (x_X0_checkLine l hl0 D cy h a N L A x hk) kg_RX0_82 ⟨rfl, rfl⟩ (by decide +kernel) ⟨Nat.le_of_ble_eq_true rfl, Nat.le_of_ble_eq_true rfl⟩ (kr_pvx hP hK hT (fun _ _ => rfl)) rfl hl.1 rfl (Nat.le_of_ble_eq_true rfl) dX0_checkPlace_2 ⟨Nat.le_of_ble_eq_true rfl, Nat.le_of_ble_eq_true rfl⟩ ht hlocks
set_option maxHeartbeats 4000000 in
set_option maxRecDepth 100000 in
theorem x_X0_checkNotGone (l : Launch) (hl0 : l.stackTraces = false) (D : va_G) (cy : ClassId) (h : Nat) (a : Nat → Nat) (N L : Nat) (A : Nat → Nat → Int32) (q : Nat) (hq : q < 6) (hg : A 5 q = 0) : vx_Met l yX0_checkNotGone (Cond.code yX0_checkNotGone cX0_checkNotGone 2 none :: kr_all) ({ frames := 6, cells := 1, slots := 6, locals := 90 }) (va_Pc [.ref h, .int (nI q)] (kr_RT D (kr_W0 cy h a N L A) cy)) kr_no (kr_XC "java/lang/IllegalStateException") 1 6 (fun _ => False) := by
  refine kr_ofX (by decide) (Nat.le_of_ble_eq_true rfl) ?_
  intro p e s m below meth c ls hx hb hml hr hts hown hlocks ht hv hl
  obtain ⟨⟨hP, hK⟩, hT⟩ := hv
  have hown : s.vm.findClass RX0 = some m.cls := hown
  have hl : lv_has ls 2 [(0, .ref h), (1, .int (nI q))] := hl
  refine lv_aload_n hx hb dX0_checkNotGone_0 rfl (lv_at hl 0 rfl) ?_
  refine lv_iload_n hx hb dX0_checkNotGone_1 rfl (lv_at hl 1 rfl) ?_
  refine kr_vI (n := 1) (As := [.int (nI q)]) (rest := []) ⟨hx, hb, hml, hown, hts⟩ (c_X0_isGone l D cy h a N L A q (by omega)) kg_RX0_140 ⟨rfl, rfl⟩ (by decide +kernel) ⟨Nat.le_of_ble_eq_true rfl, Nat.le_of_ble_eq_true rfl⟩ (kr_pv0 hP hK) rfl hl.1 rfl (Nat.le_of_ble_eq_true rfl) dX0_checkNotGone_2 ⟨Nat.zero_le _, Nat.zero_le _⟩ (fun r9 e9 => ?_)
  subst e9
  refine lv_if_eq (tgt := 18) hx hb dX0_checkNotGone_5 (by decide) (fun c5 => absurd hg (kr_if0 c5)) (fun c5 => ?_)
  exact kr_thrS hx hb hl0 hown hts hT (List.mem_of_getElem? (i := 15) rfl) (hl.1.trans hml.symm) dX0_checkNotGone_8 dX0_checkNotGone_11 dX0_checkNotGone_12 dX0_checkNotGone_14 dX0_checkNotGone_17 ht ⟨by decide, by decide, by decide, by decide⟩ hlocks
set_option maxHeartbeats 4000000 in
set_option maxRecDepth 100000 in
theorem x_X0_kindOf (l : Launch) (hl0 : l.stackTraces = false) (D : va_G) (cy : ClassId) (h : Nat) (a : Nat → Nat) (N L : Nat) (A : Nat → Nat → Int32) (x : Int32) (hc : ¬ kr_cd (kr_i N x) True True = 0) : vx_Met l yX0_kindOf (Cond.code yX0_kindOf cX0_kindOf 2 (some .int) :: kr_all) ({ frames := 7, cells := 1, slots := 6, locals := 111 }) (va_Pc [.ref h, .int x] (kr_RT D (kr_W0 cy h a N L A) cy)) kr_no (kr_XC (kr_E (kr_cd (kr_i N x) True True))) 1 6 (fun _ => False) := by
  refine kr_ofX (by decide) (Nat.le_of_ble_eq_true rfl) ?_
  intro p e s m below meth c ls hx hb hml hr hts hown hlocks ht hv hl
  obtain ⟨⟨hP, hK⟩, hT⟩ := hv
  have hown : s.vm.findClass RX0 = some m.cls := hown
  have hl : lv_has ls 2 [(0, .ref h), (1, .int x)] := hl
  refine lv_aload_n hx hb dX0_kindOf_0 rfl (lv_at hl 0 rfl) ?_
  refine lv_iload_n hx hb dX0_kindOf_1 rfl (lv_at hl 1 rfl) ?_
  by_cases hk : kr_i N x
  · exact absurd (kr_cd0 hk trivial trivial) hc
  · rw [kr_cd1 hk, kr_E1]
    exact kr_xV (n := 1) (As := [.int x]) (rest := []) ⟨hx, hb, hml, hown, hts⟩ (x_X0_checkKnot l hl0 D cy h a N L A x hk) kg_RX0_59 ⟨rfl, rfl⟩ (by decide +kernel) ⟨Nat.le_of_ble_eq_true rfl, Nat.le_of_ble_eq_true rfl⟩ (kr_pvx hP hK hT (fun _ _ => rfl)) rfl hl.1 rfl (Nat.le_of_ble_eq_true rfl) dX0_kindOf_2 ⟨Nat.le_of_ble_eq_true rfl, Nat.le_of_ble_eq_true rfl⟩ ht hlocks
set_option maxHeartbeats 4000000 in
set_option maxRecDepth 100000 in
theorem x_X0_efficiencyOf (l : Launch) (hl0 : l.stackTraces = false) (D : va_G) (cy : ClassId) (h : Nat) (a : Nat → Nat) (N L : Nat) (A : Nat → Nat → Int32) (x : Int32) (hc : ¬ kr_cd (kr_i N x) True True = 0) : vx_Met l yX0_efficiencyOf (Cond.code yX0_efficiencyOf cX0_efficiencyOf 2 (some .int) :: kr_all) ({ frames := 7, cells := 1, slots := 6, locals := 111 }) (va_Pc [.ref h, .int x] (kr_RT D (kr_W0 cy h a N L A) cy)) kr_no (kr_XC (kr_E (kr_cd (kr_i N x) True True))) 1 6 (fun _ => False) := by
  refine kr_ofX (by decide) (Nat.le_of_ble_eq_true rfl) ?_
  intro p e s m below meth c ls hx hb hml hr hts hown hlocks ht hv hl
  obtain ⟨⟨hP, hK⟩, hT⟩ := hv
  have hown : s.vm.findClass RX0 = some m.cls := hown
  have hl : lv_has ls 2 [(0, .ref h), (1, .int x)] := hl
  refine lv_aload_n hx hb dX0_efficiencyOf_0 rfl (lv_at hl 0 rfl) ?_
  refine lv_iload_n hx hb dX0_efficiencyOf_1 rfl (lv_at hl 1 rfl) ?_
  by_cases hk : kr_i N x
  · exact absurd (kr_cd0 hk trivial trivial) hc
  · rw [kr_cd1 hk, kr_E1]
    exact kr_xV (n := 1) (As := [.int x]) (rest := []) ⟨hx, hb, hml, hown, hts⟩ (x_X0_checkKnot l hl0 D cy h a N L A x hk) kg_RX0_59 ⟨rfl, rfl⟩ (by decide +kernel) ⟨Nat.le_of_ble_eq_true rfl, Nat.le_of_ble_eq_true rfl⟩ (kr_pvx hP hK hT (fun _ _ => rfl)) rfl hl.1 rfl (Nat.le_of_ble_eq_true rfl) dX0_efficiencyOf_2 ⟨Nat.le_of_ble_eq_true rfl, Nat.le_of_ble_eq_true rfl⟩ ht hlocks
set_option maxHeartbeats 4000000 in
set_option maxRecDepth 100000 in
theorem x_X0_crossingsOf (l : Launch) (hl0 : l.stackTraces = false) (D : va_G) (cy : ClassId) (h : Nat) (a : Nat → Nat) (N L : Nat) (A : Nat → Nat → Int32) (x : Int32) (hc : ¬ kr_cd (kr_i N x) True True = 0) : vx_Met l yX0_crossingsOf (Cond.code yX0_crossingsOf cX0_crossingsOf 2 (some .int) :: kr_all) ({ frames := 7, cells := 1, slots := 6, locals := 111 }) (va_Pc [.ref h, .int x] (kr_RT D (kr_W0 cy h a N L A) cy)) kr_no (kr_XC (kr_E (kr_cd (kr_i N x) True True))) 1 6 (fun _ => False) := by
  refine kr_ofX (by decide) (Nat.le_of_ble_eq_true rfl) ?_
  intro p e s m below meth c ls hx hb hml hr hts hown hlocks ht hv hl
  obtain ⟨⟨hP, hK⟩, hT⟩ := hv
  have hown : s.vm.findClass RX0 = some m.cls := hown
  have hl : lv_has ls 2 [(0, .ref h), (1, .int x)] := hl
  refine lv_aload_n hx hb dX0_crossingsOf_0 rfl (lv_at hl 0 rfl) ?_
  refine lv_iload_n hx hb dX0_crossingsOf_1 rfl (lv_at hl 1 rfl) ?_
  by_cases hk : kr_i N x
  · exact absurd (kr_cd0 hk trivial trivial) hc
  · rw [kr_cd1 hk, kr_E1]
    exact kr_xV (n := 1) (As := [.int x]) (rest := []) ⟨hx, hb, hml, hown, hts⟩ (x_X0_checkKnot l hl0 D cy h a N L A x hk) kg_RX0_59 ⟨rfl, rfl⟩ (by decide +kernel) ⟨Nat.le_of_ble_eq_true rfl, Nat.le_of_ble_eq_true rfl⟩ (kr_pvx hP hK hT (fun _ _ => rfl)) rfl hl.1 rfl (Nat.le_of_ble_eq_true rfl) dX0_crossingsOf_2 ⟨Nat.le_of_ble_eq_true rfl, Nat.le_of_ble_eq_true rfl⟩ ht hlocks
set_option maxHeartbeats 4000000 in
set_option maxRecDepth 100000 in
theorem x_X0_spillsAt (l : Launch) (hl0 : l.stackTraces = false) (D : va_G) (cy : ClassId) (h : Nat) (a : Nat → Nat) (N L : Nat) (A : Nat → Nat → Int32) (x : Int32) (hc : ¬ kr_cd (kr_i N x) True True = 0) : vx_Met l yX0_spillsAt (Cond.code yX0_spillsAt cX0_spillsAt 2 (some .int) :: kr_all) ({ frames := 7, cells := 1, slots := 6, locals := 111 }) (va_Pc [.ref h, .int x] (kr_RT D (kr_W0 cy h a N L A) cy)) kr_no (kr_XC (kr_E (kr_cd (kr_i N x) True True))) 1 6 (fun _ => False) := by
  refine kr_ofX (by decide) (Nat.le_of_ble_eq_true rfl) ?_
  intro p e s m below meth c ls hx hb hml hr hts hown hlocks ht hv hl
  obtain ⟨⟨hP, hK⟩, hT⟩ := hv
  have hown : s.vm.findClass RX0 = some m.cls := hown
  have hl : lv_has ls 2 [(0, .ref h), (1, .int x)] := hl
  refine lv_aload_n hx hb dX0_spillsAt_0 rfl (lv_at hl 0 rfl) ?_
  refine lv_iload_n hx hb dX0_spillsAt_1 rfl (lv_at hl 1 rfl) ?_
  by_cases hk : kr_i N x
  · exact absurd (kr_cd0 hk trivial trivial) hc
  · rw [kr_cd1 hk, kr_E1]
    exact kr_xV (n := 1) (As := [.int x]) (rest := []) ⟨hx, hb, hml, hown, hts⟩ (x_X0_checkKnot l hl0 D cy h a N L A x hk) kg_RX0_59 ⟨rfl, rfl⟩ (by decide +kernel) ⟨Nat.le_of_ble_eq_true rfl, Nat.le_of_ble_eq_true rfl⟩ (kr_pvx hP hK hT (fun _ _ => rfl)) rfl hl.1 rfl (Nat.le_of_ble_eq_true rfl) dX0_spillsAt_2 ⟨Nat.le_of_ble_eq_true rfl, Nat.le_of_ble_eq_true rfl⟩ ht hlocks
set_option maxHeartbeats 4000000 in
set_option maxRecDepth 100000 in
theorem x_X0_spillsInto (l : Launch) (hl0 : l.stackTraces = false) (D : va_G) (cy : ClassId) (h : Nat) (a : Nat → Nat) (N L : Nat) (A : Nat → Nat → Int32) (x : Int32) (hc : ¬ kr_cd (kr_i N x) True True = 0) : vx_Met l yX0_spillsInto (Cond.code yX0_spillsInto cX0_spillsInto 2 (some .int) :: kr_all) ({ frames := 7, cells := 1, slots := 6, locals := 111 }) (va_Pc [.ref h, .int x] (kr_RT D (kr_W0 cy h a N L A) cy)) kr_no (kr_XC (kr_E (kr_cd (kr_i N x) True True))) 1 6 (fun _ => False) := by
  refine kr_ofX (by decide) (Nat.le_of_ble_eq_true rfl) ?_
  intro p e s m below meth c ls hx hb hml hr hts hown hlocks ht hv hl
  obtain ⟨⟨hP, hK⟩, hT⟩ := hv
  have hown : s.vm.findClass RX0 = some m.cls := hown
  have hl : lv_has ls 2 [(0, .ref h), (1, .int x)] := hl
  refine lv_aload_n hx hb dX0_spillsInto_0 rfl (lv_at hl 0 rfl) ?_
  refine lv_iload_n hx hb dX0_spillsInto_1 rfl (lv_at hl 1 rfl) ?_
  by_cases hk : kr_i N x
  · exact absurd (kr_cd0 hk trivial trivial) hc
  · rw [kr_cd1 hk, kr_E1]
    exact kr_xV (n := 1) (As := [.int x]) (rest := []) ⟨hx, hb, hml, hown, hts⟩ (x_X0_checkKnot l hl0 D cy h a N L A x hk) kg_RX0_59 ⟨rfl, rfl⟩ (by decide +kernel) ⟨Nat.le_of_ble_eq_true rfl, Nat.le_of_ble_eq_true rfl⟩ (kr_pvx hP hK hT (fun _ _ => rfl)) rfl hl.1 rfl (Nat.le_of_ble_eq_true rfl) dX0_spillsInto_2 ⟨Nat.le_of_ble_eq_true rfl, Nat.le_of_ble_eq_true rfl⟩ ht hlocks
set_option maxHeartbeats 4000000 in
set_option maxRecDepth 100000 in
theorem x_X0_rankOf (l : Launch) (hl0 : l.stackTraces = false) (D : va_G) (cy : ClassId) (h : Nat) (a : Nat → Nat) (N L : Nat) (A : Nat → Nat → Int32) (x : Int32) (hc : ¬ kr_cd (kr_i N x) True True = 0) : vx_Met l yX0_rankOf (Cond.code yX0_rankOf cX0_rankOf 2 (some .int) :: kr_all) ({ frames := 7, cells := 1, slots := 6, locals := 111 }) (va_Pc [.ref h, .int x] (kr_RT D (kr_W0 cy h a N L A) cy)) kr_no (kr_XC (kr_E (kr_cd (kr_i N x) True True))) 1 6 (fun _ => False) := by
  refine kr_ofX (by decide) (Nat.le_of_ble_eq_true rfl) ?_
  intro p e s m below meth c ls hx hb hml hr hts hown hlocks ht hv hl
  obtain ⟨⟨hP, hK⟩, hT⟩ := hv
  have hown : s.vm.findClass RX0 = some m.cls := hown
  have hl : lv_has ls 2 [(0, .ref h), (1, .int x)] := hl
  refine lv_aload_n hx hb dX0_rankOf_0 rfl (lv_at hl 0 rfl) ?_
  refine lv_iload_n hx hb dX0_rankOf_1 rfl (lv_at hl 1 rfl) ?_
  by_cases hk : kr_i N x
  · exact absurd (kr_cd0 hk trivial trivial) hc
  · rw [kr_cd1 hk, kr_E1]
    exact kr_xV (n := 1) (As := [.int x]) (rest := []) ⟨hx, hb, hml, hown, hts⟩ (x_X0_checkKnot l hl0 D cy h a N L A x hk) kg_RX0_59 ⟨rfl, rfl⟩ (by decide +kernel) ⟨Nat.le_of_ble_eq_true rfl, Nat.le_of_ble_eq_true rfl⟩ (kr_pvx hP hK hT (fun _ _ => rfl)) rfl hl.1 rfl (Nat.le_of_ble_eq_true rfl) dX0_rankOf_2 ⟨Nat.le_of_ble_eq_true rfl, Nat.le_of_ble_eq_true rfl⟩ ht hlocks
set_option maxHeartbeats 4000000 in
set_option maxRecDepth 100000 in
theorem x_X0_fallsApartAt (l : Launch) (hl0 : l.stackTraces = false) (D : va_G) (cy : ClassId) (h : Nat) (a : Nat → Nat) (N L : Nat) (A : Nat → Nat → Int32) (x : Int32) (hc : ¬ kr_cd (kr_i N x) True True = 0) : vx_Met l yX0_fallsApartAt (Cond.code yX0_fallsApartAt cX0_fallsApartAt 5 (some .int) :: kr_all) ({ frames := 7, cells := 1, slots := 6, locals := 111 }) (va_Pc [.ref h, .int x] (kr_RT D (kr_W0 cy h a N L A) cy)) kr_no (kr_XC (kr_E (kr_cd (kr_i N x) True True))) 1 6 (fun _ => False) := by
  refine kr_ofX (by decide) (Nat.le_of_ble_eq_true rfl) ?_
  intro p e s m below meth c ls hx hb hml hr hts hown hlocks ht hv hl
  obtain ⟨⟨hP, hK⟩, hT⟩ := hv
  have hown : s.vm.findClass RX0 = some m.cls := hown
  have hl : lv_has ls 5 [(0, .ref h), (1, .int x)] := hl
  refine lv_aload_n hx hb dX0_fallsApartAt_0 rfl (lv_at hl 0 rfl) ?_
  refine lv_iload_n hx hb dX0_fallsApartAt_1 rfl (lv_at hl 1 rfl) ?_
  by_cases hk : kr_i N x
  · exact absurd (kr_cd0 hk trivial trivial) hc
  · rw [kr_cd1 hk, kr_E1]
    exact kr_xV (n := 1) (As := [.int x]) (rest := []) ⟨hx, hb, hml, hown, hts⟩ (x_X0_checkKnot l hl0 D cy h a N L A x hk) kg_RX0_59 ⟨rfl, rfl⟩ (by decide +kernel) ⟨Nat.le_of_ble_eq_true rfl, Nat.le_of_ble_eq_true rfl⟩ (kr_pvx hP hK hT (fun _ _ => rfl)) rfl hl.1 rfl (Nat.le_of_ble_eq_true rfl) dX0_fallsApartAt_2 ⟨Nat.le_of_ble_eq_true rfl, Nat.le_of_ble_eq_true rfl⟩ ht hlocks
set_option maxHeartbeats 4000000 in
set_option maxRecDepth 100000 in
theorem x_X0_knotsOf (l : Launch) (hl0 : l.stackTraces = false) (D : va_G) (cy : ClassId) (h : Nat) (a : Nat → Nat) (N L : Nat) (A : Nat → Nat → Int32) (x : Int32) (hc : ¬ kr_cd (x = 0 ∨ x = 1) True True = 0) : vx_Met l yX0_knotsOf (Cond.code yX0_knotsOf cX0_knotsOf 2 (some .int) :: kr_all) ({ frames := 7, cells := 1, slots := 6, locals := 110 }) (va_Pc [.ref h, .int x] (kr_RT D (kr_W0 cy h a N L A) cy)) kr_no (kr_XC (kr_E (kr_cd (x = 0 ∨ x = 1) True True))) 1 6 (fun _ => False) := by
  refine kr_ofX (by decide) (Nat.le_of_ble_eq_true rfl) ?_
  intro p e s m below meth c ls hx hb hml hr hts hown hlocks ht hv hl
  obtain ⟨⟨hP, hK⟩, hT⟩ := hv
  have hown : s.vm.findClass RX0 = some m.cls := hown
  have hl : lv_has ls 2 [(0, .ref h), (1, .int x)] := hl
  refine lv_iload_n hx hb dX0_knotsOf_0 rfl (lv_at hl 1 rfl) ?_
  by_cases hk : x = 0 ∨ x = 1
  · exact absurd (kr_cd0 hk trivial trivial) hc
  · rw [kr_cd1 hk, kr_E1]
    exact kr_xS (n := 1) (As := [.int x]) (rest := []) ⟨hx, hb, hml, hown, hts⟩ (x_X0_checkKind l hl0 x hk) kg_RX0_41 ⟨rfl, rfl⟩ (by decide +kernel) ⟨Nat.le_of_ble_eq_true rfl, Nat.le_of_ble_eq_true rfl⟩ (kr_psx hT (fun _ _ => rfl)) rfl hl.1 rfl (Nat.le_of_ble_eq_true rfl) dX0_knotsOf_1 ⟨Nat.le_of_ble_eq_true rfl, Nat.le_of_ble_eq_true rfl⟩ ht hlocks
set_option maxHeartbeats 4000000 in
set_option maxRecDepth 100000 in
theorem x_X0_knotAt (l : Launch) (hl0 : l.stackTraces = false) (D : va_G) (cy : ClassId) (h : Nat) (a : Nat → Nat) (N L : Nat) (A : Nat → Nat → Int32) (x y : Int32) (hN : N ≤ 16) (hc : ¬ kr_cd ((x = 0 ∨ x = 1) ∧ ¬ kr_kw A N x y N 0 = -1) True True = 0) : vx_Met l yX0_knotAt (Cond.code yX0_knotAt cX0_knotAt 4 (some .int) :: kr_all) ({ frames := 7, cells := 1, slots := 6, locals := 110 }) (va_Pc [.ref h, .int x, .int y] (kr_RT D (kr_W0 cy h a N L A) cy)) kr_no (kr_XC (kr_E (kr_cd ((x = 0 ∨ x = 1) ∧ ¬ kr_kw A N x y N 0 = -1) True True))) 1 6 (fun _ => False) := by
  refine kr_ofX (by decide) (Nat.le_of_ble_eq_true rfl) ?_
  intro p e s m below meth c ls hx hb hml hr hts hown hlocks ht hv hl
  obtain ⟨⟨hP, hK⟩, hT⟩ := hv
  have hown : s.vm.findClass RX0 = some m.cls := hown
  have hl : lv_has ls 4 [(0, .ref h), (1, .int x), (2, .int y)] := hl
  refine lv_iload_n hx hb dX0_knotAt_0 rfl (lv_at hl 1 rfl) ?_
  by_cases hk : x = 0 ∨ x = 1
  · refine kr_sV (n := 1) (As := [.int x]) (rest := []) ⟨hx, hb, hml, hown, hts⟩ (c_X0_checkKind l x (by assumption)) kg_RX0_41 ⟨rfl, rfl⟩ (by decide +kernel) ⟨Nat.le_of_ble_eq_true rfl, Nat.le_of_ble_eq_true rfl⟩ ⟨kr_blT, fun U hU hW => ⟨rfl, trivial⟩⟩ rfl hl.1 rfl (Nat.le_of_ble_eq_true rfl) dX0_knotAt_1 ⟨Nat.zero_le _, Nat.zero_le _⟩ ?_
    refine lv_aload_n hx hb dX0_knotAt_4 rfl (lv_at hl 0 rfl) ?_
    refine lv_iload_n hx hb dX0_knotAt_5 rfl (lv_at hl 1 rfl) ?_
    refine lv_iload_n hx hb dX0_knotAt_6 rfl (lv_at hl 2 rfl) ?_
    refine kr_vI (n := 2) (As := [.int x, .int y]) (rest := []) ⟨hx, hb, hml, hown, hts⟩ (c_X0_knotWithRank l D cy h a N L A x y (by omega)) kg_RX0_113 ⟨rfl, rfl⟩ (by decide +kernel) ⟨Nat.le_of_ble_eq_true rfl, Nat.le_of_ble_eq_true rfl⟩ (kr_pv0 hP hK) rfl hl.1 rfl (Nat.le_of_ble_eq_true rfl) dX0_knotAt_7 ⟨Nat.zero_le _, Nat.zero_le _⟩ (fun r9 e9 => ?_)
    subst e9
    refine lv_istore_n (lv' := [(3, .int (kr_kw A N x y N 0)), (0, .ref h), (1, .int x), (2, .int y)]) hx hb dX0_knotAt_10 rfl hl (by decide) rfl (fun ls hl => ?_)
    refine lv_iload_n hx hb dX0_knotAt_11 rfl (lv_at hl 0 rfl) ?_
    refine lv_iconst (v := -1) hx hb dX0_knotAt_12 (by decide) ?_
    refine lv_icmp_ne (tgt := 26) hx hb dX0_knotAt_13 (by decide) (fun c13 => ?_) (fun c13 => ?_)
    · exact absurd (kr_cd0 ⟨hk, c13⟩ trivial trivial) hc
    · rw [kr_cd1 (fun z => z.2 c13), kr_E1]
      exact kr_thrI hx hb hl0 hown hts hT (List.mem_of_getElem? (i := 7) rfl) (hl.1.trans hml.symm) dX0_knotAt_16 dX0_knotAt_19 dX0_knotAt_20 dX0_knotAt_22 dX0_knotAt_25 ht ⟨by decide, by decide, by decide, by decide⟩ hlocks
  · rw [kr_cd1 (fun z => hk z.1), kr_E1]
    exact kr_xS (n := 1) (As := [.int x]) (rest := []) ⟨hx, hb, hml, hown, hts⟩ (x_X0_checkKind l hl0 x hk) kg_RX0_41 ⟨rfl, rfl⟩ (by decide +kernel) ⟨Nat.le_of_ble_eq_true rfl, Nat.le_of_ble_eq_true rfl⟩ (kr_psx hT (fun _ _ => rfl)) rfl hl.1 rfl (Nat.le_of_ble_eq_true rfl) dX0_knotAt_1 ⟨Nat.le_of_ble_eq_true rfl, Nat.le_of_ble_eq_true rfl⟩ ht hlocks
set_option maxHeartbeats 4000000 in
set_option maxRecDepth 100000 in
theorem x_X0_formOf (l : Launch) (hl0 : l.stackTraces = false) (D : va_G) (cy : ClassId) (h : Nat) (a : Nat → Nat) (N L : Nat) (A : Nat → Nat → Int32) (x y : Int32) (hN : N ≤ 16) (hc : ¬ kr_cd (kr_i N x) (kr_o y) True = 0) : vx_Met l yX0_formOf (Cond.code yX0_formOf cX0_formOf 3 (some .int) :: kr_all) ({ frames := 7, cells := 1, slots := 6, locals := 111 }) (va_Pc [.ref h, .int x, .int y] (kr_RT D (kr_W0 cy h a N L A) cy)) kr_no (kr_XC (kr_E (kr_cd (kr_i N x) (kr_o y) True))) 1 6 (fun _ => False) := by
  refine kr_ofX (by decide) (Nat.le_of_ble_eq_true rfl) ?_
  intro p e s m below meth c ls hx hb hml hr hts hown hlocks ht hv hl
  obtain ⟨⟨hP, hK⟩, hT⟩ := hv
  have hown : s.vm.findClass RX0 = some m.cls := hown
  have hl : lv_has ls 3 [(0, .ref h), (1, .int x), (2, .int y)] := hl
  refine lv_aload_n hx hb dX0_formOf_0 rfl (lv_at hl 0 rfl) ?_
  refine lv_iload_n hx hb dX0_formOf_1 rfl (lv_at hl 1 rfl) ?_
  by_cases hk : kr_i N x
  · obtain ⟨k, hk2, rfl⟩ := kr_inN hN hk
    refine kr_vV (n := 1) (As := [.int (nI k)]) (rest := []) ⟨hx, hb, hml, hown, hts⟩ (c_X0_checkKnot l D cy h a N L A k (by omega) (by omega)) kg_RX0_59 ⟨rfl, rfl⟩ (by decide +kernel) ⟨Nat.le_of_ble_eq_true rfl, Nat.le_of_ble_eq_true rfl⟩ (kr_pv0 hP hK) rfl hl.1 rfl (Nat.le_of_ble_eq_true rfl) dX0_formOf_2 ⟨Nat.zero_le _, Nat.zero_le _⟩ ?_
    refine lv_iload_n hx hb dX0_formOf_5 rfl (lv_at hl 2 rfl) ?_
    by_cases ho : kr_o y
    · exact absurd (kr_cd0 hk ho trivial) hc
    · rw [kr_cd2 hk ho, kr_E2]
      exact kr_xS (n := 1) (As := [.int y]) (rest := []) ⟨hx, hb, hml, hown, hts⟩ (x_X0_checkLoad l hl0 y ho) kg_RX0_62 ⟨rfl, rfl⟩ (by decide +kernel) ⟨Nat.le_of_ble_eq_true rfl, Nat.le_of_ble_eq_true rfl⟩ (kr_psx hT (fun _ _ => rfl)) rfl hl.1 rfl (Nat.le_of_ble_eq_true rfl) dX0_formOf_6 ⟨Nat.le_of_ble_eq_true rfl, Nat.le_of_ble_eq_true rfl⟩ ht hlocks
  · rw [kr_cd1 hk, kr_E1]
    exact kr_xV (n := 1) (As := [.int x]) (rest := []) ⟨hx, hb, hml, hown, hts⟩ (x_X0_checkKnot l hl0 D cy h a N L A x hk) kg_RX0_59 ⟨rfl, rfl⟩ (by decide +kernel) ⟨Nat.le_of_ble_eq_true rfl, Nat.le_of_ble_eq_true rfl⟩ (kr_pvx hP hK hT (fun _ _ => rfl)) rfl hl.1 rfl (Nat.le_of_ble_eq_true rfl) dX0_formOf_2 ⟨Nat.le_of_ble_eq_true rfl, Nat.le_of_ble_eq_true rfl⟩ ht hlocks
set_option maxHeartbeats 4000000 in
set_option maxRecDepth 100000 in
theorem x_X0_spills (l : Launch) (hl0 : l.stackTraces = false) (D : va_G) (cy : ClassId) (h : Nat) (a : Nat → Nat) (N L : Nat) (A : Nat → Nat → Int32) (x y : Int32) (hN : N ≤ 16) (hc : ¬ kr_cd (kr_i N x) (kr_o y) True = 0) : vx_Met l yX0_spills (Cond.code yX0_spills cX0_spills 5 (some .int) :: kr_all) ({ frames := 7, cells := 1, slots := 6, locals := 111 }) (va_Pc [.ref h, .int x, .int y] (kr_RT D (kr_W0 cy h a N L A) cy)) kr_no (kr_XC (kr_E (kr_cd (kr_i N x) (kr_o y) True))) 1 6 (fun _ => False) := by
  refine kr_ofX (by decide) (Nat.le_of_ble_eq_true rfl) ?_
  intro p e s m below meth c ls hx hb hml hr hts hown hlocks ht hv hl
  obtain ⟨⟨hP, hK⟩, hT⟩ := hv
  have hown : s.vm.findClass RX0 = some m.cls := hown
  have hl : lv_has ls 5 [(0, .ref h), (1, .int x), (2, .int y)] := hl
  refine lv_aload_n hx hb dX0_spills_0 rfl (lv_at hl 0 rfl) ?_
  refine lv_iload_n hx hb dX0_spills_1 rfl (lv_at hl 1 rfl) ?_
  by_cases hk : kr_i N x
  · obtain ⟨k, hk2, rfl⟩ := kr_inN hN hk
    refine kr_vV (n := 1) (As := [.int (nI k)]) (rest := []) ⟨hx, hb, hml, hown, hts⟩ (c_X0_checkKnot l D cy h a N L A k (by omega) (by omega)) kg_RX0_59 ⟨rfl, rfl⟩ (by decide +kernel) ⟨Nat.le_of_ble_eq_true rfl, Nat.le_of_ble_eq_true rfl⟩ (kr_pv0 hP hK) rfl hl.1 rfl (Nat.le_of_ble_eq_true rfl) dX0_spills_2 ⟨Nat.zero_le _, Nat.zero_le _⟩ ?_
    refine lv_iload_n hx hb dX0_spills_5 rfl (lv_at hl 2 rfl) ?_
    by_cases ho : kr_o y
    · exact absurd (kr_cd0 hk ho trivial) hc
    · rw [kr_cd2 hk ho, kr_E2]
      exact kr_xS (n := 1) (As := [.int y]) (rest := []) ⟨hx, hb, hml, hown, hts⟩ (x_X0_checkLoad l hl0 y ho) kg_RX0_62 ⟨rfl, rfl⟩ (by decide +kernel) ⟨Nat.le_of_ble_eq_true rfl, Nat.le_of_ble_eq_true rfl⟩ (kr_psx hT (fun _ _ => rfl)) rfl hl.1 rfl (Nat.le_of_ble_eq_true rfl) dX0_spills_6 ⟨Nat.le_of_ble_eq_true rfl, Nat.le_of_ble_eq_true rfl⟩ ht hlocks
  · rw [kr_cd1 hk, kr_E1]
    exact kr_xV (n := 1) (As := [.int x]) (rest := []) ⟨hx, hb, hml, hown, hts⟩ (x_X0_checkKnot l hl0 D cy h a N L A x hk) kg_RX0_59 ⟨rfl, rfl⟩ (by decide +kernel) ⟨Nat.le_of_ble_eq_true rfl, Nat.le_of_ble_eq_true rfl⟩ (kr_pvx hP hK hT (fun _ _ => rfl)) rfl hl.1 rfl (Nat.le_of_ble_eq_true rfl) dX0_spills_2 ⟨Nat.le_of_ble_eq_true rfl, Nat.le_of_ble_eq_true rfl⟩ ht hlocks
set_option maxHeartbeats 4000000 in
set_option maxRecDepth 100000 in
theorem x_X0_ropesOf (l : Launch) (hl0 : l.stackTraces = false) (D : va_G) (cy : ClassId) (h : Nat) (a : Nat → Nat) (N L : Nat) (A : Nat → Nat → Int32) (x : Int32) (hc : ¬ kr_cd (kr_i L x) True True = 0) : vx_Met l yX0_ropesOf (Cond.code yX0_ropesOf cX0_ropesOf 2 (some .int) :: kr_all) ({ frames := 7, cells := 1, slots := 6, locals := 111 }) (va_Pc [.ref h, .int x] (kr_RT D (kr_W0 cy h a N L A) cy)) kr_no (kr_XC (kr_E (kr_cd (kr_i L x) True True))) 1 6 (fun _ => False) := by
  refine kr_ofX (by decide) (Nat.le_of_ble_eq_true rfl) ?_
  intro p e s m below meth c ls hx hb hml hr hts hown hlocks ht hv hl
  obtain ⟨⟨hP, hK⟩, hT⟩ := hv
  have hown : s.vm.findClass RX0 = some m.cls := hown
  have hl : lv_has ls 2 [(0, .ref h), (1, .int x)] := hl
  refine lv_aload_n hx hb dX0_ropesOf_0 rfl (lv_at hl 0 rfl) ?_
  refine lv_iload_n hx hb dX0_ropesOf_1 rfl (lv_at hl 1 rfl) ?_
  by_cases hk : kr_i L x
  · exact absurd (kr_cd0 hk trivial trivial) hc
  · rw [kr_cd1 hk, kr_E1]
    exact kr_xV (n := 1) (As := [.int x]) (rest := []) ⟨hx, hb, hml, hown, hts⟩ (x_X0_checkLine l hl0 D cy h a N L A x hk) kg_RX0_82 ⟨rfl, rfl⟩ (by decide +kernel) ⟨Nat.le_of_ble_eq_true rfl, Nat.le_of_ble_eq_true rfl⟩ (kr_pvx hP hK hT (fun _ _ => rfl)) rfl hl.1 rfl (Nat.le_of_ble_eq_true rfl) dX0_ropesOf_2 ⟨Nat.le_of_ble_eq_true rfl, Nat.le_of_ble_eq_true rfl⟩ ht hlocks
set_option maxHeartbeats 4000000 in
set_option maxRecDepth 100000 in
theorem x_X0_weakestPlace (l : Launch) (hl0 : l.stackTraces = false) (D : va_G) (cy : ClassId) (h : Nat) (a : Nat → Nat) (N L : Nat) (A : Nat → Nat → Int32) (x : Int32) (hc : ¬ kr_cd (kr_i L x) True True = 0) : vx_Met l yX0_weakestPlace (Cond.code yX0_weakestPlace cX0_weakestPlace 6 (some .int) :: kr_all) ({ frames := 7, cells := 1, slots := 6, locals := 111 }) (va_Pc [.ref h, .int x] (kr_RT D (kr_W0 cy h a N L A) cy)) kr_no (kr_XC (kr_E (kr_cd (kr_i L x) True True))) 1 6 (fun _ => False) := by
  refine kr_ofX (by decide) (Nat.le_of_ble_eq_true rfl) ?_
  intro p e s m below meth c ls hx hb hml hr hts hown hlocks ht hv hl
  obtain ⟨⟨hP, hK⟩, hT⟩ := hv
  have hown : s.vm.findClass RX0 = some m.cls := hown
  have hl : lv_has ls 6 [(0, .ref h), (1, .int x)] := hl
  refine lv_aload_n hx hb dX0_weakestPlace_0 rfl (lv_at hl 0 rfl) ?_
  refine lv_iload_n hx hb dX0_weakestPlace_1 rfl (lv_at hl 1 rfl) ?_
  by_cases hk : kr_i L x
  · exact absurd (kr_cd0 hk trivial trivial) hc
  · rw [kr_cd1 hk, kr_E1]
    exact kr_xV (n := 1) (As := [.int x]) (rest := []) ⟨hx, hb, hml, hown, hts⟩ (x_X0_checkLine l hl0 D cy h a N L A x hk) kg_RX0_82 ⟨rfl, rfl⟩ (by decide +kernel) ⟨Nat.le_of_ble_eq_true rfl, Nat.le_of_ble_eq_true rfl⟩ (kr_pvx hP hK hT (fun _ _ => rfl)) rfl hl.1 rfl (Nat.le_of_ble_eq_true rfl) dX0_weakestPlace_2 ⟨Nat.le_of_ble_eq_true rfl, Nat.le_of_ble_eq_true rfl⟩ ht hlocks
set_option maxHeartbeats 4000000 in
set_option maxRecDepth 100000 in
theorem x_X0_holdsUpTo (l : Launch) (hl0 : l.stackTraces = false) (D : va_G) (cy : ClassId) (h : Nat) (a : Nat → Nat) (N L : Nat) (A : Nat → Nat → Int32) (x : Int32) (hc : ¬ kr_cd (kr_i L x) True True = 0) : vx_Met l yX0_holdsUpTo (Cond.code yX0_holdsUpTo cX0_holdsUpTo 2 (some .int) :: kr_all) ({ frames := 7, cells := 1, slots := 6, locals := 111 }) (va_Pc [.ref h, .int x] (kr_RT D (kr_W0 cy h a N L A) cy)) kr_no (kr_XC (kr_E (kr_cd (kr_i L x) True True))) 1 6 (fun _ => False) := by
  refine kr_ofX (by decide) (Nat.le_of_ble_eq_true rfl) ?_
  intro p e s m below meth c ls hx hb hml hr hts hown hlocks ht hv hl
  obtain ⟨⟨hP, hK⟩, hT⟩ := hv
  have hown : s.vm.findClass RX0 = some m.cls := hown
  have hl : lv_has ls 2 [(0, .ref h), (1, .int x)] := hl
  refine lv_aload_n hx hb dX0_holdsUpTo_0 rfl (lv_at hl 0 rfl) ?_
  refine lv_iload_n hx hb dX0_holdsUpTo_1 rfl (lv_at hl 1 rfl) ?_
  by_cases hk : kr_i L x
  · exact absurd (kr_cd0 hk trivial trivial) hc
  · rw [kr_cd1 hk, kr_E1]
    exact kr_xV (n := 1) (As := [.int x]) (rest := []) ⟨hx, hb, hml, hown, hts⟩ (x_X0_checkLine l hl0 D cy h a N L A x hk) kg_RX0_82 ⟨rfl, rfl⟩ (by decide +kernel) ⟨Nat.le_of_ble_eq_true rfl, Nat.le_of_ble_eq_true rfl⟩ (kr_pvx hP hK hT (fun _ _ => rfl)) rfl hl.1 rfl (Nat.le_of_ble_eq_true rfl) dX0_holdsUpTo_2 ⟨Nat.le_of_ble_eq_true rfl, Nat.le_of_ble_eq_true rfl⟩ ht hlocks
set_option maxHeartbeats 4000000 in
set_option maxRecDepth 100000 in
theorem x_X0_knotOf (l : Launch) (hl0 : l.stackTraces = false) (D : va_G) (cy : ClassId) (h : Nat) (a : Nat → Nat) (N L : Nat) (A : Nat → Nat → Int32) (x y : Int32) (hw : kr_wf N L A) (hc : ¬ kr_cd (kr_q L A x y) True True = 0) : vx_Met l yX0_knotOf (Cond.code yX0_knotOf cX0_knotOf 3 (some .int) :: kr_all) ({ frames := 8, cells := 1, slots := 6, locals := 133 }) (va_Pc [.ref h, .int x, .int y] (kr_RT D (kr_W0 cy h a N L A) cy)) kr_no (kr_XC (kr_E (kr_cd (kr_q L A x y) True True))) 1 6 (fun _ => False) := by
  refine kr_ofX (by decide) (Nat.le_of_ble_eq_true rfl) ?_
  intro p e s m below meth c ls hx hb hml hr hts hown hlocks ht hv hl
  obtain ⟨⟨hP, hK⟩, hT⟩ := hv
  have hown : s.vm.findClass RX0 = some m.cls := hown
  have hl : lv_has ls 3 [(0, .ref h), (1, .int x), (2, .int y)] := hl
  refine lv_aload_n hx hb dX0_knotOf_0 rfl (lv_at hl 0 rfl) ?_
  refine lv_iload_n hx hb dX0_knotOf_1 rfl (lv_at hl 1 rfl) ?_
  refine lv_iload_n hx hb dX0_knotOf_2 rfl (lv_at hl 2 rfl) ?_
  by_cases hk : kr_q L A x y
  · exact absurd (kr_cd0 hk trivial trivial) hc
  · rw [kr_cd1 hk, kr_E1]
    exact kr_xV (n := 2) (As := [.int x, .int y]) (rest := []) ⟨hx, hb, hml, hown, hts⟩ (x_X0_checkPlace l hl0 D cy h a N L A x y hw hk) kg_RX0_90 ⟨rfl, rfl⟩ (by decide +kernel) ⟨Nat.le_of_ble_eq_true rfl, Nat.le_of_ble_eq_true rfl⟩ (kr_pvx hP hK hT (fun _ _ => rfl)) rfl hl.1 rfl (Nat.le_of_ble_eq_true rfl) dX0_knotOf_3 ⟨Nat.le_of_ble_eq_true rfl, Nat.le_of_ble_eq_true rfl⟩ ht hlocks
set_option maxHeartbeats 4000000 in
set_option maxRecDepth 100000 in
theorem x_X0_strengthAt (l : Launch) (hl0 : l.stackTraces = false) (D : va_G) (cy : ClassId) (h : Nat) (a : Nat → Nat) (N L : Nat) (A : Nat → Nat → Int32) (x y : Int32) (hw : kr_wf N L A) (hc : ¬ kr_cd (kr_q L A x y) True True = 0) : vx_Met l yX0_strengthAt (Cond.code yX0_strengthAt cX0_strengthAt 3 (some .int) :: kr_all) ({ frames := 8, cells := 1, slots := 6, locals := 133 }) (va_Pc [.ref h, .int x, .int y] (kr_RT D (kr_W0 cy h a N L A) cy)) kr_no (kr_XC (kr_E (kr_cd (kr_q L A x y) True True))) 1 6 (fun _ => False) := by
  refine kr_ofX (by decide) (Nat.le_of_ble_eq_true rfl) ?_
  intro p e s m below meth c ls hx hb hml hr hts hown hlocks ht hv hl
  obtain ⟨⟨hP, hK⟩, hT⟩ := hv
  have hown : s.vm.findClass RX0 = some m.cls := hown
  have hl : lv_has ls 3 [(0, .ref h), (1, .int x), (2, .int y)] := hl
  refine lv_aload_n hx hb dX0_strengthAt_0 rfl (lv_at hl 0 rfl) ?_
  refine lv_iload_n hx hb dX0_strengthAt_1 rfl (lv_at hl 1 rfl) ?_
  refine lv_iload_n hx hb dX0_strengthAt_2 rfl (lv_at hl 2 rfl) ?_
  by_cases hk : kr_q L A x y
  · exact absurd (kr_cd0 hk trivial trivial) hc
  · rw [kr_cd1 hk, kr_E1]
    exact kr_xV (n := 2) (As := [.int x, .int y]) (rest := []) ⟨hx, hb, hml, hown, hts⟩ (x_X0_checkPlace l hl0 D cy h a N L A x y hw hk) kg_RX0_90 ⟨rfl, rfl⟩ (by decide +kernel) ⟨Nat.le_of_ble_eq_true rfl, Nat.le_of_ble_eq_true rfl⟩ (kr_pvx hP hK hT (fun _ _ => rfl)) rfl hl.1 rfl (Nat.le_of_ble_eq_true rfl) dX0_strengthAt_3 ⟨Nat.le_of_ble_eq_true rfl, Nat.le_of_ble_eq_true rfl⟩ ht hlocks
set_option maxHeartbeats 4000000 in
set_option maxRecDepth 100000 in
theorem x_X0_bestKnot (l : Launch) (hl0 : l.stackTraces = false) (D : va_G) (cy : ClassId) (h : Nat) (a : Nat → Nat) (N L : Nat) (A : Nat → Nat → Int32) (x y : Int32) (hw : kr_wf N L A) (hc : ¬ kr_cd (kr_q L A x y) True True = 0) : vx_Met l yX0_bestKnot (Cond.code yX0_bestKnot cX0_bestKnot 10 (some .int) :: kr_all) ({ frames := 8, cells := 1, slots := 6, locals := 133 }) (va_Pc [.ref h, .int x, .int y] (kr_RT D (kr_W0 cy h a N L A) cy)) kr_no (kr_XC (kr_E (kr_cd (kr_q L A x y) True True))) 1 6 (fun _ => False) := by
  refine kr_ofX (by decide) (Nat.le_of_ble_eq_true rfl) ?_
  intro p e s m below meth c ls hx hb hml hr hts hown hlocks ht hv hl
  obtain ⟨⟨hP, hK⟩, hT⟩ := hv
  have hown : s.vm.findClass RX0 = some m.cls := hown
  have hl : lv_has ls 10 [(0, .ref h), (1, .int x), (2, .int y)] := hl
  refine lv_aload_n hx hb dX0_bestKnot_0 rfl (lv_at hl 0 rfl) ?_
  refine lv_iload_n hx hb dX0_bestKnot_1 rfl (lv_at hl 1 rfl) ?_
  refine lv_iload_n hx hb dX0_bestKnot_2 rfl (lv_at hl 2 rfl) ?_
  by_cases hk : kr_q L A x y
  · exact absurd (kr_cd0 hk trivial trivial) hc
  · rw [kr_cd1 hk, kr_E1]
    exact kr_xV (n := 2) (As := [.int x, .int y]) (rest := []) ⟨hx, hb, hml, hown, hts⟩ (x_X0_checkPlace l hl0 D cy h a N L A x y hw hk) kg_RX0_90 ⟨rfl, rfl⟩ (by decide +kernel) ⟨Nat.le_of_ble_eq_true rfl, Nat.le_of_ble_eq_true rfl⟩ (kr_pvx hP hK hT (fun _ _ => rfl)) rfl hl.1 rfl (Nat.le_of_ble_eq_true rfl) dX0_bestKnot_3 ⟨Nat.le_of_ble_eq_true rfl, Nat.le_of_ble_eq_true rfl⟩ ht hlocks
set_option maxHeartbeats 4000000 in
set_option maxRecDepth 100000 in
theorem x_X0_holds (l : Launch) (hl0 : l.stackTraces = false) (D : va_G) (cy : ClassId) (h : Nat) (a : Nat → Nat) (N L : Nat) (A : Nat → Nat → Int32) (x y : Int32) (hL : L ≤ 6) (hc : ¬ kr_cd (kr_i L x) (kr_o y) True = 0) : vx_Met l yX0_holds (Cond.code yX0_holds cX0_holds 3 (some .boolean) :: kr_all) ({ frames := 7, cells := 1, slots := 6, locals := 111 }) (va_Pc [.ref h, .int x, .int y] (kr_RT D (kr_W0 cy h a N L A) cy)) kr_no (kr_XC (kr_E (kr_cd (kr_i L x) (kr_o y) True))) 1 6 (fun _ => False) := by
  refine kr_ofX (by decide) (Nat.le_of_ble_eq_true rfl) ?_
  intro p e s m below meth c ls hx hb hml hr hts hown hlocks ht hv hl
  obtain ⟨⟨hP, hK⟩, hT⟩ := hv
  have hown : s.vm.findClass RX0 = some m.cls := hown
  have hl : lv_has ls 3 [(0, .ref h), (1, .int x), (2, .int y)] := hl
  refine lv_aload_n hx hb dX0_holds_0 rfl (lv_at hl 0 rfl) ?_
  refine lv_iload_n hx hb dX0_holds_1 rfl (lv_at hl 1 rfl) ?_
  by_cases hk : kr_i L x
  · obtain ⟨q, hq, rfl⟩ := kr_inL hL hk
    refine kr_vV (n := 1) (As := [.int (nI q)]) (rest := []) ⟨hx, hb, hml, hown, hts⟩ (c_X0_checkLine l D cy h a N L A q (by omega) (by omega)) kg_RX0_82 ⟨rfl, rfl⟩ (by decide +kernel) ⟨Nat.le_of_ble_eq_true rfl, Nat.le_of_ble_eq_true rfl⟩ (kr_pv0 hP hK) rfl hl.1 rfl (Nat.le_of_ble_eq_true rfl) dX0_holds_2 ⟨Nat.zero_le _, Nat.zero_le _⟩ ?_
    refine lv_iload_n hx hb dX0_holds_5 rfl (lv_at hl 2 rfl) ?_
    by_cases ho : kr_o y
    · exact absurd (kr_cd0 hk ho trivial) hc
    · rw [kr_cd2 hk ho, kr_E2]
      exact kr_xS (n := 1) (As := [.int y]) (rest := []) ⟨hx, hb, hml, hown, hts⟩ (x_X0_checkLoad l hl0 y ho) kg_RX0_62 ⟨rfl, rfl⟩ (by decide +kernel) ⟨Nat.le_of_ble_eq_true rfl, Nat.le_of_ble_eq_true rfl⟩ (kr_psx hT (fun _ _ => rfl)) rfl hl.1 rfl (Nat.le_of_ble_eq_true rfl) dX0_holds_6 ⟨Nat.le_of_ble_eq_true rfl, Nat.le_of_ble_eq_true rfl⟩ ht hlocks
  · rw [kr_cd1 hk, kr_E1]
    exact kr_xV (n := 1) (As := [.int x]) (rest := []) ⟨hx, hb, hml, hown, hts⟩ (x_X0_checkLine l hl0 D cy h a N L A x hk) kg_RX0_82 ⟨rfl, rfl⟩ (by decide +kernel) ⟨Nat.le_of_ble_eq_true rfl, Nat.le_of_ble_eq_true rfl⟩ (kr_pvx hP hK hT (fun _ _ => rfl)) rfl hl.1 rfl (Nat.le_of_ble_eq_true rfl) dX0_holds_2 ⟨Nat.le_of_ble_eq_true rfl, Nat.le_of_ble_eq_true rfl⟩ ht hlocks
set_option maxHeartbeats 4000000 in
set_option maxRecDepth 100000 in
theorem x_X0_wouldGiveWay (l : Launch) (hl0 : l.stackTraces = false) (D : va_G) (cy : ClassId) (h : Nat) (a : Nat → Nat) (N L : Nat) (A : Nat → Nat → Int32) (x y : Int32) (hL : L ≤ 6) (hc : ¬ kr_cd (kr_i L x) (kr_o y) True = 0) : vx_Met l yX0_wouldGiveWay (Cond.code yX0_wouldGiveWay cX0_wouldGiveWay 3 (some .int) :: kr_all) ({ frames := 7, cells := 1, slots := 6, locals := 111 }) (va_Pc [.ref h, .int x, .int y] (kr_RT D (kr_W0 cy h a N L A) cy)) kr_no (kr_XC (kr_E (kr_cd (kr_i L x) (kr_o y) True))) 1 6 (fun _ => False) := by
  refine kr_ofX (by decide) (Nat.le_of_ble_eq_true rfl) ?_
  intro p e s m below meth c ls hx hb hml hr hts hown hlocks ht hv hl
  obtain ⟨⟨hP, hK⟩, hT⟩ := hv
  have hown : s.vm.findClass RX0 = some m.cls := hown
  have hl : lv_has ls 3 [(0, .ref h), (1, .int x), (2, .int y)] := hl
  refine lv_aload_n hx hb dX0_wouldGiveWay_0 rfl (lv_at hl 0 rfl) ?_
  refine lv_iload_n hx hb dX0_wouldGiveWay_1 rfl (lv_at hl 1 rfl) ?_
  by_cases hk : kr_i L x
  · obtain ⟨q, hq, rfl⟩ := kr_inL hL hk
    refine kr_vV (n := 1) (As := [.int (nI q)]) (rest := []) ⟨hx, hb, hml, hown, hts⟩ (c_X0_checkLine l D cy h a N L A q (by omega) (by omega)) kg_RX0_82 ⟨rfl, rfl⟩ (by decide +kernel) ⟨Nat.le_of_ble_eq_true rfl, Nat.le_of_ble_eq_true rfl⟩ (kr_pv0 hP hK) rfl hl.1 rfl (Nat.le_of_ble_eq_true rfl) dX0_wouldGiveWay_2 ⟨Nat.zero_le _, Nat.zero_le _⟩ ?_
    refine lv_iload_n hx hb dX0_wouldGiveWay_5 rfl (lv_at hl 2 rfl) ?_
    by_cases ho : kr_o y
    · exact absurd (kr_cd0 hk ho trivial) hc
    · rw [kr_cd2 hk ho, kr_E2]
      exact kr_xS (n := 1) (As := [.int y]) (rest := []) ⟨hx, hb, hml, hown, hts⟩ (x_X0_checkLoad l hl0 y ho) kg_RX0_62 ⟨rfl, rfl⟩ (by decide +kernel) ⟨Nat.le_of_ble_eq_true rfl, Nat.le_of_ble_eq_true rfl⟩ (kr_psx hT (fun _ _ => rfl)) rfl hl.1 rfl (Nat.le_of_ble_eq_true rfl) dX0_wouldGiveWay_6 ⟨Nat.le_of_ble_eq_true rfl, Nat.le_of_ble_eq_true rfl⟩ ht hlocks
  · rw [kr_cd1 hk, kr_E1]
    exact kr_xV (n := 1) (As := [.int x]) (rest := []) ⟨hx, hb, hml, hown, hts⟩ (x_X0_checkLine l hl0 D cy h a N L A x hk) kg_RX0_82 ⟨rfl, rfl⟩ (by decide +kernel) ⟨Nat.le_of_ble_eq_true rfl, Nat.le_of_ble_eq_true rfl⟩ (kr_pvx hP hK hT (fun _ _ => rfl)) rfl hl.1 rfl (Nat.le_of_ble_eq_true rfl) dX0_wouldGiveWay_2 ⟨Nat.le_of_ble_eq_true rfl, Nat.le_of_ble_eq_true rfl⟩ ht hlocks
set_option maxHeartbeats 4000000 in
set_option maxRecDepth 100000 in
theorem x_X0_addKnot (l : Launch) (hl0 : l.stackTraces = false) (D : va_G) (cy : ClassId) (h : Nat) (a : Nat → Nat) (N L : Nat) (A : Nat → Nat → Int32) (x y z : Int32) (hN : N ≤ 16) (hc : ¬ kr_cd (x = 0 ∨ x = 1) ((¬ y < 10 ∧ ¬ 100 < y) ∧ (¬ z < 1 ∧ ¬ 9 < z)) (N < 16) = 0) : vx_Met l yX0_addKnot (Cond.code yX0_addKnot cX0_addKnot 5 (some .int) :: kr_all) ({ frames := 7, cells := 1, slots := 6, locals := 110 }) (va_Pc [.ref h, .int x, .int y, .int z] (kr_RT D (kr_W0 cy h a N L A) cy)) kr_no (kr_XC (kr_E (kr_cd (x = 0 ∨ x = 1) ((¬ y < 10 ∧ ¬ 100 < y) ∧ (¬ z < 1 ∧ ¬ 9 < z)) (N < 16)))) 1 6 (fun _ => False) := by
  refine kr_ofX (by decide) (Nat.le_of_ble_eq_true rfl) ?_
  intro p e s m below meth c ls hx hb hml hr hts hown hlocks ht hv hl
  obtain ⟨⟨hP, hK⟩, hT⟩ := hv
  have hown : s.vm.findClass RX0 = some m.cls := hown
  have hl : lv_has ls 5 [(0, .ref h), (1, .int x), (2, .int y), (3, .int z)] := hl
  refine lv_iload_n hx hb dX0_addKnot_0 rfl (lv_at hl 1 rfl) ?_
  by_cases hk : x = 0 ∨ x = 1
  · refine kr_sV (n := 1) (As := [.int x]) (rest := []) ⟨hx, hb, hml, hown, hts⟩ (c_X0_checkKind l x (by assumption)) kg_RX0_41 ⟨rfl, rfl⟩ (by decide +kernel) ⟨Nat.le_of_ble_eq_true rfl, Nat.le_of_ble_eq_true rfl⟩ ⟨kr_blT, fun U hU hW => ⟨rfl, trivial⟩⟩ rfl hl.1 rfl (Nat.le_of_ble_eq_true rfl) dX0_addKnot_1 ⟨Nat.zero_le _, Nat.zero_le _⟩ ?_
    refine lv_iload_n hx hb dX0_addKnot_4 rfl (lv_at hl 2 rfl) ?_
    refine lv_bipush (v := 10) hx hb dX0_addKnot_5 (by decide) ?_
    refine lv_icmp_lt (tgt := 16) hx hb dX0_addKnot_7 (by decide) (fun c7 => ?_) (fun c7 => ?_)
    · rw [kr_cd2 hk (fun w => w.1.1 c7), kr_E2]
      exact kr_thrA hx hb hl0 hown hts hT (List.mem_of_getElem? (i := 0) rfl) (hl.1.trans hml.symm) dX0_addKnot_16 dX0_addKnot_19 dX0_addKnot_20 dX0_addKnot_22 dX0_addKnot_25 ht ⟨by decide, by decide, by decide, by decide⟩ hlocks
    · refine lv_iload_n hx hb dX0_addKnot_10 rfl (lv_at hl 2 rfl) ?_
      refine lv_bipush (v := 100) hx hb dX0_addKnot_11 (by decide) ?_
      refine lv_icmp_le (tgt := 26) hx hb dX0_addKnot_13 (by decide) (fun c13 => ?_) (fun c13 => ?_)
      · refine lv_iload_n hx hb dX0_addKnot_26 rfl (lv_at hl 3 rfl) ?_
        refine lv_iconst (v := 1) hx hb dX0_addKnot_27 (by decide) ?_
        refine lv_icmp_lt (tgt := 37) hx hb dX0_addKnot_28 (by decide) (fun c28 => ?_) (fun c28 => ?_)
        · rw [kr_cd2 hk (fun w => w.2.1 c28), kr_E2]
          exact kr_thrA hx hb hl0 hown hts hT (List.mem_of_getElem? (i := 1) rfl) (hl.1.trans hml.symm) dX0_addKnot_37 dX0_addKnot_40 dX0_addKnot_41 dX0_addKnot_43 dX0_addKnot_46 ht ⟨by decide, by decide, by decide, by decide⟩ hlocks
        · refine lv_iload_n hx hb dX0_addKnot_31 rfl (lv_at hl 3 rfl) ?_
          refine lv_bipush (v := 9) hx hb dX0_addKnot_32 (by decide) ?_
          refine lv_icmp_le (tgt := 47) hx hb dX0_addKnot_34 (by decide) (fun c34 => ?_) (fun c34 => ?_)
          · refine lv_aload_n hx hb dX0_addKnot_47 rfl (lv_at hl 0 rfl) ?_
            refine va_get (ci := 0) (v := .int (nI N)) (C := RX0) (T := TX0) (N := 10) hx hb hts kr_wsX0 hown hK hP 0 rfl rfl 5 (by decide) (hts _ kq_70) (fun _ h9 => h9) rfl dX0_addKnot_48 ?_
            refine lv_bipush (v := 16) hx hb dX0_addKnot_51 (by decide) ?_
            refine lv_icmp_lt (tgt := 66) hx hb dX0_addKnot_53 (by decide) (fun c53 => ?_) (fun c53 => ?_)
            · exact absurd (kr_cd0 hk ⟨⟨c7, kr_ngt2 c13⟩, ⟨c28, kr_ngt2 c34⟩⟩ ((nI_ltI (b := 16) (by omega) (by decide)).mp c53)) hc
            · rw [kr_cd3 hk ⟨⟨c7, kr_ngt2 c13⟩, ⟨c28, kr_ngt2 c34⟩⟩ (fun w => c53 (nI_lt (b := 16) w (by decide))), kr_E3]
              exact kr_thrS hx hb hl0 hown hts hT (List.mem_of_getElem? (i := 2) rfl) (hl.1.trans hml.symm) dX0_addKnot_56 dX0_addKnot_59 dX0_addKnot_60 dX0_addKnot_62 dX0_addKnot_65 ht ⟨by decide, by decide, by decide, by decide⟩ hlocks
          · rw [kr_cd2 hk (fun w => w.2.2 (kr_nle2 c34)), kr_E2]
            exact kr_thrA hx hb hl0 hown hts hT (List.mem_of_getElem? (i := 1) rfl) (hl.1.trans hml.symm) dX0_addKnot_37 dX0_addKnot_40 dX0_addKnot_41 dX0_addKnot_43 dX0_addKnot_46 ht ⟨by decide, by decide, by decide, by decide⟩ hlocks
      · rw [kr_cd2 hk (fun w => w.1.2 (kr_nle2 c13)), kr_E2]
        exact kr_thrA hx hb hl0 hown hts hT (List.mem_of_getElem? (i := 0) rfl) (hl.1.trans hml.symm) dX0_addKnot_16 dX0_addKnot_19 dX0_addKnot_20 dX0_addKnot_22 dX0_addKnot_25 ht ⟨by decide, by decide, by decide, by decide⟩ hlocks
  · rw [kr_cd1 hk, kr_E1]
    exact kr_xS (n := 1) (As := [.int x]) (rest := []) ⟨hx, hb, hml, hown, hts⟩ (x_X0_checkKind l hl0 x hk) kg_RX0_41 ⟨rfl, rfl⟩ (by decide +kernel) ⟨Nat.le_of_ble_eq_true rfl, Nat.le_of_ble_eq_true rfl⟩ (kr_psx hT (fun _ _ => rfl)) rfl hl.1 rfl (Nat.le_of_ble_eq_true rfl) dX0_addKnot_1 ⟨Nat.le_of_ble_eq_true rfl, Nat.le_of_ble_eq_true rfl⟩ ht hlocks
set_option maxHeartbeats 4000000 in
set_option maxRecDepth 100000 in
theorem x_X0_setSpill (l : Launch) (hl0 : l.stackTraces = false) (D : va_G) (cy : ClassId) (h : Nat) (a : Nat → Nat) (N L : Nat) (A : Nat → Nat → Int32) (x y z : Int32) (hN : N ≤ 16) (hc : ¬ kr_cd (kr_i N x) (kr_o y ∧ (¬ z < -1 ∧ z < x) ∧ (z = -1 ∨ A 0 (kr_ix z) = A 0 (kr_ix x))) True = 0) : vx_Met l yX0_setSpill (Cond.code yX0_setSpill cX0_setSpill 5 (some .int) :: kr_all) ({ frames := 7, cells := 1, slots := 6, locals := 111 }) (va_Pc [.ref h, .int x, .int y, .int z] (kr_RT D (kr_W0 cy h a N L A) cy)) kr_no (kr_XC (kr_E (kr_cd (kr_i N x) (kr_o y ∧ (¬ z < -1 ∧ z < x) ∧ (z = -1 ∨ A 0 (kr_ix z) = A 0 (kr_ix x))) True))) 1 6 (fun _ => False) := by
  refine kr_ofX (by decide) (Nat.le_of_ble_eq_true rfl) ?_
  intro p e s m below meth c ls hx hb hml hr hts hown hlocks ht hv hl
  obtain ⟨⟨hP, hK⟩, hT⟩ := hv
  have hown : s.vm.findClass RX0 = some m.cls := hown
  have hl : lv_has ls 5 [(0, .ref h), (1, .int x), (2, .int y), (3, .int z)] := hl
  refine lv_aload_n hx hb dX0_setSpill_0 rfl (lv_at hl 0 rfl) ?_
  refine lv_iload_n hx hb dX0_setSpill_1 rfl (lv_at hl 1 rfl) ?_
  by_cases hk : kr_i N x
  · obtain ⟨k, hk2, rfl⟩ := kr_inN hN hk
    refine kr_vV (n := 1) (As := [.int (nI k)]) (rest := []) ⟨hx, hb, hml, hown, hts⟩ (c_X0_checkKnot l D cy h a N L A k (by omega) (by omega)) kg_RX0_59 ⟨rfl, rfl⟩ (by decide +kernel) ⟨Nat.le_of_ble_eq_true rfl, Nat.le_of_ble_eq_true rfl⟩ (kr_pv0 hP hK) rfl hl.1 rfl (Nat.le_of_ble_eq_true rfl) dX0_setSpill_2 ⟨Nat.zero_le _, Nat.zero_le _⟩ ?_
    refine lv_iload_n hx hb dX0_setSpill_5 rfl (lv_at hl 2 rfl) ?_
    by_cases ho : kr_o y
    · refine kr_sV (n := 1) (As := [.int y]) (rest := []) ⟨hx, hb, hml, hown, hts⟩ (c_X0_checkLoad l y (by assumption)) kg_RX0_62 ⟨rfl, rfl⟩ (by decide +kernel) ⟨Nat.le_of_ble_eq_true rfl, Nat.le_of_ble_eq_true rfl⟩ ⟨kr_blT, fun U hU hW => ⟨rfl, trivial⟩⟩ rfl hl.1 rfl (Nat.le_of_ble_eq_true rfl) dX0_setSpill_6 ⟨Nat.zero_le _, Nat.zero_le _⟩ ?_
      refine lv_iload_n hx hb dX0_setSpill_9 rfl (lv_at hl 3 rfl) ?_
      refine lv_iconst (v := -1) hx hb dX0_setSpill_10 (by decide) ?_
      refine lv_icmp_lt (tgt := 19) hx hb dX0_setSpill_11 (by decide) (fun c11 => ?_) (fun c11 => ?_)
      · rw [kr_cd2 hk (fun w => w.2.1.1 c11), kr_E2]
        exact kr_thrA hx hb hl0 hown hts hT (List.mem_of_getElem? (i := 3) rfl) (hl.1.trans hml.symm) dX0_setSpill_19 dX0_setSpill_22 dX0_setSpill_23 dX0_setSpill_25 dX0_setSpill_28 ht ⟨by decide, by decide, by decide, by decide⟩ hlocks
      · refine lv_iload_n hx hb dX0_setSpill_14 rfl (lv_at hl 3 rfl) ?_
        refine lv_iload_n hx hb dX0_setSpill_15 rfl (lv_at hl 1 rfl) ?_
        refine lv_icmp_lt (tgt := 29) hx hb dX0_setSpill_16 (by decide) (fun c16 => ?_) (fun c16 => ?_)
        · refine lv_iload_n hx hb dX0_setSpill_29 rfl (lv_at hl 3 rfl) ?_
          refine lv_iconst (v := -1) hx hb dX0_setSpill_30 (by decide) ?_
          refine lv_icmp_eq (tgt := 59) hx hb dX0_setSpill_31 (by decide) (fun c31 => ?_) (fun c31 => ?_)
          · exact absurd (kr_cd0 hk ⟨ho, ⟨c11, c16⟩, Or.inl c31⟩ trivial) hc
          · obtain ⟨j, hj, rfl⟩ : ∃ j, j < k ∧ z = nI j := kr_inS (by omega) c11 c16 c31
            refine lv_aload_n hx hb dX0_setSpill_34 rfl (lv_at hl 0 rfl) ?_
            refine va_get (ci := 0) (v := .ref (a 0)) (C := RX0) (T := TX0) (N := 10) hx hb hts kr_wsX0 hown hK hP 0 rfl rfl 0 (by decide) (hts _ kq_65) (fun _ h9 => h9) rfl dX0_setSpill_35 ?_
            refine lv_iload_n hx hb dX0_setSpill_38 rfl (lv_at hl 3 rfl) ?_
            refine kr_ald hx hb hK hP 1 0 rfl rfl j (by omega) (by decide) dX0_setSpill_39 ?_
            refine lv_aload_n hx hb dX0_setSpill_40 rfl (lv_at hl 0 rfl) ?_
            refine va_get (ci := 0) (v := .ref (a 0)) (C := RX0) (T := TX0) (N := 10) hx hb hts kr_wsX0 hown hK hP 0 rfl rfl 0 (by decide) (hts _ kq_65) (fun _ h9 => h9) rfl dX0_setSpill_41 ?_
            refine lv_iload_n hx hb dX0_setSpill_44 rfl (lv_at hl 1 rfl) ?_
            refine kr_ald hx hb hK hP 1 0 rfl rfl k (by omega) (by decide) dX0_setSpill_45 ?_
            refine lv_icmp_eq (tgt := 59) hx hb dX0_setSpill_46 (by decide) (fun c46 => ?_) (fun c46 => ?_)
            · exact absurd (kr_cd0 hk ⟨ho, ⟨c11, c16⟩, Or.inr (by rw [kr_ix_nI (by omega), kr_ix_nI (by omega)]; exact c46)⟩ trivial) hc
            · rw [kr_cd2 hk (fun w => w.2.2.elim (kr_kn_ne (by omega)) (fun e => c46 (by rw [kr_ix_nI (by omega), kr_ix_nI (by omega)] at e; exact e))), kr_E2]
              exact kr_thrA hx hb hl0 hown hts hT (List.mem_of_getElem? (i := 4) rfl) (hl.1.trans hml.symm) dX0_setSpill_49 dX0_setSpill_52 dX0_setSpill_53 dX0_setSpill_55 dX0_setSpill_58 ht ⟨by decide, by decide, by decide, by decide⟩ hlocks
        · rw [kr_cd2 hk (fun w => c16 w.2.1.2), kr_E2]
          exact kr_thrA hx hb hl0 hown hts hT (List.mem_of_getElem? (i := 3) rfl) (hl.1.trans hml.symm) dX0_setSpill_19 dX0_setSpill_22 dX0_setSpill_23 dX0_setSpill_25 dX0_setSpill_28 ht ⟨by decide, by decide, by decide, by decide⟩ hlocks
    · rw [kr_cd2 hk (fun w => ho w.1), kr_E2]
      exact kr_xS (n := 1) (As := [.int y]) (rest := []) ⟨hx, hb, hml, hown, hts⟩ (x_X0_checkLoad l hl0 y ho) kg_RX0_62 ⟨rfl, rfl⟩ (by decide +kernel) ⟨Nat.le_of_ble_eq_true rfl, Nat.le_of_ble_eq_true rfl⟩ (kr_psx hT (fun _ _ => rfl)) rfl hl.1 rfl (Nat.le_of_ble_eq_true rfl) dX0_setSpill_6 ⟨Nat.le_of_ble_eq_true rfl, Nat.le_of_ble_eq_true rfl⟩ ht hlocks
  · rw [kr_cd1 hk, kr_E1]
    exact kr_xV (n := 1) (As := [.int x]) (rest := []) ⟨hx, hb, hml, hown, hts⟩ (x_X0_checkKnot l hl0 D cy h a N L A x hk) kg_RX0_59 ⟨rfl, rfl⟩ (by decide +kernel) ⟨Nat.le_of_ble_eq_true rfl, Nat.le_of_ble_eq_true rfl⟩ (kr_pvx hP hK hT (fun _ _ => rfl)) rfl hl.1 rfl (Nat.le_of_ble_eq_true rfl) dX0_setSpill_2 ⟨Nat.le_of_ble_eq_true rfl, Nat.le_of_ble_eq_true rfl⟩ ht hlocks
theorem kg_RX0_69 : GoodIn kr_all (wsV RX0 69 RX0 yX0_checkOfKind (Cond.code yX0_checkOfKind cX0_checkOfKind 3 none :: kr_all)) := kr_gV kq_370 kq_372 kq_14 kq_48 kq_373
theorem kg_RX0_73 : GoodIn kr_all (wsS RX0 73 yX0_checkStrength (Cond.code yX0_checkStrength cX0_checkStrength 1 none :: kr_all)) := kr_gS kq_375 kq_376 kq_48 kq_377
set_option maxHeartbeats 4000000 in
set_option maxRecDepth 100000 in
theorem x_X0_tie (l : Launch) (hl0 : l.stackTraces = false) (D : va_G) (cy : ClassId) (h : Nat) (a : Nat → Nat) (N L : Nat) (A : Nat → Nat → Int32) (x y : Int32) (hN : N ≤ 16) (hL : L ≤ 6) (hc : ¬ kr_cd (kr_i N x) (A 0 (kr_ix x) = 1 ∧ kr_o y) (L < 6) = 0) : vx_Met l yX0_tie (Cond.code yX0_tie cX0_tie 4 (some .int) :: kr_all) ({ frames := 7, cells := 1, slots := 6, locals := 112 }) (va_Pc [.ref h, .int x, .int y] (kr_RT D (kr_W0 cy h a N L A) cy)) kr_no (kr_XC (kr_E (kr_cd (kr_i N x) (A 0 (kr_ix x) = 1 ∧ kr_o y) (L < 6)))) 1 6 (fun _ => False) := by
  refine kr_ofX (by decide) (Nat.le_of_ble_eq_true rfl) ?_
  intro p e s m below meth c ls hx hb hml hr hts hown hlocks ht hv hl
  obtain ⟨⟨hP, hK⟩, hT⟩ := hv
  have hown : s.vm.findClass RX0 = some m.cls := hown
  have hl : lv_has ls 4 [(0, .ref h), (1, .int x), (2, .int y)] := hl
  refine lv_aload_n hx hb dX0_tie_0 rfl (lv_at hl 0 rfl) ?_
  refine lv_iload_n hx hb dX0_tie_1 rfl (lv_at hl 1 rfl) ?_
  by_cases hk : kr_i N x
  · obtain ⟨k, hk2, rfl⟩ := kr_inN hN hk
    rw [show kr_ix (nI k) = k from kr_ix_nI (by omega)] at hc ⊢
    refine kr_vV (n := 1) (As := [.int (nI k)]) (rest := []) ⟨hx, hb, hml, hown, hts⟩ (c_X0_checkKnot l D cy h a N L A k (by omega) (by omega)) kg_RX0_59 ⟨rfl, rfl⟩ (by decide +kernel) ⟨Nat.le_of_ble_eq_true rfl, Nat.le_of_ble_eq_true rfl⟩ (kr_pv0 hP hK) rfl hl.1 rfl (Nat.le_of_ble_eq_true rfl) dX0_tie_2 ⟨Nat.zero_le _, Nat.zero_le _⟩ ?_
    refine lv_aload_n hx hb dX0_tie_5 rfl (lv_at hl 0 rfl) ?_
    refine lv_iload_n hx hb dX0_tie_6 rfl (lv_at hl 1 rfl) ?_
    refine lv_iconst (v := 1) hx hb dX0_tie_7 (by decide) ?_
    by_cases he : A 0 k = 1
    · refine kr_vV (n := 2) (As := [.int (nI k), .int 1]) (rest := []) ⟨hx, hb, hml, hown, hts⟩ (c_X0_checkOfKind l D cy h a N L A k 1 (by omega) (by assumption)) kg_RX0_69 ⟨rfl, rfl⟩ (by decide +kernel) ⟨Nat.le_of_ble_eq_true rfl, Nat.le_of_ble_eq_true rfl⟩ (kr_pv0 hP hK) rfl hl.1 rfl (Nat.le_of_ble_eq_true rfl) dX0_tie_8 ⟨Nat.zero_le _, Nat.zero_le _⟩ ?_
      refine lv_iload_n hx hb dX0_tie_11 rfl (lv_at hl 2 rfl) ?_
      by_cases ho : kr_o y
      · refine kr_sV (n := 1) (As := [.int y]) (rest := []) ⟨hx, hb, hml, hown, hts⟩ (c_X0_checkStrength l y (by assumption)) kg_RX0_73 ⟨rfl, rfl⟩ (by decide +kernel) ⟨Nat.le_of_ble_eq_true rfl, Nat.le_of_ble_eq_true rfl⟩ ⟨kr_blT, fun U hU hW => ⟨rfl, trivial⟩⟩ rfl hl.1 rfl (Nat.le_of_ble_eq_true rfl) dX0_tie_12 ⟨Nat.zero_le _, Nat.zero_le _⟩ ?_
        refine lv_aload_n hx hb dX0_tie_15 rfl (lv_at hl 0 rfl) ?_
        refine va_get (ci := 0) (v := .int (nI L)) (C := RX0) (T := TX0) (N := 10) hx hb hts kr_wsX0 hown hK hP 0 rfl rfl 7 (by decide) (hts _ kq_72) (fun _ h9 => h9) rfl dX0_tie_16 ?_
        refine lv_bipush (v := 6) hx hb dX0_tie_19 (by decide) ?_
        refine lv_icmp_lt (tgt := 34) hx hb dX0_tie_21 (by decide) (fun c21 => ?_) (fun c21 => ?_)
        · exact absurd (kr_cd0 hk ⟨he, ho⟩ ((nI_ltI (b := 6) (by omega) (by decide)).mp c21)) hc
        · rw [kr_cd3 hk ⟨he, ho⟩ (fun w => c21 (nI_lt (b := 6) w (by decide))), kr_E3]
          exact kr_thrS hx hb hl0 hown hts hT (List.mem_of_getElem? (i := 5) rfl) (hl.1.trans hml.symm) dX0_tie_24 dX0_tie_27 dX0_tie_28 dX0_tie_30 dX0_tie_33 ht ⟨by decide, by decide, by decide, by decide⟩ hlocks
      · rw [kr_cd2 hk (fun w => ho w.2), kr_E2]
        exact kr_xS (n := 1) (As := [.int y]) (rest := []) ⟨hx, hb, hml, hown, hts⟩ (x_X0_checkStrength l hl0 y ho) kg_RX0_73 ⟨rfl, rfl⟩ (by decide +kernel) ⟨Nat.le_of_ble_eq_true rfl, Nat.le_of_ble_eq_true rfl⟩ (kr_psx hT (fun _ _ => rfl)) rfl hl.1 rfl (Nat.le_of_ble_eq_true rfl) dX0_tie_12 ⟨Nat.le_of_ble_eq_true rfl, Nat.le_of_ble_eq_true rfl⟩ ht hlocks
    · rw [kr_cd2 hk (fun w => he w.1), kr_E2]
      exact kr_xV (n := 2) (As := [.int (nI k), .int 1]) (rest := []) ⟨hx, hb, hml, hown, hts⟩ (x_X0_checkOfKind l hl0 D cy h a N L A k 1 (by omega) he) kg_RX0_69 ⟨rfl, rfl⟩ (by decide +kernel) ⟨Nat.le_of_ble_eq_true rfl, Nat.le_of_ble_eq_true rfl⟩ (kr_pvx hP hK hT (fun _ _ => rfl)) rfl hl.1 rfl (Nat.le_of_ble_eq_true rfl) dX0_tie_8 ⟨Nat.le_of_ble_eq_true rfl, Nat.le_of_ble_eq_true rfl⟩ ht hlocks
  · rw [kr_cd1 hk, kr_E1]
    exact kr_xV (n := 1) (As := [.int x]) (rest := []) ⟨hx, hb, hml, hown, hts⟩ (x_X0_checkKnot l hl0 D cy h a N L A x hk) kg_RX0_59 ⟨rfl, rfl⟩ (by decide +kernel) ⟨Nat.le_of_ble_eq_true rfl, Nat.le_of_ble_eq_true rfl⟩ (kr_pvx hP hK hT (fun _ _ => rfl)) rfl hl.1 rfl (Nat.le_of_ble_eq_true rfl) dX0_tie_2 ⟨Nat.le_of_ble_eq_true rfl, Nat.le_of_ble_eq_true rfl⟩ ht hlocks
theorem kg_RX0_85 : GoodIn kr_all (wsV RX0 85 RX0 yX0_checkNotGone (Cond.code yX0_checkNotGone cX0_checkNotGone 2 none :: kr_all)) := kr_gV kq_391 kq_393 kq_16 kq_48 kq_394
set_option maxHeartbeats 4000000 in
set_option maxRecDepth 100000 in
theorem x_X0_join (l : Launch) (hl0 : l.stackTraces = false) (D : va_G) (cy : ClassId) (h : Nat) (a : Nat → Nat) (N L : Nat) (A : Nat → Nat → Int32) (x y z : Int32) (hw : kr_wf N L A) (hc : ¬ kr_cd (kr_i L x ∧ kr_i N y) (A 0 (kr_ix y) = 0 ∧ kr_o z) (¬ A 5 (kr_ix x) = 0 ∧ A 5 (kr_ix x) < 5) = 0) : vx_Met l yX0_join (Cond.code yX0_join cX0_join 4 (some .int) :: kr_all) ({ frames := 7, cells := 1, slots := 6, locals := 112 }) (va_Pc [.ref h, .int x, .int y, .int z] (kr_RT D (kr_W0 cy h a N L A) cy)) kr_no (kr_XC (kr_E (kr_cd (kr_i L x ∧ kr_i N y) (A 0 (kr_ix y) = 0 ∧ kr_o z) (¬ A 5 (kr_ix x) = 0 ∧ A 5 (kr_ix x) < 5)))) 1 6 (fun _ => False) := by
  refine kr_ofX (by decide) (Nat.le_of_ble_eq_true rfl) ?_
  intro p e s m below meth c ls hx hb hml hr hts hown hlocks ht hv hl
  obtain ⟨⟨hP, hK⟩, hT⟩ := hv
  have hown : s.vm.findClass RX0 = some m.cls := hown
  have hl : lv_has ls 4 [(0, .ref h), (1, .int x), (2, .int y), (3, .int z)] := hl
  have hN := hw.1
  have hL := hw.2.1
  refine lv_aload_n hx hb dX0_join_0 rfl (lv_at hl 0 rfl) ?_
  refine lv_iload_n hx hb dX0_join_1 rfl (lv_at hl 1 rfl) ?_
  by_cases hk1 : kr_i L x
  · obtain ⟨q, hq, rfl⟩ := kr_inL hL hk1
    obtain ⟨hrc, er⟩ := hw.rc hq
    refine kr_vV (n := 1) (As := [.int (nI q)]) (rest := []) ⟨hx, hb, hml, hown, hts⟩ (c_X0_checkLine l D cy h a N L A q (by omega) (by omega)) kg_RX0_82 ⟨rfl, rfl⟩ (by decide +kernel) ⟨Nat.le_of_ble_eq_true rfl, Nat.le_of_ble_eq_true rfl⟩ (kr_pv0 hP hK) rfl hl.1 rfl (Nat.le_of_ble_eq_true rfl) dX0_join_2 ⟨Nat.zero_le _, Nat.zero_le _⟩ ?_
    refine lv_aload_n hx hb dX0_join_5 rfl (lv_at hl 0 rfl) ?_
    refine lv_iload_n hx hb dX0_join_6 rfl (lv_at hl 2 rfl) ?_
    by_cases hk : kr_i N y
    · obtain ⟨k, hk2, rfl⟩ := kr_inN hN hk
      rw [show kr_ix (nI k) = k from kr_ix_nI (by omega), show kr_ix (nI q) = q from kr_ix_nI (by omega)] at hc ⊢
      refine kr_vV (n := 1) (As := [.int (nI k)]) (rest := []) ⟨hx, hb, hml, hown, hts⟩ (c_X0_checkKnot l D cy h a N L A k (by omega) (by omega)) kg_RX0_59 ⟨rfl, rfl⟩ (by decide +kernel) ⟨Nat.le_of_ble_eq_true rfl, Nat.le_of_ble_eq_true rfl⟩ (kr_pv0 hP hK) rfl hl.1 rfl (Nat.le_of_ble_eq_true rfl) dX0_join_7 ⟨Nat.zero_le _, Nat.zero_le _⟩ ?_
      refine lv_aload_n hx hb dX0_join_10 rfl (lv_at hl 0 rfl) ?_
      refine lv_iload_n hx hb dX0_join_11 rfl (lv_at hl 2 rfl) ?_
      refine lv_iconst (v := 0) hx hb dX0_join_12 (by decide) ?_
      by_cases he : A 0 k = 0
      · refine kr_vV (n := 2) (As := [.int (nI k), .int 0]) (rest := []) ⟨hx, hb, hml, hown, hts⟩ (c_X0_checkOfKind l D cy h a N L A k 0 (by omega) (by assumption)) kg_RX0_69 ⟨rfl, rfl⟩ (by decide +kernel) ⟨Nat.le_of_ble_eq_true rfl, Nat.le_of_ble_eq_true rfl⟩ (kr_pv0 hP hK) rfl hl.1 rfl (Nat.le_of_ble_eq_true rfl) dX0_join_13 ⟨Nat.zero_le _, Nat.zero_le _⟩ ?_
        refine lv_iload_n hx hb dX0_join_16 rfl (lv_at hl 3 rfl) ?_
        by_cases ho : kr_o z
        · refine kr_sV (n := 1) (As := [.int z]) (rest := []) ⟨hx, hb, hml, hown, hts⟩ (c_X0_checkStrength l z (by assumption)) kg_RX0_73 ⟨rfl, rfl⟩ (by decide +kernel) ⟨Nat.le_of_ble_eq_true rfl, Nat.le_of_ble_eq_true rfl⟩ ⟨kr_blT, fun U hU hW => ⟨rfl, trivial⟩⟩ rfl hl.1 rfl (Nat.le_of_ble_eq_true rfl) dX0_join_17 ⟨Nat.zero_le _, Nat.zero_le _⟩ ?_
          refine lv_aload_n hx hb dX0_join_20 rfl (lv_at hl 0 rfl) ?_
          refine lv_iload_n hx hb dX0_join_21 rfl (lv_at hl 1 rfl) ?_
          by_cases hg : A 5 q = 0
          · rw [kr_cd3 ⟨hk1, hk⟩ ⟨he, ho⟩ (fun w => w.1 hg), kr_E3]
            exact kr_xV (n := 1) (As := [.int (nI q)]) (rest := []) ⟨hx, hb, hml, hown, hts⟩ (x_X0_checkNotGone l hl0 D cy h a N L A q (by omega) hg) kg_RX0_85 ⟨rfl, rfl⟩ (by decide +kernel) ⟨Nat.le_of_ble_eq_true rfl, Nat.le_of_ble_eq_true rfl⟩ (kr_pvx hP hK hT (fun _ _ => rfl)) rfl hl.1 rfl (Nat.le_of_ble_eq_true rfl) dX0_join_22 ⟨Nat.le_of_ble_eq_true rfl, Nat.le_of_ble_eq_true rfl⟩ ht hlocks
          · refine kr_vV (n := 1) (As := [.int (nI q)]) (rest := []) ⟨hx, hb, hml, hown, hts⟩ (c_X0_checkNotGone l D cy h a N L A q (by omega) (by assumption)) kg_RX0_85 ⟨rfl, rfl⟩ (by decide +kernel) ⟨Nat.le_of_ble_eq_true rfl, Nat.le_of_ble_eq_true rfl⟩ (kr_pv0 hP hK) rfl hl.1 rfl (Nat.le_of_ble_eq_true rfl) dX0_join_22 ⟨Nat.zero_le _, Nat.zero_le _⟩ ?_
            refine lv_aload_n hx hb dX0_join_25 rfl (lv_at hl 0 rfl) ?_
            refine va_get (ci := 0) (v := .ref (a 5)) (C := RX0) (T := TX0) (N := 10) hx hb hts kr_wsX0 hown hK hP 0 rfl rfl 6 (by decide) (hts _ kq_71) (fun _ h9 => h9) rfl dX0_join_26 ?_
            refine lv_iload_n hx hb dX0_join_29 rfl (lv_at hl 1 rfl) ?_
            refine kr_ald hx hb hK hP 6 0 rfl rfl q (by omega) (by decide) dX0_join_30 ?_
            refine lv_iconst (v := 5) hx hb dX0_join_31 (by decide) ?_
            refine lv_icmp_lt (tgt := 45) hx hb dX0_join_32 (by decide) (fun c32 => ?_) (fun c32 => ?_)
            · exact absurd (kr_cd0 ⟨hk1, hk⟩ ⟨he, ho⟩ ⟨hg, c32⟩) hc
            · rw [kr_cd3 ⟨hk1, hk⟩ ⟨he, ho⟩ (fun w => c32 w.2), kr_E3]
              exact kr_thrS hx hb hl0 hown hts hT (List.mem_of_getElem? (i := 6) rfl) (hl.1.trans hml.symm) dX0_join_35 dX0_join_38 dX0_join_39 dX0_join_41 dX0_join_44 ht ⟨by decide, by decide, by decide, by decide⟩ hlocks
        · rw [kr_cd2 ⟨hk1, hk⟩ (fun w => ho w.2), kr_E2]
          exact kr_xS (n := 1) (As := [.int z]) (rest := []) ⟨hx, hb, hml, hown, hts⟩ (x_X0_checkStrength l hl0 z ho) kg_RX0_73 ⟨rfl, rfl⟩ (by decide +kernel) ⟨Nat.le_of_ble_eq_true rfl, Nat.le_of_ble_eq_true rfl⟩ (kr_psx hT (fun _ _ => rfl)) rfl hl.1 rfl (Nat.le_of_ble_eq_true rfl) dX0_join_17 ⟨Nat.le_of_ble_eq_true rfl, Nat.le_of_ble_eq_true rfl⟩ ht hlocks
      · rw [kr_cd2 ⟨hk1, hk⟩ (fun w => he w.1), kr_E2]
        exact kr_xV (n := 2) (As := [.int (nI k), .int 0]) (rest := []) ⟨hx, hb, hml, hown, hts⟩ (x_X0_checkOfKind l hl0 D cy h a N L A k 0 (by omega) he) kg_RX0_69 ⟨rfl, rfl⟩ (by decide +kernel) ⟨Nat.le_of_ble_eq_true rfl, Nat.le_of_ble_eq_true rfl⟩ (kr_pvx hP hK hT (fun _ _ => rfl)) rfl hl.1 rfl (Nat.le_of_ble_eq_true rfl) dX0_join_13 ⟨Nat.le_of_ble_eq_true rfl, Nat.le_of_ble_eq_true rfl⟩ ht hlocks
    · rw [kr_cd1 (fun w => hk w.2), kr_E1]
      exact kr_xV (n := 1) (As := [.int y]) (rest := []) ⟨hx, hb, hml, hown, hts⟩ (x_X0_checkKnot l hl0 D cy h a N L A y hk) kg_RX0_59 ⟨rfl, rfl⟩ (by decide +kernel) ⟨Nat.le_of_ble_eq_true rfl, Nat.le_of_ble_eq_true rfl⟩ (kr_pvx hP hK hT (fun _ _ => rfl)) rfl hl.1 rfl (Nat.le_of_ble_eq_true rfl) dX0_join_7 ⟨Nat.le_of_ble_eq_true rfl, Nat.le_of_ble_eq_true rfl⟩ ht hlocks
  · rw [kr_cd1 (fun w => hk1 w.1), kr_E1]
    exact kr_xV (n := 1) (As := [.int x]) (rest := []) ⟨hx, hb, hml, hown, hts⟩ (x_X0_checkLine l hl0 D cy h a N L A x hk1) kg_RX0_82 ⟨rfl, rfl⟩ (by decide +kernel) ⟨Nat.le_of_ble_eq_true rfl, Nat.le_of_ble_eq_true rfl⟩ (kr_pvx hP hK hT (fun _ _ => rfl)) rfl hl.1 rfl (Nat.le_of_ble_eq_true rfl) dX0_join_2 ⟨Nat.le_of_ble_eq_true rfl, Nat.le_of_ble_eq_true rfl⟩ ht hlocks
set_option maxHeartbeats 4000000 in
set_option maxRecDepth 100000 in
theorem x_X0_retie (l : Launch) (hl0 : l.stackTraces = false) (D : va_G) (cy : ClassId) (h : Nat) (a : Nat → Nat) (N L : Nat) (A : Nat → Nat → Int32) (x y z : Int32) (hw : kr_wf N L A) (hc : ¬ kr_cd (kr_q L A x y ∧ kr_i N z) (A 0 (kr_ix z) = if y = 0 then 1 else 0) True = 0) : vx_Met l yX0_retie (Cond.code yX0_retie cX0_retie 6 (some .int) :: kr_all) ({ frames := 8, cells := 1, slots := 6, locals := 133 }) (va_Pc [.ref h, .int x, .int y, .int z] (kr_RT D (kr_W0 cy h a N L A) cy)) kr_no (kr_XC (kr_E (kr_cd (kr_q L A x y ∧ kr_i N z) (A 0 (kr_ix z) = if y = 0 then 1 else 0) True))) 1 6 (fun _ => False) := by
  refine kr_ofX (by decide) (Nat.le_of_ble_eq_true rfl) ?_
  intro p e s m below meth c ls hx hb hml hr hts hown hlocks ht hv hl
  obtain ⟨⟨hP, hK⟩, hT⟩ := hv
  have hown : s.vm.findClass RX0 = some m.cls := hown
  have hl : lv_has ls 6 [(0, .ref h), (1, .int x), (2, .int y), (3, .int z)] := hl
  have hN := hw.1
  have hL := hw.2.1
  refine lv_aload_n hx hb dX0_retie_0 rfl (lv_at hl 0 rfl) ?_
  refine lv_iload_n hx hb dX0_retie_1 rfl (lv_at hl 1 rfl) ?_
  refine lv_iload_n hx hb dX0_retie_2 rfl (lv_at hl 2 rfl) ?_
  by_cases hk1 : kr_q L A x y
  · obtain ⟨q, pl, hq, hp, rfl, rfl⟩ := kr_inP hw hk1
    obtain ⟨hrc, er⟩ := hw.rc hq
    refine kr_vV (n := 2) (As := [.int (nI q), .int (nI pl)]) (rest := []) ⟨hx, hb, hml, hown, hts⟩ (c_X0_checkPlace l D cy h a N L A q pl hw (by omega) (by omega)) kg_RX0_90 ⟨rfl, rfl⟩ (by decide +kernel) ⟨Nat.le_of_ble_eq_true rfl, Nat.le_of_ble_eq_true rfl⟩ (kr_pv0 hP hK) rfl hl.1 rfl (Nat.le_of_ble_eq_true rfl) dX0_retie_3 ⟨Nat.zero_le _, Nat.zero_le _⟩ ?_
    refine lv_aload_n hx hb dX0_retie_6 rfl (lv_at hl 0 rfl) ?_
    refine lv_iload_n hx hb dX0_retie_7 rfl (lv_at hl 3 rfl) ?_
    by_cases hk : kr_i N z
    · obtain ⟨k, hk2, rfl⟩ := kr_inN hN hk
      rw [show kr_ix (nI k) = k from kr_ix_nI (by omega)] at hc ⊢
      refine kr_vV (n := 1) (As := [.int (nI k)]) (rest := []) ⟨hx, hb, hml, hown, hts⟩ (c_X0_checkKnot l D cy h a N L A k (by omega) (by omega)) kg_RX0_59 ⟨rfl, rfl⟩ (by decide +kernel) ⟨Nat.le_of_ble_eq_true rfl, Nat.le_of_ble_eq_true rfl⟩ (kr_pv0 hP hK) rfl hl.1 rfl (Nat.le_of_ble_eq_true rfl) dX0_retie_8 ⟨Nat.zero_le _, Nat.zero_le _⟩ ?_
      refine lv_aload_n hx hb dX0_retie_11 rfl (lv_at hl 0 rfl) ?_
      refine lv_iload_n hx hb dX0_retie_12 rfl (lv_at hl 3 rfl) ?_
      refine lv_iload_n hx hb dX0_retie_13 rfl (lv_at hl 2 rfl) ?_
      refine kr_sI (n := 1) (As := [.int (nI pl)]) (rest := [.int (nI k), .ref h]) ⟨hx, hb, hml, hown, hts⟩ (c_X0_kindDueAt l (nI pl)) kg_RX0_93 ⟨rfl, rfl⟩ (by decide +kernel) ⟨Nat.le_of_ble_eq_true rfl, Nat.le_of_ble_eq_true rfl⟩ ⟨kr_blT, fun U hU hW => ⟨rfl, trivial⟩⟩ rfl hl.1 rfl (Nat.le_of_ble_eq_true rfl) dX0_retie_14 ⟨Nat.zero_le _, Nat.zero_le _⟩ (fun r9 e9 => ?_)
      subst e9
      by_cases he : A 0 k = if nI pl = 0 then (1 : Int32) else 0
      · exact absurd (kr_cd0 ⟨hk1, hk⟩ he trivial) hc
      · rw [kr_cd2 ⟨hk1, hk⟩ he, kr_E2]
        exact kr_xV (n := 2) (As := [.int (nI k), .int (if (nI pl) = 0 then (1 : Int32) else 0)]) (rest := []) ⟨hx, hb, hml, hown, hts⟩ (x_X0_checkOfKind l hl0 D cy h a N L A k (if nI pl = 0 then (1 : Int32) else 0) (by omega) he) kg_RX0_69 ⟨rfl, rfl⟩ (by decide +kernel) ⟨Nat.le_of_ble_eq_true rfl, Nat.le_of_ble_eq_true rfl⟩ (kr_pvx hP hK hT (fun _ _ => rfl)) rfl hl.1 rfl (Nat.le_of_ble_eq_true rfl) dX0_retie_17 ⟨Nat.le_of_ble_eq_true rfl, Nat.le_of_ble_eq_true rfl⟩ ht hlocks
    · rw [kr_cd1 (fun w => hk w.2), kr_E1]
      exact kr_xV (n := 1) (As := [.int z]) (rest := []) ⟨hx, hb, hml, hown, hts⟩ (x_X0_checkKnot l hl0 D cy h a N L A z hk) kg_RX0_59 ⟨rfl, rfl⟩ (by decide +kernel) ⟨Nat.le_of_ble_eq_true rfl, Nat.le_of_ble_eq_true rfl⟩ (kr_pvx hP hK hT (fun _ _ => rfl)) rfl hl.1 rfl (Nat.le_of_ble_eq_true rfl) dX0_retie_8 ⟨Nat.le_of_ble_eq_true rfl, Nat.le_of_ble_eq_true rfl⟩ ht hlocks
  · rw [kr_cd1 (fun w => hk1 w.1), kr_E1]
    exact kr_xV (n := 2) (As := [.int x, .int y]) (rest := []) ⟨hx, hb, hml, hown, hts⟩ (x_X0_checkPlace l hl0 D cy h a N L A x y hw hk1) kg_RX0_90 ⟨rfl, rfl⟩ (by decide +kernel) ⟨Nat.le_of_ble_eq_true rfl, Nat.le_of_ble_eq_true rfl⟩ (kr_pvx hP hK hT (fun _ _ => rfl)) rfl hl.1 rfl (Nat.le_of_ble_eq_true rfl) dX0_retie_3 ⟨Nat.le_of_ble_eq_true rfl, Nat.le_of_ble_eq_true rfl⟩ ht hlocks
set_option maxHeartbeats 4000000 in
set_option maxRecDepth 100000 in
theorem x_X0_pull (l : Launch) (hl0 : l.stackTraces = false) (D : va_G) (cy : ClassId) (h : Nat) (a : Nat → Nat) (N L : Nat) (A : Nat → Nat → Int32) (x y : Int32) (hL : L ≤ 6) (hc : ¬ kr_cd (kr_i L x) (kr_o y) (¬ A 5 (kr_ix x) = 0) = 0) : vx_Met l yX0_pull (Cond.code yX0_pull cX0_pull 6 (some .int) :: kr_all) ({ frames := 7, cells := 1, slots := 6, locals := 111 }) (va_Pc [.ref h, .int x, .int y] (kr_RT D (kr_W0 cy h a N L A) cy)) kr_no (kr_XC (kr_E (kr_cd (kr_i L x) (kr_o y) (¬ A 5 (kr_ix x) = 0)))) 1 6 (fun _ => False) := by
  refine kr_ofX (by decide) (Nat.le_of_ble_eq_true rfl) ?_
  intro p e s m below meth c ls hx hb hml hr hts hown hlocks ht hv hl
  obtain ⟨⟨hP, hK⟩, hT⟩ := hv
  have hown : s.vm.findClass RX0 = some m.cls := hown
  have hl : lv_has ls 6 [(0, .ref h), (1, .int x), (2, .int y)] := hl
  refine lv_aload_n hx hb dX0_pull_0 rfl (lv_at hl 0 rfl) ?_
  refine lv_iload_n hx hb dX0_pull_1 rfl (lv_at hl 1 rfl) ?_
  by_cases hk : kr_i L x
  · obtain ⟨q, hq, rfl⟩ := kr_inL hL hk
    rw [show kr_ix (nI q) = q from kr_ix_nI (by omega)] at hc ⊢
    refine kr_vV (n := 1) (As := [.int (nI q)]) (rest := []) ⟨hx, hb, hml, hown, hts⟩ (c_X0_checkLine l D cy h a N L A q (by omega) (by omega)) kg_RX0_82 ⟨rfl, rfl⟩ (by decide +kernel) ⟨Nat.le_of_ble_eq_true rfl, Nat.le_of_ble_eq_true rfl⟩ (kr_pv0 hP hK) rfl hl.1 rfl (Nat.le_of_ble_eq_true rfl) dX0_pull_2 ⟨Nat.zero_le _, Nat.zero_le _⟩ ?_
    refine lv_iload_n hx hb dX0_pull_5 rfl (lv_at hl 2 rfl) ?_
    by_cases ho : kr_o y
    · refine kr_sV (n := 1) (As := [.int y]) (rest := []) ⟨hx, hb, hml, hown, hts⟩ (c_X0_checkLoad l y (by assumption)) kg_RX0_62 ⟨rfl, rfl⟩ (by decide +kernel) ⟨Nat.le_of_ble_eq_true rfl, Nat.le_of_ble_eq_true rfl⟩ ⟨kr_blT, fun U hU hW => ⟨rfl, trivial⟩⟩ rfl hl.1 rfl (Nat.le_of_ble_eq_true rfl) dX0_pull_6 ⟨Nat.zero_le _, Nat.zero_le _⟩ ?_
      refine lv_aload_n hx hb dX0_pull_9 rfl (lv_at hl 0 rfl) ?_
      refine lv_iload_n hx hb dX0_pull_10 rfl (lv_at hl 1 rfl) ?_
      by_cases hg : A 5 q = 0
      · rw [kr_cd3 hk ho (fun w => w hg), kr_E3]
        exact kr_xV (n := 1) (As := [.int (nI q)]) (rest := []) ⟨hx, hb, hml, hown, hts⟩ (x_X0_checkNotGone l hl0 D cy h a N L A q (by omega) hg) kg_RX0_85 ⟨rfl, rfl⟩ (by decide +kernel) ⟨Nat.le_of_ble_eq_true rfl, Nat.le_of_ble_eq_true rfl⟩ (kr_pvx hP hK hT (fun _ _ => rfl)) rfl hl.1 rfl (Nat.le_of_ble_eq_true rfl) dX0_pull_11 ⟨Nat.le_of_ble_eq_true rfl, Nat.le_of_ble_eq_true rfl⟩ ht hlocks
      · exact absurd (kr_cd0 hk ho hg) hc
    · rw [kr_cd2 hk ho, kr_E2]
      exact kr_xS (n := 1) (As := [.int y]) (rest := []) ⟨hx, hb, hml, hown, hts⟩ (x_X0_checkLoad l hl0 y ho) kg_RX0_62 ⟨rfl, rfl⟩ (by decide +kernel) ⟨Nat.le_of_ble_eq_true rfl, Nat.le_of_ble_eq_true rfl⟩ (kr_psx hT (fun _ _ => rfl)) rfl hl.1 rfl (Nat.le_of_ble_eq_true rfl) dX0_pull_6 ⟨Nat.le_of_ble_eq_true rfl, Nat.le_of_ble_eq_true rfl⟩ ht hlocks
  · rw [kr_cd1 hk, kr_E1]
    exact kr_xV (n := 1) (As := [.int x]) (rest := []) ⟨hx, hb, hml, hown, hts⟩ (x_X0_checkLine l hl0 D cy h a N L A x hk) kg_RX0_82 ⟨rfl, rfl⟩ (by decide +kernel) ⟨Nat.le_of_ble_eq_true rfl, Nat.le_of_ble_eq_true rfl⟩ (kr_pvx hP hK hT (fun _ _ => rfl)) rfl hl.1 rfl (Nat.le_of_ble_eq_true rfl) dX0_pull_2 ⟨Nat.le_of_ble_eq_true rfl, Nat.le_of_ble_eq_true rfl⟩ ht hlocks
end
section
/-! methods that write -/
def kr_Rw (D : va_G) (ws : va_W) (cy : ClassId) (sz : Nat) (U : State) : Prop := U.heap.size = sz ∧ va_P D vwCl ws U.heap ∧ va_K D vwCl [(cy, .int)] U ∧ va_D (fun _ => True) ws
def kr_Rq (D : va_G) (ws : va_W) (cy : ClassId) (AA : Nat → Prop) (t : State) : Prop := va_P D vwCl ws t.heap ∧ va_K D vwCl [(cy, .int)] t ∧ va_D AA ws
theorem kr_blw {D : va_G} {ws : va_W} {cy : ClassId} {sz : Nat} {av : List Value} : FrameBlind (va_Pc av (kr_Rw D ws cy sz)) := fun a U g mk q => ⟨q.1, q.2.1, q.2.2.1, va_K.moved (u := U) (U := U.calling g mk a) (Vm.Alike.refl U.vm) q.2.2.2.1, q.2.2.2.2⟩
theorem kr_ofw {l : Launch} {y : MethodName} {cc : ByteArray} {maxL : Nat} {ret : Option FieldType} {rm : Room} {vs : List Value} {D : va_G} {ws : va_W} {cy : ClassId} {sz : Nat} {Qc : (Nat → Prop) → Array Value → State → Outcome → State → Prop} {mc ms : Nat} (hy : plainName y.cls = true) (hlen : (lg_sl vs).length ≤ maxL)
    (body : ∀ (p : Program) (e : Env) (s : State) (m : MethodId) (below : List Frame) (meth : Method) (c : Code) (ls : Array Slot) (AA : Nat → Prop), p.tables.exec = Jvm.exec → c.code = cc → c.maxLocals = maxL → meth.sig.returnType = ret → (∀ w ∈ kr_all, w.before vs.toArray s = true) → s.vm.findClass y.cls = some m.cls → meth.locks = false → meth.name = y.name → (∀ q : Nat, s.heap.size ≤ q → AA q) → va_P D vwCl ws s.heap → va_K D vwCl [(cy, .int)] s → va_D AA ws → va_S AA s.heap s.heap [] → lv_has ls maxL (lv_args 0 vs) → W p l e rm s m vs.toArray below meth c s.heap [] 0 0 (MQ below (Qc AA) vs.toArray s mc ms AA) (F0 m 0 ls [])) :
    Met l y (Cond.code y cc maxL ret :: kr_all) rm (va_Pc vs (kr_Rw D ws cy sz)) (Qc (va_A ws sz)) mc ms (va_A ws sz) := by
  refine Met.ofW (cc := cc) (maxL := maxL) (ret := ret) hy rfl ?_
  intro p e s m args below meth c s₁ B hml hv
  obtain ⟨rfl, hsz, hP, hK, hD0⟩ := hv
  subst hsz
  have hts := atoms_spec (ws := Cond.code y cc maxL ret :: kr_all) B.pre
  have hl := lv_entry vs (n := maxL) hlen
  rw [lg_entry_eq]
  exact body p e s m below meth c _ (va_A ws s.heap.size) B.exec B.bytes hml B.returns (fun w h => hts w (List.mem_cons_of_mem _ h)) (findClass_of_methodNamed B.named) B.notSynchronized (name_of_methodNamed B.named B.method).1 (fun q h => Or.inr h) hP hK (hD0.self (sz := s.heap.size)) va_S.rf hl
section KRWW
variable {p : Program} {l : Launch} {e : Env} {R : Room} {s : State} {m : MethodId} {args : Array Value} {below : List Frame} {meth : Method} {c : Code} {H : Heap} {locs : List Loc} {cells slots : Nat} {Q : State → Prop} {cc : ByteArray} {pc : Nat} {ls : Array Slot} {rest st st0 : List Value} {D : va_G} {ws : va_W} {cy : ClassId} {AA : Nat → Prop}
theorem kr_wI {post : Int32 → Prop} {v : Int32} (hx : p.tables.exec = Jvm.exec) (hb : c.code = cc) (hr : meth.sig.returnType = some .int) (hlocks : meth.locks = false) (hP : va_P D vwCl ws H) (hK : va_K D vwCl [(cy, .int)] s) (hD : va_D AA ws) (hS : va_S AA s.heap H locs) (hp : post v) (hdg : decode cc pc = .ok (.ireturn, 1)) : W p l e R s m args below meth c H locs cells slots (MQ below (va_Qi (fun r (_ : Unit) => post r) (fun _ t => kr_Rq D ws cy AA t) AA) args s cells slots AA) (F0 m pc ls [.int v]) := W.iret hx hb hr (fun t ht hW => ⟨⟨v, (), rfl, hp, by rw [ht]; exact hP, va_K.moved hW.alike hK, hD⟩, hS.F ht⟩) hS.2.2 hdg hlocks
theorem kr_wZ {post : Int32 → Prop} {v : Int32} (hx : p.tables.exec = Jvm.exec) (hb : c.code = cc) (hr : meth.sig.returnType = some .boolean) (hlocks : meth.locks = false) (hP : va_P D vwCl ws H) (hK : va_K D vwCl [(cy, .int)] s) (hD : va_D AA ws) (hS : va_S AA s.heap H locs) (hv : v = 0 ∨ v = 1) (hp : post v) (hdg : decode cc pc = .ok (.ireturn, 1)) : W p l e R s m args below meth c H locs cells slots (MQ below (va_Qi (fun r (_ : Unit) => post r) (fun _ t => kr_Rq D ws cy AA t) AA) args s cells slots AA) (F0 m pc ls [.int v]) := W.zret (ty := .boolean) hx hb hr (by rcases hv with rfl | rfl <;> decide) (fun t ht hW => ⟨⟨v, (), rfl, hp, by rw [ht]; exact hP, va_K.moved hW.alike hK, hD⟩, hS.F ht⟩) hS.2.2 hdg hlocks
theorem kr_wV {post : Prop} (hx : p.tables.exec = Jvm.exec) (hb : c.code = cc) (hr : meth.sig.returnType = none) (hlocks : meth.locks = false) (hP : va_P D vwCl ws H) (hK : va_K D vwCl [(cy, .int)] s) (hD : va_D AA ws) (hS : va_S AA s.heap H locs) (hp : post) (hdg : decode cc pc = .ok (.return_, 1)) : W p l e R s m args below meth c H locs cells slots (MQ below (va_Qv (fun (_ : Unit) => post) (fun _ t => kr_Rq D ws cy AA t) AA) args s cells slots AA) (F0 m pc ls []) := W.vret hx hb hr (fun t ht hW => ⟨⟨(), rfl, hp, by rw [ht]; exact hP, va_K.moved hW.alike hK, hD⟩, hS.F ht⟩) hS.2.2 hdg hlocks
theorem kr_wL {post : Int64 → Prop} {v : Int64} (hx : p.tables.exec = Jvm.exec) (hb : c.code = cc) (hr : meth.sig.returnType = some .long) (hlocks : meth.locks = false) (hP : va_P D vwCl ws H) (hK : va_K D vwCl [(cy, .int)] s) (hD : va_D AA ws) (hS : va_S AA s.heap H locs) (hp : post v) (hdg : decode cc pc = .ok (.lreturn, 1)) : W p l e R s m args below meth c H locs cells slots (MQ below (va_Ql (fun r (_ : Unit) => post r) (fun _ t => kr_Rq D ws cy AA t) AA) args s cells slots AA) (F0 m pc ls [.long v]) := W.lret hx hb hr (fun t ht hW => ⟨⟨v, (), rfl, hp, by rw [ht]; exact hP, va_K.moved hW.alike hK, hD⟩, hS.F ht⟩) hS.2.2 hdg hlocks
theorem kr_fr {H0 : Heap} (hD : va_D AA ws) (hS : va_S AA H0 H locs) (hA : ∀ q : Nat, H0.size ≤ q → AA q) : ∀ q, va_A ws H.size q → AA q := by
  intro q h
  rcases h with ⟨k, e, h⟩ | h
  · exact hD.2 k (q, e) h
  · exact hA q (Nat.le_trans hS.1 h)
/-- a call of a method of the same world that writes -/
theorem kr_wvI {V : Type} {own C : String} {idx maxL nL n mc ms : Nat} {y : MethodName} {bytes : ByteArray} {ret : Option FieldType} {rm : Room} {b : Addr} {As : List Value} {H0 : Heap} {wq : V → va_W} {post : Int32 → V → Prop} (S : CallFix p m c cc nL s args kr_all own) (hM : Met l y (Cond.code y bytes maxL ret :: kr_all) rm (va_Pc (.ref b :: As) (kr_Rw D ws cy H.size)) (va_Qi post (fun u t => kr_Rq D (wq u) cy (va_A ws H.size) t) (va_A ws H.size)) mc ms (va_A ws H.size)) (g : GoodIn kr_all (wsV own idx C y (Cond.code y bytes maxL ret :: kr_all))) (hr0 : rm.cells = mc ∧ rm.slots = ms)
    (hd : y.cls = C ∧ y.cls ≠ "java/lang/invoke/MethodHandle" ∧ y.cls ≠ "java/lang/invoke/VarHandle" ∧ (parseMethodDescriptor y.desc).map (fun d => d.parameters.length) = some n) (hR : rm.frames + 1 ≤ R.frames ∧ 8 + (maxL + 11) + rm.locals ≤ R.locals) (hrecv : ∃ cellB : Cell, H[b]? = some cellB ∧ cellB.vm.isStatics = false ∧ s.vm.findClass C = some cellB.cls) (hP : va_P D vwCl ws H) (hK : va_K D vwCl [(cy, .int)] s) (hD : va_D AA ws) (hS : va_S AA H0 H locs) (hA : ∀ q : Nat, H0.size ≤ q → AA q) (hn : As.length = n) (hsize : ls.size = nL) (hst : st0 = As.reverse ++ .ref b :: rest) (hW : (rest.map fun v => v.category).sum ≤ 8) (hdg : decode cc pc = .ok (.invokevirtual idx, 3)) (hf : cells + mc ≤ R.cells ∧ slots + ms ≤ R.slots)
    (kk : ∀ (r : Int32) (u : V) (H1 : Heap) (locs1 : List Loc), post r u → va_P D vwCl (wq u) H1 → va_D AA (wq u) → va_S AA H0 H1 locs1 → W p l e R s m args below meth c H1 locs1 (cells + mc) (slots + ms) Q (F0 m (pc + 3) ls (.int r :: rest))) : W p l e R s m args below meth c H locs cells slots Q (F0 m pc ls st0) :=
  va_calli (va_runV S hM (cwV n S.2.2.2.2 g rfl hr0.1 hr0.2 hd hR) ⟨kr_blw, hrecv, fun U hU hW => ⟨rfl, by rw [hU], by rw [hU]; exact hP, va_K.moved hW.alike hK, hD.weaken (fun _ _ _ _ => trivial)⟩⟩ rfl hn hsize hst (lv_room (pc := pc) (ls := ls) (m := m) (rest := st0) hW) hdg hf) hS (fun q _ h => kr_fr hD hS hA q h) (kr_fr hD hS hA)
    (fun r u t H1 locs1 ht hvm hp hB hz hk hS1 => kk r u H1 locs1 hp (by rw [← ht]; exact hB.1) (hB.2.2.weaken (fun _ _ _ h => kr_fr hD hS hA _ h)) hS1)
theorem kr_wvV {V : Type} {own C : String} {idx maxL nL n mc ms : Nat} {y : MethodName} {bytes : ByteArray} {ret : Option FieldType} {rm : Room} {b : Addr} {As : List Value} {H0 : Heap} {wq : V → va_W} {post : V → Prop} (S : CallFix p m c cc nL s args kr_all own) (hM : Met l y (Cond.code y bytes maxL ret :: kr_all) rm (va_Pc (.ref b :: As) (kr_Rw D ws cy H.size)) (va_Qv post (fun u t => kr_Rq D (wq u) cy (va_A ws H.size) t) (va_A ws H.size)) mc ms (va_A ws H.size)) (g : GoodIn kr_all (wsV own idx C y (Cond.code y bytes maxL ret :: kr_all))) (hr0 : rm.cells = mc ∧ rm.slots = ms)
    (hd : y.cls = C ∧ y.cls ≠ "java/lang/invoke/MethodHandle" ∧ y.cls ≠ "java/lang/invoke/VarHandle" ∧ (parseMethodDescriptor y.desc).map (fun d => d.parameters.length) = some n) (hR : rm.frames + 1 ≤ R.frames ∧ 8 + (maxL + 11) + rm.locals ≤ R.locals) (hrecv : ∃ cellB : Cell, H[b]? = some cellB ∧ cellB.vm.isStatics = false ∧ s.vm.findClass C = some cellB.cls) (hP : va_P D vwCl ws H) (hK : va_K D vwCl [(cy, .int)] s) (hD : va_D AA ws) (hS : va_S AA H0 H locs) (hA : ∀ q : Nat, H0.size ≤ q → AA q) (hn : As.length = n) (hsize : ls.size = nL) (hst : st0 = As.reverse ++ .ref b :: rest) (hW : (rest.map fun v => v.category).sum ≤ 8) (hdg : decode cc pc = .ok (.invokevirtual idx, 3)) (hf : cells + mc ≤ R.cells ∧ slots + ms ≤ R.slots)
    (kk : ∀ (u : V) (H1 : Heap) (locs1 : List Loc), post u → va_P D vwCl (wq u) H1 → va_D AA (wq u) → va_S AA H0 H1 locs1 → W p l e R s m args below meth c H1 locs1 (cells + mc) (slots + ms) Q (F0 m (pc + 3) ls rest)) : W p l e R s m args below meth c H locs cells slots Q (F0 m pc ls st0) :=
  va_callv (va_runV S hM (cwV n S.2.2.2.2 g rfl hr0.1 hr0.2 hd hR) ⟨kr_blw, hrecv, fun U hU hW => ⟨rfl, by rw [hU], by rw [hU]; exact hP, va_K.moved hW.alike hK, hD.weaken (fun _ _ _ _ => trivial)⟩⟩ rfl hn hsize hst (lv_room (pc := pc) (ls := ls) (m := m) (rest := st0) hW) hdg hf) hS (fun q _ h => kr_fr hD hS hA q h) (kr_fr hD hS hA)
    (fun u t H1 locs1 ht hvm hp hB hz hk hS1 => kk u H1 locs1 hp (by rw [← ht]; exact hB.1) (hB.2.2.weaken (fun _ _ _ h => kr_fr hD hS hA _ h)) hS1)
end KRWW
/-! the states behind the calls that write -/
theorem kr_upS (A : Nat → Nat → Int32) (i : Nat) (f : Nat → Int32) : kr_up A i f i = f := if_pos rfl
theorem kr_upN (A : Nat → Nat → Int32) {i j : Nat} (f : Nat → Int32) (h : j ≠ i) : kr_up A i f j = A j := if_neg h
theorem kr_up_sw (A : Nat → Nat → Int32) {i j : Nat} (f g : Nat → Int32) (h : i ≠ j) : kr_up (kr_up A i f) j g = kr_up (kr_up A j g) i f := by
  funext k
  unfold kr_up
  by_cases h1 : k = j
  · rw [if_pos h1, if_neg (by omega), if_pos h1]
  · rw [if_neg h1]
    by_cases h2 : k = i
    · rw [if_pos h2, if_pos h2]
    · rw [if_neg h2, if_neg h2, if_neg h1]
theorem kr_up_tw (A : Nat → Nat → Int32) (i : Nat) (f g : Nat → Int32) : kr_up (kr_up A i f) i g = kr_up A i g := by
  funext k
  unfold kr_up
  by_cases h1 : k = i
  · rw [if_pos h1, if_pos h1]
  · rw [if_neg h1, if_neg h1, if_neg h1]
theorem kr_up_id (A : Nat → Nat → Int32) (i : Nat) : kr_up A i (A i) = A := by
  funext k
  unfold kr_up
  by_cases h1 : k = i
  · rw [if_pos h1, h1]
  · rw [if_neg h1]
theorem kr_upd_tw (f : Nat → Int32) (k : Nat) (x y : Int32) : upd (upd f k x) k y = upd f k y := by
  funext j
  by_cases h : j = k
  · rw [h, pk_us, pk_us]
  · rw [pk_un h, pk_un h, pk_un h]
theorem kr_upd_id (f : Nat → Int32) (k : Nat) : upd f k (f k) = f := by
  funext j
  by_cases h : j = k
  · rw [h, pk_us]
  · rw [pk_un h]
def kr_aA (A : Nat → Nat → Int32) (N : Nat) (x y z : Int32) : Nat → Nat → Int32 := kr_up (kr_up (kr_up (kr_up (kr_up A 0 (upd (A 0) N x)) 1 (upd (A 1) N y)) 2 (upd (A 2) N z)) 3 (upd (A 3) N 0)) 4 (upd (A 4) N (-1))
def kr_sA (A : Nat → Nat → Int32) (k : Nat) (y z : Int32) : Nat → Nat → Int32 := kr_up (kr_up A 3 (upd (A 3) k y)) 4 (upd (A 4) k z)
def kr_jA (A : Nat → Nat → Int32) (q r k : Nat) (z : Int32) : Nat → Nat → Int32 := kr_up (kr_up (kr_up A 6 (upd (A 6) (5 * q + r) (nI k))) 7 (upd (A 7) (5 * q + r) z)) 5 (upd (A 5) q (nI (r + 1)))
def kr_tA (A : Nat → Nat → Int32) (L k : Nat) (z : Int32) : Nat → Nat → Int32 := kr_jA A L 0 k z
def kr_rA (A : Nat → Nat → Int32) (i k : Nat) : Nat → Nat → Int32 := kr_up A 6 (upd (A 6) i (nI k))
def kr_pr' (A : Nat → Nat → Int32) (q : Nat) (ld : Int32) : Nat := if kr_gw A q ld = -1 then kr_rc A q else kr_ix (kr_gw A q ld)
def kr_pf (A : Nat → Nat → Int32) (q : Nat) (ld : Int32) (i : Nat) : Nat → Int32 := fun j => if 5 * q ≤ j ∧ j < 5 * q + i then kr_fm A ld 16 (A 6 j) else A 6 j
def kr_pB (A : Nat → Nat → Int32) (q : Nat) (ld : Int32) (i : Nat) : Nat → Nat → Int32 := kr_up (kr_up A 5 (upd (A 5) q (nI (kr_pr' A q ld)))) 6 (kr_pf A q ld i)
def kr_pA (A : Nat → Nat → Int32) (q : Nat) (ld : Int32) : Nat → Nat → Int32 := kr_pB A q ld (kr_pr' A q ld)
section KRP
variable {N L : Nat} {A : Nat → Nat → Int32} {ld : Int32} {q : Nat}
theorem kr_pf_0 : kr_pf A q ld 0 = A 6 := by
  funext j; unfold kr_pf; rw [if_neg (by omega)]
theorem kr_pf_at (i : Nat) : kr_pf A q ld i (5 * q + i) = A 6 (5 * q + i) := by unfold kr_pf; rw [if_neg (by omega)]
theorem kr_pf_s (i : Nat) : upd (kr_pf A q ld i) (5 * q + i) (kr_fm A ld 16 (A 6 (5 * q + i))) = kr_pf A q ld (i + 1) := by
  funext j
  by_cases h : j = 5 * q + i
  · rw [h, pk_us]; unfold kr_pf; rw [if_pos (by omega)]
  · rw [pk_un h]; unfold kr_pf
    by_cases h2 : 5 * q ≤ j ∧ j < 5 * q + i
    · rw [if_pos h2, if_pos (by omega)]
    · rw [if_neg h2, if_neg (by omega)]
/-- where a place gives way, it is one of the line's, and all ahead of it hold; where none does, all hold -/
theorem kr_fg_sp : ∀ (n pl : Nat), pl + n < 2 ^ 31 → (kr_fg A q ld n pl = -1 ∧ ∀ j, pl ≤ j → j < pl + n → kr_ph A q ld j) ∨ ∃ g, pl ≤ g ∧ g < pl + n ∧ kr_fg A q ld n pl = nI g ∧ ∀ j, pl ≤ j → j < g → kr_ph A q ld j
  | 0, pl, _ => Or.inl ⟨rfl, fun j h1 h2 => by omega⟩
  | n + 1, pl, h => by
    by_cases hp : kr_ph A q ld pl
    · have e : kr_fg A q ld (n + 1) pl = kr_fg A q ld n (pl + 1) := if_pos hp
      rw [e]
      rcases kr_fg_sp n (pl + 1) (by omega) with ⟨h1, h2⟩ | ⟨g, h1, h2, h3, h4⟩
      · refine Or.inl ⟨h1, fun j h3 h4 => ?_⟩
        by_cases hj : j = pl
        · rw [hj]; exact hp
        · exact h2 j (by omega) (by omega)
      · refine Or.inr ⟨g, by omega, by omega, h3, fun j h5 h6 => ?_⟩
        by_cases hj : j = pl
        · rw [hj]; exact hp
        · exact h4 j (by omega) (by omega)
    · have e : kr_fg A q ld (n + 1) pl = nI pl := if_neg hp
      exact Or.inr ⟨pl, Nat.le_refl _, by omega, e, fun j h1 h2 => by omega⟩
theorem kr_pr_le (h : kr_rc A q ≤ 5) : kr_pr' A q ld ≤ kr_rc A q ∧ ∀ j, j < kr_pr' A q ld → kr_ph A q ld j := by
  unfold kr_pr'
  rcases kr_fg_sp (A := A) (q := q) (ld := ld) (kr_rc A q) 0 (by omega) with ⟨h1, h2⟩ | ⟨g, h1, h2, h3, h4⟩
  · rw [if_pos (show kr_gw A q ld = -1 from h1)]; exact ⟨Nat.le_refl _, fun j hj => h2 j (Nat.zero_le _) (by omega)⟩
  · have e : kr_gw A q ld = nI g := h3
    rw [e, if_neg (kr_kn_ne (by omega)), kr_ix_nI (by omega)]
    exact ⟨by omega, fun j hj => h4 j (Nat.zero_le _) hj⟩
theorem kr_gw_kn (h : kr_rc A q ≤ 5) : kr_gw A q ld = -1 ∨ ∃ g, g < kr_rc A q ∧ kr_gw A q ld = nI g := by
  rcases kr_fg_sp (A := A) (q := q) (ld := ld) (kr_rc A q) 0 (by omega) with ⟨h1, h2⟩ | ⟨g, h1, h2, h3, h4⟩
  · exact Or.inl h1
  · exact Or.inr ⟨g, by omega, h3⟩
theorem kr_fm_cg {A' : Nat → Nat → Int32} (h3 : A' 3 = A 3) (h4 : A' 4 = A 4) : ∀ (n : Nat) (x : Int32), kr_fm A' ld n x = kr_fm A ld n x
  | 0, _ => rfl
  | n + 1, x => by
    rw [kr_fm_e, kr_fm_e, h4, kr_fm_cg h3 h4 n]
    unfold kr_go
    rw [h3]
/-- the order of the rows, kept by the calls that write -/
theorem kr_wf_a (hw : kr_wf N L A) (hN : N < 16) {x y z : Int32} (hx : x = 0 ∨ x = 1) : kr_wf (N + 1) L (kr_aA A N x y z) := by
  obtain ⟨h1, h2, h3, h4⟩ := hw
  refine ⟨by omega, h2, fun k hk => ?_, fun l hl => ?_⟩
  · show (upd (A 0) N x k = 0 ∨ upd (A 0) N x k = 1) ∧ (upd (A 4) N (-1) k = -1 ∨ ∃ j, j < k ∧ upd (A 4) N (-1) k = nI j) ∧ (∃ q, q ≤ 999 ∧ upd (A 3) N 0 k = nI q) ∧ (upd (A 3) N 0 k = 0 → upd (A 4) N (-1) k = -1)
    by_cases e : k = N
    · subst e; rw [pk_us, pk_us, pk_us]; exact ⟨hx, Or.inl rfl, ⟨0, by omega, rfl⟩, fun _ => rfl⟩
    · rw [pk_un e, pk_un e, pk_un e]; exact h3 k (by omega)
  · obtain ⟨r, a1, a2, a3⟩ := h4 l hl
    refine ⟨r, a1, a2, fun pl hp => ?_⟩
    obtain ⟨k, b1, b2⟩ := a3 pl hp
    exact ⟨k, by omega, b2⟩
theorem kr_wf_s (hw : kr_wf N L A) {k : Nat} (hk : k < N) {y z : Int32} (hy : ¬ y < 1 ∧ ¬ 999 < y) (hz : z = -1 ∨ ∃ j, j < k ∧ z = nI j) : kr_wf N L (kr_sA A k y z) := by
  obtain ⟨h1, h2, h3, h4⟩ := hw
  refine ⟨h1, h2, fun i hi => ?_, h4⟩
  show (A 0 i = 0 ∨ A 0 i = 1) ∧ (upd (A 4) k z i = -1 ∨ ∃ j, j < i ∧ upd (A 4) k z i = nI j) ∧ (∃ q, q ≤ 999 ∧ upd (A 3) k y i = nI q) ∧ (upd (A 3) k y i = 0 → upd (A 4) k z i = -1)
  by_cases e : i = k
  · subst e; rw [pk_us, pk_us]
    have hy0 : ¬ y < 0 := fun h => hy.1 (by
      rw [Int32.lt_iff_toInt_lt] at h ⊢
      rw [show (0 : Int32).toInt = 0 by decide] at h
      rw [show (1 : Int32).toInt = 1 by decide]; omega)
    obtain ⟨q, q1, q2⟩ := nI_of2 (M := 999) (n := 999) (by decide) hy0 (Int32.not_lt.mp hy.2)
    refine ⟨(h3 i hi).1, hz, ⟨q, q1, q2⟩, fun h0 => ?_⟩
    rw [h0] at hy; exact absurd hy.1 (by decide)
  · rw [pk_un e, pk_un e]; exact h3 i hi
theorem kr_wf_r (hw : kr_wf N L A) {i k : Nat} (hk : k < N) : kr_wf N L (kr_rA A i k) := by
  obtain ⟨h1, h2, h3, h4⟩ := hw
  refine ⟨h1, h2, h3, fun l hl => ?_⟩
  obtain ⟨r, a1, a2, a3⟩ := h4 l hl
  refine ⟨r, a1, a2, fun pl hp => ?_⟩
  show ∃ j, j < N ∧ upd (A 6) i (nI k) (5 * l + pl) = nI j
  by_cases e : 5 * l + pl = i
  · rw [e, pk_us]; exact ⟨k, hk, rfl⟩
  · rw [pk_un e]; exact a3 pl hp
theorem kr_wf_j (hw : kr_wf N L A) {k r : Nat} (hk : k < N) (hr : r < 5) (hq : q < L) (er : A 5 q = nI r) {z : Int32} : kr_wf N L (kr_jA A q r k z) := by
  obtain ⟨h1, h2, h3, h4⟩ := hw
  refine ⟨h1, h2, h3, fun l hl => ?_⟩
  obtain ⟨r2, a1, a2, a3⟩ := h4 l hl
  show ∃ r', r' ≤ 5 ∧ upd (A 5) q (nI (r + 1)) l = nI r' ∧ ∀ pl, pl < r' → ∃ j, j < N ∧ upd (A 6) (5 * q + r) (nI k) (5 * l + pl) = nI j
  by_cases e : l = q
  · subst e
    rw [pk_us]
    have e2 : r2 = r := (nI_eq (by omega) (by omega)).mp (a2.symm.trans er)
    refine ⟨r + 1, by omega, rfl, fun pl hp => ?_⟩
    by_cases e3 : pl = r
    · rw [e3, pk_us]; exact ⟨k, hk, rfl⟩
    · rw [pk_un (by omega)]; exact a3 pl (by omega)
  · rw [pk_un e]
    refine ⟨r2, a1, a2, fun pl hp => ?_⟩
    rw [pk_un (by omega)]; exact a3 pl hp
theorem kr_wf_t (hw : kr_wf N L A) {k : Nat} (hk : k < N) (hL : L < 6) {z : Int32} : kr_wf N (L + 1) (kr_tA A L k z) := by
  obtain ⟨h1, h2, h3, h4⟩ := hw
  refine ⟨h1, by omega, h3, fun l hl => ?_⟩
  show ∃ r', r' ≤ 5 ∧ upd (A 5) L (nI (0 + 1)) l = nI r' ∧ ∀ pl, pl < r' → ∃ j, j < N ∧ upd (A 6) (5 * L + 0) (nI k) (5 * l + pl) = nI j
  by_cases e : l = L
  · subst e
    rw [pk_us]
    refine ⟨1, by omega, rfl, fun pl hp => ?_⟩
    rw [show pl = 0 by omega, pk_us]; exact ⟨k, hk, rfl⟩
  · obtain ⟨r2, a1, a2, a3⟩ := h4 l (by omega)
    rw [pk_un e]
    refine ⟨r2, a1, a2, fun pl hp => ?_⟩
    rw [pk_un (by omega)]; exact a3 pl hp
theorem kr_wf_p (hw : kr_wf N L A) (hq : q < L) {i : Nat} (hi : i ≤ kr_pr' A q ld) : kr_wf N L (kr_pB A q ld i) := by
  obtain ⟨hrc, er⟩ := hw.rc hq
  obtain ⟨p1, p2⟩ := kr_pr_le (ld := ld) hrc
  have hw0 := hw
  obtain ⟨h1, h2, h3, h4⟩ := hw
  refine ⟨h1, h2, h3, fun l hl => ?_⟩
  obtain ⟨r2, a1, a2, a3⟩ := h4 l hl
  show ∃ r', r' ≤ 5 ∧ upd (A 5) q (nI (kr_pr' A q ld)) l = nI r' ∧ ∀ pl, pl < r' → ∃ j, j < N ∧ kr_pf A q ld i (5 * l + pl) = nI j
  by_cases e : l = q
  · subst e
    rw [pk_us]
    refine ⟨kr_pr' A l ld, by omega, rfl, fun pl hp => ?_⟩
    unfold kr_pf
    by_cases hpi : pl < i
    · rw [if_pos (by omega)]
      exact kr_kn_of h1 (kr_fm_kn hw0 16 _ (hw0.tn hq (by omega))) (p2 pl hp).1
    · rw [if_neg (by omega)]
      exact hw0.tk hq (by omega)
  · rw [pk_un e]
    refine ⟨r2, a1, a2, fun pl hp => ?_⟩
    unfold kr_pf
    rw [if_neg (by omega)]; exact a3 pl hp
end KRP
section KRP2
variable {N L : Nat} {A : Nat → Nat → Int32} {ld : Int32} {q : Nat}
theorem kr_pB0n (h : kr_gw A q ld = -1) (er : A 5 q = nI (kr_rc A q)) : kr_pB A q ld 0 = A := by
  unfold kr_pB kr_pr'
  rw [if_pos h, ← er, kr_upd_id, kr_up_id, kr_pf_0, kr_up_id]
theorem kr_pB0y {g : Nat} (hg : g < 2 ^ 31) (h : kr_gw A q ld = nI g) : kr_pB A q ld 0 = kr_up A 5 (upd (A 5) q (nI g)) := by
  unfold kr_pB kr_pr'
  rw [h, if_neg (kr_kn_ne hg), kr_ix_nI hg, kr_pf_0]
  exact kr_up_id (kr_up A 5 (upd (A 5) q (nI g))) 6
theorem kr_pBs (i : Nat) : kr_up (kr_pB A q ld i) 6 (upd (kr_pB A q ld i 6) (5 * q + i) (kr_fm A ld 16 (A 6 (5 * q + i)))) = kr_pB A q ld (i + 1) := by
  rw [show kr_pB A q ld i 6 = kr_pf A q ld i from kr_upS _ 6 _, kr_pf_s]
  exact kr_up_tw _ 6 _ _
theorem kr_pB5 (i : Nat) : kr_pB A q ld i 5 q = nI (kr_pr' A q ld) := pk_us
theorem kr_pB6 (i : Nat) : kr_pB A q ld i 6 (5 * q + i) = A 6 (5 * q + i) := kr_pf_at i
theorem kr_pBf (i n : Nat) (x : Int32) : kr_fm (kr_pB A q ld i) ld n x = kr_fm A ld n x := kr_fm_cg (A := A) (A' := kr_pB A q ld i) (show kr_pB A q ld i 3 = A 3 from rfl) (show kr_pB A q ld i 4 = A 4 from rfl) n x
/-- tie, as the class does it and as the model does it -/
theorem kr_tA0 (L k : Nat) (z : Int32) : kr_jA (kr_up A 5 (upd (A 5) L 0)) L 0 k z = kr_tA A L k z := by
  unfold kr_tA kr_jA
  rw [show kr_up A 5 (upd (A 5) L 0) 6 = A 6 from rfl, show kr_up A 5 (upd (A 5) L 0) 7 = A 7 from rfl, show kr_up A 5 (upd (A 5) L 0) 5 = upd (A 5) L 0 from rfl, kr_upd_tw]
  rw [kr_up_sw A _ _ (show 5 ≠ 6 by decide), kr_up_sw (kr_up A 6 _) _ _ (show 5 ≠ 7 by decide), kr_up_tw]
end KRP2
end
section
set_option maxHeartbeats 4000000 in
set_option maxRecDepth 100000 in
theorem c_X0_appendRope (l : Launch) (D : va_G) (cy : ClassId) (h : Nat) (a : Nat → Nat) (N L : Nat) (A : Nat → Nat → Int32) (sz : Nat) (q r k : Nat) (z : Int32) (hq : q < 6) (hr5 : r < 5) (er : A 5 q = nI r) : Met l yX0_appendRope (Cond.code yX0_appendRope cX0_appendRope 5 none :: kr_all) ({ frames := 1, cells := 0, slots := 0, locals := 21 }) (va_Pc [.ref h, .int (nI q), .int (nI k), .int z] (kr_Rw D (kr_W0 cy h a N L A) cy sz)) (va_Qv (fun (_ : Unit) => True) (fun _ t => kr_Rq D (kr_W0 cy h a N L (kr_jA A q r k z)) cy (va_A (kr_W0 cy h a N L A) sz) t) (va_A (kr_W0 cy h a N L A) sz)) 0 0 (va_A (kr_W0 cy h a N L A) sz) := by
  refine kr_ofw (Qc := fun AA => va_Qv (fun (_ : Unit) => True) (fun _ t => kr_Rq D (kr_W0 cy h a N L (kr_jA A q r k z)) cy AA t) AA) (by decide) (Nat.le_of_ble_eq_true rfl) ?_
  intro p e s m below meth c ls AA hx hb hml hr hts hown hlocks hin hA hP hK hD hS hl
  have hown : s.vm.findClass RX0 = some m.cls := hown
  have hl : lv_has ls 5 [(0, .ref h), (1, .int (nI q)), (2, .int (nI k)), (3, .int z)] := hl
  refine lv_iload_n hx hb dX0_appendRope_0 rfl (lv_at hl 1 rfl) ?_
  refine lv_aload_n hx hb dX0_appendRope_1 rfl (lv_at hl 0 rfl) ?_
  refine va_get (ci := 0) (v := .ref (a 5)) (C := RX0) (T := TX0) (N := 10) hx hb hts kr_wsX0 hown hK hP 0 rfl rfl 6 (by decide) (hts _ kq_71) (fun _ h9 => h9) rfl dX0_appendRope_2 ?_
  refine lv_iload_n hx hb dX0_appendRope_5 rfl (lv_at hl 1 rfl) ?_
  refine kr_ald hx hb hK hP 6 0 rfl rfl q (by omega) (by decide) dX0_appendRope_6 ?_
  rw [er]
  refine kr_sI (n := 2) (As := [.int (nI q), .int (nI r)]) (rest := []) ⟨hx, hb, hml, hown, hts⟩ (c_X0_slot l q r) kg_RX0_97 ⟨rfl, rfl⟩ (by decide +kernel) ⟨Nat.le_of_ble_eq_true rfl, Nat.le_of_ble_eq_true rfl⟩ ⟨kr_blT, fun U hU hW => ⟨rfl, trivial⟩⟩ rfl hl.1 rfl (Nat.le_of_ble_eq_true rfl) dX0_appendRope_7 ⟨Nat.zero_le _, Nat.zero_le _⟩ (fun r9 e9 => ?_)
  subst e9
  refine lv_istore (lv' := [(4, .int (nI (5 * q + r))), (0, .ref h), (1, .int (nI q)), (2, .int (nI k)), (3, .int z)]) hx hb dX0_appendRope_10 hl (by decide) rfl (fun ls hl => ?_)
  refine lv_aload_n hx hb dX0_appendRope_12 rfl (lv_at hl 1 rfl) ?_
  refine va_get (ci := 0) (v := .ref (a 6)) (C := RX0) (T := TX0) (N := 10) hx hb hts kr_wsX0 hown hK hP 0 rfl rfl 8 (by decide) (hts _ kq_73) (fun _ h9 => h9) rfl dX0_appendRope_13 ?_
  refine lv_iload hx hb dX0_appendRope_16 (lv_at hl 0 rfl) ?_
  refine lv_iload_n hx hb dX0_appendRope_18 rfl (lv_at hl 3 rfl) ?_
  refine kr_ast hx hb hK hP hD hS 7 0 rfl rfl (5 * q + r) (by omega) (by decide) dX0_appendRope_19 (fun H locs hP hD hS => ?_)
  have hP : va_P D vwCl (kr_W0 cy h a N L (kr_up A 6 (upd (A 6) (5 * q + r) (nI k)))) H := hP
  have hD : va_D AA (kr_W0 cy h a N L (kr_up A 6 (upd (A 6) (5 * q + r) (nI k)))) := hD
  refine lv_aload_n hx hb dX0_appendRope_20 rfl (lv_at hl 1 rfl) ?_
  refine va_get (ci := 0) (v := .ref (a 7)) (C := RX0) (T := TX0) (N := 10) hx hb hts kr_wsX0 hown hK hP 0 rfl rfl 9 (by decide) (hts _ kq_74) (fun _ h9 => h9) rfl dX0_appendRope_21 ?_
  refine lv_iload hx hb dX0_appendRope_24 (lv_at hl 0 rfl) ?_
  refine lv_iload_n hx hb dX0_appendRope_26 rfl (lv_at hl 4 rfl) ?_
  refine kr_ast hx hb hK hP hD hS 8 0 rfl rfl (5 * q + r) (by omega) (by decide) dX0_appendRope_27 (fun H locs hP hD hS => ?_)
  have hP : va_P D vwCl (kr_W0 cy h a N L (kr_up (kr_up A 6 (upd (A 6) (5 * q + r) (nI k))) 7 (upd (A 7) (5 * q + r) z))) H := hP
  have hD : va_D AA (kr_W0 cy h a N L (kr_up (kr_up A 6 (upd (A 6) (5 * q + r) (nI k))) 7 (upd (A 7) (5 * q + r) z))) := hD
  refine lv_aload_n hx hb dX0_appendRope_28 rfl (lv_at hl 1 rfl) ?_
  refine va_get (ci := 0) (v := .ref (a 5)) (C := RX0) (T := TX0) (N := 10) hx hb hts kr_wsX0 hown hK hP 0 rfl rfl 6 (by decide) (hts _ kq_71) (fun _ h9 => h9) rfl dX0_appendRope_29 ?_
  refine lv_iload_n hx hb dX0_appendRope_32 rfl (lv_at hl 2 rfl) ?_
  refine lv_dup2_11 hx hb dX0_appendRope_33 rfl rfl ?_
  refine kr_ald hx hb hK hP 6 0 rfl rfl q (by omega) (by decide) dX0_appendRope_34 ?_
  show W _ _ _ _ _ _ _ _ _ _ _ _ _ _ _ (F0 _ _ _ (.int (A 5 q) :: _))
  rw [er]
  refine lv_iconst (v := 1) hx hb dX0_appendRope_35 (by decide) ?_
  refine kr_iaddN hx hb r 1 dX0_appendRope_36 ?_
  refine kr_ast hx hb hK hP hD hS 6 0 rfl rfl q (by omega) (by decide) dX0_appendRope_37 (fun H locs hP hD hS => ?_)
  have hP : va_P D vwCl (kr_W0 cy h a N L (kr_up (kr_up (kr_up A 6 (upd (A 6) (5 * q + r) (nI k))) 7 (upd (A 7) (5 * q + r) z)) 5 (upd (A 5) q (nI (r + 1))))) H := hP
  have hD : va_D AA (kr_W0 cy h a N L (kr_up (kr_up (kr_up A 6 (upd (A 6) (5 * q + r) (nI k))) 7 (upd (A 7) (5 * q + r) z)) 5 (upd (A 5) q (nI (r + 1))))) := hD
  exact kr_wV hx hb hr hlocks hP hK hD hS trivial dX0_appendRope_38
set_option maxHeartbeats 4000000 in
set_option maxRecDepth 100000 in
theorem c_X0_addKnot (l : Launch) (D : va_G) (cy : ClassId) (h : Nat) (a : Nat → Nat) (N L : Nat) (A : Nat → Nat → Int32) (sz : Nat) (x y z : Int32) (hx0 : x = 0 ∨ x = 1) (hy : ¬ y < 10 ∧ ¬ 100 < y) (hz : ¬ z < 1 ∧ ¬ 9 < z) (hN : N < 16) : Met l yX0_addKnot (Cond.code yX0_addKnot cX0_addKnot 5 (some .int) :: kr_all) ({ frames := 1, cells := 0, slots := 0, locals := 20 }) (va_Pc [.ref h, .int x, .int y, .int z] (kr_Rw D (kr_W0 cy h a N L A) cy sz)) (va_Qi (fun r (_ : Unit) => r = nI N) (fun _ t => kr_Rq D (kr_W0 cy h a (N + 1) L (kr_aA A N x y z)) cy (va_A (kr_W0 cy h a N L A) sz) t) (va_A (kr_W0 cy h a N L A) sz)) 0 0 (va_A (kr_W0 cy h a N L A) sz) := by
  refine kr_ofw (Qc := fun AA => va_Qi (fun r (_ : Unit) => r = nI N) (fun _ t => kr_Rq D (kr_W0 cy h a (N + 1) L (kr_aA A N x y z)) cy AA t) AA) (by decide) (Nat.le_of_ble_eq_true rfl) ?_
  intro p e s m below meth c ls AA hx hb hml hr hts hown hlocks hin hA hP hK hD hS hl
  have hown : s.vm.findClass RX0 = some m.cls := hown
  have hl : lv_has ls 5 [(0, .ref h), (1, .int x), (2, .int y), (3, .int z)] := hl
  refine lv_iload_n hx hb dX0_addKnot_0 rfl (lv_at hl 1 rfl) ?_
  refine kr_sV (n := 1) (As := [.int x]) (rest := []) ⟨hx, hb, hml, hown, hts⟩ (c_X0_checkKind l x (by assumption)) kg_RX0_41 ⟨rfl, rfl⟩ (by decide +kernel) ⟨Nat.le_of_ble_eq_true rfl, Nat.le_of_ble_eq_true rfl⟩ ⟨kr_blT, fun U hU hW => ⟨rfl, trivial⟩⟩ rfl hl.1 rfl (Nat.le_of_ble_eq_true rfl) dX0_addKnot_1 ⟨Nat.zero_le _, Nat.zero_le _⟩ ?_
  refine lv_iload_n hx hb dX0_addKnot_4 rfl (lv_at hl 2 rfl) ?_
  refine lv_bipush (v := 10) hx hb dX0_addKnot_5 (by decide) ?_
  refine lv_icmp_lt (tgt := 16) hx hb dX0_addKnot_7 (by decide) (fun c7 => absurd c7 hy.1) (fun c7 => ?_)
  refine lv_iload_n hx hb dX0_addKnot_10 rfl (lv_at hl 2 rfl) ?_
  refine lv_bipush (v := 100) hx hb dX0_addKnot_11 (by decide) ?_
  refine lv_icmp_le (tgt := 26) hx hb dX0_addKnot_13 (by decide) (fun c13 => ?_) (fun c13 => absurd (kr_nle2 c13) hy.2)
  refine lv_iload_n hx hb dX0_addKnot_26 rfl (lv_at hl 3 rfl) ?_
  refine lv_iconst (v := 1) hx hb dX0_addKnot_27 (by decide) ?_
  refine lv_icmp_lt (tgt := 37) hx hb dX0_addKnot_28 (by decide) (fun c28 => absurd c28 hz.1) (fun c28 => ?_)
  refine lv_iload_n hx hb dX0_addKnot_31 rfl (lv_at hl 3 rfl) ?_
  refine lv_bipush (v := 9) hx hb dX0_addKnot_32 (by decide) ?_
  refine lv_icmp_le (tgt := 47) hx hb dX0_addKnot_34 (by decide) (fun c34 => ?_) (fun c34 => absurd (kr_nle2 c34) hz.2)
  refine lv_aload_n hx hb dX0_addKnot_47 rfl (lv_at hl 0 rfl) ?_
  refine va_get (ci := 0) (v := .int (nI N)) (C := RX0) (T := TX0) (N := 10) hx hb hts kr_wsX0 hown hK hP 0 rfl rfl 5 (by decide) (hts _ kq_70) (fun _ h9 => h9) rfl dX0_addKnot_48 ?_
  refine lv_bipush (v := 16) hx hb dX0_addKnot_51 (by decide) ?_
  refine lv_icmp_lt (tgt := 66) hx hb dX0_addKnot_53 (by decide) (fun c53 => ?_) (fun c53 => absurd (nI_lt (b := 16) hN (by decide)) c53)
  refine lv_aload_n hx hb dX0_addKnot_66 rfl (lv_at hl 0 rfl) ?_
  refine va_get (ci := 0) (v := .int (nI N)) (C := RX0) (T := TX0) (N := 10) hx hb hts kr_wsX0 hown hK hP 0 rfl rfl 5 (by decide) (hts _ kq_70) (fun _ h9 => h9) rfl dX0_addKnot_67 ?_
  refine lv_istore (lv' := [(4, .int (nI N)), (0, .ref h), (1, .int x), (2, .int y), (3, .int z)]) hx hb dX0_addKnot_70 hl (by decide) rfl (fun ls hl => ?_)
  refine lv_aload_n hx hb dX0_addKnot_72 rfl (lv_at hl 1 rfl) ?_
  refine va_get (ci := 0) (v := .ref (a 0)) (C := RX0) (T := TX0) (N := 10) hx hb hts kr_wsX0 hown hK hP 0 rfl rfl 0 (by decide) (hts _ kq_65) (fun _ h9 => h9) rfl dX0_addKnot_73 ?_
  refine lv_iload hx hb dX0_addKnot_76 (lv_at hl 0 rfl) ?_
  refine lv_iload_n hx hb dX0_addKnot_78 rfl (lv_at hl 2 rfl) ?_
  refine kr_ast hx hb hK hP hD hS 1 0 rfl rfl N (by omega) (by decide) dX0_addKnot_79 (fun H locs hP hD hS => ?_)
  have hP : va_P D vwCl (kr_W0 cy h a N L (kr_up A 0 (upd (A 0) N x))) H := hP
  have hD : va_D AA (kr_W0 cy h a N L (kr_up A 0 (upd (A 0) N x))) := hD
  refine lv_aload_n hx hb dX0_addKnot_80 rfl (lv_at hl 1 rfl) ?_
  refine va_get (ci := 0) (v := .ref (a 1)) (C := RX0) (T := TX0) (N := 10) hx hb hts kr_wsX0 hown hK hP 0 rfl rfl 1 (by decide) (hts _ kq_66) (fun _ h9 => h9) rfl dX0_addKnot_81 ?_
  refine lv_iload hx hb dX0_addKnot_84 (lv_at hl 0 rfl) ?_
  refine lv_iload_n hx hb dX0_addKnot_86 rfl (lv_at hl 3 rfl) ?_
  refine kr_ast hx hb hK hP hD hS 2 0 rfl rfl N (by omega) (by decide) dX0_addKnot_87 (fun H locs hP hD hS => ?_)
  have hP : va_P D vwCl (kr_W0 cy h a N L (kr_up (kr_up A 0 (upd (A 0) N x)) 1 (upd (A 1) N y))) H := hP
  have hD : va_D AA (kr_W0 cy h a N L (kr_up (kr_up A 0 (upd (A 0) N x)) 1 (upd (A 1) N y))) := hD
  refine lv_aload_n hx hb dX0_addKnot_88 rfl (lv_at hl 1 rfl) ?_
  refine va_get (ci := 0) (v := .ref (a 2)) (C := RX0) (T := TX0) (N := 10) hx hb hts kr_wsX0 hown hK hP 0 rfl rfl 2 (by decide) (hts _ kq_67) (fun _ h9 => h9) rfl dX0_addKnot_89 ?_
  refine lv_iload hx hb dX0_addKnot_92 (lv_at hl 0 rfl) ?_
  refine lv_iload_n hx hb dX0_addKnot_94 rfl (lv_at hl 4 rfl) ?_
  refine kr_ast hx hb hK hP hD hS 3 0 rfl rfl N (by omega) (by decide) dX0_addKnot_95 (fun H locs hP hD hS => ?_)
  have hP : va_P D vwCl (kr_W0 cy h a N L (kr_up (kr_up (kr_up A 0 (upd (A 0) N x)) 1 (upd (A 1) N y)) 2 (upd (A 2) N z))) H := hP
  have hD : va_D AA (kr_W0 cy h a N L (kr_up (kr_up (kr_up A 0 (upd (A 0) N x)) 1 (upd (A 1) N y)) 2 (upd (A 2) N z))) := hD
  refine lv_aload_n hx hb dX0_addKnot_96 rfl (lv_at hl 1 rfl) ?_
  refine va_get (ci := 0) (v := .ref (a 3)) (C := RX0) (T := TX0) (N := 10) hx hb hts kr_wsX0 hown hK hP 0 rfl rfl 3 (by decide) (hts _ kq_68) (fun _ h9 => h9) rfl dX0_addKnot_97 ?_
  refine lv_iload hx hb dX0_addKnot_100 (lv_at hl 0 rfl) ?_
  refine lv_iconst (v := 0) hx hb dX0_addKnot_102 (by decide) ?_
  refine kr_ast hx hb hK hP hD hS 4 0 rfl rfl N (by omega) (by decide) dX0_addKnot_103 (fun H locs hP hD hS => ?_)
  have hP : va_P D vwCl (kr_W0 cy h a N L (kr_up (kr_up (kr_up (kr_up A 0 (upd (A 0) N x)) 1 (upd (A 1) N y)) 2 (upd (A 2) N z)) 3 (upd (A 3) N 0))) H := hP
  have hD : va_D AA (kr_W0 cy h a N L (kr_up (kr_up (kr_up (kr_up A 0 (upd (A 0) N x)) 1 (upd (A 1) N y)) 2 (upd (A 2) N z)) 3 (upd (A 3) N 0))) := hD
  refine lv_aload_n hx hb dX0_addKnot_104 rfl (lv_at hl 1 rfl) ?_
  refine va_get (ci := 0) (v := .ref (a 4)) (C := RX0) (T := TX0) (N := 10) hx hb hts kr_wsX0 hown hK hP 0 rfl rfl 4 (by decide) (hts _ kq_69) (fun _ h9 => h9) rfl dX0_addKnot_105 ?_
  refine lv_iload hx hb dX0_addKnot_108 (lv_at hl 0 rfl) ?_
  refine lv_iconst (v := -1) hx hb dX0_addKnot_110 (by decide) ?_
  refine kr_ast hx hb hK hP hD hS 5 0 rfl rfl N (by omega) (by decide) dX0_addKnot_111 (fun H locs hP hD hS => ?_)
  have hP : va_P D vwCl (kr_W0 cy h a N L (kr_up (kr_up (kr_up (kr_up (kr_up A 0 (upd (A 0) N x)) 1 (upd (A 1) N y)) 2 (upd (A 2) N z)) 3 (upd (A 3) N 0)) 4 (upd (A 4) N (-1)))) H := hP
  have hD : va_D AA (kr_W0 cy h a N L (kr_up (kr_up (kr_up (kr_up (kr_up A 0 (upd (A 0) N x)) 1 (upd (A 1) N y)) 2 (upd (A 2) N z)) 3 (upd (A 3) N 0)) 4 (upd (A 4) N (-1)))) := hD
  refine lv_aload_n hx hb dX0_addKnot_112 rfl (lv_at hl 1 rfl) ?_
  refine lv_iload hx hb dX0_addKnot_113 (lv_at hl 0 rfl) ?_
  refine lv_iconst (v := 1) hx hb dX0_addKnot_115 (by decide) ?_
  refine kr_iaddN hx hb N 1 dX0_addKnot_116 ?_
  refine va_put (ci := 0) (v := .int (nI (N + 1))) (ty := .int) (C := RX0) (T := TX0) (N := 10) hx hb hts kr_wsX0 tyX0 tyX0_ok nmX0 hown hK hP hD hS 0 rfl rfl 5 (by decide) (hts _ kq_70) (fun _ h9 => h9) rfl (by decide +kernel) rfl rfl (Nat.le_of_ble_eq_true rfl) dX0_addKnot_117 (fun H locs hP hD hS => ?_)
  have hP : va_P D vwCl (kr_W0 cy h a (N + 1) L (kr_up (kr_up (kr_up (kr_up (kr_up A 0 (upd (A 0) N x)) 1 (upd (A 1) N y)) 2 (upd (A 2) N z)) 3 (upd (A 3) N 0)) 4 (upd (A 4) N (-1)))) H := hP
  have hD : va_D AA (kr_W0 cy h a (N + 1) L (kr_up (kr_up (kr_up (kr_up (kr_up A 0 (upd (A 0) N x)) 1 (upd (A 1) N y)) 2 (upd (A 2) N z)) 3 (upd (A 3) N 0)) 4 (upd (A 4) N (-1)))) := hD
  refine lv_iload hx hb dX0_addKnot_120 (lv_at hl 0 rfl) ?_
  exact kr_wI hx hb hr hlocks hP hK hD hS rfl dX0_addKnot_122
set_option maxHeartbeats 4000000 in
set_option maxRecDepth 100000 in
theorem c_X0_setSpill (l : Launch) (D : va_G) (cy : ClassId) (h : Nat) (a : Nat → Nat) (N L : Nat) (A : Nat → Nat → Int32) (sz : Nat) (k : Nat) (y z : Int32) (hN : N ≤ 16) (hk : k < N) (hy : ¬ y < 1 ∧ ¬ 999 < y) (hz : ¬ z < -1 ∧ z < nI k) (hz2 : z = -1 ∨ ∃ j, j < k ∧ z = nI j ∧ A 0 j = A 0 k) : Met l yX0_setSpill (Cond.code yX0_setSpill cX0_setSpill 5 (some .int) :: kr_all) ({ frames := 2, cells := 0, slots := 0, locals := 42 }) (va_Pc [.ref h, .int (nI k), .int y, .int z] (kr_Rw D (kr_W0 cy h a N L A) cy sz)) (va_Qi (fun r (_ : Unit) => r = A 3 k) (fun _ t => kr_Rq D (kr_W0 cy h a N L (kr_sA A k y z)) cy (va_A (kr_W0 cy h a N L A) sz) t) (va_A (kr_W0 cy h a N L A) sz)) 0 0 (va_A (kr_W0 cy h a N L A) sz) := by
  refine kr_ofw (Qc := fun AA => va_Qi (fun r (_ : Unit) => r = A 3 k) (fun _ t => kr_Rq D (kr_W0 cy h a N L (kr_sA A k y z)) cy AA t) AA) (by decide) (Nat.le_of_ble_eq_true rfl) ?_
  intro p e s m below meth c ls AA hx hb hml hr hts hown hlocks hin hA hP hK hD hS hl
  have hown : s.vm.findClass RX0 = some m.cls := hown
  have hl : lv_has ls 5 [(0, .ref h), (1, .int (nI k)), (2, .int y), (3, .int z)] := hl
  refine lv_aload_n hx hb dX0_setSpill_0 rfl (lv_at hl 0 rfl) ?_
  refine lv_iload_n hx hb dX0_setSpill_1 rfl (lv_at hl 1 rfl) ?_
  refine kr_vV (n := 1) (As := [.int (nI k)]) (rest := []) ⟨hx, hb, hml, hown, hts⟩ (c_X0_checkKnot l D cy h a N L A k (by omega) (by omega)) kg_RX0_59 ⟨rfl, rfl⟩ (by decide +kernel) ⟨Nat.le_of_ble_eq_true rfl, Nat.le_of_ble_eq_true rfl⟩ (kr_pv0 hP hK) rfl hl.1 rfl (Nat.le_of_ble_eq_true rfl) dX0_setSpill_2 ⟨Nat.zero_le _, Nat.zero_le _⟩ ?_
  refine lv_iload_n hx hb dX0_setSpill_5 rfl (lv_at hl 2 rfl) ?_
  refine kr_sV (n := 1) (As := [.int y]) (rest := []) ⟨hx, hb, hml, hown, hts⟩ (c_X0_checkLoad l y (by assumption)) kg_RX0_62 ⟨rfl, rfl⟩ (by decide +kernel) ⟨Nat.le_of_ble_eq_true rfl, Nat.le_of_ble_eq_true rfl⟩ ⟨kr_blT, fun U hU hW => ⟨rfl, trivial⟩⟩ rfl hl.1 rfl (Nat.le_of_ble_eq_true rfl) dX0_setSpill_6 ⟨Nat.zero_le _, Nat.zero_le _⟩ ?_
  refine lv_iload_n hx hb dX0_setSpill_9 rfl (lv_at hl 3 rfl) ?_
  refine lv_iconst (v := -1) hx hb dX0_setSpill_10 (by decide) ?_
  refine lv_icmp_lt (tgt := 19) hx hb dX0_setSpill_11 (by decide) (fun c11 => absurd c11 hz.1) (fun c11 => ?_)
  refine lv_iload_n hx hb dX0_setSpill_14 rfl (lv_at hl 3 rfl) ?_
  refine lv_iload_n hx hb dX0_setSpill_15 rfl (lv_at hl 1 rfl) ?_
  refine lv_icmp_lt (tgt := 29) hx hb dX0_setSpill_16 (by decide) (fun c16 => ?_) (fun c16 => absurd hz.2 c16)
  refine lv_iload_n hx hb dX0_setSpill_29 rfl (lv_at hl 3 rfl) ?_
  refine lv_iconst (v := -1) hx hb dX0_setSpill_30 (by decide) ?_
  refine lv_icmp_eq (tgt := 59) hx hb dX0_setSpill_31 (by decide) (fun c31 => ?_) (fun c31 => ?_)
  · refine lv_aload_n hx hb dX0_setSpill_59 rfl (lv_at hl 0 rfl) ?_
    refine va_get (ci := 0) (v := .ref (a 3)) (C := RX0) (T := TX0) (N := 10) hx hb hts kr_wsX0 hown hK hP 0 rfl rfl 3 (by decide) (hts _ kq_68) (fun _ h9 => h9) rfl dX0_setSpill_60 ?_
    refine lv_iload_n hx hb dX0_setSpill_63 rfl (lv_at hl 1 rfl) ?_
    refine kr_ald hx hb hK hP 4 0 rfl rfl k (by omega) (by decide) dX0_setSpill_64 ?_
    refine lv_istore (lv' := [(4, .int (A 3 k)), (0, .ref h), (1, .int (nI k)), (2, .int y), (3, .int z)]) hx hb dX0_setSpill_65 hl (by decide) rfl (fun ls hl => ?_)
    refine lv_aload_n hx hb dX0_setSpill_67 rfl (lv_at hl 1 rfl) ?_
    refine va_get (ci := 0) (v := .ref (a 3)) (C := RX0) (T := TX0) (N := 10) hx hb hts kr_wsX0 hown hK hP 0 rfl rfl 3 (by decide) (hts _ kq_68) (fun _ h9 => h9) rfl dX0_setSpill_68 ?_
    refine lv_iload_n hx hb dX0_setSpill_71 rfl (lv_at hl 2 rfl) ?_
    refine lv_iload_n hx hb dX0_setSpill_72 rfl (lv_at hl 3 rfl) ?_
    refine kr_ast hx hb hK hP hD hS 4 0 rfl rfl k (by omega) (by decide) dX0_setSpill_73 (fun H locs hP hD hS => ?_)
    have hP : va_P D vwCl (kr_W0 cy h a N L (kr_up A 3 (upd (A 3) k y))) H := hP
    have hD : va_D AA (kr_W0 cy h a N L (kr_up A 3 (upd (A 3) k y))) := hD
    refine lv_aload_n hx hb dX0_setSpill_74 rfl (lv_at hl 1 rfl) ?_
    refine va_get (ci := 0) (v := .ref (a 4)) (C := RX0) (T := TX0) (N := 10) hx hb hts kr_wsX0 hown hK hP 0 rfl rfl 4 (by decide) (hts _ kq_69) (fun _ h9 => h9) rfl dX0_setSpill_75 ?_
    refine lv_iload_n hx hb dX0_setSpill_78 rfl (lv_at hl 2 rfl) ?_
    refine lv_iload_n hx hb dX0_setSpill_79 rfl (lv_at hl 4 rfl) ?_
    refine kr_ast hx hb hK hP hD hS 5 0 rfl rfl k (by omega) (by decide) dX0_setSpill_80 (fun H locs hP hD hS => ?_)
    have hP : va_P D vwCl (kr_W0 cy h a N L (kr_up (kr_up A 3 (upd (A 3) k y)) 4 (upd (A 4) k z))) H := hP
    have hD : va_D AA (kr_W0 cy h a N L (kr_up (kr_up A 3 (upd (A 3) k y)) 4 (upd (A 4) k z))) := hD
    refine lv_iload hx hb dX0_setSpill_81 (lv_at hl 0 rfl) ?_
    exact kr_wI hx hb hr hlocks hP hK hD hS rfl dX0_setSpill_83
  · obtain ⟨j, hj, rfl, ej⟩ := hz2.resolve_left c31
    refine lv_aload_n hx hb dX0_setSpill_34 rfl (lv_at hl 0 rfl) ?_
    refine va_get (ci := 0) (v := .ref (a 0)) (C := RX0) (T := TX0) (N := 10) hx hb hts kr_wsX0 hown hK hP 0 rfl rfl 0 (by decide) (hts _ kq_65) (fun _ h9 => h9) rfl dX0_setSpill_35 ?_
    refine lv_iload_n hx hb dX0_setSpill_38 rfl (lv_at hl 3 rfl) ?_
    refine kr_ald hx hb hK hP 1 0 rfl rfl j (by omega) (by decide) dX0_setSpill_39 ?_
    refine lv_aload_n hx hb dX0_setSpill_40 rfl (lv_at hl 0 rfl) ?_
    refine va_get (ci := 0) (v := .ref (a 0)) (C := RX0) (T := TX0) (N := 10) hx hb hts kr_wsX0 hown hK hP 0 rfl rfl 0 (by decide) (hts _ kq_65) (fun _ h9 => h9) rfl dX0_setSpill_41 ?_
    refine lv_iload_n hx hb dX0_setSpill_44 rfl (lv_at hl 1 rfl) ?_
    refine kr_ald hx hb hK hP 1 0 rfl rfl k (by omega) (by decide) dX0_setSpill_45 ?_
    refine lv_icmp_eq (tgt := 59) hx hb dX0_setSpill_46 (by decide) (fun c46 => ?_) (fun c46 => absurd ej c46)
    refine lv_aload_n hx hb dX0_setSpill_59 rfl (lv_at hl 0 rfl) ?_
    refine va_get (ci := 0) (v := .ref (a 3)) (C := RX0) (T := TX0) (N := 10) hx hb hts kr_wsX0 hown hK hP 0 rfl rfl 3 (by decide) (hts _ kq_68) (fun _ h9 => h9) rfl dX0_setSpill_60 ?_
    refine lv_iload_n hx hb dX0_setSpill_63 rfl (lv_at hl 1 rfl) ?_
    refine kr_ald hx hb hK hP 4 0 rfl rfl k (by omega) (by decide) dX0_setSpill_64 ?_
    refine lv_istore (lv' := [(4, .int (A 3 k)), (0, .ref h), (1, .int (nI k)), (2, .int y), (3, .int (nI j))]) hx hb dX0_setSpill_65 hl (by decide) rfl (fun ls hl => ?_)
    refine lv_aload_n hx hb dX0_setSpill_67 rfl (lv_at hl 1 rfl) ?_
    refine va_get (ci := 0) (v := .ref (a 3)) (C := RX0) (T := TX0) (N := 10) hx hb hts kr_wsX0 hown hK hP 0 rfl rfl 3 (by decide) (hts _ kq_68) (fun _ h9 => h9) rfl dX0_setSpill_68 ?_
    refine lv_iload_n hx hb dX0_setSpill_71 rfl (lv_at hl 2 rfl) ?_
    refine lv_iload_n hx hb dX0_setSpill_72 rfl (lv_at hl 3 rfl) ?_
    refine kr_ast hx hb hK hP hD hS 4 0 rfl rfl k (by omega) (by decide) dX0_setSpill_73 (fun H locs hP hD hS => ?_)
    have hP : va_P D vwCl (kr_W0 cy h a N L (kr_up A 3 (upd (A 3) k y))) H := hP
    have hD : va_D AA (kr_W0 cy h a N L (kr_up A 3 (upd (A 3) k y))) := hD
    refine lv_aload_n hx hb dX0_setSpill_74 rfl (lv_at hl 1 rfl) ?_
    refine va_get (ci := 0) (v := .ref (a 4)) (C := RX0) (T := TX0) (N := 10) hx hb hts kr_wsX0 hown hK hP 0 rfl rfl 4 (by decide) (hts _ kq_69) (fun _ h9 => h9) rfl dX0_setSpill_75 ?_
    refine lv_iload_n hx hb dX0_setSpill_78 rfl (lv_at hl 2 rfl) ?_
    refine lv_iload_n hx hb dX0_setSpill_79 rfl (lv_at hl 4 rfl) ?_
    refine kr_ast hx hb hK hP hD hS 5 0 rfl rfl k (by omega) (by decide) dX0_setSpill_80 (fun H locs hP hD hS => ?_)
    have hP : va_P D vwCl (kr_W0 cy h a N L (kr_up (kr_up A 3 (upd (A 3) k y)) 4 (upd (A 4) k (nI j)))) H := hP
    have hD : va_D AA (kr_W0 cy h a N L (kr_up (kr_up A 3 (upd (A 3) k y)) 4 (upd (A 4) k (nI j)))) := hD
    refine lv_iload hx hb dX0_setSpill_81 (lv_at hl 0 rfl) ?_
    exact kr_wI hx hb hr hlocks hP hK hD hS rfl dX0_setSpill_83
theorem kg_RX0_78 : GoodIn kr_all (wsV RX0 78 RX0 yX0_appendRope (Cond.code yX0_appendRope cX0_appendRope 5 none :: kr_all)) := kr_gV kq_380 kq_382 kq_15 kq_48 kq_383
set_option maxHeartbeats 4000000 in
set_option maxRecDepth 100000 in
theorem c_X0_tie (l : Launch) (D : va_G) (cy : ClassId) (h : Nat) (a : Nat → Nat) (N L : Nat) (A : Nat → Nat → Int32) (sz : Nat) (k : Nat) (z : Int32) (hN : N ≤ 16) (hk : k < N) (he : A 0 k = 1) (hz : ¬ z < 1 ∧ ¬ 999 < z) (hL : L < 6) : Met l yX0_tie (Cond.code yX0_tie cX0_tie 4 (some .int) :: kr_all) ({ frames := 2, cells := 0, slots := 0, locals := 45 }) (va_Pc [.ref h, .int (nI k), .int z] (kr_Rw D (kr_W0 cy h a N L A) cy sz)) (va_Qi (fun r (_ : Unit) => r = nI L) (fun _ t => kr_Rq D (kr_W0 cy h a N (L + 1) (kr_tA A L k z)) cy (va_A (kr_W0 cy h a N L A) sz) t) (va_A (kr_W0 cy h a N L A) sz)) 0 0 (va_A (kr_W0 cy h a N L A) sz) := by
  refine kr_ofw (Qc := fun AA => va_Qi (fun r (_ : Unit) => r = nI L) (fun _ t => kr_Rq D (kr_W0 cy h a N (L + 1) (kr_tA A L k z)) cy AA t) AA) (by decide) (Nat.le_of_ble_eq_true rfl) ?_
  intro p e s m below meth c ls AA hx hb hml hr hts hown hlocks hin hA hP hK hD hS hl
  have hown : s.vm.findClass RX0 = some m.cls := hown
  have hl : lv_has ls 4 [(0, .ref h), (1, .int (nI k)), (2, .int z)] := hl
  refine lv_aload_n hx hb dX0_tie_0 rfl (lv_at hl 0 rfl) ?_
  refine lv_iload_n hx hb dX0_tie_1 rfl (lv_at hl 1 rfl) ?_
  refine kr_vV (n := 1) (As := [.int (nI k)]) (rest := []) ⟨hx, hb, hml, hown, hts⟩ (c_X0_checkKnot l D cy h a N L A k (by omega) (by omega)) kg_RX0_59 ⟨rfl, rfl⟩ (by decide +kernel) ⟨Nat.le_of_ble_eq_true rfl, Nat.le_of_ble_eq_true rfl⟩ (kr_pv0 hP hK) rfl hl.1 rfl (Nat.le_of_ble_eq_true rfl) dX0_tie_2 ⟨Nat.zero_le _, Nat.zero_le _⟩ ?_
  refine lv_aload_n hx hb dX0_tie_5 rfl (lv_at hl 0 rfl) ?_
  refine lv_iload_n hx hb dX0_tie_6 rfl (lv_at hl 1 rfl) ?_
  refine lv_iconst (v := 1) hx hb dX0_tie_7 (by decide) ?_
  refine kr_vV (n := 2) (As := [.int (nI k), .int 1]) (rest := []) ⟨hx, hb, hml, hown, hts⟩ (c_X0_checkOfKind l D cy h a N L A k 1 (by omega) (by assumption)) kg_RX0_69 ⟨rfl, rfl⟩ (by decide +kernel) ⟨Nat.le_of_ble_eq_true rfl, Nat.le_of_ble_eq_true rfl⟩ (kr_pv0 hP hK) rfl hl.1 rfl (Nat.le_of_ble_eq_true rfl) dX0_tie_8 ⟨Nat.zero_le _, Nat.zero_le _⟩ ?_
  refine lv_iload_n hx hb dX0_tie_11 rfl (lv_at hl 2 rfl) ?_
  refine kr_sV (n := 1) (As := [.int z]) (rest := []) ⟨hx, hb, hml, hown, hts⟩ (c_X0_checkStrength l z (by assumption)) kg_RX0_73 ⟨rfl, rfl⟩ (by decide +kernel) ⟨Nat.le_of_ble_eq_true rfl, Nat.le_of_ble_eq_true rfl⟩ ⟨kr_blT, fun U hU hW => ⟨rfl, trivial⟩⟩ rfl hl.1 rfl (Nat.le_of_ble_eq_true rfl) dX0_tie_12 ⟨Nat.zero_le _, Nat.zero_le _⟩ ?_
  refine lv_aload_n hx hb dX0_tie_15 rfl (lv_at hl 0 rfl) ?_
  refine va_get (ci := 0) (v := .int (nI L)) (C := RX0) (T := TX0) (N := 10) hx hb hts kr_wsX0 hown hK hP 0 rfl rfl 7 (by decide) (hts _ kq_72) (fun _ h9 => h9) rfl dX0_tie_16 ?_
  refine lv_bipush (v := 6) hx hb dX0_tie_19 (by decide) ?_
  refine lv_icmp_lt (tgt := 34) hx hb dX0_tie_21 (by decide) (fun c21 => ?_) (fun c21 => absurd (nI_lt (b := 6) hL (by decide)) c21)
  refine lv_aload_n hx hb dX0_tie_34 rfl (lv_at hl 0 rfl) ?_
  refine va_get (ci := 0) (v := .int (nI L)) (C := RX0) (T := TX0) (N := 10) hx hb hts kr_wsX0 hown hK hP 0 rfl rfl 7 (by decide) (hts _ kq_72) (fun _ h9 => h9) rfl dX0_tie_35 ?_
  refine lv_istore_n (lv' := [(3, .int (nI L)), (0, .ref h), (1, .int (nI k)), (2, .int z)]) hx hb dX0_tie_38 rfl hl (by decide) rfl (fun ls hl => ?_)
  refine lv_aload_n hx hb dX0_tie_39 rfl (lv_at hl 1 rfl) ?_
  refine lv_iload_n hx hb dX0_tie_40 rfl (lv_at hl 0 rfl) ?_
  refine lv_iconst (v := 1) hx hb dX0_tie_41 (by decide) ?_
  refine kr_iaddN hx hb L 1 dX0_tie_42 ?_
  refine va_put (ci := 0) (v := .int (nI (L + 1))) (ty := .int) (C := RX0) (T := TX0) (N := 10) hx hb hts kr_wsX0 tyX0 tyX0_ok nmX0 hown hK hP hD hS 0 rfl rfl 7 (by decide) (hts _ kq_72) (fun _ h9 => h9) rfl (by decide +kernel) rfl rfl (Nat.le_of_ble_eq_true rfl) dX0_tie_43 (fun H locs hP hD hS => ?_)
  have hP : va_P D vwCl (kr_W0 cy h a N (L + 1) A) H := hP
  have hD : va_D AA (kr_W0 cy h a N (L + 1) A) := hD
  refine lv_aload_n hx hb dX0_tie_46 rfl (lv_at hl 1 rfl) ?_
  refine va_get (ci := 0) (v := .ref (a 5)) (C := RX0) (T := TX0) (N := 10) hx hb hts kr_wsX0 hown hK hP 0 rfl rfl 6 (by decide) (hts _ kq_71) (fun _ h9 => h9) rfl dX0_tie_47 ?_
  refine lv_iload_n hx hb dX0_tie_50 rfl (lv_at hl 0 rfl) ?_
  refine lv_iconst (v := 0) hx hb dX0_tie_51 (by decide) ?_
  refine kr_ast hx hb hK hP hD hS 6 0 rfl rfl L (by omega) (by decide) dX0_tie_52 (fun H locs hP hD hS => ?_)
  have hP : va_P D vwCl (kr_W0 cy h a N (L + 1) (kr_up A 5 (upd (A 5) L 0))) H := hP
  have hD : va_D AA (kr_W0 cy h a N (L + 1) (kr_up A 5 (upd (A 5) L 0))) := hD
  refine lv_aload_n hx hb dX0_tie_53 rfl (lv_at hl 1 rfl) ?_
  refine lv_iload_n hx hb dX0_tie_54 rfl (lv_at hl 0 rfl) ?_
  refine lv_iload_n hx hb dX0_tie_55 rfl (lv_at hl 2 rfl) ?_
  refine lv_iload_n hx hb dX0_tie_56 rfl (lv_at hl 3 rfl) ?_
  refine kr_wvV (n := 3) (As := [.int (nI L), .int (nI k), .int z]) (rest := []) ⟨hx, hb, hml, hown, hts⟩ (c_X0_appendRope l D cy h a N (L + 1) (kr_up A 5 (upd (A 5) L 0)) H.size L 0 k z (by omega) (by omega) pk_us) kg_RX0_78 ⟨rfl, rfl⟩ (by decide +kernel) ⟨Nat.le_of_ble_eq_true rfl, Nat.le_of_ble_eq_true rfl⟩ (va_recv hK hP (ci := 0) (q0 := 0) rfl rfl) hP hK hD hS hA rfl hl.1 rfl (Nat.le_of_ble_eq_true rfl) dX0_tie_57 ⟨Nat.le_of_ble_eq_true rfl, Nat.le_of_ble_eq_true rfl⟩ (fun u9 H locs e9 hP hD hS => ?_)
  rw [show kr_jA (kr_up A 5 (upd (A 5) L 0)) L 0 k z = kr_tA A L k z from kr_tA0 L k z] at hP hD
  refine lv_iload_n hx hb dX0_tie_60 rfl (lv_at hl 0 rfl) ?_
  exact kr_wI hx hb hr hlocks hP hK hD hS rfl dX0_tie_61
set_option maxHeartbeats 4000000 in
set_option maxRecDepth 100000 in
theorem c_X0_join (l : Launch) (D : va_G) (cy : ClassId) (h : Nat) (a : Nat → Nat) (N L : Nat) (A : Nat → Nat → Int32) (sz : Nat) (q r0 k : Nat) (z : Int32) (hN : N ≤ 16) (hL : L ≤ 6) (hq : q < L) (hk : k < N) (he : A 0 k = 0) (hz : ¬ z < 1 ∧ ¬ 999 < z) (er : A 5 q = nI r0) (hr0 : 0 < r0) (hr5 : r0 < 5) : Met l yX0_join (Cond.code yX0_join cX0_join 4 (some .int) :: kr_all) ({ frames := 2, cells := 0, slots := 0, locals := 45 }) (va_Pc [.ref h, .int (nI q), .int (nI k), .int z] (kr_Rw D (kr_W0 cy h a N L A) cy sz)) (va_Qi (fun r (_ : Unit) => r = nI (r0 + 1)) (fun _ t => kr_Rq D (kr_W0 cy h a N L (kr_jA A q r0 k z)) cy (va_A (kr_W0 cy h a N L A) sz) t) (va_A (kr_W0 cy h a N L A) sz)) 0 0 (va_A (kr_W0 cy h a N L A) sz) := by
  refine kr_ofw (Qc := fun AA => va_Qi (fun r (_ : Unit) => r = nI (r0 + 1)) (fun _ t => kr_Rq D (kr_W0 cy h a N L (kr_jA A q r0 k z)) cy AA t) AA) (by decide) (Nat.le_of_ble_eq_true rfl) ?_
  intro p e s m below meth c ls AA hx hb hml hr hts hown hlocks hin hA hP hK hD hS hl
  have hown : s.vm.findClass RX0 = some m.cls := hown
  have hl : lv_has ls 4 [(0, .ref h), (1, .int (nI q)), (2, .int (nI k)), (3, .int z)] := hl
  have hg : ¬ A 5 q = 0 := by rw [er]; exact nI_ne0 hr0 (by omega)
  refine lv_aload_n hx hb dX0_join_0 rfl (lv_at hl 0 rfl) ?_
  refine lv_iload_n hx hb dX0_join_1 rfl (lv_at hl 1 rfl) ?_
  refine kr_vV (n := 1) (As := [.int (nI q)]) (rest := []) ⟨hx, hb, hml, hown, hts⟩ (c_X0_checkLine l D cy h a N L A q (by omega) (by omega)) kg_RX0_82 ⟨rfl, rfl⟩ (by decide +kernel) ⟨Nat.le_of_ble_eq_true rfl, Nat.le_of_ble_eq_true rfl⟩ (kr_pv0 hP hK) rfl hl.1 rfl (Nat.le_of_ble_eq_true rfl) dX0_join_2 ⟨Nat.zero_le _, Nat.zero_le _⟩ ?_
  refine lv_aload_n hx hb dX0_join_5 rfl (lv_at hl 0 rfl) ?_
  refine lv_iload_n hx hb dX0_join_6 rfl (lv_at hl 2 rfl) ?_
  refine kr_vV (n := 1) (As := [.int (nI k)]) (rest := []) ⟨hx, hb, hml, hown, hts⟩ (c_X0_checkKnot l D cy h a N L A k (by omega) (by omega)) kg_RX0_59 ⟨rfl, rfl⟩ (by decide +kernel) ⟨Nat.le_of_ble_eq_true rfl, Nat.le_of_ble_eq_true rfl⟩ (kr_pv0 hP hK) rfl hl.1 rfl (Nat.le_of_ble_eq_true rfl) dX0_join_7 ⟨Nat.zero_le _, Nat.zero_le _⟩ ?_
  refine lv_aload_n hx hb dX0_join_10 rfl (lv_at hl 0 rfl) ?_
  refine lv_iload_n hx hb dX0_join_11 rfl (lv_at hl 2 rfl) ?_
  refine lv_iconst (v := 0) hx hb dX0_join_12 (by decide) ?_
  refine kr_vV (n := 2) (As := [.int (nI k), .int 0]) (rest := []) ⟨hx, hb, hml, hown, hts⟩ (c_X0_checkOfKind l D cy h a N L A k 0 (by omega) (by assumption)) kg_RX0_69 ⟨rfl, rfl⟩ (by decide +kernel) ⟨Nat.le_of_ble_eq_true rfl, Nat.le_of_ble_eq_true rfl⟩ (kr_pv0 hP hK) rfl hl.1 rfl (Nat.le_of_ble_eq_true rfl) dX0_join_13 ⟨Nat.zero_le _, Nat.zero_le _⟩ ?_
  refine lv_iload_n hx hb dX0_join_16 rfl (lv_at hl 3 rfl) ?_
  refine kr_sV (n := 1) (As := [.int z]) (rest := []) ⟨hx, hb, hml, hown, hts⟩ (c_X0_checkStrength l z (by assumption)) kg_RX0_73 ⟨rfl, rfl⟩ (by decide +kernel) ⟨Nat.le_of_ble_eq_true rfl, Nat.le_of_ble_eq_true rfl⟩ ⟨kr_blT, fun U hU hW => ⟨rfl, trivial⟩⟩ rfl hl.1 rfl (Nat.le_of_ble_eq_true rfl) dX0_join_17 ⟨Nat.zero_le _, Nat.zero_le _⟩ ?_
  refine lv_aload_n hx hb dX0_join_20 rfl (lv_at hl 0 rfl) ?_
  refine lv_iload_n hx hb dX0_join_21 rfl (lv_at hl 1 rfl) ?_
  refine kr_vV (n := 1) (As := [.int (nI q)]) (rest := []) ⟨hx, hb, hml, hown, hts⟩ (c_X0_checkNotGone l D cy h a N L A q (by omega) (by assumption)) kg_RX0_85 ⟨rfl, rfl⟩ (by decide +kernel) ⟨Nat.le_of_ble_eq_true rfl, Nat.le_of_ble_eq_true rfl⟩ (kr_pv0 hP hK) rfl hl.1 rfl (Nat.le_of_ble_eq_true rfl) dX0_join_22 ⟨Nat.zero_le _, Nat.zero_le _⟩ ?_
  refine lv_aload_n hx hb dX0_join_25 rfl (lv_at hl 0 rfl) ?_
  refine va_get (ci := 0) (v := .ref (a 5)) (C := RX0) (T := TX0) (N := 10) hx hb hts kr_wsX0 hown hK hP 0 rfl rfl 6 (by decide) (hts _ kq_71) (fun _ h9 => h9) rfl dX0_join_26 ?_
  refine lv_iload_n hx hb dX0_join_29 rfl (lv_at hl 1 rfl) ?_
  refine kr_ald hx hb hK hP 6 0 rfl rfl q (by omega) (by decide) dX0_join_30 ?_
  rw [er]
  refine lv_iconst (v := 5) hx hb dX0_join_31 (by decide) ?_
  refine lv_icmp_lt (tgt := 45) hx hb dX0_join_32 (by decide) (fun c32 => ?_) (fun c32 => absurd (nI_lt (b := 5) hr5 (by decide)) c32)
  refine lv_aload_n hx hb dX0_join_45 rfl (lv_at hl 0 rfl) ?_
  refine lv_iload_n hx hb dX0_join_46 rfl (lv_at hl 1 rfl) ?_
  refine lv_iload_n hx hb dX0_join_47 rfl (lv_at hl 2 rfl) ?_
  refine lv_iload_n hx hb dX0_join_48 rfl (lv_at hl 3 rfl) ?_
  refine kr_wvV (n := 3) (As := [.int (nI q), .int (nI k), .int z]) (rest := []) ⟨hx, hb, hml, hown, hts⟩ (c_X0_appendRope l D cy h a N L A s.heap.size q r0 k z (by omega) (by omega) er) kg_RX0_78 ⟨rfl, rfl⟩ (by decide +kernel) ⟨Nat.le_of_ble_eq_true rfl, Nat.le_of_ble_eq_true rfl⟩ (va_recv hK hP (ci := 0) (q0 := 0) rfl rfl) hP hK hD hS hA rfl hl.1 rfl (Nat.le_of_ble_eq_true rfl) dX0_join_49 ⟨Nat.le_of_ble_eq_true rfl, Nat.le_of_ble_eq_true rfl⟩ (fun u9 H locs e9 hP hD hS => ?_)
  refine lv_aload_n hx hb dX0_join_52 rfl (lv_at hl 0 rfl) ?_
  refine va_get (ci := 0) (v := .ref (a 5)) (C := RX0) (T := TX0) (N := 10) hx hb hts kr_wsX0 hown hK hP 0 rfl rfl 6 (by decide) (hts _ kq_71) (fun _ h9 => h9) rfl dX0_join_53 ?_
  refine lv_iload_n hx hb dX0_join_56 rfl (lv_at hl 1 rfl) ?_
  refine kr_ald hx hb hK hP 6 0 rfl rfl q (by omega) (by decide) dX0_join_57 ?_
  rw [show kr_jA A q r0 k z 5 q = nI (r0 + 1) from pk_us]
  exact kr_wI hx hb hr hlocks hP hK hD hS rfl dX0_join_58
set_option maxHeartbeats 4000000 in
set_option maxRecDepth 100000 in
theorem c_X0_retie (l : Launch) (D : va_G) (cy : ClassId) (h : Nat) (a : Nat → Nat) (N L : Nat) (A : Nat → Nat → Int32) (sz : Nat) (q pl k : Nat) (hw : kr_wf N L A) (hq : q < L) (hp : pl < kr_rc A q) (hk : k < N) (he : A 0 k = if nI pl = 0 then (1 : Int32) else 0) : Met l yX0_retie (Cond.code yX0_retie cX0_retie 6 (some .int) :: kr_all) ({ frames := 2, cells := 0, slots := 0, locals := 43 }) (va_Pc [.ref h, .int (nI q), .int (nI pl), .int (nI k)] (kr_Rw D (kr_W0 cy h a N L A) cy sz)) (va_Qi (fun r (_ : Unit) => r = A 6 (5 * q + pl)) (fun _ t => kr_Rq D (kr_W0 cy h a N L (kr_rA A (5 * q + pl) k)) cy (va_A (kr_W0 cy h a N L A) sz) t) (va_A (kr_W0 cy h a N L A) sz)) 0 0 (va_A (kr_W0 cy h a N L A) sz) := by
  refine kr_ofw (Qc := fun AA => va_Qi (fun r (_ : Unit) => r = A 6 (5 * q + pl)) (fun _ t => kr_Rq D (kr_W0 cy h a N L (kr_rA A (5 * q + pl) k)) cy AA t) AA) (by decide) (Nat.le_of_ble_eq_true rfl) ?_
  intro p e s m below meth c ls AA hx hb hml hr hts hown hlocks hin hA hP hK hD hS hl
  have hown : s.vm.findClass RX0 = some m.cls := hown
  have hl : lv_has ls 6 [(0, .ref h), (1, .int (nI q)), (2, .int (nI pl)), (3, .int (nI k))] := hl
  have hN := hw.1
  have hL := hw.2.1
  obtain ⟨hrc, er⟩ := hw.rc hq
  refine lv_aload_n hx hb dX0_retie_0 rfl (lv_at hl 0 rfl) ?_
  refine lv_iload_n hx hb dX0_retie_1 rfl (lv_at hl 1 rfl) ?_
  refine lv_iload_n hx hb dX0_retie_2 rfl (lv_at hl 2 rfl) ?_
  refine kr_vV (n := 2) (As := [.int (nI q), .int (nI pl)]) (rest := []) ⟨hx, hb, hml, hown, hts⟩ (c_X0_checkPlace l D cy h a N L A q pl hw (by omega) (by omega)) kg_RX0_90 ⟨rfl, rfl⟩ (by decide +kernel) ⟨Nat.le_of_ble_eq_true rfl, Nat.le_of_ble_eq_true rfl⟩ (kr_pv0 hP hK) rfl hl.1 rfl (Nat.le_of_ble_eq_true rfl) dX0_retie_3 ⟨Nat.zero_le _, Nat.zero_le _⟩ ?_
  refine lv_aload_n hx hb dX0_retie_6 rfl (lv_at hl 0 rfl) ?_
  refine lv_iload_n hx hb dX0_retie_7 rfl (lv_at hl 3 rfl) ?_
  refine kr_vV (n := 1) (As := [.int (nI k)]) (rest := []) ⟨hx, hb, hml, hown, hts⟩ (c_X0_checkKnot l D cy h a N L A k (by omega) (by omega)) kg_RX0_59 ⟨rfl, rfl⟩ (by decide +kernel) ⟨Nat.le_of_ble_eq_true rfl, Nat.le_of_ble_eq_true rfl⟩ (kr_pv0 hP hK) rfl hl.1 rfl (Nat.le_of_ble_eq_true rfl) dX0_retie_8 ⟨Nat.zero_le _, Nat.zero_le _⟩ ?_
  refine lv_aload_n hx hb dX0_retie_11 rfl (lv_at hl 0 rfl) ?_
  refine lv_iload_n hx hb dX0_retie_12 rfl (lv_at hl 3 rfl) ?_
  refine lv_iload_n hx hb dX0_retie_13 rfl (lv_at hl 2 rfl) ?_
  refine kr_sI (n := 1) (As := [.int (nI pl)]) (rest := [.int (nI k), .ref h]) ⟨hx, hb, hml, hown, hts⟩ (c_X0_kindDueAt l (nI pl)) kg_RX0_93 ⟨rfl, rfl⟩ (by decide +kernel) ⟨Nat.le_of_ble_eq_true rfl, Nat.le_of_ble_eq_true rfl⟩ ⟨kr_blT, fun U hU hW => ⟨rfl, trivial⟩⟩ rfl hl.1 rfl (Nat.le_of_ble_eq_true rfl) dX0_retie_14 ⟨Nat.zero_le _, Nat.zero_le _⟩ (fun r9 e9 => ?_)
  subst e9
  refine kr_vV (n := 2) (As := [.int (nI k), .int (if (nI pl) = 0 then (1 : Int32) else 0)]) (rest := []) ⟨hx, hb, hml, hown, hts⟩ (c_X0_checkOfKind l D cy h a N L A k (if (nI pl) = 0 then (1 : Int32) else 0) (by omega) (by assumption)) kg_RX0_69 ⟨rfl, rfl⟩ (by decide +kernel) ⟨Nat.le_of_ble_eq_true rfl, Nat.le_of_ble_eq_true rfl⟩ (kr_pv0 hP hK) rfl hl.1 rfl (Nat.le_of_ble_eq_true rfl) dX0_retie_17 ⟨Nat.zero_le _, Nat.zero_le _⟩ ?_
  refine lv_iload_n hx hb dX0_retie_20 rfl (lv_at hl 1 rfl) ?_
  refine lv_iload_n hx hb dX0_retie_21 rfl (lv_at hl 2 rfl) ?_
  refine kr_sI (n := 2) (As := [.int (nI q), .int (nI pl)]) (rest := []) ⟨hx, hb, hml, hown, hts⟩ (c_X0_slot l q pl) kg_RX0_97 ⟨rfl, rfl⟩ (by decide +kernel) ⟨Nat.le_of_ble_eq_true rfl, Nat.le_of_ble_eq_true rfl⟩ ⟨kr_blT, fun U hU hW => ⟨rfl, trivial⟩⟩ rfl hl.1 rfl (Nat.le_of_ble_eq_true rfl) dX0_retie_22 ⟨Nat.zero_le _, Nat.zero_le _⟩ (fun r9 e9 => ?_)
  subst e9
  refine lv_istore (lv' := [(4, .int (nI (5 * q + pl))), (0, .ref h), (1, .int (nI q)), (2, .int (nI pl)), (3, .int (nI k))]) hx hb dX0_retie_25 hl (by decide) rfl (fun ls hl => ?_)
  refine lv_aload_n hx hb dX0_retie_27 rfl (lv_at hl 1 rfl) ?_
  refine va_get (ci := 0) (v := .ref (a 6)) (C := RX0) (T := TX0) (N := 10) hx hb hts kr_wsX0 hown hK hP 0 rfl rfl 8 (by decide) (hts _ kq_73) (fun _ h9 => h9) rfl dX0_retie_28 ?_
  refine lv_iload hx hb dX0_retie_31 (lv_at hl 0 rfl) ?_
  refine kr_ald hx hb hK hP 7 0 rfl rfl (5 * q + pl) (by omega) (by decide) dX0_retie_33 ?_
  refine lv_istore (lv' := [(5, .int (A 6 (5 * q + pl))), (4, .int (nI (5 * q + pl))), (0, .ref h), (1, .int (nI q)), (2, .int (nI pl)), (3, .int (nI k))]) hx hb dX0_retie_34 hl (by decide) rfl (fun ls hl => ?_)
  refine lv_aload_n hx hb dX0_retie_36 rfl (lv_at hl 2 rfl) ?_
  refine va_get (ci := 0) (v := .ref (a 6)) (C := RX0) (T := TX0) (N := 10) hx hb hts kr_wsX0 hown hK hP 0 rfl rfl 8 (by decide) (hts _ kq_73) (fun _ h9 => h9) rfl dX0_retie_37 ?_
  refine lv_iload hx hb dX0_retie_40 (lv_at hl 1 rfl) ?_
  refine lv_iload_n hx hb dX0_retie_42 rfl (lv_at hl 5 rfl) ?_
  refine kr_ast hx hb hK hP hD hS 7 0 rfl rfl (5 * q + pl) (by omega) (by decide) dX0_retie_43 (fun H locs hP hD hS => ?_)
  have hP : va_P D vwCl (kr_W0 cy h a N L (kr_up A 6 (upd (A 6) (5 * q + pl) (nI k)))) H := hP
  have hD : va_D AA (kr_W0 cy h a N L (kr_up A 6 (upd (A 6) (5 * q + pl) (nI k)))) := hD
  refine lv_iload hx hb dX0_retie_44 (lv_at hl 0 rfl) ?_
  exact kr_wI hx hb hr hlocks hP hK hD hS rfl dX0_retie_46
set_option maxHeartbeats 4000000 in
set_option maxRecDepth 100000 in
theorem c_X0_pull (l : Launch) (D : va_G) (cy : ClassId) (h : Nat) (a : Nat → Nat) (N L : Nat) (A : Nat → Nat → Int32) (sz : Nat) (q : Nat) (ld : Int32) (hw : kr_wf N L A) (hq : q < L) (hld : ¬ ld < 1 ∧ ¬ 999 < ld) (hg : ¬ A 5 q = 0) : Met l yX0_pull (Cond.code yX0_pull cX0_pull 6 (some .int) :: kr_all) ({ frames := 5, cells := 0, slots := 0, locals := 114 }) (va_Pc [.ref h, .int (nI q), .int ld] (kr_Rw D (kr_W0 cy h a N L A) cy sz)) (va_Qi (fun r (_ : Unit) => r = kr_gw A q ld) (fun _ t => kr_Rq D (kr_W0 cy h a N L (kr_pA A q ld)) cy (va_A (kr_W0 cy h a N L A) sz) t) (va_A (kr_W0 cy h a N L A) sz)) 0 0 (va_A (kr_W0 cy h a N L A) sz) := by
  refine kr_ofw (Qc := fun AA => va_Qi (fun r (_ : Unit) => r = kr_gw A q ld) (fun _ t => kr_Rq D (kr_W0 cy h a N L (kr_pA A q ld)) cy AA t) AA) (by decide) (Nat.le_of_ble_eq_true rfl) ?_
  intro p e s m below meth c ls AA hx hb hml hr hts hown hlocks hin hA hP hK hD hS hl
  have hown : s.vm.findClass RX0 = some m.cls := hown
  have hl : lv_has ls 6 [(0, .ref h), (1, .int (nI q)), (2, .int ld)] := hl
  have hN := hw.1
  have hL := hw.2.1
  obtain ⟨hrc, er⟩ := hw.rc hq
  have hp5 := (kr_pr_le (ld := ld) hrc).1
  refine lv_aload_n hx hb dX0_pull_0 rfl (lv_at hl 0 rfl) ?_
  refine lv_iload_n hx hb dX0_pull_1 rfl (lv_at hl 1 rfl) ?_
  refine kr_vV (n := 1) (As := [.int (nI q)]) (rest := []) ⟨hx, hb, hml, hown, hts⟩ (c_X0_checkLine l D cy h a N L A q (by omega) (by omega)) kg_RX0_82 ⟨rfl, rfl⟩ (by decide +kernel) ⟨Nat.le_of_ble_eq_true rfl, Nat.le_of_ble_eq_true rfl⟩ (kr_pv0 hP hK) rfl hl.1 rfl (Nat.le_of_ble_eq_true rfl) dX0_pull_2 ⟨Nat.zero_le _, Nat.zero_le _⟩ ?_
  refine lv_iload_n hx hb dX0_pull_5 rfl (lv_at hl 2 rfl) ?_
  refine kr_sV (n := 1) (As := [.int ld]) (rest := []) ⟨hx, hb, hml, hown, hts⟩ (c_X0_checkLoad l ld (by assumption)) kg_RX0_62 ⟨rfl, rfl⟩ (by decide +kernel) ⟨Nat.le_of_ble_eq_true rfl, Nat.le_of_ble_eq_true rfl⟩ ⟨kr_blT, fun U hU hW => ⟨rfl, trivial⟩⟩ rfl hl.1 rfl (Nat.le_of_ble_eq_true rfl) dX0_pull_6 ⟨Nat.zero_le _, Nat.zero_le _⟩ ?_
  refine lv_aload_n hx hb dX0_pull_9 rfl (lv_at hl 0 rfl) ?_
  refine lv_iload_n hx hb dX0_pull_10 rfl (lv_at hl 1 rfl) ?_
  refine kr_vV (n := 1) (As := [.int (nI q)]) (rest := []) ⟨hx, hb, hml, hown, hts⟩ (c_X0_checkNotGone l D cy h a N L A q (by omega) (by assumption)) kg_RX0_85 ⟨rfl, rfl⟩ (by decide +kernel) ⟨Nat.le_of_ble_eq_true rfl, Nat.le_of_ble_eq_true rfl⟩ (kr_pv0 hP hK) rfl hl.1 rfl (Nat.le_of_ble_eq_true rfl) dX0_pull_11 ⟨Nat.zero_le _, Nat.zero_le _⟩ ?_
  refine lv_aload_n hx hb dX0_pull_14 rfl (lv_at hl 0 rfl) ?_
  refine lv_iload_n hx hb dX0_pull_15 rfl (lv_at hl 1 rfl) ?_
  refine lv_iload_n hx hb dX0_pull_16 rfl (lv_at hl 2 rfl) ?_
  refine kr_vI (n := 2) (As := [.int (nI q), .int ld]) (rest := []) ⟨hx, hb, hml, hown, hts⟩ (c_X0_firstPlaceToGiveWay l D cy h a N L A q ld hw (by omega)) kg_RX0_101 ⟨rfl, rfl⟩ (by decide +kernel) ⟨Nat.le_of_ble_eq_true rfl, Nat.le_of_ble_eq_true rfl⟩ (kr_pv0 hP hK) rfl hl.1 rfl (Nat.le_of_ble_eq_true rfl) dX0_pull_17 ⟨Nat.zero_le _, Nat.zero_le _⟩ (fun r9 e9 => ?_)
  subst e9
  refine lv_istore_n (lv' := [(3, .int (kr_gw A q ld)), (0, .ref h), (1, .int (nI q)), (2, .int ld)]) hx hb dX0_pull_20 rfl hl (by decide) rfl (fun ls hl => ?_)
  refine lv_iload_n hx hb dX0_pull_21 rfl (lv_at hl 0 rfl) ?_
  refine lv_iconst (v := -1) hx hb dX0_pull_22 (by decide) ?_
  refine lv_icmp_eq (tgt := 33) hx hb dX0_pull_23 (by decide) (fun c23 => ?_) (fun c23 => ?_)
  · have hP : va_P D vwCl (kr_W0 cy h a N L (kr_pB A q ld 0)) s.heap := by rw [kr_pB0n c23 er]; exact hP
    have hD : va_D AA (kr_W0 cy h a N L (kr_pB A q ld 0)) := by rw [kr_pB0n c23 er]; exact hD
    refine lv_iconst (v := 0) hx hb dX0_pull_33 (by decide) ?_
    refine lv_istore (lv' := [(4, .int 0), (3, .int (kr_gw A q ld)), (0, .ref h), (1, .int (nI q)), (2, .int ld)]) hx hb dX0_pull_34 hl (by decide) rfl (fun ls hl => ?_)
    refine kr_lpH (nL := 6) (fun z : Nat => [(4, .int (nI z)), (3, .int (kr_gw A q ld)), (0, .ref h), (1, .int (nI q)), (2, .int ld)]) (fun z H locs => (z ≤ kr_pr' A q ld) ∧ va_P D vwCl (kr_W0 cy h a N L (kr_pB A q ld z)) H ∧ va_D AA (kr_W0 cy h a N L (kr_pB A q ld z)) ∧ va_S AA s.heap H locs) (fun z => kr_pr' A q ld - z) ?_ (0) ⟨Nat.zero_le _, hP, hD, hS⟩ (lv_sub hl [0, 1, 2, 3, 4] rfl)
    clear hl hP hD hS
    intro z H locs ls hI hl ih
    obtain ⟨i, rfl⟩ : ∃ y, y = z := ⟨_, rfl⟩
    have hl : lv_has ls 6 [(4, .int (nI i)), (3, .int (kr_gw A q ld)), (0, .ref h), (1, .int (nI q)), (2, .int ld)] := hl
    obtain ⟨hi0, hP, hD, hS⟩ : (i ≤ kr_pr' A q ld) ∧ va_P D vwCl (kr_W0 cy h a N L (kr_pB A q ld i)) H ∧ va_D AA (kr_W0 cy h a N L (kr_pB A q ld i)) ∧ va_S AA s.heap H locs := hI
    refine lv_iload hx hb dX0_pull_36 (lv_at hl 0 rfl) ?_
    refine lv_aload_n hx hb dX0_pull_38 rfl (lv_at hl 2 rfl) ?_
    refine va_get (ci := 0) (v := .ref (a 5)) (C := RX0) (T := TX0) (N := 10) hx hb hts kr_wsX0 hown hK hP 0 rfl rfl 6 (by decide) (hts _ kq_71) (fun _ h9 => h9) rfl dX0_pull_39 ?_
    refine lv_iload_n hx hb dX0_pull_42 rfl (lv_at hl 3 rfl) ?_
    refine kr_ald hx hb hK hP 6 0 rfl rfl q (by omega) (by decide) dX0_pull_43 ?_
    rw [kr_pB5]
    refine lv_icmp_ge (tgt := 80) hx hb dX0_pull_44 (by decide) (fun c44 => ?_) (fun c44 => ?_)
    · have hi2 : i = kr_pr' A q ld := by have := kr_ge (by omega) (by omega) c44; omega
      rw [hi2] at hP hD
      refine lv_iload_n hx hb dX0_pull_80 rfl (lv_at hl 1 rfl) ?_
      exact kr_wI hx hb hr hlocks hP hK hD hS rfl dX0_pull_81
    · have hi : i < kr_pr' A q ld := kr_lt (by omega) (by omega) c44
      have hwi := kr_wf_p hw hq hi0
      refine lv_iload_n hx hb dX0_pull_47 rfl (lv_at hl 3 rfl) ?_
      refine lv_iload hx hb dX0_pull_48 (lv_at hl 0 rfl) ?_
      refine kr_sI (n := 2) (As := [.int (nI q), .int (nI i)]) (rest := []) ⟨hx, hb, hml, hown, hts⟩ (c_X0_slot l q i) kg_RX0_97 ⟨rfl, rfl⟩ (by decide +kernel) ⟨Nat.le_of_ble_eq_true rfl, Nat.le_of_ble_eq_true rfl⟩ ⟨kr_blT, fun U hU hW => ⟨rfl, trivial⟩⟩ rfl hl.1 rfl (Nat.le_of_ble_eq_true rfl) dX0_pull_50 ⟨Nat.zero_le _, Nat.zero_le _⟩ (fun r9 e9 => ?_)
      subst e9
      refine lv_istore (lv' := [(5, .int (nI (5 * q + i))), (4, .int (nI i)), (3, .int (kr_gw A q ld)), (0, .ref h), (1, .int (nI q)), (2, .int ld)]) hx hb dX0_pull_53 hl (by decide) rfl (fun ls hl => ?_)
      refine lv_aload_n hx hb dX0_pull_55 rfl (lv_at hl 3 rfl) ?_
      refine va_get (ci := 0) (v := .ref (a 6)) (C := RX0) (T := TX0) (N := 10) hx hb hts kr_wsX0 hown hK hP 0 rfl rfl 8 (by decide) (hts _ kq_73) (fun _ h9 => h9) rfl dX0_pull_56 ?_
      refine lv_iload hx hb dX0_pull_59 (lv_at hl 0 rfl) ?_
      refine lv_aload_n hx hb dX0_pull_61 rfl (lv_at hl 3 rfl) ?_
      refine lv_aload_n hx hb dX0_pull_62 rfl (lv_at hl 3 rfl) ?_
      refine va_get (ci := 0) (v := .ref (a 6)) (C := RX0) (T := TX0) (N := 10) hx hb hts kr_wsX0 hown hK hP 0 rfl rfl 8 (by decide) (hts _ kq_73) (fun _ h9 => h9) rfl dX0_pull_63 ?_
      refine lv_iload hx hb dX0_pull_66 (lv_at hl 0 rfl) ?_
      refine kr_ald hx hb hK hP 7 0 rfl rfl (5 * q + i) (by omega) (by decide) dX0_pull_68 ?_
      rw [kr_pB6]
      refine lv_iload_n hx hb dX0_pull_69 rfl (lv_at hl 5 rfl) ?_
      refine kr_vI (n := 2) (As := [.int (A 6 (5 * q + i)), .int ld]) (rest := [.int (nI (5 * q + i)), .ref (a 6)]) ⟨hx, hb, hml, hown, hts⟩ (c_X0_formUnder l D cy h a N L (kr_pB A q ld i) (A 6 (5 * q + i)) ld hwi (hw.tn hq (by omega))) kg_RX0_104 ⟨rfl, rfl⟩ (by decide +kernel) ⟨Nat.le_of_ble_eq_true rfl, Nat.le_of_ble_eq_true rfl⟩ (kr_pv0 hP hK) rfl hl.1 rfl (Nat.le_of_ble_eq_true rfl) dX0_pull_70 ⟨Nat.zero_le _, Nat.zero_le _⟩ (fun r9 e9 => ?_)
      rw [kr_pBf] at e9
      subst e9
      refine kr_ast hx hb hK hP hD hS 7 0 rfl rfl (5 * q + i) (by omega) (by decide) dX0_pull_73 (fun H locs hP hD hS => ?_)
      have hP : va_P D vwCl (kr_W0 cy h a N L (kr_up (kr_pB A q ld i) 6 (upd ((kr_pB A q ld i) 6) (5 * q + i) (kr_fm A ld 16 (A 6 (5 * q + i)))))) H := hP
      have hD : va_D AA (kr_W0 cy h a N L (kr_up (kr_pB A q ld i) 6 (upd ((kr_pB A q ld i) 6) (5 * q + i) (kr_fm A ld 16 (A 6 (5 * q + i)))))) := hD
      rw [show kr_up (kr_pB A q ld i) 6 (upd ((kr_pB A q ld i) 6) (5 * q + i) (kr_fm A ld 16 (A 6 (5 * q + i)))) = kr_pB A q ld (i + 1) from kr_pBs i] at hP hD
      refine lv_iinc (v := nI (i + 1)) (lv' := [(4, .int (nI (i + 1))), (5, .int (nI (5 * q + i))), (3, .int (kr_gw A q ld)), (0, .ref h), (1, .int (nI q)), (2, .int ld)]) hx hb dX0_pull_74 hl (k := 1) rfl (kr_inc _) (by decide) rfl (fun ls hl => ?_)
      refine lv_goto (tgt := 36) hx hb dX0_pull_77 (by decide) ?_
      exact ih (i + 1) _ _ ls ⟨by omega, hP, hD, hS⟩ (by show kr_pr' A q ld - (i + 1) < kr_pr' A q ld - i; omega) (lv_sub hl [0, 2, 3, 4, 5] rfl)
  · obtain ⟨g, hg5, eg⟩ := (kr_gw_kn (ld := ld) hrc).resolve_left c23
    refine lv_aload_n hx hb dX0_pull_26 rfl (lv_at hl 1 rfl) ?_
    refine va_get (ci := 0) (v := .ref (a 5)) (C := RX0) (T := TX0) (N := 10) hx hb hts kr_wsX0 hown hK hP 0 rfl rfl 6 (by decide) (hts _ kq_71) (fun _ h9 => h9) rfl dX0_pull_27 ?_
    refine lv_iload_n hx hb dX0_pull_30 rfl (lv_at hl 2 rfl) ?_
    refine lv_iload_n hx hb dX0_pull_31 rfl (lv_at hl 0 rfl) ?_
    refine kr_ast hx hb hK hP hD hS 6 0 rfl rfl q (by omega) (by decide) dX0_pull_32 (fun H locs hP hD hS => ?_)
    have hP : va_P D vwCl (kr_W0 cy h a N L (kr_up A 5 (upd (A 5) q (kr_gw A q ld)))) H := hP
    have hD : va_D AA (kr_W0 cy h a N L (kr_up A 5 (upd (A 5) q (kr_gw A q ld)))) := hD
    rw [eg, ← kr_pB0y (by omega) eg] at hP hD
    refine lv_iconst (v := 0) hx hb dX0_pull_33 (by decide) ?_
    refine lv_istore (lv' := [(4, .int 0), (3, .int (kr_gw A q ld)), (0, .ref h), (1, .int (nI q)), (2, .int ld)]) hx hb dX0_pull_34 hl (by decide) rfl (fun ls hl => ?_)
    refine kr_lpH (nL := 6) (fun z : Nat => [(4, .int (nI z)), (3, .int (kr_gw A q ld)), (0, .ref h), (1, .int (nI q)), (2, .int ld)]) (fun z H locs => (z ≤ kr_pr' A q ld) ∧ va_P D vwCl (kr_W0 cy h a N L (kr_pB A q ld z)) H ∧ va_D AA (kr_W0 cy h a N L (kr_pB A q ld z)) ∧ va_S AA s.heap H locs) (fun z => kr_pr' A q ld - z) ?_ (0) ⟨Nat.zero_le _, hP, hD, hS⟩ (lv_sub hl [0, 1, 2, 3, 4] rfl)
    clear hl hP hD hS
    intro z H locs ls hI hl ih
    obtain ⟨i, rfl⟩ : ∃ y, y = z := ⟨_, rfl⟩
    have hl : lv_has ls 6 [(4, .int (nI i)), (3, .int (kr_gw A q ld)), (0, .ref h), (1, .int (nI q)), (2, .int ld)] := hl
    obtain ⟨hi0, hP, hD, hS⟩ : (i ≤ kr_pr' A q ld) ∧ va_P D vwCl (kr_W0 cy h a N L (kr_pB A q ld i)) H ∧ va_D AA (kr_W0 cy h a N L (kr_pB A q ld i)) ∧ va_S AA s.heap H locs := hI
    refine lv_iload hx hb dX0_pull_36 (lv_at hl 0 rfl) ?_
    refine lv_aload_n hx hb dX0_pull_38 rfl (lv_at hl 2 rfl) ?_
    refine va_get (ci := 0) (v := .ref (a 5)) (C := RX0) (T := TX0) (N := 10) hx hb hts kr_wsX0 hown hK hP 0 rfl rfl 6 (by decide) (hts _ kq_71) (fun _ h9 => h9) rfl dX0_pull_39 ?_
    refine lv_iload_n hx hb dX0_pull_42 rfl (lv_at hl 3 rfl) ?_
    refine kr_ald hx hb hK hP 6 0 rfl rfl q (by omega) (by decide) dX0_pull_43 ?_
    rw [kr_pB5]
    refine lv_icmp_ge (tgt := 80) hx hb dX0_pull_44 (by decide) (fun c44 => ?_) (fun c44 => ?_)
    · have hi2 : i = kr_pr' A q ld := by have := kr_ge (by omega) (by omega) c44; omega
      rw [hi2] at hP hD
      refine lv_iload_n hx hb dX0_pull_80 rfl (lv_at hl 1 rfl) ?_
      exact kr_wI hx hb hr hlocks hP hK hD hS rfl dX0_pull_81
    · have hi : i < kr_pr' A q ld := kr_lt (by omega) (by omega) c44
      have hwi := kr_wf_p hw hq hi0
      refine lv_iload_n hx hb dX0_pull_47 rfl (lv_at hl 3 rfl) ?_
      refine lv_iload hx hb dX0_pull_48 (lv_at hl 0 rfl) ?_
      refine kr_sI (n := 2) (As := [.int (nI q), .int (nI i)]) (rest := []) ⟨hx, hb, hml, hown, hts⟩ (c_X0_slot l q i) kg_RX0_97 ⟨rfl, rfl⟩ (by decide +kernel) ⟨Nat.le_of_ble_eq_true rfl, Nat.le_of_ble_eq_true rfl⟩ ⟨kr_blT, fun U hU hW => ⟨rfl, trivial⟩⟩ rfl hl.1 rfl (Nat.le_of_ble_eq_true rfl) dX0_pull_50 ⟨Nat.zero_le _, Nat.zero_le _⟩ (fun r9 e9 => ?_)
      subst e9
      refine lv_istore (lv' := [(5, .int (nI (5 * q + i))), (4, .int (nI i)), (3, .int (kr_gw A q ld)), (0, .ref h), (1, .int (nI q)), (2, .int ld)]) hx hb dX0_pull_53 hl (by decide) rfl (fun ls hl => ?_)
      refine lv_aload_n hx hb dX0_pull_55 rfl (lv_at hl 3 rfl) ?_
      refine va_get (ci := 0) (v := .ref (a 6)) (C := RX0) (T := TX0) (N := 10) hx hb hts kr_wsX0 hown hK hP 0 rfl rfl 8 (by decide) (hts _ kq_73) (fun _ h9 => h9) rfl dX0_pull_56 ?_
      refine lv_iload hx hb dX0_pull_59 (lv_at hl 0 rfl) ?_
      refine lv_aload_n hx hb dX0_pull_61 rfl (lv_at hl 3 rfl) ?_
      refine lv_aload_n hx hb dX0_pull_62 rfl (lv_at hl 3 rfl) ?_
      refine va_get (ci := 0) (v := .ref (a 6)) (C := RX0) (T := TX0) (N := 10) hx hb hts kr_wsX0 hown hK hP 0 rfl rfl 8 (by decide) (hts _ kq_73) (fun _ h9 => h9) rfl dX0_pull_63 ?_
      refine lv_iload hx hb dX0_pull_66 (lv_at hl 0 rfl) ?_
      refine kr_ald hx hb hK hP 7 0 rfl rfl (5 * q + i) (by omega) (by decide) dX0_pull_68 ?_
      rw [kr_pB6]
      refine lv_iload_n hx hb dX0_pull_69 rfl (lv_at hl 5 rfl) ?_
      refine kr_vI (n := 2) (As := [.int (A 6 (5 * q + i)), .int ld]) (rest := [.int (nI (5 * q + i)), .ref (a 6)]) ⟨hx, hb, hml, hown, hts⟩ (c_X0_formUnder l D cy h a N L (kr_pB A q ld i) (A 6 (5 * q + i)) ld hwi (hw.tn hq (by omega))) kg_RX0_104 ⟨rfl, rfl⟩ (by decide +kernel) ⟨Nat.le_of_ble_eq_true rfl, Nat.le_of_ble_eq_true rfl⟩ (kr_pv0 hP hK) rfl hl.1 rfl (Nat.le_of_ble_eq_true rfl) dX0_pull_70 ⟨Nat.zero_le _, Nat.zero_le _⟩ (fun r9 e9 => ?_)
      rw [kr_pBf] at e9
      subst e9
      refine kr_ast hx hb hK hP hD hS 7 0 rfl rfl (5 * q + i) (by omega) (by decide) dX0_pull_73 (fun H locs hP hD hS => ?_)
      have hP : va_P D vwCl (kr_W0 cy h a N L (kr_up (kr_pB A q ld i) 6 (upd ((kr_pB A q ld i) 6) (5 * q + i) (kr_fm A ld 16 (A 6 (5 * q + i)))))) H := hP
      have hD : va_D AA (kr_W0 cy h a N L (kr_up (kr_pB A q ld i) 6 (upd ((kr_pB A q ld i) 6) (5 * q + i) (kr_fm A ld 16 (A 6 (5 * q + i)))))) := hD
      rw [show kr_up (kr_pB A q ld i) 6 (upd ((kr_pB A q ld i) 6) (5 * q + i) (kr_fm A ld 16 (A 6 (5 * q + i)))) = kr_pB A q ld (i + 1) from kr_pBs i] at hP hD
      refine lv_iinc (v := nI (i + 1)) (lv' := [(4, .int (nI (i + 1))), (5, .int (nI (5 * q + i))), (3, .int (kr_gw A q ld)), (0, .ref h), (1, .int (nI q)), (2, .int ld)]) hx hb dX0_pull_74 hl (k := 1) rfl (kr_inc _) (by decide) rfl (fun ls hl => ?_)
      refine lv_goto (tgt := 36) hx hb dX0_pull_77 (by decide) ?_
      exact ih (i + 1) _ _ ls ⟨by omega, hP, hD, hS⟩ (by show kr_pr' A q ld - (i + 1) < kr_pr' A q ld - i; omega) (lv_sub hl [0, 2, 3, 4, 5] rfl)
end
