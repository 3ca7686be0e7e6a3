/-- the lines' facts -/
theorem kr_lnS {N L : Nat} {A : Nat → Nat → Int32} (hw : kr_wf N L A) (hx : kr_wx N L A) (hL1 : 1 ≤ L) : ∃ js us, js < L ∧ us ≤ 999 ∧ kr_sg A L 0 (-1) = nI js ∧ kr_hu A js = nI us ∧ ∀ i, i < L → ∀ u, u ≤ 999 → kr_hu A i = nI u → u < us ∨ u = us ∧ js ≤ i := by
  obtain ⟨js, h1, h2, h3⟩ := kr_sgO (A := A) (L := L) hL1 hw.2.1
  obtain ⟨us, h4, h5, -⟩ := kr_huN hw hx h1
  refine ⟨js, us, h1, h4, h2, h5, fun i hi u hu eu => ?_⟩
  have h := h3 i hi
  rw [eu, h5, nI_toInt (by omega), nI_toInt (by omega)] at h
  omega
theorem kr_lnP {N L : Nat} {A : Nat → Nat → Int32} {q p : Nat} (hw : kr_wf N L A) (hx : kr_wx N L A) (hq : q < L) (hp : p < kr_rc A q) : (∃ s, s ≤ 999 ∧ kr_nw A q p = nI s) ∧ kr_nw A q p ≤ A 7 (5 * q + p) ∧ (0 < p → kr_nw A q p ≤ A 7 (5 * q + (p - 1))) ∧ ∃ k, k < N ∧ A 6 (5 * q + p) = nI k ∧ A 0 k = if p = 0 then 1 else 0 := by
  obtain ⟨k, hk, ek⟩ := hw.tk hq hp
  obtain ⟨s, h1, h2, h3, h4⟩ := kr_stN hw hx hq hp hk
  have e : kr_nw A q p = kr_st A q p (nI k) := by unfold kr_nw; rw [ek]
  refine ⟨⟨s, h1, e.trans h2⟩, by rw [e]; exact h3, fun w => ?_, k, hk, ek, (hx.2.2.2 q hq p hp).2 k hk ek⟩
  rw [e, show 5 * q + (p - 1) = 5 * q + p - 1 by omega]
  exact h4 w
theorem kg_RL_124 : GoodIn kr_all (wsV RL 124 RX0 yX0_lines (Cond.code yX0_lines cX0_lines 1 (some .int) :: kr_all)) := kr_gV kq_313 kq_314 kq_315 kq_25 kq_316
theorem kg_RL_127 : GoodIn kr_all (wsV RL 127 RX0 yX0_holdsUpTo (Cond.code yX0_holdsUpTo cX0_holdsUpTo 2 (some .int) :: kr_all)) := kr_gV kq_342 kq_343 kq_344 kq_25 kq_345
theorem kg_RL_130 : GoodIn kr_all (wsV RL 130 RX0 yX0_ropesOf (Cond.code yX0_ropesOf cX0_ropesOf 2 (some .int) :: kr_all)) := kr_gV kq_317 kq_318 kq_319 kq_25 kq_320
theorem kg_RL_140 : GoodIn kr_all (wsV RL 140 RX0 yX0_weakestPlace (Cond.code yX0_weakestPlace cX0_weakestPlace 6 (some .int) :: kr_all)) := kr_gV kq_333 kq_334 kq_335 kq_25 kq_336
theorem kg_RL_143 : GoodIn kr_all (wsV RL 143 RX0 yX0_strengthAt (Cond.code yX0_strengthAt cX0_strengthAt 3 (some .int) :: kr_all)) := kr_gV kq_325 kq_326 kq_327 kq_25 kq_328
theorem kg_RL_146 : GoodIn kr_all (wsV RL 146 RX0 yX0_knotOf (Cond.code yX0_knotOf cX0_knotOf 3 (some .int) :: kr_all)) := kr_gV kq_321 kq_322 kq_323 kq_25 kq_324
theorem kg_RL_133 : GoodIn kr_all (wsV RL 133 RX0 yX0_holds (Cond.code yX0_holds cX0_holds 3 (some .boolean) :: kr_all)) := kr_gV kq_338 kq_339 kq_340 kq_25 kq_341
theorem kg_RL_137 : GoodIn kr_all (wsV RL 137 RX0 yX0_wouldGiveWay (Cond.code yX0_wouldGiveWay cX0_wouldGiveWay 3 (some .int) :: kr_all)) := kr_gV kq_354 kq_355 kq_356 kq_25 kq_357
set_option maxHeartbeats 4000000 in
set_option maxRecDepth 100000 in
theorem law_lines {p : Program} {l : Launch} {e : Env} {s : State} {m : MethodId} {below : List Frame} {meth : Method} {c : Code} {ls : Array Slot} {D : va_G} {cy cz : ClassId} {h g b N L t ld mo q : Nat} {a : Nat → Nat} {ad : Nat → Nat → Nat} {A : Nat → Nat → Int32} {x : Int32} {dg : Int64} {H : Heap} {locs : List Loc} {cells slots : Nat} {Q : State → Prop} (hx : p.tables.exec = Jvm.exec) (hb : c.code = cL_law) (hml : c.maxLocals = 22) (hts : ∀ w ∈ kr_all, w.before #[Value.ref b] s = true) (hown : s.vm.findClass RL = some m.cls) (hK : va_K D vwCl [(cy, .int), (cz, .array .int)] s) (hw : kr_wf N L A) (hx0 : kr_wx N L A) (hN2 : 2 ≤ N) (hL1 : 1 ≤ L) (hJ : va_P D vwCl (kr_JW cy cz h a g ad N L A) H) (hc9 : cells ≤ 5000) (hs9 : slots ≤ 50000) {js us : Nat} (hld1 : 1 ≤ ld) (hld2 : ld ≤ 999) (hjs : js < L) (hus : us ≤ 999) (eus : kr_hu A js = nI us) (hmax : ∀ i, i < L → ∀ u, u ≤ 999 → kr_hu A i = nI u → u < us ∨ u = us ∧ js ≤ i) (hl : lv_has ls 22 [(0, .ref b), (1, .ref h), (2, .ref g), (3, .int (nI t)), (4, .int x), (5, .long dg), (8, .int (nI ld)), (10, .int (nI js)), (11, .int (nI 0))]) (kk : ∀ ls : Array Slot, lv_has ls 22 [(0, .ref b), (1, .ref h), (2, .ref g), (3, .int (nI t)), (4, .int x), (5, .long dg), (8, .int (nI ld))] → W p l e room_1 s m #[Value.ref b] below meth c H locs cells slots Q (F0 m 803 ls [])) : W p l e room_1 s m #[Value.ref b] below meth c H locs cells slots Q (F0 m 493 ls []) := by
  have hN := hw.1
  have hL := hw.2.1
  have hK0 : va_K D vwCl [(cy, .int)] s := hK.sub [0] rfl
  have hPc : va_P D vwCl (kr_W0 cy h a N L A) H := kr_Pl hJ
  have hP : va_P D vwCl (kr_SW cy cz g ad N L A) H := kr_Pr hJ
  have hld := kr_rgN (z := ld) (lo := 1) (hi := 999) hld1 hld2 (by decide)
  refine kr_lp (nL := 22) (fun z : Nat => [(0, .ref b), (1, .ref h), (2, .ref g), (3, .int (nI t)), (4, .int x), (5, .long dg), (8, .int (nI ld)), (10, .int (nI js)), (11, .int (nI z))]) (fun z => z ≤ L) (fun z => L - z) ?_ (0) (Nat.zero_le _) (lv_sub hl [0, 1, 2, 3, 4, 5, 6, 7, 8] rfl)
  clear hl
  intro z ls hI hl ih
  obtain ⟨q, rfl⟩ : ∃ y, y = z := ⟨_, rfl⟩
  have hl : lv_has ls 22 [(0, .ref b), (1, .ref h), (2, .ref g), (3, .int (nI t)), (4, .int x), (5, .long dg), (8, .int (nI ld)), (10, .int (nI js)), (11, .int (nI q))] := hl
  obtain hq9 : q ≤ L := hI
  refine lv_iload hx hb dL_law_493 (lv_at hl 8 rfl) ?_
  refine lv_aload_n hx hb dL_law_495 rfl (lv_at hl 1 rfl) ?_
  refine kr_vI (n := 0) (As := []) (rest := [.int (nI q)]) ⟨hx, hb, hml, hown, hts⟩ (c_X0_lines l D cy h a N L A) kg_RL_124 ⟨rfl, rfl⟩ (by decide +kernel) ⟨Nat.le_of_ble_eq_true rfl, Nat.le_of_ble_eq_true rfl⟩ (kr_pv0 hPc hK0) rfl hl.1 rfl (Nat.le_of_ble_eq_true rfl) dL_law_496 ⟨show cells + 0 ≤ 960946 by omega, show slots + 0 ≤ 6218629 by omega⟩ (fun r9 e9 => ?_)
  subst e9
  refine lv_icmp_ge (tgt := 803) hx hb dL_law_499 (by decide) (fun c499 => ?_) (fun c499 => ?_)
  · exact kk _ (lv_sub hl [0, 1, 2, 3, 4, 5, 6] rfl)
  · have hq : q < L := kr_lt (a := q) (b := L) (by omega) (by omega) c499
    obtain ⟨hrc, er⟩ := hw.rc hq
    obtain ⟨u, hu, eu, hu0, hu1, hu2⟩ := kr_huN hw hx0 hq
    have hmx := hmax q hq u hu eu
    refine lv_aload_n hx hb dL_law_502 rfl (lv_at hl 1 rfl) ?_
    refine lv_iload hx hb dL_law_503 (lv_at hl 8 rfl) ?_
    refine kr_vI (n := 1) (As := [.int (nI q)]) (rest := []) ⟨hx, hb, hml, hown, hts⟩ (c_X0_holdsUpTo l D cy h a N L A q hw hq) kg_RL_127 ⟨rfl, rfl⟩ (by decide +kernel) ⟨Nat.le_of_ble_eq_true rfl, Nat.le_of_ble_eq_true rfl⟩ (kr_pv0 hPc hK0) rfl hl.1 rfl (Nat.le_of_ble_eq_true rfl) dL_law_505 ⟨show cells + 0 ≤ 960946 by omega, show slots + 0 ≤ 6218629 by omega⟩ (fun r9 e9 => ?_)
    subst e9
    rw [eu]
    refine lv_istore (lv' := [(12, .int (nI u)), (0, .ref b), (1, .ref h), (2, .ref g), (3, .int (nI t)), (4, .int x), (5, .long dg), (8, .int (nI ld)), (10, .int (nI js)), (11, .int (nI q))]) hx hb dL_law_508 hl (by decide) rfl (fun ls hl => ?_)
    refine lv_aload_n hx hb dL_law_510 rfl (lv_at hl 2 rfl) ?_
    refine lv_iload hx hb dL_law_511 (lv_at hl 9 rfl) ?_
    refine kr_vI (n := 1) (As := [.int (nI q)]) (rest := []) ⟨hx, hb, hml, hown, hts⟩ (c_X0_ropesOf l D cy h a N L A q hw hq) kg_RL_130 ⟨rfl, rfl⟩ (by decide +kernel) ⟨Nat.le_of_ble_eq_true rfl, Nat.le_of_ble_eq_true rfl⟩ (kr_pv0 hPc hK0) rfl hl.1 rfl (Nat.le_of_ble_eq_true rfl) dL_law_513 ⟨show cells + 0 ≤ 960946 by omega, show slots + 0 ≤ 6218629 by omega⟩ (fun r9 e9 => ?_)
    subst e9
    rw [er]
    refine lv_istore (lv' := [(13, .int (nI (kr_rc A q))), (12, .int (nI u)), (0, .ref b), (1, .ref h), (2, .ref g), (3, .int (nI t)), (4, .int x), (5, .long dg), (8, .int (nI ld)), (10, .int (nI js)), (11, .int (nI q))]) hx hb dL_law_516 hl (by decide) rfl (fun ls hl => ?_)
    have ihQ := ih
    refine kr_cut (pcJ := 653) (stJ := []) ?_ (fun key653 => ?_)
    · refine lv_aload_n hx hb dL_law_653 rfl (lv_at hl 3 rfl) ?_
      refine lv_iload hx hb dL_law_654 (lv_at hl 10 rfl) ?_
      refine kr_vI (n := 1) (As := [.int (nI q)]) (rest := []) ⟨hx, hb, hml, hown, hts⟩ (c_X0_weakestPlace l D cy h a N L A q hw hq) kg_RL_140 ⟨rfl, rfl⟩ (by decide +kernel) ⟨Nat.le_of_ble_eq_true rfl, Nat.le_of_ble_eq_true rfl⟩ (kr_pv0 hPc hK0) rfl hl.1 rfl (Nat.le_of_ble_eq_true rfl) dL_law_656 ⟨show cells + 0 ≤ 960946 by omega, show slots + 0 ≤ 6218629 by omega⟩ (fun r9 e9 => ?_)
      subst e9
      rcases kr_wkO (q := q) hrc with ⟨hr0, ewk⟩ | ⟨j, hj, ewk, hmin, -⟩
      · rw [ewk]
        refine lv_istore (lv' := [(14, .int (-1)), (13, .int (nI (kr_rc A q))), (12, .int (nI u)), (0, .ref b), (1, .ref h), (2, .ref g), (3, .int (nI t)), (4, .int x), (5, .long dg), (8, .int (nI ld)), (10, .int (nI js)), (11, .int (nI q))]) hx hb dL_law_659 hl (by decide) rfl (fun ls hl => ?_)
        refine lv_iload hx hb dL_law_661 (lv_at hl 0 rfl) ?_
        refine lv_if_ge (tgt := 670) hx hb dL_law_663 (by decide) (fun c663 => absurd c663 (by decide)) (fun c663 => ?_)
        refine lv_iconst (v := 1) hx hb dL_law_666 (by decide) ?_
        refine lv_goto (tgt := 671) hx hb dL_law_667 (by decide) ?_
        refine lv_iload hx hb dL_law_671 (lv_at hl 1 rfl) ?_
        refine lv_if_ne (tgt := 680) hx hb dL_law_673 (by decide) (fun c673 => absurd (by rw [hr0]; rfl) c673) (fun c673 => ?_)
        refine lv_iconst (v := 1) hx hb dL_law_676 (by decide) ?_
        refine lv_goto (tgt := 681) hx hb dL_law_677 (by decide) ?_
        refine lv_icmp_eq (tgt := 686) hx hb dL_law_681 (by decide) (fun c681 => ?_) (fun c681 => absurd rfl c681)
        refine lv_iconst (v := 0) hx hb dL_law_686 (by decide) ?_
        refine lv_istore (lv' := [(15, .int 0), (14, .int (-1)), (13, .int (nI (kr_rc A q))), (12, .int (nI u)), (0, .ref b), (1, .ref h), (2, .ref g), (3, .int (nI t)), (4, .int x), (5, .long dg), (8, .int (nI ld)), (10, .int (nI js)), (11, .int (nI q))]) hx hb dL_law_687 hl (by decide) rfl (fun ls hl => ?_)
        refine lv_iload hx hb dL_law_689 (lv_at hl 0 rfl) ?_
        refine lv_iload hx hb dL_law_691 (lv_at hl 2 rfl) ?_
        refine lv_icmp_ge (tgt := 797) hx hb dL_law_693 (by decide) (fun c693 => ?_) (fun c693 => absurd (by rw [hr0]; decide) c693)
        refine lv_iinc (v := nI (q + 1)) (lv' := [(11, .int (nI (q + 1))), (15, .int 0), (14, .int (-1)), (13, .int (nI (kr_rc A q))), (12, .int (nI u)), (0, .ref b), (1, .ref h), (2, .ref g), (3, .int (nI t)), (4, .int x), (5, .long dg), (8, .int (nI ld)), (10, .int (nI js))]) hx hb dL_law_797 hl (k := 12) rfl (kr_inc _) (by decide) rfl (fun ls hl => ?_)
        refine lv_goto (tgt := 493) hx hb dL_law_800 (by decide) ?_
        exact ihQ (q + 1) ls (show q + 1 ≤ L by omega) (by show L - (q + 1) < L - q; omega) (lv_sub hl [5, 6, 7, 8, 9, 10, 11, 12, 0] rfl)
      · rw [ewk]
        refine lv_istore (lv' := [(14, .int (nI j)), (13, .int (nI (kr_rc A q))), (12, .int (nI u)), (0, .ref b), (1, .ref h), (2, .ref g), (3, .int (nI t)), (4, .int x), (5, .long dg), (8, .int (nI ld)), (10, .int (nI js)), (11, .int (nI q))]) hx hb dL_law_659 hl (by decide) rfl (fun ls hl => ?_)
        refine lv_iload hx hb dL_law_661 (lv_at hl 0 rfl) ?_
        refine lv_if_ge (tgt := 670) hx hb dL_law_663 (by decide) (fun c663 => ?_) (fun c663 => absurd (nI_pos' (by omega)) c663)
        refine lv_iconst (v := 0) hx hb dL_law_670 (by decide) ?_
        refine lv_iload hx hb dL_law_671 (lv_at hl 1 rfl) ?_
        refine lv_if_ne (tgt := 680) hx hb dL_law_673 (by decide) (fun c673 => ?_) (fun c673 => absurd ((nI_eq (b := 0) (by omega) (by decide)).mp c673) (by omega))
        refine lv_iconst (v := 0) hx hb dL_law_680 (by decide) ?_
        refine lv_icmp_eq (tgt := 686) hx hb dL_law_681 (by decide) (fun c681 => ?_) (fun c681 => absurd rfl c681)
        refine lv_iconst (v := 0) hx hb dL_law_686 (by decide) ?_
        refine lv_istore (lv' := [(15, .int 0), (14, .int (nI j)), (13, .int (nI (kr_rc A q))), (12, .int (nI u)), (0, .ref b), (1, .ref h), (2, .ref g), (3, .int (nI t)), (4, .int x), (5, .long dg), (8, .int (nI ld)), (10, .int (nI js)), (11, .int (nI q))]) hx hb dL_law_687 hl (by decide) rfl (fun ls hl => ?_)
        refine kr_lp (nL := 22) (fun z : Nat => [(15, .int (nI z)), (14, .int (nI j)), (13, .int (nI (kr_rc A q))), (12, .int (nI u)), (0, .ref b), (1, .ref h), (2, .ref g), (3, .int (nI t)), (4, .int x), (5, .long dg), (8, .int (nI ld)), (10, .int (nI js)), (11, .int (nI q))]) (fun z => z ≤ kr_rc A q) (fun z => kr_rc A q - z) ?_ (0) (Nat.zero_le _) (lv_sub hl [0, 1, 2, 3, 4, 5, 6, 7, 8, 9, 10, 11, 12] rfl)
        clear hl
        intro z ls hI hl ih
        obtain ⟨p9, rfl⟩ : ∃ y, y = z := ⟨_, rfl⟩
        have hl : lv_has ls 22 [(15, .int (nI p9)), (14, .int (nI j)), (13, .int (nI (kr_rc A q))), (12, .int (nI u)), (0, .ref b), (1, .ref h), (2, .ref g), (3, .int (nI t)), (4, .int x), (5, .long dg), (8, .int (nI ld)), (10, .int (nI js)), (11, .int (nI q))] := hl
        obtain hp9 : p9 ≤ kr_rc A q := hI
        refine lv_iload hx hb dL_law_689 (lv_at hl 0 rfl) ?_
        refine lv_iload hx hb dL_law_691 (lv_at hl 2 rfl) ?_
        refine lv_icmp_ge (tgt := 797) hx hb dL_law_693 (by decide) (fun c693 => ?_) (fun c693 => ?_)
        · refine lv_iinc (v := nI (q + 1)) (lv' := [(11, .int (nI (q + 1))), (15, .int (nI p9)), (14, .int (nI j)), (13, .int (nI (kr_rc A q))), (12, .int (nI u)), (0, .ref b), (1, .ref h), (2, .ref g), (3, .int (nI t)), (4, .int x), (5, .long dg), (8, .int (nI ld)), (10, .int (nI js))]) hx hb dL_law_797 hl (k := 12) rfl (kr_inc _) (by decide) rfl (fun ls hl => ?_)
          refine lv_goto (tgt := 493) hx hb dL_law_800 (by decide) ?_
          exact ihQ (q + 1) ls (show q + 1 ≤ L by omega) (by show L - (q + 1) < L - q; omega) (lv_sub hl [5, 6, 7, 8, 9, 10, 11, 12, 0] rfl)
        · have hp : p9 < kr_rc A q := kr_lt (a := p9) (b := kr_rc A q) (by omega) (by omega) c693
          obtain ⟨⟨sp, hsp, esp⟩, hs1, hs2, k, hk, ek, hkk⟩ := kr_lnP hw hx0 hq hp
          refine lv_aload_n hx hb dL_law_696 rfl (lv_at hl 5 rfl) ?_
          refine lv_iload hx hb dL_law_697 (lv_at hl 12 rfl) ?_
          refine lv_iload hx hb dL_law_699 (lv_at hl 0 rfl) ?_
          refine kr_vI (n := 2) (As := [.int (nI q), .int (nI p9)]) (rest := []) ⟨hx, hb, hml, hown, hts⟩ (c_X0_strengthAt l D cy h a N L A q p9 hw hq (by omega)) kg_RL_143 ⟨rfl, rfl⟩ (by decide +kernel) ⟨Nat.le_of_ble_eq_true rfl, Nat.le_of_ble_eq_true rfl⟩ (kr_pv0 hPc hK0) rfl hl.1 rfl (Nat.le_of_ble_eq_true rfl) dL_law_701 ⟨show cells + 0 ≤ 960946 by omega, show slots + 0 ≤ 6218629 by omega⟩ (fun r9 e9 => ?_)
          subst e9
          refine lv_aload_n hx hb dL_law_704 rfl (lv_at hl 6 rfl) ?_
          refine va_get (ci := 1) (v := .ref (ad 0 1)) (C := RX1) (T := TX1) (N := 3) hx hb hts kr_wsX1 hown hK hP 0 rfl rfl 1 (by decide) (hts _ kq_514) (fun _ h9 => h9) rfl dL_law_705 ?_
          refine lv_iload hx hb dL_law_708 (lv_at hl 12 rfl) ?_
          refine kr_rdO hx hb hK hP 1 L rfl q (by omega) (by omega) dL_law_710 ?_
          refine lv_iload hx hb dL_law_711 (lv_at hl 0 rfl) ?_
          refine kr_rdR hx hb hK hP (q := q) hq p9 hp (by omega) dL_law_713 ?_
          refine kr_cut (pcJ := 745) (stJ := []) ?_ (fun key745 => ?_)
          · refine lv_aload_n hx hb dL_law_745 rfl (lv_at hl 5 rfl) ?_
            refine lv_iload hx hb dL_law_746 (lv_at hl 12 rfl) ?_
            refine lv_iload hx hb dL_law_748 (lv_at hl 0 rfl) ?_
            refine kr_vI (n := 2) (As := [.int (nI q), .int (nI p9)]) (rest := []) ⟨hx, hb, hml, hown, hts⟩ (c_X0_strengthAt l D cy h a N L A q p9 hw hq (by omega)) kg_RL_143 ⟨rfl, rfl⟩ (by decide +kernel) ⟨Nat.le_of_ble_eq_true rfl, Nat.le_of_ble_eq_true rfl⟩ (kr_pv0 hPc hK0) rfl hl.1 rfl (Nat.le_of_ble_eq_true rfl) dL_law_750 ⟨show cells + 0 ≤ 960946 by omega, show slots + 0 ≤ 6218629 by omega⟩ (fun r9 e9 => ?_)
            subst e9
            refine lv_aload_n hx hb dL_law_753 rfl (lv_at hl 5 rfl) ?_
            refine lv_iload hx hb dL_law_754 (lv_at hl 12 rfl) ?_
            refine lv_iload hx hb dL_law_756 (lv_at hl 1 rfl) ?_
            refine kr_vI (n := 2) (As := [.int (nI q), .int (nI j)]) (rest := [.int (kr_nw A q p9)]) ⟨hx, hb, hml, hown, hts⟩ (c_X0_strengthAt l D cy h a N L A q j hw hq (by omega)) kg_RL_143 ⟨rfl, rfl⟩ (by decide +kernel) ⟨Nat.le_of_ble_eq_true rfl, Nat.le_of_ble_eq_true rfl⟩ (kr_pv0 hPc hK0) rfl hl.1 rfl (Nat.le_of_ble_eq_true rfl) dL_law_758 ⟨show cells + 0 ≤ 960946 by omega, show slots + 0 ≤ 6218629 by omega⟩ (fun r9 e9 => ?_)
            subst e9
            refine lv_icmp_lt (tgt := 789) hx hb dL_law_761 (by decide) (fun c761 => absurd (Int32.lt_iff_toInt_lt.mp c761) (by have := hmin p9 hp; omega)) (fun c761 => ?_)
            refine lv_aload_n hx hb dL_law_764 rfl (lv_at hl 5 rfl) ?_
            refine lv_aload_n hx hb dL_law_765 rfl (lv_at hl 5 rfl) ?_
            refine lv_iload hx hb dL_law_766 (lv_at hl 12 rfl) ?_
            refine lv_iload hx hb dL_law_768 (lv_at hl 0 rfl) ?_
            refine kr_vI (n := 2) (As := [.int (nI q), .int (nI p9)]) (rest := [.ref h]) ⟨hx, hb, hml, hown, hts⟩ (c_X0_knotOf l D cy h a N L A q p9 hw hq (by omega)) kg_RL_146 ⟨rfl, rfl⟩ (by decide +kernel) ⟨Nat.le_of_ble_eq_true rfl, Nat.le_of_ble_eq_true rfl⟩ (kr_pv0 hPc hK0) rfl hl.1 rfl (Nat.le_of_ble_eq_true rfl) dL_law_770 ⟨show cells + 0 ≤ 960946 by omega, show slots + 0 ≤ 6218629 by omega⟩ (fun r9 e9 => ?_)
            subst e9
            rw [ek]
            refine kr_vI (n := 1) (As := [.int (nI k)]) (rest := []) ⟨hx, hb, hml, hown, hts⟩ (c_X0_kindOf l D cy h a N L A k hN (by omega)) kg_RL_92 ⟨rfl, rfl⟩ (by decide +kernel) ⟨Nat.le_of_ble_eq_true rfl, Nat.le_of_ble_eq_true rfl⟩ (kr_pv0 hPc hK0) rfl hl.1 rfl (Nat.le_of_ble_eq_true rfl) dL_law_773 ⟨show cells + 0 ≤ 960946 by omega, show slots + 0 ≤ 6218629 by omega⟩ (fun r9 e9 => ?_)
            subst e9
            refine lv_iload hx hb dL_law_776 (lv_at hl 0 rfl) ?_
            refine lv_if_ne (tgt := 785) hx hb dL_law_778 (by decide) (fun c778 => ?_) (fun c778 => ?_)
            · refine lv_iconst (v := 0) hx hb dL_law_785 (by decide) ?_
              refine lv_icmp_eq (tgt := 791) hx hb dL_law_786 (by decide) (fun c786 => ?_) (fun c786 => absurd (hkk.trans (if_neg (fun w => c778 (by rw [w]; rfl)))) c786)
              refine lv_iinc (v := nI (p9 + 1)) (lv' := [(15, .int (nI (p9 + 1))), (14, .int (nI j)), (13, .int (nI (kr_rc A q))), (12, .int (nI u)), (0, .ref b), (1, .ref h), (2, .ref g), (3, .int (nI t)), (4, .int x), (5, .long dg), (8, .int (nI ld)), (10, .int (nI js)), (11, .int (nI q))]) hx hb dL_law_791 hl (k := 0) rfl (kr_inc _) (by decide) rfl (fun ls hl => ?_)
              refine lv_goto (tgt := 689) hx hb dL_law_794 (by decide) ?_
              exact ih (p9 + 1) ls (show p9 + 1 ≤ kr_rc A q by omega) (by show kr_rc A q - (p9 + 1) < kr_rc A q - p9; omega) (lv_sub hl [0, 1, 2, 3, 4, 5, 6, 7, 8, 9, 10, 11, 12] rfl)
            · refine lv_iconst (v := 1) hx hb dL_law_781 (by decide) ?_
              refine lv_goto (tgt := 786) hx hb dL_law_782 (by decide) ?_
              refine lv_icmp_eq (tgt := 791) hx hb dL_law_786 (by decide) (fun c786 => ?_) (fun c786 => absurd (hkk.trans (if_pos ((nI_eq (b := 0) (by omega) (by decide)).mp c778))) c786)
              refine lv_iinc (v := nI (p9 + 1)) (lv' := [(15, .int (nI (p9 + 1))), (14, .int (nI j)), (13, .int (nI (kr_rc A q))), (12, .int (nI u)), (0, .ref b), (1, .ref h), (2, .ref g), (3, .int (nI t)), (4, .int x), (5, .long dg), (8, .int (nI ld)), (10, .int (nI js)), (11, .int (nI q))]) hx hb dL_law_791 hl (k := 0) rfl (kr_inc _) (by decide) rfl (fun ls hl => ?_)
              refine lv_goto (tgt := 689) hx hb dL_law_794 (by decide) ?_
              exact ih (p9 + 1) ls (show p9 + 1 ≤ kr_rc A q by omega) (by show kr_rc A q - (p9 + 1) < kr_rc A q - p9; omega) (lv_sub hl [0, 1, 2, 3, 4, 5, 6, 7, 8, 9, 10, 11, 12] rfl)
          · refine lv_icmp_gt (tgt := 789) hx hb dL_law_714 (by decide) (fun c714 => absurd hs1 (fun w => Int32.lt_irrefl (Int32.lt_of_lt_of_le c714 w))) (fun c714 => ?_)
            refine lv_iload hx hb dL_law_717 (lv_at hl 0 rfl) ?_
            refine lv_if_le (tgt := 745) hx hb dL_law_719 (by decide) (fun c719 => ?_) (fun c719 => ?_)
            · exact key745
            · have hp0 : 0 < p9 := kr_lt (a := 0) (b := p9) (by decide) (by omega) c719
              refine lv_aload_n hx hb dL_law_722 rfl (lv_at hl 5 rfl) ?_
              refine lv_iload hx hb dL_law_723 (lv_at hl 12 rfl) ?_
              refine lv_iload hx hb dL_law_725 (lv_at hl 0 rfl) ?_
              refine kr_vI (n := 2) (As := [.int (nI q), .int (nI p9)]) (rest := []) ⟨hx, hb, hml, hown, hts⟩ (c_X0_strengthAt l D cy h a N L A q p9 hw hq (by omega)) kg_RL_143 ⟨rfl, rfl⟩ (by decide +kernel) ⟨Nat.le_of_ble_eq_true rfl, Nat.le_of_ble_eq_true rfl⟩ (kr_pv0 hPc hK0) rfl hl.1 rfl (Nat.le_of_ble_eq_true rfl) dL_law_727 ⟨show cells + 0 ≤ 960946 by omega, show slots + 0 ≤ 6218629 by omega⟩ (fun r9 e9 => ?_)
              subst e9
              refine lv_aload_n hx hb dL_law_730 rfl (lv_at hl 6 rfl) ?_
              refine va_get (ci := 1) (v := .ref (ad 0 1)) (C := RX1) (T := TX1) (N := 3) hx hb hts kr_wsX1 hown hK hP 0 rfl rfl 1 (by decide) (hts _ kq_514) (fun _ h9 => h9) rfl dL_law_731 ?_
              refine lv_iload hx hb dL_law_734 (lv_at hl 12 rfl) ?_
              refine kr_rdO hx hb hK hP 1 L rfl q (by omega) (by omega) dL_law_736 ?_
              refine lv_iload hx hb dL_law_737 (lv_at hl 0 rfl) ?_
              refine lv_iconst (v := 1) hx hb dL_law_739 (by decide) ?_
              refine kr_isubN hx hb p9 1 (by omega) dL_law_740 ?_
              refine kr_rdR hx hb hK hP (q := q) hq (p9 - 1) (by omega) (by omega) dL_law_741 ?_
              refine lv_icmp_gt (tgt := 789) hx hb dL_law_742 (by decide) (fun c742 => absurd (hs2 hp0) (fun w => Int32.lt_irrefl (Int32.lt_of_lt_of_le c742 w))) (fun c742 => ?_)
              exact key745
    · refine kr_cut (pcJ := 619) (stJ := []) ?_ (fun key619 => ?_)
      · refine lv_aload_n hx hb dL_law_619 rfl (lv_at hl 3 rfl) ?_
        refine lv_iload hx hb dL_law_620 (lv_at hl 10 rfl) ?_
        refine lv_iload hx hb dL_law_622 (lv_at hl 8 rfl) ?_
        refine kr_vI (n := 2) (As := [.int (nI q), .int (nI ld)]) (rest := []) ⟨hx, hb, hml, hown, hts⟩ (c_X0_holds l D cy h a N L A q (nI ld) hw hq hld) kg_RL_133 ⟨rfl, rfl⟩ (by decide +kernel) ⟨Nat.le_of_ble_eq_true rfl, Nat.le_of_ble_eq_true rfl⟩ (kr_pv0 hPc hK0) rfl hl.1 rfl (Nat.le_of_ble_eq_true rfl) dL_law_624 ⟨show cells + 0 ≤ 960946 by omega, show slots + 0 ≤ 6218629 by omega⟩ (fun r9 e9 => ?_)
        subst e9
        refine lv_iload hx hb dL_law_627 (lv_at hl 0 rfl) ?_
        refine lv_if_le (tgt := 647) hx hb dL_law_629 (by decide) (fun c629 => ?_) (fun c629 => ?_)
        · have hr0 : kr_rc A q = 0 := by have := kr_ge (a := 0) (b := kr_rc A q) (by decide) (by omega) c629; omega
          rw [if_neg (show ¬ (¬ A 5 q = 0 ∧ kr_gw A q (nI ld) = -1) from fun w => w.1 (by rw [er, hr0]; rfl))]
          refine lv_iconst (v := 0) hx hb dL_law_647 (by decide) ?_
          refine lv_icmp_eq (tgt := 653) hx hb dL_law_648 (by decide) (fun c648 => ?_) (fun c648 => absurd rfl c648)
          exact key653
        · have hr0 : 0 < kr_rc A q := kr_lt (a := 0) (b := kr_rc A q) (by decide) (by omega) c629
          have h50 : ¬ A 5 q = 0 := by rw [er]; exact nI_ne0 hr0 (by omega)
          refine lv_aload_n hx hb dL_law_632 rfl (lv_at hl 3 rfl) ?_
          refine lv_iload hx hb dL_law_633 (lv_at hl 10 rfl) ?_
          refine lv_iload hx hb dL_law_635 (lv_at hl 8 rfl) ?_
          refine kr_vI (n := 2) (As := [.int (nI q), .int (nI ld)]) (rest := [.int (if ¬ A 5 q = 0 ∧ kr_gw A q (nI ld) = -1 then (1 : Int32) else 0)]) ⟨hx, hb, hml, hown, hts⟩ (c_X0_wouldGiveWay l D cy h a N L A q (nI ld) hw hq hld) kg_RL_137 ⟨rfl, rfl⟩ (by decide +kernel) ⟨Nat.le_of_ble_eq_true rfl, Nat.le_of_ble_eq_true rfl⟩ (kr_pv0 hPc hK0) rfl hl.1 rfl (Nat.le_of_ble_eq_true rfl) dL_law_637 ⟨show cells + 0 ≤ 960946 by omega, show slots + 0 ≤ 6218629 by omega⟩ (fun r9 e9 => ?_)
          subst e9
          refine lv_if_ge (tgt := 647) hx hb dL_law_640 (by decide) (fun c640 => ?_) (fun c640 => ?_)
          · rw [if_neg (show ¬ (¬ A 5 q = 0 ∧ kr_gw A q (nI ld) = -1) from fun w => by rw [w.2] at c640; exact absurd c640 (by decide))]
            refine lv_iconst (v := 0) hx hb dL_law_647 (by decide) ?_
            refine lv_icmp_eq (tgt := 653) hx hb dL_law_648 (by decide) (fun c648 => ?_) (fun c648 => absurd rfl c648)
            exact key653
          · have hg : kr_gw A q (nI ld) = -1 := (kr_gw_kn (ld := nI ld) hrc).resolve_right (fun w => by obtain ⟨gg, h1, h2⟩ := w; rw [h2] at c640; exact c640 (nI_pos' (by omega)))
            rw [if_pos (show ¬ A 5 q = 0 ∧ kr_gw A q (nI ld) = -1 from ⟨h50, hg⟩)]
            refine lv_iconst (v := 1) hx hb dL_law_643 (by decide) ?_
            refine lv_goto (tgt := 648) hx hb dL_law_644 (by decide) ?_
            refine lv_icmp_eq (tgt := 653) hx hb dL_law_648 (by decide) (fun c648 => ?_) (fun c648 => absurd rfl c648)
            exact key653
      · refine kr_cut (pcJ := 598) (stJ := []) ?_ (fun key598 => ?_)
        · refine lv_iload hx hb dL_law_598 (lv_at hl 1 rfl) ?_
          refine lv_sipush (v := 999) hx hb dL_law_600 (by decide) ?_
          refine lv_icmp_ge (tgt := 619) hx hb dL_law_603 (by decide) (fun c603 => ?_) (fun c603 => ?_)
          · exact key619
          · have hu9 : u < 999 := by have := mt (fun w => nI_le (a := 999) (b := u) w (by omega)) c603; omega
            refine lv_aload_n hx hb dL_law_606 rfl (lv_at hl 3 rfl) ?_
            refine lv_iload hx hb dL_law_607 (lv_at hl 10 rfl) ?_
            refine lv_iload hx hb dL_law_609 (lv_at hl 1 rfl) ?_
            refine lv_iconst (v := 1) hx hb dL_law_611 (by decide) ?_
            refine kr_iaddN hx hb u 1 dL_law_612 ?_
            refine kr_vI (n := 2) (As := [.int (nI q), .int (nI (u + 1))]) (rest := []) ⟨hx, hb, hml, hown, hts⟩ (c_X0_holds l D cy h a N L A q (nI (u + 1)) hw hq (kr_rgN (z := u + 1) (lo := 1) (hi := 999) (by omega) (by omega) (by decide))) kg_RL_133 ⟨rfl, rfl⟩ (by decide +kernel) ⟨Nat.le_of_ble_eq_true rfl, Nat.le_of_ble_eq_true rfl⟩ (kr_pv0 hPc hK0) rfl hl.1 rfl (Nat.le_of_ble_eq_true rfl) dL_law_613 ⟨show cells + 0 ≤ 960946 by omega, show slots + 0 ≤ 6218629 by omega⟩ (fun r9 e9 => ?_)
            subst e9
            rw [if_neg (show ¬ (¬ A 5 q = 0 ∧ kr_gw A q (nI (u + 1)) = -1) from fun w => by
              have hr9 : 0 < kr_rc A q := Nat.pos_of_ne_zero (fun w9 => w.1 (by rw [er, w9]; rfl))
              exact hu2 hr9 hu9 w.2)]
            refine lv_if_ne (tgt := 651) hx hb dL_law_616 (by decide) (fun c616 => absurd rfl c616) (fun c616 => ?_)
            exact key619
        · refine kr_cut (pcJ := 570) (stJ := []) ?_ (fun key570 => ?_)
          · refine lv_iload hx hb dL_law_570 (lv_at hl 0 rfl) ?_
            refine lv_if_le (tgt := 598) hx hb dL_law_572 (by decide) (fun c572 => ?_) (fun c572 => ?_)
            · exact key598
            · have hr0 : 0 < kr_rc A q := kr_lt (a := 0) (b := kr_rc A q) (by decide) (by omega) c572
              refine lv_iload hx hb dL_law_575 (lv_at hl 1 rfl) ?_
              refine lv_if_le (tgt := 598) hx hb dL_law_577 (by decide) (fun c577 => ?_) (fun c577 => ?_)
              · exact key598
              · have hu9 : 0 < u := kr_lt (a := 0) (b := u) (by decide) (by omega) c577
                refine lv_aload_n hx hb dL_law_580 rfl (lv_at hl 3 rfl) ?_
                refine lv_iload hx hb dL_law_581 (lv_at hl 10 rfl) ?_
                refine lv_iconst (v := 1) hx hb dL_law_583 (by decide) ?_
                refine lv_iload hx hb dL_law_584 (lv_at hl 6 rfl) ?_
                refine lv_iload hx hb dL_law_586 (lv_at hl 1 rfl) ?_
                refine kr_sI (n := 2) (As := [.int x, .int (nI u)]) (rest := [.int 1, .int (nI q), .ref h]) ⟨hx, hb, hml, hown, hts⟩ (c_L_below l x u (by omega) (by omega)) kg_RL_18 ⟨rfl, rfl⟩ (by decide +kernel) ⟨Nat.le_of_ble_eq_true rfl, Nat.le_of_ble_eq_true rfl⟩ ⟨kr_blT, fun U hU hW => ⟨rfl, trivial⟩⟩ rfl hl.1 rfl (Nat.le_of_ble_eq_true rfl) dL_law_588 ⟨show cells + 0 ≤ 960946 by omega, show slots + 0 ≤ 6218629 by omega⟩ (fun r9 e9 => ?_)
                obtain ⟨je, hje, rfl⟩ := e9
                refine kr_iaddN hx hb 1 je dL_law_591 ?_
                refine kr_vI (n := 2) (As := [.int (nI q), .int (nI (1 + je))]) (rest := []) ⟨hx, hb, hml, hown, hts⟩ (c_X0_holds l D cy h a N L A q (nI (1 + je)) hw hq (kr_rgN (z := 1 + je) (lo := 1) (hi := 999) (by omega) (by omega) (by decide))) kg_RL_133 ⟨rfl, rfl⟩ (by decide +kernel) ⟨Nat.le_of_ble_eq_true rfl, Nat.le_of_ble_eq_true rfl⟩ (kr_pv0 hPc hK0) rfl hl.1 rfl (Nat.le_of_ble_eq_true rfl) dL_law_592 ⟨show cells + 0 ≤ 960946 by omega, show slots + 0 ≤ 6218629 by omega⟩ (fun r9 e9 => ?_)
                subst e9
                rw [if_pos (show ¬ A 5 q = 0 ∧ kr_gw A q (nI (1 + je)) = -1 from ⟨by rw [er]; exact nI_ne0 hr0 (by omega), hu1 (1 + je) (by omega) (by omega)⟩)]
                refine lv_if_eq (tgt := 651) hx hb dL_law_595 (by decide) (fun c595 => absurd c595 (by decide)) (fun c595 => ?_)
                exact key598
          · refine kr_cut (pcJ := 560) (stJ := []) ?_ (fun key560 => ?_)
            · refine lv_iload hx hb dL_law_560 (lv_at hl 0 rfl) ?_
              refine lv_if_ne (tgt := 570) hx hb dL_law_562 (by decide) (fun c562 => ?_) (fun c562 => ?_)
              · exact key570
              · refine lv_iload hx hb dL_law_565 (lv_at hl 1 rfl) ?_
                refine lv_if_gt (tgt := 651) hx hb dL_law_567 (by decide) (fun c567 => absurd c567 (by rw [hu0 ((nI_eq (b := 0) (by omega) (by decide)).mp c562)]; decide)) (fun c567 => ?_)
                exact key570
            · refine lv_iload hx hb dL_law_518 (lv_at hl 1 rfl) ?_
              refine lv_if_lt (tgt := 651) hx hb dL_law_520 (by decide) (fun c520 => absurd c520 (nI_pos (by omega))) (fun c520 => ?_)
              refine lv_iload hx hb dL_law_523 (lv_at hl 1 rfl) ?_
              refine lv_sipush (v := 999) hx hb dL_law_525 (by decide) ?_
              refine lv_icmp_gt (tgt := 651) hx hb dL_law_528 (by decide) (fun c528 => absurd c528 (nI_nlt (a := 999) (b := u) hu (by decide))) (fun c528 => ?_)
              refine lv_iload hx hb dL_law_531 (lv_at hl 1 rfl) ?_
              refine lv_aload_n hx hb dL_law_533 rfl (lv_at hl 3 rfl) ?_
              refine lv_iload hx hb dL_law_534 (lv_at hl 9 rfl) ?_
              refine kr_vI (n := 1) (As := [.int (nI js)]) (rest := [.int (nI u)]) ⟨hx, hb, hml, hown, hts⟩ (c_X0_holdsUpTo l D cy h a N L A js hw hjs) kg_RL_127 ⟨rfl, rfl⟩ (by decide +kernel) ⟨Nat.le_of_ble_eq_true rfl, Nat.le_of_ble_eq_true rfl⟩ (kr_pv0 hPc hK0) rfl hl.1 rfl (Nat.le_of_ble_eq_true rfl) dL_law_536 ⟨show cells + 0 ≤ 960946 by omega, show slots + 0 ≤ 6218629 by omega⟩ (fun r9 e9 => ?_)
              subst e9
              rw [eus]
              refine lv_icmp_gt (tgt := 651) hx hb dL_law_539 (by decide) (fun c539 => absurd c539 (nI_nlt (by omega) (by omega))) (fun c539 => ?_)
              refine lv_iload hx hb dL_law_542 (lv_at hl 1 rfl) ?_
              refine lv_aload_n hx hb dL_law_544 rfl (lv_at hl 3 rfl) ?_
              refine lv_iload hx hb dL_law_545 (lv_at hl 9 rfl) ?_
              refine kr_vI (n := 1) (As := [.int (nI js)]) (rest := [.int (nI u)]) ⟨hx, hb, hml, hown, hts⟩ (c_X0_holdsUpTo l D cy h a N L A js hw hjs) kg_RL_127 ⟨rfl, rfl⟩ (by decide +kernel) ⟨Nat.le_of_ble_eq_true rfl, Nat.le_of_ble_eq_true rfl⟩ (kr_pv0 hPc hK0) rfl hl.1 rfl (Nat.le_of_ble_eq_true rfl) dL_law_547 ⟨show cells + 0 ≤ 960946 by omega, show slots + 0 ≤ 6218629 by omega⟩ (fun r9 e9 => ?_)
              subst e9
              rw [eus]
              refine lv_icmp_ne (tgt := 560) hx hb dL_law_550 (by decide) (fun c550 => ?_) (fun c550 => ?_)
              · exact key560
              · have huu : u = us := (nI_eq (by omega) (by omega)).mp c550
                refine lv_iload hx hb dL_law_553 (lv_at hl 10 rfl) ?_
                refine lv_iload hx hb dL_law_555 (lv_at hl 9 rfl) ?_
                refine lv_icmp_lt (tgt := 651) hx hb dL_law_557 (by decide) (fun c557 => absurd c557 (nI_nlt (by omega) (by omega))) (fun c557 => ?_)
                exact key560
