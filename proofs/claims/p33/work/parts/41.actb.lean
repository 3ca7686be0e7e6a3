theorem kgs_RL_24 : GoodIn kr_all (va_wsS RL 24 yX1_with (Cond.code yX1_with cX1_with 4 (some (.array (.array .int))) :: kr_all)) := kr_gS2 kq_465 kq_466 kq_26 kq_467
theorem kgs_RL_43 : GoodIn kr_all (va_wsS RL 43 yX1_first (Cond.code yX1_first cX1_first 4 (some (.array .int)) :: kr_all)) := kr_gS2 kq_496 kq_416 kq_26 kq_417
theorem kg_RL_40 : GoodIn kr_all (wsV RL 40 RX0 yX0_tie (Cond.code yX0_tie cX0_tie 4 (some .int) :: kr_all)) := kr_gV kq_483 kq_484 kq_485 kq_25 kq_486
set_option maxHeartbeats 4000000 in
set_option maxRecDepth 100000 in
theorem act_c4 {p : Program} {l : Launch} {e : Env} {s : State} {m : MethodId} {below : List Frame} {meth : Method} {c : Code} {ls : Array Slot} {D : va_G} {cy cz : ClassId} {h g N L q k d : Nat} {a : Nat → Nat} {ad : Nat → Nat → Nat} {A : Nat → Nat → Int32} {x : Int32} {AA : Nat → Prop} (hl0 : l.stackTraces = false) (hx : p.tables.exec = Jvm.exec) (hb : c.code = cL_act) (hml : c.maxLocals = 10) (hr : meth.sig.returnType = some .boolean) (hts : ∀ w ∈ kr_all, w.before #[Value.ref h, Value.ref g, Value.int x] s = true) (hown : s.vm.findClass RL = some m.cls) (hlocks : meth.locks = false) (htab : c.exceptionTable.toList = tableOf kr_hh) (hA : ∀ q : Nat, s.heap.size ≤ q → AA q) (hK : va_K D vwCl [(cy, .int), (cz, .array .int)] s) (hZ : kr_AO s) (hT : kr_T s) (hw : kr_wf N L A) (hx0 : kr_wx N L A) (hN2 : 2 ≤ N) (hL1 : 1 ≤ L) (hq : q < L) (hk : k < N) (hd1 : 1 ≤ d) (hd2 : d ≤ 999) (hJ : va_P D vwCl (kr_JW cy cz h a g ad N L A) s.heap) (hD : va_D AA (kr_JW cy cz h a g ad N L A)) (hS : va_S AA s.heap s.heap []) (hl : lv_has ls 10 [(0, .ref h), (1, .ref g), (2, .int x), (3, .int (nI N)), (4, .int (nI q)), (5, .int (nI k)), (6, .int (nI d)), (7, .int (if N < 16 then (1 : Int32) else 0))]) : W p l e ({ frames := 10, cells := 20, slots := 80, locals := 300 } : Room) s m #[Value.ref h, Value.ref g, Value.int x] below meth c s.heap [] 0 0 (MQ below (kr_AQ D cy cz h a g AA) #[Value.ref h, Value.ref g, Value.int x] s 20 80 AA) (F0 m 367 ls []) := by
  have hN := hw.1
  have hL := hw.2.1
  obtain ⟨hrc, er⟩ := hw.rc hq
  have hP : va_P D vwCl (kr_SW cy cz g ad N L A) s.heap := kr_Pr hJ
  refine lv_iload_n hx hb dL_act_367 rfl (lv_at hl 3 rfl) ?_
  refine lv_if_eq (tgt := 383) hx hb dL_act_368 (by decide) (fun c368 => absurd ((nI_eq (a := N) (b := 0) (by omega) (by decide)).mp c368) (by omega)) (fun c368 => ?_)
  refine lv_aload_n hx hb dL_act_371 rfl (lv_at hl 1 rfl) ?_
  refine va_get (ci := 1) (v := .ref (ad 0 0)) (C := RX1) (T := TX1) (N := 3) hx hb hts kr_wsX1 hown hK hP 0 rfl rfl 0 (by decide) (hts _ kq_512) (fun _ h9 => h9) rfl dL_act_372 ?_
  refine lv_iload hx hb dL_act_375 (lv_at hl 5 rfl) ?_
  refine kr_rdO hx hb hK hP 0 N rfl k (by omega) (by omega) dL_act_377 ?_
  refine lv_iconst (v := 0) hx hb dL_act_378 (by decide) ?_
  refine kr_rdK hx hb hK hP (k := k) (by omega) 0 (by decide) dL_act_379 ?_
  refine lv_if_ne (tgt := 385) hx hb dL_act_380 (by decide) (fun c380 => ?_) (fun c380 => ?_)
  · have hk1 : A 0 k = 1 := (hw.2.2.1 k hk).1.resolve_left c380
    refine lv_aload_n hx hb dL_act_385 rfl (lv_at hl 1 rfl) ?_
    refine va_get (ci := 1) (v := .ref (ad 0 1)) (C := RX1) (T := TX1) (N := 3) hx hb hts kr_wsX1 hown hK hP 0 rfl rfl 1 (by decide) (hts _ kq_514) (fun _ h9 => h9) rfl dL_act_386 ?_
    refine kr_lnO hx hb hK hP 1 L rfl dL_act_389 ?_
    refine lv_bipush (v := 6) hx hb dL_act_390 (by decide) ?_
    refine lv_icmp_ge (tgt := 399) hx hb dL_act_392 (by decide) (fun c392 => ?_) (fun c392 => ?_)
    · have h6 : L = 6 := by have := kr_ge (a := L) (b := 6) (by omega) (by decide) c392; omega
      refine lv_iconst (v := 0) hx hb dL_act_399 (by decide) ?_
      refine lv_istore (lv' := [(7, .int 0), (0, .ref h), (1, .ref g), (2, .int x), (3, .int (nI N)), (4, .int (nI q)), (5, .int (nI k)), (6, .int (nI d))]) hx hb dL_act_400 hl (by decide) rfl (fun ls hl => ?_)
      refine lv_iload hx hb dL_act_402 (lv_at hl 0 rfl) ?_
      refine lv_if_eq (tgt := 445) hx hb dL_act_404 (by decide) (fun c404 => ?_) (fun c404 => absurd rfl c404)
      refine lv_aload_n hx hb dL_act_445 rfl (lv_at hl 1 rfl) ?_
      refine lv_iload hx hb dL_act_446 (lv_at hl 6 rfl) ?_
      refine lv_iload hx hb dL_act_448 (lv_at hl 7 rfl) ?_
      have hcd : kr_cd (kr_i N (nI k)) (A 0 (kr_ix (nI k)) = 1 ∧ kr_o (nI d)) (L < 6) = 3 := kr_cd3 (kr_iN hk (by omega)) ⟨by rw [kr_ix_nI (by omega)]; exact hk1, kr_rgN (lo := 1) (hi := 999) hd1 hd2 (by decide)⟩ (by omega)
      have hXm := x_X0_tie l hl0 D cy h a N L A (nI k) (nI d) hN hL (by rw [hcd]; decide)
      rw [hcd] at hXm
      refine kr_ax (n := 2) (As := [.int (nI k), .int (nI d)]) (rest := []) ⟨hx, hb, hml, hown, hts⟩ hXm kg_RL_40 ⟨rfl, rfl⟩ (by decide +kernel) ⟨Nat.le_of_ble_eq_true rfl, Nat.le_of_ble_eq_true rfl⟩ (kr_Pl hJ) hK hT (fun _ _ => rfl) rfl hl.1 rfl (Nat.le_of_ble_eq_true rfl) dL_act_450 ⟨Nat.le_of_ble_eq_true rfl, Nat.le_of_ble_eq_true rfl⟩ htab [⟨91, 259, 842, 62⟩, ⟨260, 265, 842, 62⟩, ⟨266, 366, 842, 62⟩, ⟨367, 384, 842, 62⟩] ⟨385, 473, 842, 62⟩ [⟨474, 500, 842, 62⟩, ⟨501, 627, 842, 62⟩, ⟨628, 648, 842, 62⟩, ⟨649, 691, 842, 62⟩, ⟨692, 736, 842, 62⟩, ⟨737, 746, 842, 62⟩, ⟨747, 841, 842, 62⟩] rfl (by decide) (by decide) rfl rfl (fun q8 H1 hz8 hk8 => ?_)
      have hJ := kr_kp hJ hk8
      have hS := kr_Sk hS hz8 hk8
      refine lv_astore (lv' := [(8, .ref q8), (7, .int 0), (0, .ref h), (1, .ref g), (2, .int x), (3, .int (nI N)), (4, .int (nI q)), (5, .int (nI k)), (6, .int (nI d))]) hx hb dL_act_842 hl (by decide) rfl (fun ls hl => ?_)
      refine lv_iload hx hb dL_act_844 (lv_at hl 1 rfl) ?_
      refine lv_if_ne (tgt := 853) hx hb dL_act_846 (by decide) (fun c846 => absurd rfl c846) (fun c846 => ?_)
      refine lv_iconst (v := 1) hx hb dL_act_849 (by decide) ?_
      refine lv_goto (tgt := 854) hx hb dL_act_850 (by decide) ?_
      refine W.widen (k := 20) (n := 80) (Nat.le_of_ble_eq_true rfl) (Nat.le_of_ble_eq_true rfl) ?_
      exact kr_aE (N, L, A, ad) hx hb hr hlocks hJ hD hS ⟨hw, hx0, hN2, hL1⟩ dL_act_854
    · have h6 : L < 6 := kr_lt (b := 6) (by omega) (by decide) c392
      refine lv_iconst (v := 1) hx hb dL_act_395 (by decide) ?_
      refine lv_goto (tgt := 400) hx hb dL_act_396 (by decide) ?_
      refine lv_istore (lv' := [(7, .int 1), (0, .ref h), (1, .ref g), (2, .int x), (3, .int (nI N)), (4, .int (nI q)), (5, .int (nI k)), (6, .int (nI d))]) hx hb dL_act_400 hl (by decide) rfl (fun ls hl => ?_)
      refine lv_iload hx hb dL_act_402 (lv_at hl 0 rfl) ?_
      refine lv_if_eq (tgt := 445) hx hb dL_act_404 (by decide) (fun c404 => absurd c404 (by decide)) (fun c404 => ?_)
      refine lv_aload_n hx hb dL_act_407 rfl (lv_at hl 2 rfl) ?_
      refine lv_aload_n hx hb dL_act_408 rfl (lv_at hl 2 rfl) ?_
      refine va_get (ci := 1) (v := .ref (ad 0 1)) (C := RX1) (T := TX1) (N := 3) hx hb hts kr_wsX1 hown hK hP 0 rfl rfl 1 (by decide) (hts _ kq_514) (fun _ h9 => h9) rfl dL_act_409 ?_
      refine lv_iconst (v := 1) hx hb dL_act_412 (by decide) ?_
      refine kr_newF (BB := AA) hx hb hts hK hJ hD hA hS 1 (by decide) (by decide) (by decide) (Nat.le_of_ble_eq_true rfl) (Nat.le_of_ble_eq_true rfl) dL_act_413 (fun q1 H hqq1 hJ hD hS => ?_)
      refine lv_dup hx hb dL_act_415 rfl ?_
      refine lv_iconst (v := 0) hx hb dL_act_416 (by decide) ?_
      refine lv_iload hx hb dL_act_417 (lv_at hl 7 rfl) ?_
      refine kr_astF (tys := [(cz, .array .int)]) hx hb hK hJ hD hS (hA q1 hqq1) ((kr_JW cy cz h a g ad N L A).length + 0) (kr_gr rfl) 0 (by decide) (by decide) dL_act_419 (fun H locs hJ hD hS => ?_)
      rw [kr_lset1] at hJ hD
      refine kr_sNR (n := 2) (mc := 1) (ms := 17) (BB := AA) (As := [.ref (ad 0 1), .ref q1]) (rest := [.ref g]) ⟨hx, hb, hml, hown, hts⟩ (c_X1_with l _ D cy cz _ (9 + 2) (ad 0 1) L q1 (fun k => some (ad (1 + 1) k)) (kr_gl (kr_gr (ws := kr_W0 cy h a N L A) (i := 2) rfl)) (by omega) (fun i9 hi9 => ⟨_, _, _, rfl, List.mem_of_getElem? (kr_gl (kr_gr (ws := kr_W0 cy h a N L A) (kr_gR hi9)))⟩) ⟨_, _, List.mem_of_getElem? (kr_gr (i := 0) rfl)⟩) kgs_RL_24 ⟨rfl, rfl⟩ (by decide +kernel) ⟨Nat.le_of_ble_eq_true rfl, Nat.le_of_ble_eq_true rfl⟩ hJ hK hD hA hZ hS hA rfl hl.1 rfl (Nat.le_of_ble_eq_true rfl) dL_act_420 ⟨Nat.le_of_ble_eq_true rfl, Nat.le_of_ble_eq_true rfl⟩ (fun oq1 H locs hk9 hJ hD hS => ?_)
      clear hk9
      refine kr_wnR (w := kr_W0 cy h a N L A) hx hb hts hown (hts _ kq_514) hK hJ hD hS (fun j hj => by rw [if_neg (by omega), if_pos hj]) (if_pos rfl) (kr_up A 7 (upd (A 7) (5 * L) (nI d))) (fun j hj => by rw [show j = 0 by omega, pk_us, kr_upS]; exact (pk_us (f := A 7)).symm) (fun i hi j hj => by rw [kr_upN _ _ (by omega)]) (fun i hi j hj => by rw [kr_upS, pk_un (by have := (hw.rc hi).1; omega)]) (fun i hi j hj => by rw [kr_upN _ _ (by decide)]) dL_act_423 (fun H locs hJ hD hS => ?_)
      have hP : va_P D vwCl (kr_SG cy cz g (kr_ad (kr_ad ad 2 L q1) 0 1 oq1) N (L + 1) L (kr_up A 7 (upd (A 7) (5 * L) (nI d))) (va_up (kr_rc A) L 1) (kr_rc A)) _ := kr_Pr hJ
      refine lv_aload_n hx hb dL_act_426 rfl (lv_at hl 2 rfl) ?_
      refine lv_aload_n hx hb dL_act_427 rfl (lv_at hl 2 rfl) ?_
      refine va_get (ci := 1) (v := .ref ((kr_ad (kr_ad ad 2 L q1) 0 1 oq1) 0 2)) (C := RX1) (T := TX1) (N := 3) hx hb hts kr_wsX1 hown hK hP 0 rfl rfl 2 (by decide) (hts _ kq_516) (fun _ h9 => h9) rfl dL_act_428 ?_
      refine lv_iconst (v := 1) hx hb dL_act_431 (by decide) ?_
      refine kr_newF (BB := AA) hx hb hts hK hJ hD hA hS 1 (by decide) (by decide) (by decide) (Nat.le_of_ble_eq_true rfl) (Nat.le_of_ble_eq_true rfl) dL_act_432 (fun q2 H hqq2 hJ hD hS => ?_)
      refine lv_dup hx hb dL_act_434 rfl ?_
      refine lv_iconst (v := 0) hx hb dL_act_435 (by decide) ?_
      refine lv_iload hx hb dL_act_436 (lv_at hl 6 rfl) ?_
      refine kr_astF (tys := [(cz, .array .int)]) hx hb hK hJ hD hS (hA q2 hqq2) ((kr_W0 cy h a N L A ++ kr_SG cy cz g (kr_ad (kr_ad ad 2 L q1) 0 1 oq1) N (L + 1) L (kr_up A 7 (upd (A 7) (5 * L) (nI d))) (va_up (kr_rc A) L 1) (kr_rc A)).length + 0) (kr_gr rfl) 0 (by decide) (by decide) dL_act_438 (fun H locs hJ hD hS => ?_)
      rw [kr_lset1] at hJ hD
      refine kr_sNR (n := 2) (mc := 1) (ms := 17) (BB := AA) (As := [.ref ((kr_ad (kr_ad ad 2 L q1) 0 1 oq1) 0 2), .ref q2]) (rest := [.ref g]) ⟨hx, hb, hml, hown, hts⟩ (c_X1_with l _ D cy cz _ (9 + 3) ((kr_ad (kr_ad ad 2 L q1) 0 1 oq1) 0 2) L q2 (fun k => some ((kr_ad (kr_ad ad 2 L q1) 0 1 oq1) (2 + 1) k)) (kr_gl (kr_gr (ws := kr_W0 cy h a N L A) (i := 3) rfl)) (by omega) (fun i9 hi9 => ⟨_, _, _, rfl, List.mem_of_getElem? (kr_gl (kr_gr (ws := kr_W0 cy h a N L A) (kr_gT hi9)))⟩) ⟨_, _, List.mem_of_getElem? (kr_gr (i := 0) rfl)⟩) kgs_RL_24 ⟨rfl, rfl⟩ (by decide +kernel) ⟨Nat.le_of_ble_eq_true rfl, Nat.le_of_ble_eq_true rfl⟩ hJ hK hD hA hZ hS hA rfl hl.1 rfl (Nat.le_of_ble_eq_true rfl) dL_act_439 ⟨Nat.le_of_ble_eq_true rfl, Nat.le_of_ble_eq_true rfl⟩ (fun oq2 H locs hk9 hJ hD hS => ?_)
      clear hk9
      refine kr_wnT (w := kr_W0 cy h a N L A) hx hb hts hown (hts _ kq_516) hK hJ hD hS (fun j hj => by rw [if_neg (by omega), if_pos hj]) (if_pos rfl) (kr_up (kr_up A 7 (upd (A 7) (5 * L) (nI d))) 6 (upd (A 6) (5 * L) (nI k))) (fun j hj => by rw [show j = 0 by omega, pk_us, kr_upS]; exact (pk_us (f := A 6)).symm) (fun i hi j hj => by rw [kr_upN _ _ (by omega)]) (fun i hi j hj => by rw [kr_upN _ _ (by decide)]) (fun i hi j hj => by rw [kr_upS, pk_un (by have := (hw.rc hi).1; omega)]; rfl) dL_act_442 (fun H locs hJ hD hS => ?_)
      obtain ⟨ad2, had2⟩ : ∃ z, z = kr_ad (kr_ad (kr_ad (kr_ad ad 2 L q1) 0 1 oq1) 3 L q2) 0 2 oq2 := ⟨_, rfl⟩
      rw [← had2] at hJ hD
      have eSG : kr_SW cy cz g ad2 N (L + 1) (kr_tA A L k (nI d)) = kr_SG cy cz g ad2 N (L + 1) (L + 1) (kr_up (kr_up A 7 (upd (A 7) (5 * L) (nI d))) 6 (upd (A 6) (5 * L) (nI k))) (va_up (kr_rc A) L 1) (va_up (kr_rc A) L 1) := kr_SGe (fun i _ j hj => by rw [show kr_tA A L k (nI d) = kr_jA A L 0 k (nI d) from rfl, kr_jA_5 hj, kr_upN _ _ (by omega), kr_upN _ _ (by omega)]) (fun i hi => ⟨by show kr_rc (kr_jA A L 0 k (nI d)) i = _; rw [kr_jA_rc (by decide)]; rfl, fun j hj => rfl⟩) (fun i hi => ⟨by show kr_rc (kr_jA A L 0 k (nI d)) i = _; rw [kr_jA_rc (by decide)]; rfl, fun j hj => rfl⟩)
      rw [← eSG] at hJ hD
      refine lv_aload_n hx hb dL_act_445 rfl (lv_at hl 1 rfl) ?_
      refine lv_iload hx hb dL_act_446 (lv_at hl 6 rfl) ?_
      refine lv_iload hx hb dL_act_448 (lv_at hl 7 rfl) ?_
      refine kr_jwI (n := 2) (As := [.int (nI k), .int (nI d)]) (rest := []) ⟨hx, hb, hml, hown, hts⟩ (c_X0_tie l D cy h a N L A _ k (nI d) hN hk hk1 (kr_rgN (lo := 1) (hi := 999) hd1 hd2 (by decide)) h6) kg_RL_40 ⟨rfl, rfl⟩ (by decide +kernel) ⟨Nat.le_of_ble_eq_true rfl, Nat.le_of_ble_eq_true rfl⟩ hJ hK hD hS hA rfl hl.1 rfl (Nat.le_of_ble_eq_true rfl) dL_act_450 ⟨Nat.le_of_ble_eq_true rfl, Nat.le_of_ble_eq_true rfl⟩ (fun r9 H locs e9 hJ hD hS => ?_)
      subst e9
      have hP : va_P D vwCl (kr_SG cy cz g ad2 N (L + 1) (L + 1) (kr_tA A L k (nI d)) (kr_rc (kr_tA A L k (nI d))) (kr_rc (kr_tA A L k (nI d)))) _ := kr_Pr hJ
      refine lv_aload_n hx hb dL_act_453 rfl (lv_at hl 2 rfl) ?_
      refine va_get (ci := 1) (v := .ref (ad2 0 1)) (C := RX1) (T := TX1) (N := 3) hx hb hts kr_wsX1 hown hK hP 0 rfl rfl 1 (by decide) (hts _ kq_514) (fun _ h9 => h9) rfl dL_act_454 ?_
      refine kr_lnO hx hb hK hP 1 (L + 1) rfl dL_act_457 ?_
      refine lv_iconst (v := 1) hx hb dL_act_458 (by decide) ?_
      refine kr_isubN hx hb (L + 1) 1 (by omega) dL_act_459 ?_
      refine lv_icmp_ne (tgt := 472) hx hb dL_act_460 (by decide) (fun c460 => absurd (by rw [Nat.add_sub_cancel]) c460) (fun c460 => ?_)
      refine lv_iload hx hb dL_act_463 (lv_at hl 0 rfl) ?_
      refine lv_if_eq (tgt := 472) hx hb dL_act_465 (by decide) (fun c465 => absurd c465 (by decide)) (fun c465 => ?_)
      refine lv_iconst (v := 1) hx hb dL_act_468 (by decide) ?_
      refine lv_goto (tgt := 473) hx hb dL_act_469 (by decide) ?_
      refine W.widen (k := 20) (n := 80) (Nat.le_of_ble_eq_true rfl) (Nat.le_of_ble_eq_true rfl) ?_
      exact kr_aE (N, L + 1, kr_tA A L k (nI d), ad2) hx hb hr hlocks hJ hD hS ⟨kr_wf_t hw hk h6, kr_wx_j hw hx0 (Nat.lt_succ_self L) (fun i hi => by have hi : i < L + 1 := hi; omega) (by decide) (fun w => absurd w (Nat.lt_irrefl L)) (fun _ => rfl) hk (by rw [hk1]; rfl) ⟨d, hd1, hd2, rfl⟩, hN2, (show 1 ≤ L + 1 by omega)⟩ dL_act_473
  · refine lv_iconst (v := 1) hx hb dL_act_383 (by decide) ?_
    refine W.widen (k := 20) (n := 80) (Nat.le_of_ble_eq_true rfl) (Nat.le_of_ble_eq_true rfl) ?_
    exact kr_aE (N, L, A, ad) hx hb hr hlocks hJ hD hS ⟨hw, hx0, hN2, hL1⟩ dL_act_384
theorem kg_RL_47 : GoodIn kr_all (wsV RL 47 RX0 yX0_join (Cond.code yX0_join cX0_join 4 (some .int) :: kr_all)) := kr_gV kq_497 kq_498 kq_499 kq_25 kq_500
set_option maxHeartbeats 4000000 in
set_option maxRecDepth 100000 in
theorem act_c6 {p : Program} {l : Launch} {e : Env} {s : State} {m : MethodId} {below : List Frame} {meth : Method} {c : Code} {ls : Array Slot} {D : va_G} {cy cz : ClassId} {h g N L q k d : Nat} {a : Nat → Nat} {ad : Nat → Nat → Nat} {A : Nat → Nat → Int32} {x : Int32} {AA : Nat → Prop} (hl0 : l.stackTraces = false) (hx : p.tables.exec = Jvm.exec) (hb : c.code = cL_act) (hml : c.maxLocals = 10) (hr : meth.sig.returnType = some .boolean) (hts : ∀ w ∈ kr_all, w.before #[Value.ref h, Value.ref g, Value.int x] s = true) (hown : s.vm.findClass RL = some m.cls) (hlocks : meth.locks = false) (htab : c.exceptionTable.toList = tableOf kr_hh) (hA : ∀ q : Nat, s.heap.size ≤ q → AA q) (hK : va_K D vwCl [(cy, .int), (cz, .array .int)] s) (hZ : kr_AO s) (hT : kr_T s) (hw : kr_wf N L A) (hx0 : kr_wx N L A) (hN2 : 2 ≤ N) (hL1 : 1 ≤ L) (hq : q < L) (hk : k < N) (hd1 : 1 ≤ d) (hd2 : d ≤ 999) (hJ : va_P D vwCl (kr_JW cy cz h a g ad N L A) s.heap) (hD : va_D AA (kr_JW cy cz h a g ad N L A)) (hS : va_S AA s.heap s.heap []) (hl : lv_has ls 10 [(0, .ref h), (1, .ref g), (2, .int x), (3, .int (nI N)), (4, .int (nI q)), (5, .int (nI k)), (6, .int (nI d)), (7, .int (if N < 16 then (1 : Int32) else 0))]) : W p l e ({ frames := 10, cells := 20, slots := 80, locals := 300 } : Room) s m #[Value.ref h, Value.ref g, Value.int x] below meth c s.heap [] 0 0 (MQ below (kr_AQ D cy cz h a g AA) #[Value.ref h, Value.ref g, Value.int x] s 20 80 AA) (F0 m 474 ls []) := by
  have hN := hw.1
  have hL := hw.2.1
  obtain ⟨hrc, er⟩ := hw.rc hq
  have hP : va_P D vwCl (kr_SW cy cz g ad N L A) s.heap := kr_Pr hJ
  refine lv_iload_n hx hb dL_act_474 rfl (lv_at hl 3 rfl) ?_
  refine lv_if_eq (tgt := 499) hx hb dL_act_475 (by decide) (fun c475 => absurd ((nI_eq (a := N) (b := 0) (by omega) (by decide)).mp c475) (by omega)) (fun c475 => ?_)
  refine lv_aload_n hx hb dL_act_478 rfl (lv_at hl 1 rfl) ?_
  refine va_get (ci := 1) (v := .ref (ad 0 1)) (C := RX1) (T := TX1) (N := 3) hx hb hts kr_wsX1 hown hK hP 0 rfl rfl 1 (by decide) (hts _ kq_514) (fun _ h9 => h9) rfl dL_act_479 ?_
  refine kr_lnO hx hb hK hP 1 L rfl dL_act_482 ?_
  refine lv_if_eq (tgt := 499) hx hb dL_act_483 (by decide) (fun c483 => absurd ((nI_eq (a := L) (b := 0) (by omega) (by decide)).mp c483) (by omega)) (fun c483 => ?_)
  refine lv_aload_n hx hb dL_act_486 rfl (lv_at hl 1 rfl) ?_
  refine va_get (ci := 1) (v := .ref (ad 0 0)) (C := RX1) (T := TX1) (N := 3) hx hb hts kr_wsX1 hown hK hP 0 rfl rfl 0 (by decide) (hts _ kq_512) (fun _ h9 => h9) rfl dL_act_487 ?_
  refine lv_iload hx hb dL_act_490 (lv_at hl 5 rfl) ?_
  refine kr_rdO hx hb hK hP 0 N rfl k (by omega) (by omega) dL_act_492 ?_
  refine lv_iconst (v := 0) hx hb dL_act_493 (by decide) ?_
  refine kr_rdK hx hb hK hP (k := k) (by omega) 0 (by decide) dL_act_494 ?_
  refine lv_iconst (v := 1) hx hb dL_act_495 (by decide) ?_
  refine lv_icmp_ne (tgt := 501) hx hb dL_act_496 (by decide) (fun c496 => ?_) (fun c496 => ?_)
  · have hk0 : A 0 k = 0 := (hw.2.2.1 k hk).1.resolve_right c496
    refine lv_aload_n hx hb dL_act_501 rfl (lv_at hl 1 rfl) ?_
    refine va_get (ci := 1) (v := .ref (ad 0 1)) (C := RX1) (T := TX1) (N := 3) hx hb hts kr_wsX1 hown hK hP 0 rfl rfl 1 (by decide) (hts _ kq_514) (fun _ h9 => h9) rfl dL_act_502 ?_
    refine lv_iload hx hb dL_act_505 (lv_at hl 4 rfl) ?_
    refine kr_rdO hx hb hK hP 1 L rfl q (by omega) (by omega) dL_act_507 ?_
    refine kr_lnR hx hb hK hP (by omega) dL_act_508 ?_
    refine lv_istore (lv' := [(8, .int (nI (kr_rc A q))), (0, .ref h), (1, .ref g), (2, .int x), (3, .int (nI N)), (4, .int (nI q)), (5, .int (nI k)), (6, .int (nI d)), (7, .int (if N < 16 then (1 : Int32) else 0))]) hx hb dL_act_509 hl (by decide) rfl (fun ls hl => ?_)
    refine lv_iload hx hb dL_act_511 (lv_at hl 0 rfl) ?_
    refine lv_if_le (tgt := 526) hx hb dL_act_513 (by decide) (fun c513 => ?_) (fun c513 => ?_)
    · have hno : kr_rc A q = 0 ∨ kr_rc A q = 5 := Or.inl (by have := kr_ge (a := 0) (b := kr_rc A q) (by decide) (by omega) c513; omega)
      have hno5 : ¬ (¬ A 5 q = 0 ∧ A 5 q < 5) := by
        rw [er]
        rintro ⟨w1, w2⟩
        rcases hno with e | e
        · exact w1 (by rw [e]; rfl)
        · rw [e] at w2; exact absurd w2 (by decide)
      refine lv_iconst (v := 0) hx hb dL_act_526 (by decide) ?_
      refine lv_istore (lv' := [(7, .int 0), (8, .int (nI (kr_rc A q))), (0, .ref h), (1, .ref g), (2, .int x), (3, .int (nI N)), (4, .int (nI q)), (5, .int (nI k)), (6, .int (nI d))]) hx hb dL_act_527 hl (by decide) rfl (fun ls hl => ?_)
      refine lv_iload hx hb dL_act_529 (lv_at hl 0 rfl) ?_
      refine lv_if_eq (tgt := 600) hx hb dL_act_531 (by decide) (fun c531 => ?_) (fun c531 => absurd rfl c531)
      refine lv_aload_n hx hb dL_act_600 rfl (lv_at hl 2 rfl) ?_
      refine lv_iload hx hb dL_act_601 (lv_at hl 6 rfl) ?_
      refine lv_iload hx hb dL_act_603 (lv_at hl 7 rfl) ?_
      refine lv_iload hx hb dL_act_605 (lv_at hl 8 rfl) ?_
      have hcd : kr_cd (kr_i L (nI q) ∧ kr_i N (nI k)) (A 0 (kr_ix (nI k)) = 0 ∧ kr_o (nI d)) (¬ A 5 (kr_ix (nI q)) = 0 ∧ A 5 (kr_ix (nI q)) < 5) = 3 := kr_cd3 ⟨kr_iN hq (by omega), kr_iN hk (by omega)⟩ ⟨by rw [kr_ix_nI (by omega)]; exact hk0, kr_rgN (lo := 1) (hi := 999) hd1 hd2 (by decide)⟩ (by rw [kr_ix_nI (by omega)]; exact hno5)
      have hXm := x_X0_join l hl0 D cy h a N L A (nI q) (nI k) (nI d) hw (by rw [hcd]; decide)
      rw [hcd] at hXm
      refine kr_ax (n := 3) (As := [.int (nI q), .int (nI k), .int (nI d)]) (rest := []) ⟨hx, hb, hml, hown, hts⟩ hXm kg_RL_47 ⟨rfl, rfl⟩ (by decide +kernel) ⟨Nat.le_of_ble_eq_true rfl, Nat.le_of_ble_eq_true rfl⟩ (kr_Pl hJ) hK hT (fun _ _ => rfl) rfl hl.1 rfl (Nat.le_of_ble_eq_true rfl) dL_act_607 ⟨Nat.le_of_ble_eq_true rfl, Nat.le_of_ble_eq_true rfl⟩ htab [⟨91, 259, 842, 62⟩, ⟨260, 265, 842, 62⟩, ⟨266, 366, 842, 62⟩, ⟨367, 384, 842, 62⟩, ⟨385, 473, 842, 62⟩, ⟨474, 500, 842, 62⟩] ⟨501, 627, 842, 62⟩ [⟨628, 648, 842, 62⟩, ⟨649, 691, 842, 62⟩, ⟨692, 736, 842, 62⟩, ⟨737, 746, 842, 62⟩, ⟨747, 841, 842, 62⟩] rfl (by decide) (by decide) rfl rfl (fun q8 H1 hz8 hk8 => ?_)
      have hJ := kr_kp hJ hk8
      have hS := kr_Sk hS hz8 hk8
      refine lv_astore (lv' := [(8, .ref q8), (7, .int 0), (0, .ref h), (1, .ref g), (2, .int x), (3, .int (nI N)), (4, .int (nI q)), (5, .int (nI k)), (6, .int (nI d))]) hx hb dL_act_842 hl (by decide) rfl (fun ls hl => ?_)
      refine lv_iload hx hb dL_act_844 (lv_at hl 1 rfl) ?_
      refine lv_if_ne (tgt := 853) hx hb dL_act_846 (by decide) (fun c846 => absurd rfl c846) (fun c846 => ?_)
      refine lv_iconst (v := 1) hx hb dL_act_849 (by decide) ?_
      refine lv_goto (tgt := 854) hx hb dL_act_850 (by decide) ?_
      refine W.widen (k := 20) (n := 80) (Nat.le_of_ble_eq_true rfl) (Nat.le_of_ble_eq_true rfl) ?_
      exact kr_aE (N, L, A, ad) hx hb hr hlocks hJ hD hS ⟨hw, hx0, hN2, hL1⟩ dL_act_854
    · have hr0 : 0 < kr_rc A q := kr_lt (a := 0) (b := kr_rc A q) (by decide) (by omega) c513
      refine lv_iload hx hb dL_act_516 (lv_at hl 0 rfl) ?_
      refine lv_iconst (v := 5) hx hb dL_act_518 (by decide) ?_
      refine lv_icmp_ge (tgt := 526) hx hb dL_act_519 (by decide) (fun c519 => ?_) (fun c519 => ?_)
      · have hno : kr_rc A q = 0 ∨ kr_rc A q = 5 := Or.inr (by have := kr_ge (a := kr_rc A q) (b := 5) (by omega) (by decide) c519; omega)
        have hno5 : ¬ (¬ A 5 q = 0 ∧ A 5 q < 5) := by
          rw [er]
          rintro ⟨w1, w2⟩
          rcases hno with e | e
          · exact w1 (by rw [e]; rfl)
          · rw [e] at w2; exact absurd w2 (by decide)
        refine lv_iconst (v := 0) hx hb dL_act_526 (by decide) ?_
        refine lv_istore (lv' := [(7, .int 0), (8, .int (nI (kr_rc A q))), (0, .ref h), (1, .ref g), (2, .int x), (3, .int (nI N)), (4, .int (nI q)), (5, .int (nI k)), (6, .int (nI d))]) hx hb dL_act_527 hl (by decide) rfl (fun ls hl => ?_)
        refine lv_iload hx hb dL_act_529 (lv_at hl 0 rfl) ?_
        refine lv_if_eq (tgt := 600) hx hb dL_act_531 (by decide) (fun c531 => ?_) (fun c531 => absurd rfl c531)
        refine lv_aload_n hx hb dL_act_600 rfl (lv_at hl 2 rfl) ?_
        refine lv_iload hx hb dL_act_601 (lv_at hl 6 rfl) ?_
        refine lv_iload hx hb dL_act_603 (lv_at hl 7 rfl) ?_
        refine lv_iload hx hb dL_act_605 (lv_at hl 8 rfl) ?_
        have hcd : kr_cd (kr_i L (nI q) ∧ kr_i N (nI k)) (A 0 (kr_ix (nI k)) = 0 ∧ kr_o (nI d)) (¬ A 5 (kr_ix (nI q)) = 0 ∧ A 5 (kr_ix (nI q)) < 5) = 3 := kr_cd3 ⟨kr_iN hq (by omega), kr_iN hk (by omega)⟩ ⟨by rw [kr_ix_nI (by omega)]; exact hk0, kr_rgN (lo := 1) (hi := 999) hd1 hd2 (by decide)⟩ (by rw [kr_ix_nI (by omega)]; exact hno5)
        have hXm := x_X0_join l hl0 D cy h a N L A (nI q) (nI k) (nI d) hw (by rw [hcd]; decide)
        rw [hcd] at hXm
        refine kr_ax (n := 3) (As := [.int (nI q), .int (nI k), .int (nI d)]) (rest := []) ⟨hx, hb, hml, hown, hts⟩ hXm kg_RL_47 ⟨rfl, rfl⟩ (by decide +kernel) ⟨Nat.le_of_ble_eq_true rfl, Nat.le_of_ble_eq_true rfl⟩ (kr_Pl hJ) hK hT (fun _ _ => rfl) rfl hl.1 rfl (Nat.le_of_ble_eq_true rfl) dL_act_607 ⟨Nat.le_of_ble_eq_true rfl, Nat.le_of_ble_eq_true rfl⟩ htab [⟨91, 259, 842, 62⟩, ⟨260, 265, 842, 62⟩, ⟨266, 366, 842, 62⟩, ⟨367, 384, 842, 62⟩, ⟨385, 473, 842, 62⟩, ⟨474, 500, 842, 62⟩] ⟨501, 627, 842, 62⟩ [⟨628, 648, 842, 62⟩, ⟨649, 691, 842, 62⟩, ⟨692, 736, 842, 62⟩, ⟨737, 746, 842, 62⟩, ⟨747, 841, 842, 62⟩] rfl (by decide) (by decide) rfl rfl (fun q8 H1 hz8 hk8 => ?_)
        have hJ := kr_kp hJ hk8
        have hS := kr_Sk hS hz8 hk8
        refine lv_astore (lv' := [(8, .ref q8), (7, .int 0), (0, .ref h), (1, .ref g), (2, .int x), (3, .int (nI N)), (4, .int (nI q)), (5, .int (nI k)), (6, .int (nI d))]) hx hb dL_act_842 hl (by decide) rfl (fun ls hl => ?_)
        refine lv_iload hx hb dL_act_844 (lv_at hl 1 rfl) ?_
        refine lv_if_ne (tgt := 853) hx hb dL_act_846 (by decide) (fun c846 => absurd rfl c846) (fun c846 => ?_)
        refine lv_iconst (v := 1) hx hb dL_act_849 (by decide) ?_
        refine lv_goto (tgt := 854) hx hb dL_act_850 (by decide) ?_
        refine W.widen (k := 20) (n := 80) (Nat.le_of_ble_eq_true rfl) (Nat.le_of_ble_eq_true rfl) ?_
        exact kr_aE (N, L, A, ad) hx hb hr hlocks hJ hD hS ⟨hw, hx0, hN2, hL1⟩ dL_act_854
      · have hr5 : kr_rc A q < 5 := kr_lt (a := kr_rc A q) (b := 5) (by omega) (by decide) c519
        refine lv_iconst (v := 1) hx hb dL_act_522 (by decide) ?_
        refine lv_goto (tgt := 527) hx hb dL_act_523 (by decide) ?_
        refine lv_istore (lv' := [(7, .int 1), (8, .int (nI (kr_rc A q))), (0, .ref h), (1, .ref g), (2, .int x), (3, .int (nI N)), (4, .int (nI q)), (5, .int (nI k)), (6, .int (nI d))]) hx hb dL_act_527 hl (by decide) rfl (fun ls hl => ?_)
        refine lv_iload hx hb dL_act_529 (lv_at hl 0 rfl) ?_
        refine lv_if_eq (tgt := 600) hx hb dL_act_531 (by decide) (fun c531 => absurd c531 (by decide)) (fun c531 => ?_)
        refine lv_aload_n hx hb dL_act_534 rfl (lv_at hl 3 rfl) ?_
        refine va_get (ci := 1) (v := .ref (ad 0 1)) (C := RX1) (T := TX1) (N := 3) hx hb hts kr_wsX1 hown hK hP 0 rfl rfl 1 (by decide) (hts _ kq_514) (fun _ h9 => h9) rfl dL_act_535 ?_
        refine lv_iload hx hb dL_act_538 (lv_at hl 6 rfl) ?_
        refine lv_aload_n hx hb dL_act_540 rfl (lv_at hl 3 rfl) ?_
        refine va_get (ci := 1) (v := .ref (ad 0 1)) (C := RX1) (T := TX1) (N := 3) hx hb hts kr_wsX1 hown hK hP 0 rfl rfl 1 (by decide) (hts _ kq_514) (fun _ h9 => h9) rfl dL_act_541 ?_
        refine lv_iload hx hb dL_act_544 (lv_at hl 6 rfl) ?_
        refine kr_rdO hx hb hK hP 1 L rfl q (by omega) (by omega) dL_act_546 ?_
        refine lv_iload hx hb dL_act_547 (lv_at hl 1 rfl) ?_
        refine lv_iconst (v := 1) hx hb dL_act_549 (by decide) ?_
        refine kr_iaddN hx hb (kr_rc A q) 1 dL_act_550 ?_
        refine kr_sNR (n := 2) (mc := 1) (ms := 5) (BB := AA) (As := [.ref (ad 2 q), .int (nI (kr_rc A q + 1))]) (rest := [.int (nI q), .ref (ad 0 1)]) ⟨hx, hb, hml, hown, hts⟩ (c_X1_first l _ D cy cz _ (9 + (4 + N + q)) (ad 2 q) (kr_rc A q) (kr_rc A q + 1) _ (kr_gr (ws := kr_W0 cy h a N L A) (kr_gR hq)) (by omega) (by omega)) kgs_RL_43 ⟨rfl, rfl⟩ (by decide +kernel) ⟨Nat.le_of_ble_eq_true rfl, Nat.le_of_ble_eq_true rfl⟩ hJ hK hD hA hZ hS hA rfl hl.1 rfl (Nat.le_of_ble_eq_true rfl) dL_act_551 ⟨Nat.le_of_ble_eq_true rfl, Nat.le_of_ble_eq_true rfl⟩ (fun qR H locs hk9 hJ hD hS => ?_)
        clear hk9
        refine kr_woR (w := kr_W0 cy h a N L A) hx hb hZ hK hJ hD hS q hq (by omega) (kr_up A 7 (upd (A 7) (5 * q + kr_rc A q) 0)) (fun j hj => kr_upN _ _ hj) (fun i hi hne j hj => by rw [kr_upS, pk_un (by have := (hw.rc hi).1; omega)]) (fun j hj => by rw [kr_upS]; by_cases e9 : j < kr_rc A q; rw [if_pos e9, if_pos e9, pk_un (by omega)]; rw [if_neg e9, show j = kr_rc A q by omega, pk_us]) dL_act_554 (fun H locs hJ hD hS => ?_)
        have hP : va_P D vwCl (kr_SG cy cz g (kr_ad ad 2 q qR) N L L (kr_up A 7 (upd (A 7) (5 * q + kr_rc A q) 0)) (va_up (kr_rc A) q (kr_rc A q + 1)) (kr_rc A)) _ := kr_Pr hJ
        refine lv_aload_n hx hb dL_act_555 rfl (lv_at hl 3 rfl) ?_
        refine va_get (ci := 1) (v := .ref ((kr_ad ad 2 q qR) 0 2)) (C := RX1) (T := TX1) (N := 3) hx hb hts kr_wsX1 hown hK hP 0 rfl rfl 2 (by decide) (hts _ kq_516) (fun _ h9 => h9) rfl dL_act_556 ?_
        refine lv_iload hx hb dL_act_559 (lv_at hl 6 rfl) ?_
        refine lv_aload_n hx hb dL_act_561 rfl (lv_at hl 3 rfl) ?_
        refine va_get (ci := 1) (v := .ref ((kr_ad ad 2 q qR) 0 2)) (C := RX1) (T := TX1) (N := 3) hx hb hts kr_wsX1 hown hK hP 0 rfl rfl 2 (by decide) (hts _ kq_516) (fun _ h9 => h9) rfl dL_act_562 ?_
        refine lv_iload hx hb dL_act_565 (lv_at hl 6 rfl) ?_
        refine kr_rdO hx hb hK hP 2 L rfl q (by omega) (by omega) dL_act_567 ?_
        refine lv_iload hx hb dL_act_568 (lv_at hl 1 rfl) ?_
        refine lv_iconst (v := 1) hx hb dL_act_570 (by decide) ?_
        refine kr_iaddN hx hb (kr_rc A q) 1 dL_act_571 ?_
        refine kr_sNR (n := 2) (mc := 1) (ms := 5) (BB := AA) (As := [.ref ((kr_ad ad 2 q qR) 3 q), .int (nI (kr_rc A q + 1))]) (rest := [.int (nI q), .ref ((kr_ad ad 2 q qR) 0 2)]) ⟨hx, hb, hml, hown, hts⟩ (c_X1_first l _ D cy cz _ (9 + (4 + N + L + q)) ((kr_ad ad 2 q qR) 3 q) (kr_rc A q) (kr_rc A q + 1) _ (kr_gr (ws := kr_W0 cy h a N L A) (kr_gT hq)) (by omega) (by omega)) kgs_RL_43 ⟨rfl, rfl⟩ (by decide +kernel) ⟨Nat.le_of_ble_eq_true rfl, Nat.le_of_ble_eq_true rfl⟩ hJ hK hD hA hZ hS hA rfl hl.1 rfl (Nat.le_of_ble_eq_true rfl) dL_act_572 ⟨Nat.le_of_ble_eq_true rfl, Nat.le_of_ble_eq_true rfl⟩ (fun qT H locs hk9 hJ hD hS => ?_)
        clear hk9
        refine kr_woT (w := kr_W0 cy h a N L A) hx hb hZ hK hJ hD hS q hq (by omega) (kr_up (kr_up A 7 (upd (A 7) (5 * q + kr_rc A q) 0)) 6 (upd (A 6) (5 * q + kr_rc A q) 0)) (fun j hj => kr_upN _ _ hj) (fun i hi hne j hj => by rw [kr_upS, pk_un (by have := (hw.rc hi).1; omega)]; rfl) (fun j hj => by rw [kr_upS]; by_cases e9 : j < kr_rc A q; rw [if_pos e9, if_pos e9, pk_un (by omega)]; rfl; rw [if_neg e9, show j = kr_rc A q by omega, pk_us]) dL_act_575 (fun H locs hJ hD hS => ?_)
        have h5R : ∀ i, i < L → va_up (kr_rc A) q (kr_rc A q + 1) i ≤ 5 := fun i hi => by by_cases e9 : i = q; rw [e9, va_up_self]; omega; rw [va_up_ne _ _ e9]; exact (hw.rc hi).1
        have hqR : kr_rc A q < va_up (kr_rc A) q (kr_rc A q + 1) q := by rw [va_up_self]; omega
        have hP : va_P D vwCl (kr_SG cy cz g (kr_ad (kr_ad ad 2 q qR) 3 q qT) N L L (kr_up (kr_up A 7 (upd (A 7) (5 * q + kr_rc A q) 0)) 6 (upd (A 6) (5 * q + kr_rc A q) 0)) (va_up (kr_rc A) q (kr_rc A q + 1)) (va_up (kr_rc A) q (kr_rc A q + 1))) _ := kr_Pr hJ
        refine lv_aload_n hx hb dL_act_576 rfl (lv_at hl 3 rfl) ?_
        refine va_get (ci := 1) (v := .ref ((kr_ad (kr_ad ad 2 q qR) 3 q qT) 0 1)) (C := RX1) (T := TX1) (N := 3) hx hb hts kr_wsX1 hown hK hP 0 rfl rfl 1 (by decide) (hts _ kq_514) (fun _ h9 => h9) rfl dL_act_577 ?_
        refine lv_iload hx hb dL_act_580 (lv_at hl 6 rfl) ?_
        refine kr_rdO hx hb hK hP 1 L rfl q (by omega) (by omega) dL_act_582 ?_
        refine lv_iload hx hb dL_act_583 (lv_at hl 1 rfl) ?_
        refine lv_iload hx hb dL_act_585 (lv_at hl 8 rfl) ?_
        refine kr_wrR (w := kr_W0 cy h a N L A) hx hb hK hJ hD hS hq (kr_rc A q) hqR h5R dL_act_587 (fun H locs hJ hD hS => ?_)
        have hP : va_P D vwCl (kr_SG cy cz g (kr_ad (kr_ad ad 2 q qR) 3 q qT) N L L (kr_up (kr_up (kr_up A 7 (upd (A 7) (5 * q + kr_rc A q) 0)) 6 (upd (A 6) (5 * q + kr_rc A q) 0)) 7 (upd ((kr_up (kr_up A 7 (upd (A 7) (5 * q + kr_rc A q) 0)) 6 (upd (A 6) (5 * q + kr_rc A q) 0)) 7) (5 * q + kr_rc A q) (nI d))) (va_up (kr_rc A) q (kr_rc A q + 1)) (va_up (kr_rc A) q (kr_rc A q + 1))) _ := kr_Pr hJ
        refine lv_aload_n hx hb dL_act_588 rfl (lv_at hl 3 rfl) ?_
        refine va_get (ci := 1) (v := .ref ((kr_ad (kr_ad ad 2 q qR) 3 q qT) 0 2)) (C := RX1) (T := TX1) (N := 3) hx hb hts kr_wsX1 hown hK hP 0 rfl rfl 2 (by decide) (hts _ kq_516) (fun _ h9 => h9) rfl dL_act_589 ?_
        refine lv_iload hx hb dL_act_592 (lv_at hl 6 rfl) ?_
        refine kr_rdO hx hb hK hP 2 L rfl q (by omega) (by omega) dL_act_594 ?_
        refine lv_iload hx hb dL_act_595 (lv_at hl 1 rfl) ?_
        refine lv_iload hx hb dL_act_597 (lv_at hl 7 rfl) ?_
        refine kr_wrT (w := kr_W0 cy h a N L A) hx hb hK hJ hD hS hq (kr_rc A q) hqR h5R dL_act_599 (fun H locs hJ hD hS => ?_)
        obtain ⟨ad2, had2⟩ : ∃ z, z = kr_ad (kr_ad ad 2 q qR) 3 q qT := ⟨_, rfl⟩
        rw [← had2] at hJ hD
        have eSG : kr_SW cy cz g ad2 N L (kr_jA A q (kr_rc A q) k (nI d)) = kr_SG cy cz g ad2 N L L (kr_up (kr_up (kr_up (kr_up A 7 (upd (A 7) (5 * q + kr_rc A q) 0)) 6 (upd (A 6) (5 * q + kr_rc A q) 0)) 7 (upd ((kr_up (kr_up A 7 (upd (A 7) (5 * q + kr_rc A q) 0)) 6 (upd (A 6) (5 * q + kr_rc A q) 0)) 7) (5 * q + kr_rc A q) (nI d))) 6 (upd ((kr_up (kr_up (kr_up A 7 (upd (A 7) (5 * q + kr_rc A q) 0)) 6 (upd (A 6) (5 * q + kr_rc A q) 0)) 7 (upd ((kr_up (kr_up A 7 (upd (A 7) (5 * q + kr_rc A q) 0)) 6 (upd (A 6) (5 * q + kr_rc A q) 0)) 7) (5 * q + kr_rc A q) (nI d))) 6) (5 * q + kr_rc A q) (nI k))) (va_up (kr_rc A) q (kr_rc A q + 1)) (va_up (kr_rc A) q (kr_rc A q + 1)) := kr_SGe (fun i _ j hj => by rw [kr_jA_5 hj, kr_upN _ _ (by omega), kr_upN _ _ (by omega), kr_upN _ _ (by omega), kr_upN _ _ (by omega)]) (fun i hi => ⟨by rw [kr_jA_rc hr5]; rfl, fun j hj => by show upd (A 7) (5 * q + kr_rc A q) (nI d) (5 * i + j) = upd (upd (A 7) (5 * q + kr_rc A q) 0) (5 * q + kr_rc A q) (nI d) (5 * i + j); rw [kr_upd_tw]⟩) (fun i hi => ⟨by rw [kr_jA_rc hr5]; rfl, fun j hj => by show upd (A 6) (5 * q + kr_rc A q) (nI k) (5 * i + j) = upd (upd (A 6) (5 * q + kr_rc A q) 0) (5 * q + kr_rc A q) (nI k) (5 * i + j); rw [kr_upd_tw]⟩)
        rw [← eSG] at hJ hD
        refine lv_aload_n hx hb dL_act_600 rfl (lv_at hl 2 rfl) ?_
        refine lv_iload hx hb dL_act_601 (lv_at hl 6 rfl) ?_
        refine lv_iload hx hb dL_act_603 (lv_at hl 7 rfl) ?_
        refine lv_iload hx hb dL_act_605 (lv_at hl 8 rfl) ?_
        refine kr_jwI (n := 3) (As := [.int (nI q), .int (nI k), .int (nI d)]) (rest := []) ⟨hx, hb, hml, hown, hts⟩ (c_X0_join l D cy h a N L A _ q (kr_rc A q) k (nI d) hN hL hq hk hk0 (kr_rgN (lo := 1) (hi := 999) hd1 hd2 (by decide)) er hr0 hr5) kg_RL_47 ⟨rfl, rfl⟩ (by decide +kernel) ⟨Nat.le_of_ble_eq_true rfl, Nat.le_of_ble_eq_true rfl⟩ hJ hK hD hS hA rfl hl.1 rfl (Nat.le_of_ble_eq_true rfl) dL_act_607 ⟨Nat.le_of_ble_eq_true rfl, Nat.le_of_ble_eq_true rfl⟩ (fun r9 H locs e9 hJ hD hS => ?_)
        subst e9
        refine lv_iload hx hb dL_act_610 (lv_at hl 1 rfl) ?_
        refine lv_iconst (v := 1) hx hb dL_act_612 (by decide) ?_
        refine kr_iaddN hx hb (kr_rc A q) 1 dL_act_613 ?_
        refine lv_icmp_ne (tgt := 626) hx hb dL_act_614 (by decide) (fun c614 => absurd rfl c614) (fun c614 => ?_)
        refine lv_iload hx hb dL_act_617 (lv_at hl 0 rfl) ?_
        refine lv_if_eq (tgt := 626) hx hb dL_act_619 (by decide) (fun c619 => absurd c619 (by decide)) (fun c619 => ?_)
        refine lv_iconst (v := 1) hx hb dL_act_622 (by decide) ?_
        refine lv_goto (tgt := 627) hx hb dL_act_623 (by decide) ?_
        refine W.widen (k := 20) (n := 80) (Nat.le_of_ble_eq_true rfl) (Nat.le_of_ble_eq_true rfl) ?_
        exact kr_aE (N, L, kr_jA A q (kr_rc A q) k (nI d), ad2) hx hb hr hlocks hJ hD hS ⟨kr_wf_j hw hk hr5 hq er, kr_wx_j hw hx0 hq (fun i hi => Or.inr hi) hr5 (fun _ => rfl) (fun w => absurd hq w) hk (by rw [if_neg (by omega)]; exact hk0) ⟨d, hd1, hd2, rfl⟩, hN2, hL1⟩ dL_act_627
  · refine lv_iconst (v := 1) hx hb dL_act_499 (by decide) ?_
    refine W.widen (k := 20) (n := 80) (Nat.le_of_ble_eq_true rfl) (Nat.le_of_ble_eq_true rfl) ?_
    exact kr_aE (N, L, A, ad) hx hb hr hlocks hJ hD hS ⟨hw, hx0, hN2, hL1⟩ dL_act_500
theorem kg_RL_60 : GoodIn kr_all (wsV RL 60 RX0 yX0_pull (Cond.code yX0_pull cX0_pull 6 (some .int) :: kr_all)) := kr_gV kq_190 kq_191 kq_192 kq_25 kq_193
theorem kg_RL_53 : GoodIn kr_all (wsV RL 53 RX1 yX1_gives (Cond.code yX1_gives cX1_gives 5 (some .int) :: kr_all)) := kr_gV kq_502 kq_404 kq_405 kq_26 kq_406
theorem kg_RL_56 : GoodIn kr_all (wsV RL 56 RX1 yX1_pull (Cond.code yX1_pull cX1_pull 5 none :: kr_all)) := kr_gV kq_399 kq_400 kq_401 kq_26 kq_402
set_option maxHeartbeats 4000000 in
set_option maxRecDepth 100000 in
theorem act_d {p : Program} {l : Launch} {e : Env} {s : State} {m : MethodId} {below : List Frame} {meth : Method} {c : Code} {ls : Array Slot} {D : va_G} {cy cz : ClassId} {h g N L q k d : Nat} {a : Nat → Nat} {ad : Nat → Nat → Nat} {A : Nat → Nat → Int32} {x : Int32} {AA : Nat → Prop} (hl0 : l.stackTraces = false) (hx : p.tables.exec = Jvm.exec) (hb : c.code = cL_act) (hml : c.maxLocals = 10) (hr : meth.sig.returnType = some .boolean) (hts : ∀ w ∈ kr_all, w.before #[Value.ref h, Value.ref g, Value.int x] s = true) (hown : s.vm.findClass RL = some m.cls) (hlocks : meth.locks = false) (htab : c.exceptionTable.toList = tableOf kr_hh) (hA : ∀ q : Nat, s.heap.size ≤ q → AA q) (hK : va_K D vwCl [(cy, .int), (cz, .array .int)] s) (hZ : kr_AO s) (hT : kr_T s) (hw : kr_wf N L A) (hx0 : kr_wx N L A) (hN2 : 2 ≤ N) (hL1 : 1 ≤ L) (hq : q < L) (hk : k < N) (hd1 : 1 ≤ d) (hd2 : d ≤ 999) (hJ : va_P D vwCl (kr_JW cy cz h a g ad N L A) s.heap) (hD : va_D AA (kr_JW cy cz h a g ad N L A)) (hS : va_S AA s.heap s.heap []) (hl : lv_has ls 10 [(0, .ref h), (1, .ref g), (2, .int x), (3, .int (nI N)), (4, .int (nI q)), (5, .int (nI k)), (6, .int (nI d)), (7, .int (if N < 16 then (1 : Int32) else 0))]) : W p l e ({ frames := 10, cells := 20, slots := 80, locals := 300 } : Room) s m #[Value.ref h, Value.ref g, Value.int x] below meth c s.heap [] 0 0 (MQ below (kr_AQ D cy cz h a g AA) #[Value.ref h, Value.ref g, Value.int x] s 20 80 AA) (F0 m 737 ls []) := by
  have hN := hw.1
  have hL := hw.2.1
  obtain ⟨hrc, er⟩ := hw.rc hq
  have hP : va_P D vwCl (kr_SW cy cz g ad N L A) s.heap := kr_Pr hJ
  refine lv_aload_n hx hb dL_act_737 rfl (lv_at hl 1 rfl) ?_
  refine va_get (ci := 1) (v := .ref (ad 0 1)) (C := RX1) (T := TX1) (N := 3) hx hb hts kr_wsX1 hown hK hP 0 rfl rfl 1 (by decide) (hts _ kq_514) (fun _ h9 => h9) rfl dL_act_738 ?_
  refine kr_lnO hx hb hK hP 1 L rfl dL_act_741 ?_
  refine lv_if_ne (tgt := 747) hx hb dL_act_742 (by decide) (fun c742 => ?_) (fun c742 => absurd ((nI_eq (a := L) (b := 0) (by omega) (by decide)).mp c742) (by omega))
  refine lv_aload_n hx hb dL_act_747 rfl (lv_at hl 1 rfl) ?_
  refine va_get (ci := 1) (v := .ref (ad 0 1)) (C := RX1) (T := TX1) (N := 3) hx hb hts kr_wsX1 hown hK hP 0 rfl rfl 1 (by decide) (hts _ kq_514) (fun _ h9 => h9) rfl dL_act_748 ?_
  refine lv_iload hx hb dL_act_751 (lv_at hl 4 rfl) ?_
  refine kr_rdO hx hb hK hP 1 L rfl q (by omega) (by omega) dL_act_753 ?_
  refine kr_lnR hx hb hK hP (by omega) dL_act_754 ?_
  refine lv_if_le (tgt := 762) hx hb dL_act_755 (by decide) (fun c755 => ?_) (fun c755 => ?_)
  · have hr0 : kr_rc A q = 0 := by have := kr_ge (a := 0) (b := kr_rc A q) (by decide) (by omega) c755; omega
    refine lv_iconst (v := 0) hx hb dL_act_762 (by decide) ?_
    refine lv_istore (lv' := [(7, .int 0), (0, .ref h), (1, .ref g), (2, .int x), (3, .int (nI N)), (4, .int (nI q)), (5, .int (nI k)), (6, .int (nI d))]) hx hb dL_act_763 hl (by decide) rfl (fun ls hl => ?_)
    refine lv_iconst (v := 1) hx hb dL_act_765 (by decide) ?_
    refine lv_iload hx hb dL_act_766 (lv_at hl 7 rfl) ?_
    refine lv_iconst (v := 1) hx hb dL_act_768 (by decide) ?_
    refine kr_isubN hx hb d 1 (by omega) dL_act_769 ?_
    refine lv_iconst (v := 1) hx hb dL_act_770 (by decide) ?_
    refine lv_iload_n hx hb dL_act_771 rfl (lv_at hl 3 rfl) ?_
    refine lv_bipush (v := 9) hx hb dL_act_772 (by decide) ?_
    refine lv_ishr hx hb dL_act_774 ?_
    refine lv_bipush (v := 8) hx hb dL_act_775 (by decide) ?_
    refine kr_sI (n := 2) (As := [.int (x >>> (9 &&& 31)), .int 8]) (rest := [.int 1, .int (nI (d - 1)), .int 1]) ⟨hx, hb, hml, hown, hts⟩ (c_L_below l (x >>> (9 &&& 31)) 8 (by omega) (by omega)) kg_RL_18 ⟨rfl, rfl⟩ (by decide +kernel) ⟨Nat.le_of_ble_eq_true rfl, Nat.le_of_ble_eq_true rfl⟩ ⟨kr_blT, fun U hU hW => ⟨rfl, trivial⟩⟩ rfl hl.1 rfl (Nat.le_of_ble_eq_true rfl) dL_act_777 ⟨Nat.le_of_ble_eq_true rfl, Nat.le_of_ble_eq_true rfl⟩ (fun r9 e9 => ?_)
    obtain ⟨jb, hjb, rfl⟩ := e9
    refine kr_iaddN hx hb 1 jb dL_act_780 ?_
    refine lv_idiv hx hb dL_act_781 (nI_ne0 (by omega) (by omega)) ?_
    rw [pk_div (a := d - 1) (d := 1 + jb) (by omega) (by omega) (by omega)]
    have hsm : (d - 1) / (1 + jb) ≤ 998 := Nat.le_trans (Nat.div_le_self _ _) (by omega)
    generalize (d - 1) / (1 + jb) = dv at hsm ⊢
    refine kr_iaddN hx hb 1 dv dL_act_782 ?_
    obtain ⟨sm, hsm0⟩ : ∃ z, z = 1 + dv := ⟨_, rfl⟩
    rw [← hsm0]
    have hs1 : 1 ≤ sm := by omega
    have hs2 : sm ≤ 999 := by omega
    have hld := kr_rgN (z := sm) (lo := 1) (hi := 999) hs1 hs2 (by decide)
    refine lv_istore (lv' := [(8, .int (nI sm)), (7, .int 0), (0, .ref h), (1, .ref g), (2, .int x), (3, .int (nI N)), (4, .int (nI q)), (5, .int (nI k)), (6, .int (nI d))]) hx hb dL_act_783 hl (by decide) rfl (fun ls hl => ?_)
    refine lv_iload hx hb dL_act_785 (lv_at hl 1 rfl) ?_
    refine lv_if_eq (tgt := 801) hx hb dL_act_787 (by decide) (fun c787 => ?_) (fun c787 => absurd rfl c787)
    refine lv_bipush (v := -2) hx hb dL_act_801 (by decide) ?_
    refine lv_istore (lv' := [(9, .int (-2)), (8, .int (nI sm)), (7, .int 0), (0, .ref h), (1, .ref g), (2, .int x), (3, .int (nI N)), (4, .int (nI q)), (5, .int (nI k)), (6, .int (nI d))]) hx hb dL_act_803 hl (by decide) rfl (fun ls hl => ?_)
    refine lv_iload hx hb dL_act_805 (lv_at hl 2 rfl) ?_
    refine lv_if_eq (tgt := 818) hx hb dL_act_807 (by decide) (fun c807 => ?_) (fun c807 => absurd rfl c807)
    refine lv_aload_n hx hb dL_act_818 rfl (lv_at hl 3 rfl) ?_
    refine lv_iload hx hb dL_act_819 (lv_at hl 7 rfl) ?_
    refine lv_iload hx hb dL_act_821 (lv_at hl 1 rfl) ?_
    have hcd : kr_cd (kr_i L (nI q)) (kr_o (nI sm)) (¬ A 5 (kr_ix (nI q)) = 0) = 3 := kr_cd3 (kr_iN hq (by omega)) hld (fun w => w (by rw [kr_ix_nI (by omega), er, hr0]; rfl))
    have hXm := x_X0_pull l hl0 D cy h a N L A (nI q) (nI sm) hL (by rw [hcd]; decide)
    rw [hcd] at hXm
    refine kr_ax (n := 2) (As := [.int (nI q), .int (nI sm)]) (rest := []) ⟨hx, hb, hml, hown, hts⟩ hXm kg_RL_60 ⟨rfl, rfl⟩ (by decide +kernel) ⟨Nat.le_of_ble_eq_true rfl, Nat.le_of_ble_eq_true rfl⟩ (kr_Pl hJ) hK hT (fun _ _ => rfl) rfl hl.1 rfl (Nat.le_of_ble_eq_true rfl) dL_act_823 ⟨Nat.le_of_ble_eq_true rfl, Nat.le_of_ble_eq_true rfl⟩ htab [⟨91, 259, 842, 62⟩, ⟨260, 265, 842, 62⟩, ⟨266, 366, 842, 62⟩, ⟨367, 384, 842, 62⟩, ⟨385, 473, 842, 62⟩, ⟨474, 500, 842, 62⟩, ⟨501, 627, 842, 62⟩, ⟨628, 648, 842, 62⟩, ⟨649, 691, 842, 62⟩, ⟨692, 736, 842, 62⟩, ⟨737, 746, 842, 62⟩] ⟨747, 841, 842, 62⟩ [] rfl (by decide) (by decide) rfl rfl (fun q8 H1 hz8 hk8 => ?_)
    have hJ := kr_kp hJ hk8
    have hS := kr_Sk hS hz8 hk8
    refine lv_astore (lv' := [(8, .ref q8), (9, .int (-2)), (7, .int 0), (0, .ref h), (1, .ref g), (2, .int x), (3, .int (nI N)), (4, .int (nI q)), (5, .int (nI k)), (6, .int (nI d))]) hx hb dL_act_842 hl (by decide) rfl (fun ls hl => ?_)
    refine lv_iload hx hb dL_act_844 (lv_at hl 2 rfl) ?_
    refine lv_if_ne (tgt := 853) hx hb dL_act_846 (by decide) (fun c846 => absurd rfl c846) (fun c846 => ?_)
    refine lv_iconst (v := 1) hx hb dL_act_849 (by decide) ?_
    refine lv_goto (tgt := 854) hx hb dL_act_850 (by decide) ?_
    refine W.widen (k := 20) (n := 80) (Nat.le_of_ble_eq_true rfl) (Nat.le_of_ble_eq_true rfl) ?_
    exact kr_aE (N, L, A, ad) hx hb hr hlocks hJ hD hS ⟨hw, hx0, hN2, hL1⟩ dL_act_854
  · have hr0 : 0 < kr_rc A q := kr_lt (a := 0) (b := kr_rc A q) (by decide) (by omega) c755
    refine lv_iconst (v := 1) hx hb dL_act_758 (by decide) ?_
    refine lv_goto (tgt := 763) hx hb dL_act_759 (by decide) ?_
    refine lv_istore (lv' := [(7, .int 1), (0, .ref h), (1, .ref g), (2, .int x), (3, .int (nI N)), (4, .int (nI q)), (5, .int (nI k)), (6, .int (nI d))]) hx hb dL_act_763 hl (by decide) rfl (fun ls hl => ?_)
    refine lv_iconst (v := 1) hx hb dL_act_765 (by decide) ?_
    refine lv_iload hx hb dL_act_766 (lv_at hl 7 rfl) ?_
    refine lv_iconst (v := 1) hx hb dL_act_768 (by decide) ?_
    refine kr_isubN hx hb d 1 (by omega) dL_act_769 ?_
    refine lv_iconst (v := 1) hx hb dL_act_770 (by decide) ?_
    refine lv_iload_n hx hb dL_act_771 rfl (lv_at hl 3 rfl) ?_
    refine lv_bipush (v := 9) hx hb dL_act_772 (by decide) ?_
    refine lv_ishr hx hb dL_act_774 ?_
    refine lv_bipush (v := 8) hx hb dL_act_775 (by decide) ?_
    refine kr_sI (n := 2) (As := [.int (x >>> (9 &&& 31)), .int 8]) (rest := [.int 1, .int (nI (d - 1)), .int 1]) ⟨hx, hb, hml, hown, hts⟩ (c_L_below l (x >>> (9 &&& 31)) 8 (by omega) (by omega)) kg_RL_18 ⟨rfl, rfl⟩ (by decide +kernel) ⟨Nat.le_of_ble_eq_true rfl, Nat.le_of_ble_eq_true rfl⟩ ⟨kr_blT, fun U hU hW => ⟨rfl, trivial⟩⟩ rfl hl.1 rfl (Nat.le_of_ble_eq_true rfl) dL_act_777 ⟨Nat.le_of_ble_eq_true rfl, Nat.le_of_ble_eq_true rfl⟩ (fun r9 e9 => ?_)
    obtain ⟨jb, hjb, rfl⟩ := e9
    refine kr_iaddN hx hb 1 jb dL_act_780 ?_
    refine lv_idiv hx hb dL_act_781 (nI_ne0 (by omega) (by omega)) ?_
    rw [pk_div (a := d - 1) (d := 1 + jb) (by omega) (by omega) (by omega)]
    have hsm : (d - 1) / (1 + jb) ≤ 998 := Nat.le_trans (Nat.div_le_self _ _) (by omega)
    generalize (d - 1) / (1 + jb) = dv at hsm ⊢
    refine kr_iaddN hx hb 1 dv dL_act_782 ?_
    obtain ⟨sm, hsm0⟩ : ∃ z, z = 1 + dv := ⟨_, rfl⟩
    rw [← hsm0]
    have hs1 : 1 ≤ sm := by omega
    have hs2 : sm ≤ 999 := by omega
    have hld := kr_rgN (z := sm) (lo := 1) (hi := 999) hs1 hs2 (by decide)
    refine lv_istore (lv' := [(8, .int (nI sm)), (7, .int 1), (0, .ref h), (1, .ref g), (2, .int x), (3, .int (nI N)), (4, .int (nI q)), (5, .int (nI k)), (6, .int (nI d))]) hx hb dL_act_783 hl (by decide) rfl (fun ls hl => ?_)
    refine lv_iload hx hb dL_act_785 (lv_at hl 1 rfl) ?_
    refine lv_if_eq (tgt := 801) hx hb dL_act_787 (by decide) (fun c787 => absurd c787 (by decide)) (fun c787 => ?_)
    refine lv_aload_n hx hb dL_act_790 rfl (lv_at hl 3 rfl) ?_
    refine lv_iload hx hb dL_act_791 (lv_at hl 6 rfl) ?_
    refine lv_iload hx hb dL_act_793 (lv_at hl 0 rfl) ?_
    refine kr_vNI (n := 2) (mc := 5) (ms := 10) (BB := AA) (As := [.int (nI q), .int (nI sm)]) (rest := []) ⟨hx, hb, hml, hown, hts⟩ (c_X1_gives l D cy cz g ad N L A _ q (nI sm) hw hq) kg_RL_53 ⟨rfl, rfl⟩ (by decide +kernel) ⟨Nat.le_of_ble_eq_true rfl, Nat.le_of_ble_eq_true rfl⟩ (va_recv hK hP (ci := 1) (q0 := 0) rfl rfl) hP hK (kr_Dr hD) hZ hS hA rfl hl.1 rfl (Nat.le_of_ble_eq_true rfl) dL_act_795 ⟨Nat.le_of_ble_eq_true rfl, Nat.le_of_ble_eq_true rfl⟩ (fun r9 H locs e9 hk9 hP hS => ?_)
    subst e9
    have hJ := kr_kp hJ hk9
    clear hk9
    refine lv_goto (tgt := 803) hx hb dL_act_798 (by decide) ?_
    refine lv_istore (lv' := [(9, .int (kr_gw A q (nI sm))), (8, .int (nI sm)), (7, .int 1), (0, .ref h), (1, .ref g), (2, .int x), (3, .int (nI N)), (4, .int (nI q)), (5, .int (nI k)), (6, .int (nI d))]) hx hb dL_act_803 hl (by decide) rfl (fun ls hl => ?_)
    refine lv_iload hx hb dL_act_805 (lv_at hl 2 rfl) ?_
    refine lv_if_eq (tgt := 818) hx hb dL_act_807 (by decide) (fun c807 => absurd c807 (by decide)) (fun c807 => ?_)
    refine lv_aload_n hx hb dL_act_810 rfl (lv_at hl 4 rfl) ?_
    refine lv_iload hx hb dL_act_811 (lv_at hl 7 rfl) ?_
    refine lv_iload hx hb dL_act_813 (lv_at hl 1 rfl) ?_
    refine kr_jwP (n := 2) (mc := 12) (ms := 30) (w := kr_W0 cy h a N L A) (As := [.int (nI q), .int (nI sm)]) (rest := []) ⟨hx, hb, hml, hown, hts⟩ (c_X1_pull l D cy cz g ad N L A _ q (nI sm) hw hx0 hq) kg_RL_56 ⟨rfl, rfl⟩ (by decide +kernel) ⟨Nat.le_of_ble_eq_true rfl, Nat.le_of_ble_eq_true rfl⟩ hJ hK hD hZ hS hA rfl hl.1 rfl (Nat.le_of_ble_eq_true rfl) dL_act_815 ⟨Nat.le_of_ble_eq_true rfl, Nat.le_of_ble_eq_true rfl⟩ (fun ad2 H locs _ hJ hD hS => ?_)
    refine lv_aload_n hx hb dL_act_818 rfl (lv_at hl 3 rfl) ?_
    refine lv_iload hx hb dL_act_819 (lv_at hl 7 rfl) ?_
    refine lv_iload hx hb dL_act_821 (lv_at hl 1 rfl) ?_
    refine kr_jwI (n := 2) (As := [.int (nI q), .int (nI sm)]) (rest := []) ⟨hx, hb, hml, hown, hts⟩ (c_X0_pull l D cy h a N L A _ q (nI sm) hw hq hld (by rw [er]; exact nI_ne0 hr0 (by omega))) kg_RL_60 ⟨rfl, rfl⟩ (by decide +kernel) ⟨Nat.le_of_ble_eq_true rfl, Nat.le_of_ble_eq_true rfl⟩ hJ hK hD hS hA rfl hl.1 rfl (Nat.le_of_ble_eq_true rfl) dL_act_823 ⟨Nat.le_of_ble_eq_true rfl, Nat.le_of_ble_eq_true rfl⟩ (fun r9 H locs e9 hJ hD hS => ?_)
    subst e9
    refine lv_iload hx hb dL_act_826 (lv_at hl 0 rfl) ?_
    refine lv_icmp_ne (tgt := 840) hx hb dL_act_828 (by decide) (fun c828 => absurd rfl c828) (fun c828 => ?_)
    refine lv_iload hx hb dL_act_831 (lv_at hl 2 rfl) ?_
    refine lv_if_eq (tgt := 840) hx hb dL_act_833 (by decide) (fun c833 => absurd c833 (by decide)) (fun c833 => ?_)
    refine lv_iconst (v := 1) hx hb dL_act_836 (by decide) ?_
    refine lv_goto (tgt := 841) hx hb dL_act_837 (by decide) ?_
    refine W.widen (k := 20) (n := 80) (Nat.le_of_ble_eq_true rfl) (Nat.le_of_ble_eq_true rfl) ?_
    exact kr_aE (N, L, kr_pA A q (nI sm), ad2) hx hb hr hlocks hJ hD hS ⟨kr_wf_p hw hq (Nat.le_refl _), kr_wx_p hw hx0 hq (Nat.le_refl _), hN2, hL1⟩ dL_act_841
