set_option maxHeartbeats 4000000 in
set_option maxRecDepth 100000 in
theorem bld_join {p : Program} {l : Launch} {e : Env} {s : State} {m : MethodId} {below : List Frame} {meth : Method} {c : Code} {ls : Array Slot} {D : va_G} {cy cz : ClassId} {h g b Ls n k q pl : Nat} {a : Nat → Nat} {ad : Nat → Nat → Nat} {A : Nat → Nat → Int32} {xs : Nat → Int32} {AA : Nat → Prop} {H : Heap} {locs : List Loc} {cells slots : Nat} {Q : State → Prop} {x : Int32} (hx : p.tables.exec = Jvm.exec) (hb : c.code = cL_build) (hml : c.maxLocals = 9) (hts : ∀ w ∈ kr_all, w.before #[Value.ref h, Value.ref b] s = true) (hown : s.vm.findClass RL = some m.cls) (hlocks : meth.locks = false) (hA : ∀ q : Nat, s.heap.size ≤ q → AA q) (hK : va_K D vwCl [(cy, .int), (cz, .array .int)] s) (hZ : kr_AO s) (hX : va_X b Ls xs s s.heap) (hbl : b < s.heap.size) (hbA : ¬ AA b) (hLs : Ls ≤ 260) {L : Nat} (hn0 : 2 ≤ n) (hn : n ≤ 14) (hw : kr_wf n L A) (hx0 : kr_wx n L A) (hq : q < L) (hr1 : 0 < kr_rc A q) (hr5 : kr_rc A q < 5) (hJ : va_P D vwCl (kr_JW cy cz h a g ad n L A) H) (hD : va_D AA (kr_JW cy cz h a g ad n L A)) (hS : va_S AA s.heap H locs) (hl : lv_has ls 9 [(0, .ref h), (1, .ref b), (2, .ref g), (3, .int (nI n)), (4, .int (nI q)), (5, .int x), (7, .int (nI (kr_rc A q)))]) (hf1 : cells + 2 ≤ 80) (hf2 : slots + 10 ≤ 620) (kk : ∀ (ad : Nat → Nat → Nat) (A2 : Nat → Nat → Int32) (H : Heap) (locs : List Loc) (ls : Array Slot), kr_wf n L A2 → kr_wx n L A2 → kr_rc A2 q = kr_rc A q + 1 → va_P D vwCl (kr_JW cy cz h a g ad n L A2) H → va_D AA (kr_JW cy cz h a g ad n L A2) → va_S AA s.heap H locs → lv_has ls 9 [(0, .ref h), (1, .ref b), (2, .ref g), (3, .int (nI n)), (4, .int (nI q)), (5, .int x), (7, .int (nI (kr_rc A q)))] → W p l e ({ frames := 10, cells := 80, slots := 620, locals := 300 } : Room) s m #[Value.ref h, Value.ref b] below meth c  H locs (cells + 2) (slots + 10) Q (F0 m 483 ls [])) : W p l e ({ frames := 10, cells := 80, slots := 620, locals := 300 } : Room) s m #[Value.ref h, Value.ref b] below meth c H locs cells slots Q (F0 m 354 ls []) := by
  have hN := hw.1
  have hL := hw.2.1
  obtain ⟨hrc, er⟩ := hw.rc hq
  have hP : va_P D vwCl (kr_SW cy cz g ad n L A) H := kr_Pr hJ
  refine lv_iconst (v := 1) hx hb dL_build_354 (by decide) ?_
  refine lv_iload hx hb dL_build_355 (lv_at hl 5 rfl) ?_
  refine lv_iload hx hb dL_build_357 (lv_at hl 6 rfl) ?_
  refine lv_iconst (v := 3) hx hb dL_build_359 (by decide) ?_
  refine kr_iaddN hx hb (kr_rc A q) 3 dL_build_360 ?_
  refine lv_ishr hx hb dL_build_361 ?_
  refine lv_sipush (v := 999) hx hb dL_build_362 (by decide) ?_
  refine kr_sI (n := 2) (As := [.int (x >>> ((nI ((kr_rc A q) + 3)) &&& 31)), .int 999]) (rest := [.int 1]) ⟨hx, hb, hml, hown, hts⟩ (c_L_below l (x >>> ((nI ((kr_rc A q) + 3)) &&& 31)) 999 (by omega) (by omega)) kg_RL_18 ⟨rfl, rfl⟩ (by decide +kernel) ⟨Nat.le_of_ble_eq_true rfl, Nat.le_of_ble_eq_true rfl⟩ ⟨kr_blT, fun U hU hW => ⟨rfl, trivial⟩⟩ rfl hl.1 rfl (Nat.le_of_ble_eq_true rfl) dL_build_365 ⟨show cells + 0 ≤ 80 by omega, show slots + 0 ≤ 620 by omega⟩ (fun r9 e9 => ?_)
  obtain ⟨j1, hj1, rfl⟩ := e9
  refine kr_iaddN hx hb 1 j1 dL_build_368 ?_
  obtain ⟨d, hd0⟩ : ∃ z, z = 1 + j1 := ⟨_, rfl⟩
  rw [← hd0]
  have hd1 : 1 ≤ d := by omega
  have hd2 : d ≤ 999 := by omega
  refine lv_istore (lv' := [(6, .int (nI d)), (0, .ref h), (1, .ref b), (2, .ref g), (3, .int (nI n)), (4, .int (nI q)), (5, .int x), (7, .int (nI (kr_rc A q)))]) hx hb dL_build_369 hl (by decide) rfl (fun ls hl => ?_)
  refine lv_iload hx hb dL_build_371 (lv_at hl 6 rfl) ?_
  refine lv_iload hx hb dL_build_373 (lv_at hl 7 rfl) ?_
  refine lv_ishr hx hb dL_build_375 ?_
  refine lv_iload_n hx hb dL_build_376 rfl (lv_at hl 4 rfl) ?_
  refine kr_sI (n := 2) (As := [.int (x >>> ((nI (kr_rc A q)) &&& 31)), .int (nI n)]) (rest := []) ⟨hx, hb, hml, hown, hts⟩ (c_L_below l (x >>> ((nI (kr_rc A q)) &&& 31)) n (by omega) (by omega)) kg_RL_18 ⟨rfl, rfl⟩ (by decide +kernel) ⟨Nat.le_of_ble_eq_true rfl, Nat.le_of_ble_eq_true rfl⟩ ⟨kr_blT, fun U hU hW => ⟨rfl, trivial⟩⟩ rfl hl.1 rfl (Nat.le_of_ble_eq_true rfl) dL_build_377 ⟨show cells + 0 ≤ 80 by omega, show slots + 0 ≤ 620 by omega⟩ (fun r9 e9 => ?_)
  obtain ⟨kb, hkb, rfl⟩ := e9
  refine lv_istore (lv' := [(8, .int (nI kb)), (6, .int (nI d)), (0, .ref h), (1, .ref b), (2, .ref g), (3, .int (nI n)), (4, .int (nI q)), (5, .int x), (7, .int (nI (kr_rc A q)))]) hx hb dL_build_380 hl (by decide) rfl (fun ls hl => ?_)
  refine lv_aload_n hx hb dL_build_382 rfl (lv_at hl 4 rfl) ?_
  refine va_get (ci := 1) (v := .ref (ad 0 0)) (C := RX1) (T := TX1) (N := 3) hx hb hts kr_wsX1 hown hK hP 0 rfl rfl 0 (by decide) (hts _ kq_512) (fun _ h9 => h9) rfl dL_build_383 ?_
  refine lv_iload hx hb dL_build_386 (lv_at hl 0 rfl) ?_
  refine kr_rdO hx hb hK hP 0 n rfl kb (by omega) (by omega) dL_build_388 ?_
  refine lv_iconst (v := 0) hx hb dL_build_389 (by decide) ?_
  refine kr_rdK hx hb hK hP (k := kb) (by omega) 0 (by decide) dL_build_390 ?_
  refine lv_iconst (v := 1) hx hb dL_build_391 (by decide) ?_
  refine kr_cutT (pcJ := 398) (stJ := []) (fun (k : Nat) H9 locs9 ls => (k < n ∧ A 0 k = 0) ∧ H9 = H ∧ locs9 = locs ∧ lv_has ls 9 [(0, .ref h), (1, .ref b), (2, .ref g), (3, .int (nI n)), (4, .int (nI q)), (5, .int x), (7, .int (nI (kr_rc A q))), (6, .int (nI d)), (8, .int (nI k))]) cells slots ?_ (fun key => ?_)
  · clear hl
    rintro k H9 locs9 ls ⟨⟨hk, hk0⟩, rfl, rfl, hl⟩
    refine lv_aload_n hx hb dL_build_398 rfl (lv_at hl 2 rfl) ?_
    refine va_get (ci := 1) (v := .ref (ad 0 1)) (C := RX1) (T := TX1) (N := 3) hx hb hts kr_wsX1 hown hK hP 0 rfl rfl 1 (by decide) (hts _ kq_514) (fun _ h9 => h9) rfl dL_build_399 ?_
    refine lv_iload hx hb dL_build_402 (lv_at hl 4 rfl) ?_
    refine lv_aload_n hx hb dL_build_404 rfl (lv_at hl 2 rfl) ?_
    refine va_get (ci := 1) (v := .ref (ad 0 1)) (C := RX1) (T := TX1) (N := 3) hx hb hts kr_wsX1 hown hK hP 0 rfl rfl 1 (by decide) (hts _ kq_514) (fun _ h9 => h9) rfl dL_build_405 ?_
    refine lv_iload hx hb dL_build_408 (lv_at hl 4 rfl) ?_
    refine kr_rdO hx hb hK hP 1 L rfl q (by omega) (by omega) dL_build_410 ?_
    refine lv_iload hx hb dL_build_411 (lv_at hl 6 rfl) ?_
    refine lv_iconst (v := 1) hx hb dL_build_413 (by decide) ?_
    refine kr_iaddN hx hb (kr_rc A q) 1 dL_build_414 ?_
    refine kr_sNR (n := 2) (mc := 1) (ms := 5) (BB := AA) (As := [.ref (ad 2 q), .int (nI (kr_rc A q + 1))]) (rest := [.int (nI q), .ref (ad 0 1)]) ⟨hx, hb, hml, hown, hts⟩ (c_X1_first l _ D cy cz _ (9 + (4 + n + q)) (ad 2 q) (kr_rc A q) (kr_rc A q + 1) _ (kr_gr (ws := kr_W0 cy h a n L A) (kr_gR hq)) (by omega) (by omega)) kgs_RL_43 ⟨rfl, rfl⟩ (by decide +kernel) ⟨Nat.le_of_ble_eq_true rfl, Nat.le_of_ble_eq_true rfl⟩ hJ hK hD hA hZ hS hA rfl hl.1 rfl (Nat.le_of_ble_eq_true rfl) dL_build_415 ⟨show cells + 1 ≤ 80 by omega, show slots + 5 ≤ 620 by omega⟩ (fun qR H locs hk9 hJ hD hS => ?_)
    clear hk9
    refine kr_woR (w := kr_W0 cy h a n L A) hx hb hZ hK hJ hD hS q hq (by omega) (kr_up A 7 (upd (A 7) (5 * q + kr_rc A q) 0)) (fun j hj => kr_upN _ _ hj) (fun i hi hne j hj => by rw [kr_upS, pk_un (by have := (hw.rc hi).1; omega)]) (fun j hj => by rw [kr_upS]; by_cases e9 : j < kr_rc A q; rw [if_pos e9, if_pos e9, pk_un (by omega)]; rw [if_neg e9, show j = kr_rc A q by omega, pk_us]) dL_build_418 (fun H locs hJ hD hS => ?_)
    have hP : va_P D vwCl (kr_SG cy cz g (kr_ad ad 2 q qR) n L L (kr_up A 7 (upd (A 7) (5 * q + kr_rc A q) 0)) (va_up (kr_rc A) q (kr_rc A q + 1)) (kr_rc A)) _ := kr_Pr hJ
    refine lv_aload_n hx hb dL_build_419 rfl (lv_at hl 2 rfl) ?_
    refine va_get (ci := 1) (v := .ref ((kr_ad ad 2 q qR) 0 2)) (C := RX1) (T := TX1) (N := 3) hx hb hts kr_wsX1 hown hK hP 0 rfl rfl 2 (by decide) (hts _ kq_516) (fun _ h9 => h9) rfl dL_build_420 ?_
    refine lv_iload hx hb dL_build_423 (lv_at hl 4 rfl) ?_
    refine lv_aload_n hx hb dL_build_425 rfl (lv_at hl 2 rfl) ?_
    refine va_get (ci := 1) (v := .ref ((kr_ad ad 2 q qR) 0 2)) (C := RX1) (T := TX1) (N := 3) hx hb hts kr_wsX1 hown hK hP 0 rfl rfl 2 (by decide) (hts _ kq_516) (fun _ h9 => h9) rfl dL_build_426 ?_
    refine lv_iload hx hb dL_build_429 (lv_at hl 4 rfl) ?_
    refine kr_rdO hx hb hK hP 2 L rfl q (by omega) (by omega) dL_build_431 ?_
    refine lv_iload hx hb dL_build_432 (lv_at hl 6 rfl) ?_
    refine lv_iconst (v := 1) hx hb dL_build_434 (by decide) ?_
    refine kr_iaddN hx hb (kr_rc A q) 1 dL_build_435 ?_
    refine kr_sNR (n := 2) (mc := 1) (ms := 5) (BB := AA) (As := [.ref ((kr_ad ad 2 q qR) 3 q), .int (nI (kr_rc A q + 1))]) (rest := [.int (nI q), .ref ((kr_ad ad 2 q qR) 0 2)]) ⟨hx, hb, hml, hown, hts⟩ (c_X1_first l _ D cy cz _ (9 + (4 + n + L + q)) ((kr_ad ad 2 q qR) 3 q) (kr_rc A q) (kr_rc A q + 1) _ (kr_gr (ws := kr_W0 cy h a n L A) (kr_gT hq)) (by omega) (by omega)) kgs_RL_43 ⟨rfl, rfl⟩ (by decide +kernel) ⟨Nat.le_of_ble_eq_true rfl, Nat.le_of_ble_eq_true rfl⟩ hJ hK hD hA hZ hS hA rfl hl.1 rfl (Nat.le_of_ble_eq_true rfl) dL_build_436 ⟨show cells + 1 + 1 ≤ 80 by omega, show slots + 5 + 5 ≤ 620 by omega⟩ (fun qT H locs hk9 hJ hD hS => ?_)
    clear hk9
    refine kr_woT (w := kr_W0 cy h a n L A) hx hb hZ hK hJ hD hS q hq (by omega) (kr_up (kr_up A 7 (upd (A 7) (5 * q + kr_rc A q) 0)) 6 (upd (A 6) (5 * q + kr_rc A q) 0)) (fun j hj => kr_upN _ _ hj) (fun i hi hne j hj => by rw [kr_upS, pk_un (by have := (hw.rc hi).1; omega)]; rfl) (fun j hj => by rw [kr_upS]; by_cases e9 : j < kr_rc A q; rw [if_pos e9, if_pos e9, pk_un (by omega)]; rfl; rw [if_neg e9, show j = kr_rc A q by omega, pk_us]) dL_build_439 (fun H locs hJ hD hS => ?_)
    have h5R : ∀ i, i < L → va_up (kr_rc A) q (kr_rc A q + 1) i ≤ 5 := fun i hi => by by_cases e9 : i = q; rw [e9, va_up_self]; omega; rw [va_up_ne _ _ e9]; exact (hw.rc hi).1
    have hqR : kr_rc A q < va_up (kr_rc A) q (kr_rc A q + 1) q := by rw [va_up_self]; omega
    have hP : va_P D vwCl (kr_SG cy cz g (kr_ad (kr_ad ad 2 q qR) 3 q qT) n L L (kr_up (kr_up A 7 (upd (A 7) (5 * q + kr_rc A q) 0)) 6 (upd (A 6) (5 * q + kr_rc A q) 0)) (va_up (kr_rc A) q (kr_rc A q + 1)) (va_up (kr_rc A) q (kr_rc A q + 1))) _ := kr_Pr hJ
    refine lv_aload_n hx hb dL_build_440 rfl (lv_at hl 2 rfl) ?_
    refine va_get (ci := 1) (v := .ref ((kr_ad (kr_ad ad 2 q qR) 3 q qT) 0 1)) (C := RX1) (T := TX1) (N := 3) hx hb hts kr_wsX1 hown hK hP 0 rfl rfl 1 (by decide) (hts _ kq_514) (fun _ h9 => h9) rfl dL_build_441 ?_
    refine lv_iload hx hb dL_build_444 (lv_at hl 4 rfl) ?_
    refine kr_rdO hx hb hK hP 1 L rfl q (by omega) (by omega) dL_build_446 ?_
    refine lv_iload hx hb dL_build_447 (lv_at hl 6 rfl) ?_
    refine lv_iload hx hb dL_build_449 (lv_at hl 7 rfl) ?_
    refine kr_wrR (w := kr_W0 cy h a n L A) hx hb hK hJ hD hS hq (kr_rc A q) hqR h5R dL_build_451 (fun H locs hJ hD hS => ?_)
    have hP : va_P D vwCl (kr_SG cy cz g (kr_ad (kr_ad ad 2 q qR) 3 q qT) n L L (kr_up (kr_up (kr_up A 7 (upd (A 7) (5 * q + kr_rc A q) 0)) 6 (upd (A 6) (5 * q + kr_rc A q) 0)) 7 (upd ((kr_up (kr_up A 7 (upd (A 7) (5 * q + kr_rc A q) 0)) 6 (upd (A 6) (5 * q + kr_rc A q) 0)) 7) (5 * q + kr_rc A q) (nI d))) (va_up (kr_rc A) q (kr_rc A q + 1)) (va_up (kr_rc A) q (kr_rc A q + 1))) _ := kr_Pr hJ
    refine lv_aload_n hx hb dL_build_452 rfl (lv_at hl 2 rfl) ?_
    refine va_get (ci := 1) (v := .ref ((kr_ad (kr_ad ad 2 q qR) 3 q qT) 0 2)) (C := RX1) (T := TX1) (N := 3) hx hb hts kr_wsX1 hown hK hP 0 rfl rfl 2 (by decide) (hts _ kq_516) (fun _ h9 => h9) rfl dL_build_453 ?_
    refine lv_iload hx hb dL_build_456 (lv_at hl 4 rfl) ?_
    refine kr_rdO hx hb hK hP 2 L rfl q (by omega) (by omega) dL_build_458 ?_
    refine lv_iload hx hb dL_build_459 (lv_at hl 6 rfl) ?_
    refine lv_iload hx hb dL_build_461 (lv_at hl 8 rfl) ?_
    refine kr_wrT (w := kr_W0 cy h a n L A) hx hb hK hJ hD hS hq (kr_rc A q) hqR h5R dL_build_463 (fun H locs hJ hD hS => ?_)
    obtain ⟨ad2, had2⟩ : ∃ z, z = kr_ad (kr_ad ad 2 q qR) 3 q qT := ⟨_, rfl⟩
    rw [← had2] at hJ hD
    have eSG : kr_SW cy cz g ad2 n L (kr_jA A q (kr_rc A q) k (nI d)) = kr_SG cy cz g ad2 n L L (kr_up (kr_up (kr_up (kr_up A 7 (upd (A 7) (5 * q + kr_rc A q) 0)) 6 (upd (A 6) (5 * q + kr_rc A q) 0)) 7 (upd ((kr_up (kr_up A 7 (upd (A 7) (5 * q + kr_rc A q) 0)) 6 (upd (A 6) (5 * q + kr_rc A q) 0)) 7) (5 * q + kr_rc A q) (nI d))) 6 (upd ((kr_up (kr_up (kr_up A 7 (upd (A 7) (5 * q + kr_rc A q) 0)) 6 (upd (A 6) (5 * q + kr_rc A q) 0)) 7 (upd ((kr_up (kr_up A 7 (upd (A 7) (5 * q + kr_rc A q) 0)) 6 (upd (A 6) (5 * q + kr_rc A q) 0)) 7) (5 * q + kr_rc A q) (nI d))) 6) (5 * q + kr_rc A q) (nI k))) (va_up (kr_rc A) q (kr_rc A q + 1)) (va_up (kr_rc A) q (kr_rc A q + 1)) := kr_SGe (fun i _ j hj => by rw [kr_jA_5 hj, kr_upN _ _ (by omega), kr_upN _ _ (by omega), kr_upN _ _ (by omega), kr_upN _ _ (by omega)]) (fun i hi => ⟨by rw [kr_jA_rc hr5]; rfl, fun j hj => by show upd (A 7) (5 * q + kr_rc A q) (nI d) (5 * i + j) = upd (upd (A 7) (5 * q + kr_rc A q) 0) (5 * q + kr_rc A q) (nI d) (5 * i + j); rw [kr_upd_tw]⟩) (fun i hi => ⟨by rw [kr_jA_rc hr5]; rfl, fun j hj => by show upd (A 6) (5 * q + kr_rc A q) (nI k) (5 * i + j) = upd (upd (A 6) (5 * q + kr_rc A q) 0) (5 * q + kr_rc A q) (nI k) (5 * i + j); rw [kr_upd_tw]⟩)
    rw [← eSG] at hJ hD
    refine lv_aload_n hx hb dL_build_464 rfl (lv_at hl 0 rfl) ?_
    refine lv_iload hx hb dL_build_465 (lv_at hl 4 rfl) ?_
    refine lv_iload hx hb dL_build_467 (lv_at hl 8 rfl) ?_
    refine lv_iload hx hb dL_build_469 (lv_at hl 7 rfl) ?_
    refine kr_jwI (n := 3) (As := [.int (nI q), .int (nI k), .int (nI d)]) (rest := []) ⟨hx, hb, hml, hown, hts⟩ (c_X0_join l D cy h a n L A _ q (kr_rc A q) k (nI d) hN hL hq hk hk0 (kr_rgN (lo := 1) (hi := 999) hd1 hd2 (by decide)) er hr1 hr5) kg_RL_47 ⟨rfl, rfl⟩ (by decide +kernel) ⟨Nat.le_of_ble_eq_true rfl, Nat.le_of_ble_eq_true rfl⟩ hJ hK hD hS hA rfl hl.1 rfl (Nat.le_of_ble_eq_true rfl) dL_build_471 ⟨show cells + 1 + 1 + 0 ≤ 80 by omega, show slots + 5 + 5 + 0 ≤ 620 by omega⟩ (fun r9 H locs e9 hJ hD hS => ?_)
    subst e9
    refine lv_iload hx hb dL_build_474 (lv_at hl 6 rfl) ?_
    refine lv_iconst (v := 1) hx hb dL_build_476 (by decide) ?_
    refine kr_iaddN hx hb (kr_rc A q) 1 dL_build_477 ?_
    refine lv_icmp_eq (tgt := 483) hx hb dL_build_478 (by decide) (fun c478 => ?_) (fun c478 => absurd rfl c478)
    exact kk ad2 (kr_jA A q (kr_rc A q) k (nI d)) _ _ _ (kr_wf_j hw hk hr5 hq er) (kr_wx_j hw hx0 hq (fun i hi => Or.inr hi) hr5 (fun _ => rfl) (fun w => absurd hq w) hk (by rw [if_neg (by omega)]; exact hk0) ⟨d, hd1, hd2, rfl⟩) (by rw [kr_jA_rc hr5, if_pos rfl]) hJ hD hS (lv_sub hl [0, 1, 2, 3, 4, 5, 6] rfl)
  · refine lv_icmp_ne (tgt := 398) hx hb dL_build_392 (by decide) (fun c392 => ?_) (fun c392 => ?_)
    · exact key kb _ _ ls ⟨⟨hkb, (hw.2.2.1 kb hkb).1.resolve_right c392⟩, rfl, rfl, lv_sub hl [2, 3, 4, 5, 6, 7, 8, 1, 0] rfl⟩
    · refine lv_iconst (v := 0) hx hb dL_build_395 (by decide) ?_
      refine lv_istore (lv' := [(8, .int 0), (6, .int (nI d)), (0, .ref h), (1, .ref b), (2, .ref g), (3, .int (nI n)), (4, .int (nI q)), (5, .int x), (7, .int (nI (kr_rc A q)))]) hx hb dL_build_396 hl (by decide) rfl (fun ls hl => ?_)
      exact key 0 _ _ ls ⟨⟨by omega, hx0.1 (by omega)⟩, rfl, rfl, lv_sub hl [2, 3, 4, 5, 6, 7, 8, 1, 0] rfl⟩
set_option maxHeartbeats 4000000 in
set_option maxRecDepth 100000 in
theorem bld_line {p : Program} {l : Launch} {e : Env} {s : State} {m : MethodId} {below : List Frame} {meth : Method} {c : Code} {ls : Array Slot} {D : va_G} {cy cz : ClassId} {h g b Ls n k q pl : Nat} {a : Nat → Nat} {ad : Nat → Nat → Nat} {A : Nat → Nat → Int32} {xs : Nat → Int32} {AA : Nat → Prop} {H : Heap} {locs : List Loc} {cells slots : Nat} {Q : State → Prop} {x : Int32} (hx : p.tables.exec = Jvm.exec) (hb : c.code = cL_build) (hml : c.maxLocals = 9) (hts : ∀ w ∈ kr_all, w.before #[Value.ref h, Value.ref b] s = true) (hown : s.vm.findClass RL = some m.cls) (hlocks : meth.locks = false) (hA : ∀ q : Nat, s.heap.size ≤ q → AA q) (hK : va_K D vwCl [(cy, .int), (cz, .array .int)] s) (hZ : kr_AO s) (hX : va_X b Ls xs s s.heap) (hbl : b < s.heap.size) (hbA : ¬ AA b) (hLs : Ls ≤ 260) (hn0 : 2 ≤ n) (hn : n ≤ 14) (hq4 : q < 4) (hw : kr_wf n q A) (hx0 : kr_wx n q A) (hJ : va_P D vwCl (kr_JW cy cz h a g ad n q A) H) (hD : va_D AA (kr_JW cy cz h a g ad n q A)) (hS : va_S AA s.heap H locs) (hl : lv_has ls 9 [(0, .ref h), (1, .ref b), (2, .ref g), (3, .int (nI n)), (4, .int (nI q))]) (hf1 : cells + 12 ≤ 80) (hf2 : slots + 76 ≤ 620) (kk : ∀ (ad : Nat → Nat → Nat) (A : Nat → Nat → Int32) (H : Heap) (locs : List Loc) (ls : Array Slot), kr_wf n (q + 1) A → kr_wx n (q + 1) A → va_P D vwCl (kr_JW cy cz h a g ad n (q + 1) A) H → va_D AA (kr_JW cy cz h a g ad n (q + 1) A) → va_S AA s.heap H locs → lv_has ls 9 [(0, .ref h), (1, .ref b), (2, .ref g), (3, .int (nI n)), (4, .int (nI q))] → W p l e ({ frames := 10, cells := 80, slots := 620, locals := 300 } : Room) s m #[Value.ref h, Value.ref b] below meth c  H locs (cells + 12) (slots + 76) Q (F0 m 489 ls [])) : W p l e ({ frames := 10, cells := 80, slots := 620, locals := 300 } : Room) s m #[Value.ref h, Value.ref b] below meth c H locs cells slots Q (F0 m 260 ls []) := by
  have hN := hw.1
  have hL := hw.2.1
  have hk1 : A 0 1 = 1 := hx0.2.1 (by omega)
  have hP : va_P D vwCl (kr_SW cy cz g ad n q A) H := kr_Pr hJ
  refine lv_aload_n hx hb dL_build_260 rfl (lv_at hl 1 rfl) ?_
  refine lv_bipush (v := 6) hx hb dL_build_261 (by decide) ?_
  refine lv_iload hx hb dL_build_263 (lv_at hl 4 rfl) ?_
  refine kr_iaddN hx hb 6 q dL_build_265 ?_
  refine kr_sI (n := 2) (As := [.ref b, .int (nI (6 + q))]) (rest := []) ⟨hx, hb, hml, hown, hts⟩ (c_L_cell l b Ls xs (6 + q) (by omega) hLs) kg_RL_65 ⟨rfl, rfl⟩ (by decide +kernel) ⟨Nat.le_of_ble_eq_true rfl, Nat.le_of_ble_eq_true rfl⟩ (kr_psX hX hbl hbA hS) rfl hl.1 rfl (Nat.le_of_ble_eq_true rfl) dL_build_266 ⟨show cells + 0 ≤ 80 by omega, show slots + 0 ≤ 620 by omega⟩ (fun x9 _ => ?_)
  refine lv_iconst (v := 2) hx hb dL_build_269 (by decide) ?_
  refine lv_ishr hx hb dL_build_270 ?_
  obtain ⟨x, hx9⟩ : ∃ z, z = x9 >>> (2 &&& 31) := ⟨_, rfl⟩
  rw [← hx9]
  refine lv_istore (lv' := [(5, .int x), (0, .ref h), (1, .ref b), (2, .ref g), (3, .int (nI n)), (4, .int (nI q))]) hx hb dL_build_271 hl (by decide) rfl (fun ls hl => ?_)
  refine lv_iconst (v := 1) hx hb dL_build_273 (by decide) ?_
  refine lv_iload hx hb dL_build_274 (lv_at hl 0 rfl) ?_
  refine lv_sipush (v := 999) hx hb dL_build_276 (by decide) ?_
  refine kr_sI (n := 2) (As := [.int x, .int 999]) (rest := [.int 1]) ⟨hx, hb, hml, hown, hts⟩ (c_L_below l x 999 (by omega) (by omega)) kg_RL_18 ⟨rfl, rfl⟩ (by decide +kernel) ⟨Nat.le_of_ble_eq_true rfl, Nat.le_of_ble_eq_true rfl⟩ ⟨kr_blT, fun U hU hW => ⟨rfl, trivial⟩⟩ rfl hl.1 rfl (Nat.le_of_ble_eq_true rfl) dL_build_279 ⟨show cells + 0 ≤ 80 by omega, show slots + 0 ≤ 620 by omega⟩ (fun r9 e9 => ?_)
  obtain ⟨j1, hj1, rfl⟩ := e9
  refine kr_iaddN hx hb 1 j1 dL_build_282 ?_
  obtain ⟨d, hd0⟩ : ∃ z, z = 1 + j1 := ⟨_, rfl⟩
  rw [← hd0]
  have hd1 : 1 ≤ d := by omega
  have hd2 : d ≤ 999 := by omega
  refine lv_istore (lv' := [(6, .int (nI d)), (5, .int x), (0, .ref h), (1, .ref b), (2, .ref g), (3, .int (nI n)), (4, .int (nI q))]) hx hb dL_build_283 hl (by decide) rfl (fun ls hl => ?_)
  refine lv_aload_n hx hb dL_build_285 rfl (lv_at hl 4 rfl) ?_
  refine lv_aload_n hx hb dL_build_286 rfl (lv_at hl 4 rfl) ?_
  refine va_get (ci := 1) (v := .ref (ad 0 1)) (C := RX1) (T := TX1) (N := 3) hx hb hts kr_wsX1 hown hK hP 0 rfl rfl 1 (by decide) (hts _ kq_514) (fun _ h9 => h9) rfl dL_build_287 ?_
  refine lv_iconst (v := 1) hx hb dL_build_290 (by decide) ?_
  refine kr_newF (BB := AA) hx hb hts hK hJ hD hA hS 1 (by decide) (by decide) (by decide) (show cells + 1 ≤ 80 by omega) (show slots + 1 ≤ 620 by omega) dL_build_291 (fun q1 H hqq1 hJ hD hS => ?_)
  refine lv_dup hx hb dL_build_293 rfl ?_
  refine lv_iconst (v := 0) hx hb dL_build_294 (by decide) ?_
  refine lv_iload hx hb dL_build_295 (lv_at hl 0 rfl) ?_
  refine kr_astF (tys := [(cz, .array .int)]) hx hb hK hJ hD hS (hA q1 hqq1) ((kr_W0 cy h a n q A ++ kr_SG cy cz g ad n q q A (kr_rc A) (kr_rc A)).length + 0) (kr_gr rfl) 0 (by decide) (by decide) dL_build_297 (fun H locs hJ hD hS => ?_)
  rw [kr_lset1] at hJ hD
  refine kr_sNR (n := 2) (mc := 1) (ms := 17) (BB := AA) (As := [.ref (ad 0 1), .ref q1]) (rest := [.ref g]) ⟨hx, hb, hml, hown, hts⟩ (c_X1_with l _ D cy cz _ (9 + 2) (ad 0 1) q q1 (fun k => some (ad (1 + 1) k)) (kr_gl (kr_gr (ws := kr_W0 cy h a n q A) (i := 2) rfl)) (by omega) (fun i9 hi9 => ⟨_, _, _, rfl, List.mem_of_getElem? (kr_gl (kr_gr (ws := kr_W0 cy h a n q A) (kr_gR hi9)))⟩) ⟨_, _, List.mem_of_getElem? (kr_gr (i := 0) rfl)⟩) kgs_RL_24 ⟨rfl, rfl⟩ (by decide +kernel) ⟨Nat.le_of_ble_eq_true rfl, Nat.le_of_ble_eq_true rfl⟩ hJ hK hD hA hZ hS hA rfl hl.1 rfl (Nat.le_of_ble_eq_true rfl) dL_build_298 ⟨show cells + 1 + 1 ≤ 80 by omega, show slots + 1 + 17 ≤ 620 by omega⟩ (fun oq1 H locs hk9 hJ hD hS => ?_)
  clear hk9
  refine kr_wnR (w := kr_W0 cy h a n q A) hx hb hts hown (hts _ kq_514) hK hJ hD hS (fun j hj => by rw [if_neg (by omega), if_pos hj]) (if_pos rfl) (kr_up A 7 (upd (A 7) (5 * q) (nI d))) (fun j hj => by rw [show j = 0 by omega, pk_us, kr_upS]; exact (pk_us (f := A 7)).symm) (fun i hi j hj => by rw [kr_upN _ _ (by omega)]) (fun i hi j hj => by rw [kr_upS, pk_un (by have := (hw.rc hi).1; omega)]) (fun i hi j hj => by rw [kr_upN _ _ (by decide)]) dL_build_301 (fun H locs hJ hD hS => ?_)
  have hP : va_P D vwCl (kr_SG cy cz g (kr_ad (kr_ad ad 2 q q1) 0 1 oq1) n (q + 1) q (kr_up A 7 (upd (A 7) (5 * q) (nI d))) (va_up (kr_rc A) q 1) (kr_rc A)) _ := kr_Pr hJ
  refine lv_aload_n hx hb dL_build_304 rfl (lv_at hl 4 rfl) ?_
  refine lv_aload_n hx hb dL_build_305 rfl (lv_at hl 4 rfl) ?_
  refine va_get (ci := 1) (v := .ref ((kr_ad (kr_ad ad 2 q q1) 0 1 oq1) 0 2)) (C := RX1) (T := TX1) (N := 3) hx hb hts kr_wsX1 hown hK hP 0 rfl rfl 2 (by decide) (hts _ kq_516) (fun _ h9 => h9) rfl dL_build_306 ?_
  refine lv_iconst (v := 1) hx hb dL_build_309 (by decide) ?_
  refine kr_newF (BB := AA) hx hb hts hK hJ hD hA hS 1 (by decide) (by decide) (by decide) (show cells + 1 + 1 + 1 ≤ 80 by omega) (show slots + 1 + 17 + 1 ≤ 620 by omega) dL_build_310 (fun q2 H hqq2 hJ hD hS => ?_)
  refine lv_dup hx hb dL_build_312 rfl ?_
  refine lv_iconst (v := 0) hx hb dL_build_313 (by decide) ?_
  refine lv_iconst (v := 1) hx hb dL_build_314 (by decide) ?_
  refine kr_astF (tys := [(cz, .array .int)]) hx hb hK hJ hD hS (hA q2 hqq2) ((kr_W0 cy h a n q A ++ kr_SG cy cz g (kr_ad (kr_ad ad 2 q q1) 0 1 oq1) n (q + 1) q (kr_up A 7 (upd (A 7) (5 * q) (nI d))) (va_up (kr_rc A) q 1) (kr_rc A)).length + 0) (kr_gr rfl) 0 (by decide) (by decide) dL_build_315 (fun H locs hJ hD hS => ?_)
  rw [kr_lset1] at hJ hD
  refine kr_sNR (n := 2) (mc := 1) (ms := 17) (BB := AA) (As := [.ref ((kr_ad (kr_ad ad 2 q q1) 0 1 oq1) 0 2), .ref q2]) (rest := [.ref g]) ⟨hx, hb, hml, hown, hts⟩ (c_X1_with l _ D cy cz _ (9 + 3) ((kr_ad (kr_ad ad 2 q q1) 0 1 oq1) 0 2) q q2 (fun k => some ((kr_ad (kr_ad ad 2 q q1) 0 1 oq1) (2 + 1) k)) (kr_gl (kr_gr (ws := kr_W0 cy h a n q A) (i := 3) rfl)) (by omega) (fun i9 hi9 => ⟨_, _, _, rfl, List.mem_of_getElem? (kr_gl (kr_gr (ws := kr_W0 cy h a n q A) (kr_gT hi9)))⟩) ⟨_, _, List.mem_of_getElem? (kr_gr (i := 0) rfl)⟩) kgs_RL_24 ⟨rfl, rfl⟩ (by decide +kernel) ⟨Nat.le_of_ble_eq_true rfl, Nat.le_of_ble_eq_true rfl⟩ hJ hK hD hA hZ hS hA rfl hl.1 rfl (Nat.le_of_ble_eq_true rfl) dL_build_316 ⟨show cells + 1 + 1 + 1 + 1 ≤ 80 by omega, show slots + 1 + 17 + 1 + 17 ≤ 620 by omega⟩ (fun oq2 H locs hk9 hJ hD hS => ?_)
  clear hk9
  refine kr_wnT (w := kr_W0 cy h a n q A) hx hb hts hown (hts _ kq_516) hK hJ hD hS (fun j hj => by rw [if_neg (by omega), if_pos hj]) (if_pos rfl) (kr_up (kr_up A 7 (upd (A 7) (5 * q) (nI d))) 6 (upd (A 6) (5 * q) (nI 1))) (fun j hj => by rw [show j = 0 by omega, pk_us, kr_upS]; exact (pk_us (f := A 6)).symm) (fun i hi j hj => by rw [kr_upN _ _ (by omega)]) (fun i hi j hj => by rw [kr_upN _ _ (by decide)]) (fun i hi j hj => by rw [kr_upS, pk_un (by have := (hw.rc hi).1; omega)]; rfl) dL_build_319 (fun H locs hJ hD hS => ?_)
  obtain ⟨ad2, had2⟩ : ∃ z, z = kr_ad (kr_ad (kr_ad (kr_ad ad 2 q q1) 0 1 oq1) 3 q q2) 0 2 oq2 := ⟨_, rfl⟩
  rw [← had2] at hJ hD
  have eSG : kr_SW cy cz g ad2 n (q + 1) (kr_tA A q 1 (nI d)) = kr_SG cy cz g ad2 n (q + 1) (q + 1) (kr_up (kr_up A 7 (upd (A 7) (5 * q) (nI d))) 6 (upd (A 6) (5 * q) (nI 1))) (va_up (kr_rc A) q 1) (va_up (kr_rc A) q 1) := kr_SGe (fun i _ j hj => by rw [show kr_tA A q 1 (nI d) = kr_jA A q 0 1 (nI d) from rfl, kr_jA_5 hj, kr_upN _ _ (by omega), kr_upN _ _ (by omega)]) (fun i hi => ⟨by show kr_rc (kr_jA A q 0 1 (nI d)) i = _; rw [kr_jA_rc (by decide)]; rfl, fun j hj => rfl⟩) (fun i hi => ⟨by show kr_rc (kr_jA A q 0 1 (nI d)) i = _; rw [kr_jA_rc (by decide)]; rfl, fun j hj => rfl⟩)
  rw [← eSG] at hJ hD
  refine lv_aload_n hx hb dL_build_322 rfl (lv_at hl 2 rfl) ?_
  refine lv_iconst (v := 1) hx hb dL_build_323 (by decide) ?_
  refine lv_iload hx hb dL_build_324 (lv_at hl 0 rfl) ?_
  have h6 : q < 6 := by omega
  refine kr_jwI (n := 2) (As := [.int 1, .int (nI d)]) (rest := []) ⟨hx, hb, hml, hown, hts⟩ (c_X0_tie l D cy h a n q A _ 1 (nI d) hN (by omega) hk1 (kr_rgN (lo := 1) (hi := 999) hd1 hd2 (by decide)) h6) kg_RL_40 ⟨rfl, rfl⟩ (by decide +kernel) ⟨Nat.le_of_ble_eq_true rfl, Nat.le_of_ble_eq_true rfl⟩ hJ hK hD hS hA rfl hl.1 rfl (Nat.le_of_ble_eq_true rfl) dL_build_326 ⟨show cells + 1 + 1 + 1 + 1 + 0 ≤ 80 by omega, show slots + 1 + 17 + 1 + 17 + 0 ≤ 620 by omega⟩ (fun r9 H locs e9 hJ hD hS => ?_)
  subst e9
  have hP : va_P D vwCl (kr_SG cy cz g ad2 n (q + 1) (q + 1) (kr_tA A q 1 (nI d)) (kr_rc (kr_tA A q 1 (nI d))) (kr_rc (kr_tA A q 1 (nI d)))) _ := kr_Pr hJ
  refine lv_iload hx hb dL_build_329 (lv_at hl 6 rfl) ?_
  refine lv_icmp_eq (tgt := 336) hx hb dL_build_331 (by decide) (fun c331 => ?_) (fun c331 => absurd rfl c331)
  have hw2 : kr_wf n (q + 1) (kr_tA A q 1 (nI d)) := kr_wf_t hw (by omega) h6
  have hx2 : kr_wx n (q + 1) (kr_tA A q 1 (nI d)) := kr_wx_j hw hx0 (Nat.lt_succ_self q) (fun i hi => by omega) (by decide) (fun w => absurd w (Nat.lt_irrefl q)) (fun _ => rfl) (by omega) (by rw [hk1]; rfl) ⟨d, hd1, hd2, rfl⟩
  have hrc1 : kr_rc (kr_tA A q 1 (nI d)) q = 1 := by show kr_rc (kr_jA A q 0 1 (nI d)) q = 1; rw [kr_jA_rc (by decide), if_pos rfl]
  refine lv_iconst (v := 1) hx hb dL_build_336 (by decide) ?_
  refine lv_istore (lv' := [(7, .int 1), (6, .int (nI d)), (5, .int x), (0, .ref h), (1, .ref b), (2, .ref g), (3, .int (nI n)), (4, .int (nI q))]) hx hb dL_build_337 hl (by decide) rfl (fun ls hl => ?_)
  clear had2 eSG hP hk1
  rw [show (1 : Int32) = nI 1 by decide] at hl
  refine W.widen (k := cells + 2 + 2 * 1) (n := slots + 26 + 10 * 1) (by omega) (by omega) ?_
  refine kr_lpC (nL := 9) (fun z : Nat × (Nat → Nat → Nat) × (Nat → Nat → Int32) => [(0, .ref h), (1, .ref b), (2, .ref g), (3, .int (nI n)), (4, .int (nI q)), (5, .int x), (7, .int (nI z.1))]) (fun z H locs => ((1 ≤ z.1 ∧ z.1 ≤ 5) ∧ kr_rc z.2.2 q = z.1 ∧ kr_wf n (q + 1) z.2.2 ∧ kr_wx n (q + 1) z.2.2) ∧ va_P D vwCl (kr_JW cy cz h a g z.2.1 n (q + 1) z.2.2) H ∧ va_D AA (kr_JW cy cz h a g z.2.1 n (q + 1) z.2.2) ∧ va_S AA s.heap H locs) (fun z => 5 - z.1) (fun z => cells + 2 + 2 * z.1) (fun z => slots + 26 + 10 * z.1) ?_ (1, ad2, kr_tA A q 1 (nI d)) ⟨⟨⟨show (1 : Nat) ≤ 1 by decide, show (1 : Nat) ≤ 5 by decide⟩, hrc1, hw2, hx2⟩, hJ, hD, hS⟩ (lv_sub hl [3, 4, 5, 6, 7, 2, 0] rfl)
  clear hl hJ hD hS
  intro z H locs ls hI hl ih
  obtain ⟨p9, ad, A⟩ := z
  obtain ⟨⟨⟨hp1, hp5⟩, hrp, hw, hx0⟩, hJ, hD, hS⟩ : ((1 ≤ p9 ∧ p9 ≤ 5) ∧ kr_rc A q = p9 ∧ kr_wf n (q + 1) A ∧ kr_wx n (q + 1) A) ∧ va_P D vwCl (kr_JW cy cz h a g ad n (q + 1) A) H ∧ va_D AA (kr_JW cy cz h a g ad n (q + 1) A) ∧ va_S AA s.heap H locs := hI
  subst hrp
  have hl : lv_has ls 9 [(0, .ref h), (1, .ref b), (2, .ref g), (3, .int (nI n)), (4, .int (nI q)), (5, .int x), (7, .int (nI (kr_rc A q)))] := hl
  show W p l e ({ frames := 10, cells := 80, slots := 620, locals := 300 } : Room) s m #[Value.ref h, Value.ref b] below meth c  H locs (cells + 2 + 2 * kr_rc A q) (slots + 26 + 10 * kr_rc A q) Q (F0 m 339 ls [])
  refine lv_iload hx hb dL_build_339 (lv_at hl 6 rfl) ?_
  refine lv_iconst (v := 1) hx hb dL_build_341 (by decide) ?_
  refine lv_iload hx hb dL_build_342 (lv_at hl 5 rfl) ?_
  refine lv_iconst (v := 5) hx hb dL_build_344 (by decide) ?_
  refine lv_ishr hx hb dL_build_345 ?_
  refine lv_iconst (v := 5) hx hb dL_build_346 (by decide) ?_
  refine kr_sI (n := 2) (As := [.int (x >>> (5 &&& 31)), .int 5]) (rest := [.int 1, .int (nI (kr_rc A q))]) ⟨hx, hb, hml, hown, hts⟩ (c_L_below l (x >>> (5 &&& 31)) 5 (by omega) (by omega)) kg_RL_18 ⟨rfl, rfl⟩ (by decide +kernel) ⟨Nat.le_of_ble_eq_true rfl, Nat.le_of_ble_eq_true rfl⟩ ⟨kr_blT, fun U hU hW => ⟨rfl, trivial⟩⟩ rfl hl.1 rfl (Nat.le_of_ble_eq_true rfl) dL_build_347 ⟨show (cells + 2 + 2 * kr_rc A q) + 0 ≤ 80 by omega, show (slots + 26 + 10 * kr_rc A q) + 0 ≤ 620 by omega⟩ (fun r9 e9 => ?_)
  obtain ⟨j5, hj5, rfl⟩ := e9
  refine kr_iaddN hx hb 1 j5 dL_build_350 ?_
  refine lv_icmp_ge (tgt := 489) hx hb dL_build_351 (by decide) (fun c351 => ?_) (fun c351 => ?_)
  · refine W.widen (k := cells + 12) (n := slots + 76) (by omega) (by omega) ?_
    exact kk ad A _ _ _ hw hx0 hJ hD hS (lv_sub hl [0, 1, 2, 3, 4] rfl)
  · have hr5 : kr_rc A q < 5 := by have := kr_lt (a := kr_rc A q) (b := 1 + j5) (by omega) (by omega) c351; omega
    refine bld_join (k := 0) (pl := 0) hx hb hml hts hown hlocks hA hK hZ hX hbl hbA hLs hn0 hn hw hx0 (Nat.lt_succ_self q) (by omega) hr5 hJ hD hS (lv_sub hl [0, 1, 2, 3, 4, 5, 6] rfl) (by omega) (by omega) (fun ad A2 H locs ls hw hx0 hr hJ hD hS hl => ?_)
    refine lv_iinc (v := nI (kr_rc A q + 1)) (lv' := [(7, .int (nI (kr_rc A q + 1))), (0, .ref h), (1, .ref b), (2, .ref g), (3, .int (nI n)), (4, .int (nI q)), (5, .int x)]) hx hb dL_build_483 hl (k := 6) rfl (kr_inc _) (by decide) rfl (fun ls hl => ?_)
    refine lv_goto (tgt := 339) hx hb dL_build_486 (by decide) ?_
    rw [← hr] at hl
    refine W.widen (k := cells + 2 + 2 * kr_rc A2 q) (n := slots + 26 + 10 * kr_rc A2 q) (by omega) (by omega) ?_
    exact ih (kr_rc A2 q, ad, A2) _ _ ls ⟨⟨⟨show 1 ≤ kr_rc A2 q by omega, show kr_rc A2 q ≤ 5 by omega⟩, rfl, hw, hx0⟩, hJ, hD, hS⟩ (by show 5 - kr_rc A2 q < 5 - kr_rc A q; omega) (lv_sub hl [1, 2, 3, 4, 5, 6, 0] rfl)
