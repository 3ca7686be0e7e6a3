set_option maxHeartbeats 4000000 in
set_option maxRecDepth 100000 in
theorem c_X1_init (l : Launch) (D : va_G) (cy : ClassId) (g sz : Nat) : Met l yX1_init (Cond.code yX1_init cX1_init 1 none :: kr_all) ({ frames := 1, cells := 3, slots := 0, locals := 12 }) (va_Pc [.ref g] (fun U => U.heap.size = sz ∧ va_P D vwCl [(g, .inr (1, [.null, .null, .null]))] U.heap ∧ va_K D vwCl [(cy, .int)] U ∧ va_D (fun _ => True) [(g, .inr (1, [.null, .null, .null]))] ∧ kr_AO U)) (va_Qv (fun (_ : ClassId × (Nat → Nat → Nat)) => True) (fun u t => va_P D vwCl (kr_SW cy u.1 g u.2 0 0 (fun _ _ => 0)) t.heap ∧ va_K D vwCl [(cy, .int), (u.1, .array .int)] t ∧ va_D (va_A [(g, .inr (1, [.null, .null, .null]))] sz) (kr_SW cy u.1 g u.2 0 0 (fun _ _ => 0))) (va_A [(g, .inr (1, [.null, .null, .null]))] sz)) 3 0 (va_A [(g, .inr (1, [.null, .null, .null]))] sz) := by
  refine Met.ofW (cc := cX1_init) (maxL := 1) (ret := none) (by decide) rfl ?_
  intro p e s m args below meth c s₁ B hml hv
  obtain ⟨rfl, hsz, hP, hK, hD0, hZ⟩ := hv
  have hx := B.exec
  have hb := B.bytes
  have hr := B.returns
  have hts0 := atoms_spec (ws := Cond.code yX1_init cX1_init 1 none :: kr_all) B.pre
  have hts : ∀ w ∈ kr_all, w.before #[.ref g] s = true := fun w hw => hts0 w (List.mem_cons_of_mem _ hw)
  have hown : s.vm.findClass RX1 = some m.cls := findClass_of_methodNamed B.named
  have hlocks := B.notSynchronized
  subst hsz
  have hD := hD0.self (sz := s.heap.size)
  generalize hAe : va_A [(g, .inr (1, [.null, .null, .null]))] s.heap.size = AA at hD ⊢
  have hA : ∀ q : Nat, s.heap.size ≤ q → AA q := fun q h => by rw [← hAe]; exact Or.inr h
  have hS : va_S AA s.heap s.heap [] := va_S.rf
  have hP : va_P D vwCl [(g, .inr (1, [.null, .null, .null]))] s.heap := hP
  have hl := lv_entry ([.ref g]) (n := 1) (Nat.le_of_ble_eq_true rfl)
  rw [lg_entry_eq]
  generalize (lg_sl ([.ref g]) ++ List.replicate (1 - (lg_sl ([.ref g])).length) Slot.unset).toArray = ls at hl ⊢
  have hl : lv_has ls 1 [(0, .ref g)] := hl
  refine lv_aload_n hx hb dX1_init_0 rfl (lv_at hl 0 rfl) ?_
  refine W.objInit hx hb hown (hts _ kq_510) (hts _ kq_40) (hts _ kq_41) rfl (by rw [hml]; exact hl.1) rfl dX1_init_1 (Nat.le_of_ble_eq_true rfl) (Nat.le_of_ble_eq_true rfl) ?_
  refine W.eq (g2 := F0 m 4 ls []) rfl ?_
  refine lv_aload_n hx hb dX1_init_4 rfl (lv_at hl 0 rfl) ?_
  refine lv_iconst (v := 0) hx hb dX1_init_5 (by decide) ?_
  refine kr_newQ (BB := AA) hx hb hown (hts _ kq_468) hZ hP hD hA hS 0 (by decide) (by decide) (by decide) (Nat.le_of_ble_eq_true rfl) (Nat.le_of_ble_eq_true rfl) dX1_init_6 (fun q0 c0 H hq9 hc0 hP hD hS => ?_)
  have hP : va_P D vwCl [(g, .inr (1, [.null, .null, .null])), (q0, .inl (c0, 0, .inr (.inr (.inr (.inr (fun _ => none))))))] H := hP
  have hD : va_D AA [(g, .inr (1, [.null, .null, .null])), (q0, .inl (c0, 0, .inr (.inr (.inr (.inr (fun _ => none))))))] := hD
  refine va_put (ci := 1) (v := .ref q0) (ty := .array (.array .int)) (C := RX1) (T := TX1) (N := 3) hx hb hts kr_wsX1 tyX1 tyX1_ok nmX1 hown hK hP hD hS 0 rfl rfl 0 (by decide) (hts _ kq_511) (fun _ h9 => h9) rfl (by decide +kernel) rfl rfl (Nat.le_of_ble_eq_true rfl) dX1_init_9 (fun H locs hP hD hS => ?_)
  have hP : va_P D vwCl [(g, .inr (1, [.ref q0, .null, .null])), (q0, .inl (c0, 0, .inr (.inr (.inr (.inr (fun _ => none))))))] H := hP
  have hD : va_D AA [(g, .inr (1, [.ref q0, .null, .null])), (q0, .inl (c0, 0, .inr (.inr (.inr (.inr (fun _ => none))))))] := hD
  refine lv_aload_n hx hb dX1_init_12 rfl (lv_at hl 0 rfl) ?_
  refine lv_iconst (v := 0) hx hb dX1_init_13 (by decide) ?_
  refine kr_newQ (BB := AA) hx hb hown (hts _ kq_468) hZ hP hD hA hS 0 (by decide) (by decide) (by decide) (Nat.le_of_ble_eq_true rfl) (Nat.le_of_ble_eq_true rfl) dX1_init_14 (fun q1 c1 H hq9 hc1 hP hD hS => ?_)
  have ec : c1 = c0 := Option.some.inj (Eq.trans (Eq.symm (show s.vm.findClass _ = some c1 from hc1.2)) (show s.vm.findClass _ = some c0 from hc0.2))
  rw [ec] at hP
  have hD : va_D AA ([(g, .inr (1, [.ref q0, .null, .null])), (q0, .inl (c0, 0, .inr (.inr (.inr (.inr (fun _ => none)))))), (q1, .inl (c0, 0, .inr (.inr (.inr (.inr (fun _ => none))))))]) := kr_Dadr hD rfl
  have hP : va_P D vwCl [(g, .inr (1, [.ref q0, .null, .null])), (q0, .inl (c0, 0, .inr (.inr (.inr (.inr (fun _ => none)))))), (q1, .inl (c0, 0, .inr (.inr (.inr (.inr (fun _ => none))))))] H := hP
  have hD : va_D AA [(g, .inr (1, [.ref q0, .null, .null])), (q0, .inl (c0, 0, .inr (.inr (.inr (.inr (fun _ => none)))))), (q1, .inl (c0, 0, .inr (.inr (.inr (.inr (fun _ => none))))))] := hD
  refine va_put (ci := 1) (v := .ref q1) (ty := .array (.array .int)) (C := RX1) (T := TX1) (N := 3) hx hb hts kr_wsX1 tyX1 tyX1_ok nmX1 hown hK hP hD hS 0 rfl rfl 1 (by decide) (hts _ kq_513) (fun _ h9 => h9) rfl (by decide +kernel) rfl rfl (Nat.le_of_ble_eq_true rfl) dX1_init_17 (fun H locs hP hD hS => ?_)
  have hP : va_P D vwCl [(g, .inr (1, [.ref q0, .ref q1, .null])), (q0, .inl (c0, 0, .inr (.inr (.inr (.inr (fun _ => none)))))), (q1, .inl (c0, 0, .inr (.inr (.inr (.inr (fun _ => none))))))] H := hP
  have hD : va_D AA [(g, .inr (1, [.ref q0, .ref q1, .null])), (q0, .inl (c0, 0, .inr (.inr (.inr (.inr (fun _ => none)))))), (q1, .inl (c0, 0, .inr (.inr (.inr (.inr (fun _ => none))))))] := hD
  refine lv_aload_n hx hb dX1_init_20 rfl (lv_at hl 0 rfl) ?_
  refine lv_iconst (v := 0) hx hb dX1_init_21 (by decide) ?_
  refine kr_newQ (BB := AA) hx hb hown (hts _ kq_468) hZ hP hD hA hS 0 (by decide) (by decide) (by decide) (Nat.le_of_ble_eq_true rfl) (Nat.le_of_ble_eq_true rfl) dX1_init_22 (fun q2 c2 H hq9 hc2 hP hD hS => ?_)
  have ec : c2 = c0 := Option.some.inj (Eq.trans (Eq.symm (show s.vm.findClass _ = some c2 from hc2.2)) (show s.vm.findClass _ = some c0 from hc0.2))
  rw [ec] at hP
  have hD : va_D AA ([(g, .inr (1, [.ref q0, .ref q1, .null])), (q0, .inl (c0, 0, .inr (.inr (.inr (.inr (fun _ => none)))))), (q1, .inl (c0, 0, .inr (.inr (.inr (.inr (fun _ => none)))))), (q2, .inl (c0, 0, .inr (.inr (.inr (.inr (fun _ => none))))))]) := kr_Dadr hD rfl
  have hP : va_P D vwCl [(g, .inr (1, [.ref q0, .ref q1, .null])), (q0, .inl (c0, 0, .inr (.inr (.inr (.inr (fun _ => none)))))), (q1, .inl (c0, 0, .inr (.inr (.inr (.inr (fun _ => none)))))), (q2, .inl (c0, 0, .inr (.inr (.inr (.inr (fun _ => none))))))] H := hP
  have hD : va_D AA [(g, .inr (1, [.ref q0, .ref q1, .null])), (q0, .inl (c0, 0, .inr (.inr (.inr (.inr (fun _ => none)))))), (q1, .inl (c0, 0, .inr (.inr (.inr (.inr (fun _ => none)))))), (q2, .inl (c0, 0, .inr (.inr (.inr (.inr (fun _ => none))))))] := hD
  refine va_put (ci := 1) (v := .ref q2) (ty := .array (.array .int)) (C := RX1) (T := TX1) (N := 3) hx hb hts kr_wsX1 tyX1 tyX1_ok nmX1 hown hK hP hD hS 0 rfl rfl 2 (by decide) (hts _ kq_515) (fun _ h9 => h9) rfl (by decide +kernel) rfl rfl (Nat.le_of_ble_eq_true rfl) dX1_init_25 (fun H locs hP hD hS => ?_)
  have hP : va_P D vwCl [(g, .inr (1, [.ref q0, .ref q1, .ref q2])), (q0, .inl (c0, 0, .inr (.inr (.inr (.inr (fun _ => none)))))), (q1, .inl (c0, 0, .inr (.inr (.inr (.inr (fun _ => none)))))), (q2, .inl (c0, 0, .inr (.inr (.inr (.inr (fun _ => none))))))] H := hP
  have hD : va_D AA [(g, .inr (1, [.ref q0, .ref q1, .ref q2])), (q0, .inl (c0, 0, .inr (.inr (.inr (.inr (fun _ => none)))))), (q1, .inl (c0, 0, .inr (.inr (.inr (.inr (fun _ => none)))))), (q2, .inl (c0, 0, .inr (.inr (.inr (.inr (fun _ => none))))))] := hD
  obtain ⟨ad, had⟩ : ∃ ad : Nat → Nat → Nat, ad = fun i k => if k = 0 then q0 else if k = 1 then q1 else q2 := ⟨_, rfl⟩
  have a0 : ad 0 0 = q0 := by rw [had]; rfl
  have a1 : ad 0 1 = q1 := by rw [had]; rfl
  have a2 : ad 0 2 = q2 := by rw [had]; rfl
  have hP9 : va_P D vwCl (kr_SW cy c0 g ad 0 0 (fun _ _ => 0)) H := by
    show va_P D vwCl ([(g, .inr (1, [.ref (ad 0 0), .ref (ad 0 1), .ref (ad 0 2)])), kr_cO c0 ad 0 0, kr_cO c0 ad 1 0, kr_cO c0 ad 2 0] : va_W) H
    refine kr_pm.mpr (fun x hx9 => ?_)
    have h0 := kr_pm.mp hP
    simp only [List.mem_cons, List.not_mem_nil, or_false] at hx9
    rcases hx9 with rfl | rfl | rfl | rfl
    · rw [a0, a1, a2]; exact h0 _ (by simp)
    · show va_at D vwCl (ad 0 0, _) H
      rw [a0]
      exact kr_cgQ (h0 (q0, .inl (c0, 0, .inr (.inr (.inr (.inr (fun _ => none)))))) (by simp)) (fun j hj => absurd hj (Nat.not_lt_zero j))
    · show va_at D vwCl (ad 0 1, _) H
      rw [a1]
      exact kr_cgQ (h0 (q1, .inl (c0, 0, .inr (.inr (.inr (.inr (fun _ => none)))))) (by simp)) (fun j hj => absurd hj (Nat.not_lt_zero j))
    · show va_at D vwCl (ad 0 2, _) H
      rw [a2]
      exact kr_cgQ (h0 (q2, .inl (c0, 0, .inr (.inr (.inr (.inr (fun _ => none)))))) (by simp)) (fun j hj => absurd hj (Nat.not_lt_zero j))
  have hD9 : va_D AA (kr_SW cy c0 g ad 0 0 (fun _ _ => 0)) := kr_Dadr hD (by show [g, ad 0 0, ad 0 1, ad 0 2] = [g, q0, q1, q2]; rw [a0, a1, a2])
  have hK9 := kr_Kapp hK hc0
  exact W.vret hx hb hr (fun t ht hW => ⟨⟨(c0, ad), rfl, trivial, by rw [ht]; exact hP9, va_K.moved hW.alike hK9, hD9⟩, hS.F ht⟩) hS.2.2 dX1_init_28 hlocks
theorem kg_RX1_82 : GoodIn kr_all (wsV RX1 82 RX0 yX0_knots (Cond.code yX0_knots cX0_knots 1 (some .int) :: kr_all)) := kr_gV kq_446 kq_246 kq_247 kq_25 kq_248
theorem kg_RX1_85 : GoodIn kr_all (wsV RX1 85 RX0 yX0_knotsOf (Cond.code yX0_knotsOf cX0_knotsOf 2 (some .int) :: kr_all)) := kr_gV kq_447 kq_250 kq_251 kq_25 kq_252
theorem kg_RX1_88 : GoodIn kr_all (wsV RX1 88 RX0 yX0_lines (Cond.code yX0_lines cX0_lines 1 (some .int) :: kr_all)) := kr_gV kq_448 kq_314 kq_315 kq_25 kq_316
theorem kg_RX1_91 : GoodIn kr_all (wsV RX1 91 RX0 yX0_meanEfficiency (Cond.code yX0_meanEfficiency cX0_meanEfficiency 3 (some .double) :: kr_all)) := kr_gV kq_449 kq_450 kq_451 kq_25 kq_452
theorem kg_RX1_67 : GoodIn kr_all (wsV RX1 67 RX0 yX0_ropesOf (Cond.code yX0_ropesOf cX0_ropesOf 2 (some .int) :: kr_all)) := kr_gV kq_438 kq_318 kq_319 kq_25 kq_320
theorem kg_RX1_70 : GoodIn kr_all (wsV RX1 70 RX0 yX0_weakestPlace (Cond.code yX0_weakestPlace cX0_weakestPlace 6 (some .int) :: kr_all)) := kr_gV kq_439 kq_334 kq_335 kq_25 kq_336
theorem kg_RX1_73 : GoodIn kr_all (wsV RX1 73 RX1 yX1_weakest (Cond.code yX1_weakest cX1_weakest 4 (some .int) :: kr_all)) := kr_gV kq_440 kq_441 kq_442 kq_26 kq_443
theorem kg_RX1_76 : GoodIn kr_all (wsV RX1 76 RX0 yX0_knotOf (Cond.code yX0_knotOf cX0_knotOf 3 (some .int) :: kr_all)) := kr_gV kq_444 kq_322 kq_323 kq_25 kq_324
theorem kg_RX1_79 : GoodIn kr_all (wsV RX1 79 RX0 yX0_strengthAt (Cond.code yX0_strengthAt cX0_strengthAt 3 (some .int) :: kr_all)) := kr_gV kq_445 kq_326 kq_327 kq_25 kq_328
theorem kg_RX1_41 : GoodIn kr_all (wsV RX1 41 RX0 yX0_kindOf (Cond.code yX0_kindOf cX0_kindOf 2 (some .int) :: kr_all)) := kr_gV kq_422 kq_262 kq_263 kq_25 kq_264
theorem kg_RX1_46 : GoodIn kr_all (wsV RX1 46 RX0 yX0_efficiencyOf (Cond.code yX0_efficiencyOf cX0_efficiencyOf 2 (some .int) :: kr_all)) := kr_gV kq_423 kq_266 kq_267 kq_25 kq_268
theorem kg_RX1_49 : GoodIn kr_all (wsV RX1 49 RX0 yX0_crossingsOf (Cond.code yX0_crossingsOf cX0_crossingsOf 2 (some .int) :: kr_all)) := kr_gV kq_424 kq_384 kq_385 kq_25 kq_386
theorem kg_RX1_52 : GoodIn kr_all (wsV RX1 52 RX0 yX0_spillsAt (Cond.code yX0_spillsAt cX0_spillsAt 2 (some .int) :: kr_all)) := kr_gV kq_425 kq_270 kq_271 kq_25 kq_272
theorem kg_RX1_55 : GoodIn kr_all (wsV RX1 55 RX0 yX0_spillsInto (Cond.code yX0_spillsInto cX0_spillsInto 2 (some .int) :: kr_all)) := kr_gV kq_426 kq_274 kq_275 kq_25 kq_276
theorem kg_RX1_58 : GoodIn kr_all (wsV RX1 58 RX0 yX0_rankOf (Cond.code yX0_rankOf cX0_rankOf 2 (some .int) :: kr_all)) := kr_gV kq_427 kq_278 kq_279 kq_25 kq_280
theorem kg_RX1_61 : GoodIn kr_all (wsV RX1 61 RX1 yX1_rank (Cond.code yX1_rank cX1_rank 4 (some .int) :: kr_all)) := kr_gV kq_428 kq_429 kq_430 kq_26 kq_431
theorem kg_RX1_64 : GoodIn kr_all (wsV RX1 64 RX0 yX0_knotAt (Cond.code yX0_knotAt cX0_knotAt 4 (some .int) :: kr_all)) := kr_gV kq_437 kq_290 kq_291 kq_25 kq_292
set_option maxHeartbeats 4000000 in
set_option maxRecDepth 100000 in
theorem c_X1_isSame (l : Launch) (D : va_G) (cy cz : ClassId) (g : Nat) (ad : Nat → Nat → Nat) (N L : Nat) (A : Nat → Nat → Int32) (sz : Nat) (h : Nat) (a : Nat → Nat) (hw : kr_wf N L A) (hx0 : kr_wx N L A) (hN2 : 2 ≤ N) : Met l yX1_isSame (Cond.code yX1_isSame cX1_isSame 6 (some .boolean) :: kr_all) ({ frames := 4, cells := 1, slots := 2, locals := 92 }) (va_Pc [.ref g, .ref h] (kr_Sn D (kr_W0 cy h a N L A ++ kr_SW cy cz g ad N L A) cy cz sz)) (va_Qi (fun r (_ : Unit) => r = 1) (fun _ _ => True) (va_A [] sz)) 1 2 (va_A [] sz) := by
  refine kr_ofN (Qc := fun AA => va_Qi (fun r (_ : Unit) => r = 1) (fun _ _ => True) AA) (by decide) (Nat.le_of_ble_eq_true rfl) ?_
  intro p e s m below meth c ls AA hx hb hml hr hts hown hlocks hA hAA hP hK hD hZ hS hl
  have hown : s.vm.findClass RX1 = some m.cls := hown
  have hl : lv_has ls 6 [(0, .ref g), (1, .ref h)] := hl
  have hN := hw.1
  have hL := hw.2.1
  have hwe := kr_wx_we hx0
  have hK0 : va_K D vwCl [(cy, .int)] s := hK.sub [0] rfl
  refine lv_iconst (v := 2) hx hb dX1_isSame_0 (by decide) ?_
  refine kr_newF (BB := fun _ => True) hx hb hts hK hP hD (fun _ _ => trivial) hS 2 (by decide) (by decide) (by decide) (Nat.le_of_ble_eq_true rfl) (Nat.le_of_ble_eq_true rfl) dX1_isSame_1 (fun q9 H1 hq9 hJ hD hS => ?_)
  clear hP
  have e0 : (fun _ : Nat => (0 : Int32)) = (fun j => nI (kr_cn A (nI j) 0)) := rfl
  rw [e0] at hJ hD
  refine lv_astore_n (lv' := [(2, .ref q9), (0, .ref g), (1, .ref h)]) hx hb dX1_isSame_3 rfl hl (by decide) rfl (fun ls hl => ?_)
  refine lv_iconst (v := 0) hx hb dX1_isSame_4 (by decide) ?_
  refine lv_istore_n (lv' := [(3, .int 0), (2, .ref q9), (0, .ref g), (1, .ref h)]) hx hb dX1_isSame_5 rfl hl (by decide) rfl (fun ls hl => ?_)
  refine lv_iconst (v := 0) hx hb dX1_isSame_6 (by decide) ?_
  refine lv_istore (lv' := [(4, .int 0), (3, .int 0), (2, .ref q9), (0, .ref g), (1, .ref h)]) hx hb dX1_isSame_7 hl (by decide) rfl (fun ls hl => ?_)
  refine kr_lpH (nL := 6) (fun z : Nat => [(4, .int (nI z)), (3, .int (kr_sm A z)), (2, .ref q9), (0, .ref g), (1, .ref h)]) (fun z H locs => (z ≤ N) ∧ va_P D vwCl ((kr_W0 cy h a N L A ++ kr_SW cy cz g ad N L A) ++ [(q9, .inl (cy, 2, .inl (fun j => nI (kr_cn A (nI j) z))))]) H ∧ va_D (fun _ => True) ((kr_W0 cy h a N L A ++ kr_SW cy cz g ad N L A) ++ [(q9, .inl (cy, 2, .inl (fun j => nI (kr_cn A (nI j) z))))]) ∧ va_S AA s.heap H locs) (fun z => N - z) ?_ (0) ⟨by omega, hJ, hD, hS⟩ (lv_sub hl [0, 1, 2, 3, 4] rfl)
  clear hl hJ hS hD e0
  intro z H locs ls hI hl ih
  obtain ⟨i, rfl⟩ : ∃ y, y = z := ⟨_, rfl⟩
  have hl : lv_has ls 6 [(4, .int (nI i)), (3, .int (kr_sm A i)), (2, .ref q9), (0, .ref g), (1, .ref h)] := hl
  obtain ⟨hi1, hJ, hD, hS⟩ : (i ≤ N) ∧ va_P D vwCl ((kr_W0 cy h a N L A ++ kr_SW cy cz g ad N L A) ++ [(q9, .inl (cy, 2, .inl (fun j => nI (kr_cn A (nI j) i))))]) H ∧ va_D (fun _ => True) ((kr_W0 cy h a N L A ++ kr_SW cy cz g ad N L A) ++ [(q9, .inl (cy, 2, .inl (fun j => nI (kr_cn A (nI j) i))))]) ∧ va_S AA s.heap H locs := hI
  have hPc : va_P D vwCl (kr_W0 cy h a N L A) H := kr_Pl (kr_Pl hJ)
  have hP : va_P D vwCl (kr_SW cy cz g ad N L A) H := kr_Pr (kr_Pl hJ)
  have hPk : va_P D vwCl [(q9, .inl (cy, 2, .inl (fun j => nI (kr_cn A (nI j) i))))] H := kr_Pr hJ
  refine lv_iload hx hb dX1_isSame_9 (lv_at hl 0 rfl) ?_
  refine lv_aload_n hx hb dX1_isSame_11 rfl (lv_at hl 3 rfl) ?_
  refine va_get (ci := 1) (v := .ref (ad 0 0)) (C := RX1) (T := TX1) (N := 3) hx hb hts kr_wsX1 hown hK hP 0 rfl rfl 0 (by decide) (hts _ kq_511) (fun _ h9 => h9) rfl dX1_isSame_12 ?_
  refine kr_lnO hx hb hK hP 0 N rfl dX1_isSame_15 ?_
  refine lv_icmp_ge (tgt := 152) hx hb dX1_isSame_16 (by decide) (fun c16 => ?_) (fun c16 => ?_)
  · have hiN : i = N := by have := kr_ge (by omega) (by omega) c16; omega
    subst hiN
    clear ih
    refine lv_iconst (v := 0) hx hb dX1_isSame_152 (by decide) ?_
    refine lv_istore (lv' := [(4, .int 0), (3, .int (kr_sm A i)), (2, .ref q9), (0, .ref g), (1, .ref h)]) hx hb dX1_isSame_153 hl (by decide) rfl (fun ls hl => ?_)
    refine kr_lp (nL := 6) (fun z : Nat => [(4, .int (nI z)), (3, .int (kr_sm A i)), (2, .ref q9), (0, .ref g), (1, .ref h)]) (fun z => z ≤ L) (fun z => L - z) ?_ (0) (Nat.zero_le _) (lv_sub hl [0, 1, 2, 3, 4] rfl)
    clear hl
    intro z ls hI hl ih
    obtain ⟨q, rfl⟩ : ∃ y, y = z := ⟨_, rfl⟩
    have hl : lv_has ls 6 [(4, .int (nI q)), (3, .int (kr_sm A i)), (2, .ref q9), (0, .ref g), (1, .ref h)] := hl
    obtain hq0 : q ≤ L := hI
    refine lv_iload hx hb dX1_isSame_155 (lv_at hl 0 rfl) ?_
    refine lv_aload_n hx hb dX1_isSame_157 rfl (lv_at hl 3 rfl) ?_
    refine va_get (ci := 1) (v := .ref (ad 0 1)) (C := RX1) (T := TX1) (N := 3) hx hb hts kr_wsX1 hown hK hP 0 rfl rfl 1 (by decide) (hts _ kq_513) (fun _ h9 => h9) rfl dX1_isSame_158 ?_
    refine kr_lnO hx hb hK hP 1 L rfl dX1_isSame_161 ?_
    refine lv_icmp_ge (tgt := 279) hx hb dX1_isSame_162 (by decide) (fun c162 => ?_) (fun c162 => ?_)
    · refine lv_aload_n hx hb dX1_isSame_279 rfl (lv_at hl 4 rfl) ?_
      refine kr_vI (n := 0) (As := []) (rest := []) ⟨hx, hb, hml, hown, hts⟩ (c_X0_knots l D cy h a i L A) kg_RX1_82 ⟨rfl, rfl⟩ (by decide +kernel) ⟨Nat.le_of_ble_eq_true rfl, Nat.le_of_ble_eq_true rfl⟩ (kr_pv0 hPc hK0) rfl hl.1 rfl (Nat.le_of_ble_eq_true rfl) dX1_isSame_280 ⟨Nat.le_of_ble_eq_true rfl, Nat.le_of_ble_eq_true rfl⟩ (fun r9 e9 => ?_)
      subst e9
      refine lv_aload_n hx hb dX1_isSame_283 rfl (lv_at hl 3 rfl) ?_
      refine va_get (ci := 1) (v := .ref (ad 0 0)) (C := RX1) (T := TX1) (N := 3) hx hb hts kr_wsX1 hown hK hP 0 rfl rfl 0 (by decide) (hts _ kq_511) (fun _ h9 => h9) rfl dX1_isSame_284 ?_
      refine kr_lnO hx hb hK hP 0 i rfl dX1_isSame_287 ?_
      refine lv_icmp_ne (tgt := 358) hx hb dX1_isSame_288 (by decide) (fun c288 => absurd rfl c288) (fun c288 => ?_)
      refine lv_aload_n hx hb dX1_isSame_291 rfl (lv_at hl 4 rfl) ?_
      refine lv_iconst (v := 0) hx hb dX1_isSame_292 (by decide) ?_
      refine kr_vI (n := 1) (As := [.int 0]) (rest := []) ⟨hx, hb, hml, hown, hts⟩ (c_X0_knotsOf l D cy h a i L A 0 hN (Or.inl rfl)) kg_RX1_85 ⟨rfl, rfl⟩ (by decide +kernel) ⟨Nat.le_of_ble_eq_true rfl, Nat.le_of_ble_eq_true rfl⟩ (kr_pv0 hPc hK0) rfl hl.1 rfl (Nat.le_of_ble_eq_true rfl) dX1_isSame_293 ⟨Nat.le_of_ble_eq_true rfl, Nat.le_of_ble_eq_true rfl⟩ (fun r9 e9 => ?_)
      subst e9
      refine lv_aload_n hx hb dX1_isSame_296 rfl (lv_at hl 2 rfl) ?_
      refine lv_iconst (v := 0) hx hb dX1_isSame_297 (by decide) ?_
      refine kr_ald hx hb hK hPk 0 0 rfl rfl 0 (by decide) (by decide) dX1_isSame_298 ?_
      refine lv_icmp_ne (tgt := 358) hx hb dX1_isSame_299 (by decide) (fun c299 => absurd rfl c299) (fun c299 => ?_)
      refine lv_aload_n hx hb dX1_isSame_302 rfl (lv_at hl 4 rfl) ?_
      refine lv_iconst (v := 1) hx hb dX1_isSame_303 (by decide) ?_
      refine kr_vI (n := 1) (As := [.int 1]) (rest := []) ⟨hx, hb, hml, hown, hts⟩ (c_X0_knotsOf l D cy h a i L A 1 hN (Or.inr rfl)) kg_RX1_85 ⟨rfl, rfl⟩ (by decide +kernel) ⟨Nat.le_of_ble_eq_true rfl, Nat.le_of_ble_eq_true rfl⟩ (kr_pv0 hPc hK0) rfl hl.1 rfl (Nat.le_of_ble_eq_true rfl) dX1_isSame_304 ⟨Nat.le_of_ble_eq_true rfl, Nat.le_of_ble_eq_true rfl⟩ (fun r9 e9 => ?_)
      subst e9
      refine lv_aload_n hx hb dX1_isSame_307 rfl (lv_at hl 2 rfl) ?_
      refine lv_iconst (v := 1) hx hb dX1_isSame_308 (by decide) ?_
      refine kr_ald hx hb hK hPk 0 0 rfl rfl 1 (by decide) (by decide) dX1_isSame_309 ?_
      refine lv_icmp_ne (tgt := 358) hx hb dX1_isSame_310 (by decide) (fun c310 => absurd rfl c310) (fun c310 => ?_)
      refine lv_aload_n hx hb dX1_isSame_313 rfl (lv_at hl 4 rfl) ?_
      refine kr_vI (n := 0) (As := []) (rest := []) ⟨hx, hb, hml, hown, hts⟩ (c_X0_lines l D cy h a i L A) kg_RX1_88 ⟨rfl, rfl⟩ (by decide +kernel) ⟨Nat.le_of_ble_eq_true rfl, Nat.le_of_ble_eq_true rfl⟩ (kr_pv0 hPc hK0) rfl hl.1 rfl (Nat.le_of_ble_eq_true rfl) dX1_isSame_314 ⟨Nat.le_of_ble_eq_true rfl, Nat.le_of_ble_eq_true rfl⟩ (fun r9 e9 => ?_)
      subst e9
      refine lv_aload_n hx hb dX1_isSame_317 rfl (lv_at hl 3 rfl) ?_
      refine va_get (ci := 1) (v := .ref (ad 0 1)) (C := RX1) (T := TX1) (N := 3) hx hb hts kr_wsX1 hown hK hP 0 rfl rfl 1 (by decide) (hts _ kq_513) (fun _ h9 => h9) rfl dX1_isSame_318 ?_
      refine kr_lnO hx hb hK hP 1 L rfl dX1_isSame_321 ?_
      refine lv_icmp_ne (tgt := 358) hx hb dX1_isSame_322 (by decide) (fun c322 => absurd rfl c322) (fun c322 => ?_)
      refine lv_aload_n hx hb dX1_isSame_325 rfl (lv_at hl 4 rfl) ?_
      refine kr_vD (n := 0) (As := []) (rest := []) ⟨hx, hb, hml, hown, hts⟩ (c_X0_meanEfficiency l D cy h a i L A hN hwe) kg_RX1_91 ⟨rfl, rfl⟩ (by decide +kernel) ⟨Nat.le_of_ble_eq_true rfl, Nat.le_of_ble_eq_true rfl⟩ (kr_pv0 hPc hK0) rfl hl.1 rfl (Nat.le_of_ble_eq_true rfl) dX1_isSame_326 ⟨Nat.le_of_ble_eq_true rfl, Nat.le_of_ble_eq_true rfl⟩ (fun r9 e9 => ?_)
      subst e9
      refine lv_aload_n hx hb dX1_isSame_329 rfl (lv_at hl 3 rfl) ?_
      refine va_get (ci := 1) (v := .ref (ad 0 0)) (C := RX1) (T := TX1) (N := 3) hx hb hts kr_wsX1 hown hK hP 0 rfl rfl 0 (by decide) (hts _ kq_511) (fun _ h9 => h9) rfl dX1_isSame_330 ?_
      refine kr_lnO hx hb hK hP 0 i rfl dX1_isSame_333 ?_
      refine lv_if_ne (tgt := 341) hx hb dX1_isSame_334 (by decide) (fun c334 => ?_) (fun c334 => absurd ((nI_eq (a := i) (b := 0) (by omega) (by decide)).mp c334) (by omega))
      have hm2 : FP.ddiv (FP.i2d (kr_sm A i)) (FP.i2d (nI i)) = kr_m2 i A := by unfold kr_m2; rw [if_neg (show ¬ i = 0 by omega)]
      refine lv_iload_n hx hb dX1_isSame_341 rfl (lv_at hl 1 rfl) ?_
      refine lv_i2d hx hb dX1_isSame_342 ?_
      refine lv_aload_n hx hb dX1_isSame_343 rfl (lv_at hl 3 rfl) ?_
      refine va_get (ci := 1) (v := .ref (ad 0 0)) (C := RX1) (T := TX1) (N := 3) hx hb hts kr_wsX1 hown hK hP 0 rfl rfl 0 (by decide) (hts _ kq_511) (fun _ h9 => h9) rfl dX1_isSame_344 ?_
      refine kr_lnO hx hb hK hP 0 i rfl dX1_isSame_347 ?_
      refine lv_i2d hx hb dX1_isSame_348 ?_
      refine lv_ddiv hx hb dX1_isSame_349 (by rw [hm2]; exact kr_m2_vf hN hwe) ?_
      rw [hm2]
      refine lv_dcmp hx hb dX1_isSame_350 ?_
      rw [kr_m2_cmp hN hwe]
      refine lv_if_ne (tgt := 358) hx hb dX1_isSame_351 (by decide) (fun c351 => absurd rfl c351) (fun c351 => ?_)
      refine lv_iconst (v := 1) hx hb dX1_isSame_354 (by decide) ?_
      refine lv_goto (tgt := 359) hx hb dX1_isSame_355 (by decide) ?_
      exact kr_nZ hx hb hr hlocks hS (Or.inr rfl) rfl dX1_isSame_359
    · have hq : q < L := kr_lt (by omega) (by omega) c162
      obtain ⟨hrc, er⟩ := hw.rc hq
      refine lv_aload_n hx hb dX1_isSame_165 rfl (lv_at hl 4 rfl) ?_
      refine lv_iload hx hb dX1_isSame_166 (lv_at hl 0 rfl) ?_
      refine kr_vI (n := 1) (As := [.int (nI q)]) (rest := []) ⟨hx, hb, hml, hown, hts⟩ (c_X0_ropesOf l D cy h a i L A q hw (by omega)) kg_RX1_67 ⟨rfl, rfl⟩ (by decide +kernel) ⟨Nat.le_of_ble_eq_true rfl, Nat.le_of_ble_eq_true rfl⟩ (kr_pv0 hPc hK0) rfl hl.1 rfl (Nat.le_of_ble_eq_true rfl) dX1_isSame_168 ⟨Nat.le_of_ble_eq_true rfl, Nat.le_of_ble_eq_true rfl⟩ (fun r9 e9 => ?_)
      subst e9
      rw [er]
      refine lv_aload_n hx hb dX1_isSame_171 rfl (lv_at hl 3 rfl) ?_
      refine va_get (ci := 1) (v := .ref (ad 0 1)) (C := RX1) (T := TX1) (N := 3) hx hb hts kr_wsX1 hown hK hP 0 rfl rfl 1 (by decide) (hts _ kq_513) (fun _ h9 => h9) rfl dX1_isSame_172 ?_
      refine lv_iload hx hb dX1_isSame_175 (lv_at hl 0 rfl) ?_
      refine kr_rdO hx hb hK hP 1 L rfl q (by omega) (by omega) dX1_isSame_177 ?_
      refine kr_lnR hx hb hK hP (by omega) dX1_isSame_178 ?_
      refine lv_icmp_ne (tgt := 197) hx hb dX1_isSame_179 (by decide) (fun c179 => absurd rfl c179) (fun c179 => ?_)
      refine lv_aload_n hx hb dX1_isSame_182 rfl (lv_at hl 4 rfl) ?_
      refine lv_iload hx hb dX1_isSame_183 (lv_at hl 0 rfl) ?_
      refine kr_vI (n := 1) (As := [.int (nI q)]) (rest := []) ⟨hx, hb, hml, hown, hts⟩ (c_X0_weakestPlace l D cy h a i L A q hw (by omega)) kg_RX1_70 ⟨rfl, rfl⟩ (by decide +kernel) ⟨Nat.le_of_ble_eq_true rfl, Nat.le_of_ble_eq_true rfl⟩ (kr_pv0 hPc hK0) rfl hl.1 rfl (Nat.le_of_ble_eq_true rfl) dX1_isSame_185 ⟨Nat.le_of_ble_eq_true rfl, Nat.le_of_ble_eq_true rfl⟩ (fun r9 e9 => ?_)
      subst e9
      refine lv_aload_n hx hb dX1_isSame_188 rfl (lv_at hl 3 rfl) ?_
      refine lv_iload hx hb dX1_isSame_189 (lv_at hl 0 rfl) ?_
      refine kr_vI (n := 1) (As := [.int (nI q)]) (rest := [.int (kr_wk A q (kr_rc A q) 0 (-1))]) ⟨hx, hb, hml, hown, hts⟩ (c_X1_weakest l D cy cz g ad i L A q hw (by omega)) kg_RX1_73 ⟨rfl, rfl⟩ (by decide +kernel) ⟨Nat.le_of_ble_eq_true rfl, Nat.le_of_ble_eq_true rfl⟩ (kr_pvs hP hK) rfl hl.1 rfl (Nat.le_of_ble_eq_true rfl) dX1_isSame_191 ⟨Nat.le_of_ble_eq_true rfl, Nat.le_of_ble_eq_true rfl⟩ (fun r9 e9 => ?_)
      subst e9
      refine lv_icmp_eq (tgt := 199) hx hb dX1_isSame_194 (by decide) (fun c194 => ?_) (fun c194 => absurd rfl c194)
      refine lv_iconst (v := 0) hx hb dX1_isSame_199 (by decide) ?_
      refine lv_istore (lv' := [(5, .int 0), (4, .int (nI q)), (3, .int (kr_sm A i)), (2, .ref q9), (0, .ref g), (1, .ref h)]) hx hb dX1_isSame_200 hl (by decide) rfl (fun ls hl => ?_)
      have ihQ := ih
      refine kr_lp (nL := 6) (fun z : Nat => [(5, .int (nI z)), (4, .int (nI q)), (3, .int (kr_sm A i)), (2, .ref q9), (0, .ref g), (1, .ref h)]) (fun z => z ≤ kr_rc A q) (fun z => kr_rc A q - z) ?_ (0) (Nat.zero_le _) (lv_sub hl [0, 1, 2, 3, 4, 5] rfl)
      clear hl
      intro z ls hI hl ih
      obtain ⟨j, rfl⟩ : ∃ y, y = z := ⟨_, rfl⟩
      have hl : lv_has ls 6 [(5, .int (nI j)), (4, .int (nI q)), (3, .int (kr_sm A i)), (2, .ref q9), (0, .ref g), (1, .ref h)] := hl
      obtain hj0 : j ≤ kr_rc A q := hI
      refine lv_iload hx hb dX1_isSame_202 (lv_at hl 0 rfl) ?_
      refine lv_aload_n hx hb dX1_isSame_204 rfl (lv_at hl 4 rfl) ?_
      refine va_get (ci := 1) (v := .ref (ad 0 1)) (C := RX1) (T := TX1) (N := 3) hx hb hts kr_wsX1 hown hK hP 0 rfl rfl 1 (by decide) (hts _ kq_513) (fun _ h9 => h9) rfl dX1_isSame_205 ?_
      refine lv_iload hx hb dX1_isSame_208 (lv_at hl 1 rfl) ?_
      refine kr_rdO hx hb hK hP 1 L rfl q (by omega) (by omega) dX1_isSame_210 ?_
      refine kr_lnR hx hb hK hP (by omega) dX1_isSame_211 ?_
      refine lv_icmp_ge (tgt := 273) hx hb dX1_isSame_212 (by decide) (fun c212 => ?_) (fun c212 => ?_)
      · refine lv_iinc (v := nI (q + 1)) (lv' := [(4, .int (nI (q + 1))), (5, .int (nI j)), (3, .int (kr_sm A i)), (2, .ref q9), (0, .ref g), (1, .ref h)]) hx hb dX1_isSame_273 hl (k := 1) rfl (kr_inc _) (by decide) rfl (fun ls hl => ?_)
        refine lv_goto (tgt := 155) hx hb dX1_isSame_276 (by decide) ?_
        exact ihQ (q + 1) ls (show q + 1 ≤ L by omega) (by show L - (q + 1) < L - q; omega) (lv_sub hl [0, 2, 3, 4, 5] rfl)
      · have hj : j < kr_rc A q := kr_lt (by omega) (by omega) c212
        obtain ⟨k, hk, ek⟩ := hw.tk hq hj
        refine lv_aload_n hx hb dX1_isSame_215 rfl (lv_at hl 5 rfl) ?_
        refine lv_iload hx hb dX1_isSame_216 (lv_at hl 1 rfl) ?_
        refine lv_iload hx hb dX1_isSame_218 (lv_at hl 0 rfl) ?_
        refine kr_vI (n := 2) (As := [.int (nI q), .int (nI j)]) (rest := []) ⟨hx, hb, hml, hown, hts⟩ (c_X0_knotOf l D cy h a i L A q j hw (by omega) (by omega)) kg_RX1_76 ⟨rfl, rfl⟩ (by decide +kernel) ⟨Nat.le_of_ble_eq_true rfl, Nat.le_of_ble_eq_true rfl⟩ (kr_pv0 hPc hK0) rfl hl.1 rfl (Nat.le_of_ble_eq_true rfl) dX1_isSame_220 ⟨Nat.le_of_ble_eq_true rfl, Nat.le_of_ble_eq_true rfl⟩ (fun r9 e9 => ?_)
        subst e9
        refine lv_aload_n hx hb dX1_isSame_223 rfl (lv_at hl 4 rfl) ?_
        refine va_get (ci := 1) (v := .ref (ad 0 2)) (C := RX1) (T := TX1) (N := 3) hx hb hts kr_wsX1 hown hK hP 0 rfl rfl 2 (by decide) (hts _ kq_515) (fun _ h9 => h9) rfl dX1_isSame_224 ?_
        refine lv_iload hx hb dX1_isSame_227 (lv_at hl 1 rfl) ?_
        refine kr_rdO hx hb hK hP 2 L rfl q (by omega) (by omega) dX1_isSame_229 ?_
        refine lv_iload hx hb dX1_isSame_230 (lv_at hl 0 rfl) ?_
        refine kr_rdT hx hb hK hP (q := q) (by omega) j (by omega) (by omega) dX1_isSame_232 ?_
        refine lv_icmp_ne (tgt := 265) hx hb dX1_isSame_233 (by decide) (fun c233 => absurd rfl c233) (fun c233 => ?_)
        refine lv_aload_n hx hb dX1_isSame_236 rfl (lv_at hl 5 rfl) ?_
        refine lv_iload hx hb dX1_isSame_237 (lv_at hl 1 rfl) ?_
        refine lv_iload hx hb dX1_isSame_239 (lv_at hl 0 rfl) ?_
        refine kr_vI (n := 2) (As := [.int (nI q), .int (nI j)]) (rest := []) ⟨hx, hb, hml, hown, hts⟩ (c_X0_strengthAt l D cy h a i L A q j hw (by omega) (by omega)) kg_RX1_79 ⟨rfl, rfl⟩ (by decide +kernel) ⟨Nat.le_of_ble_eq_true rfl, Nat.le_of_ble_eq_true rfl⟩ (kr_pv0 hPc hK0) rfl hl.1 rfl (Nat.le_of_ble_eq_true rfl) dX1_isSame_241 ⟨Nat.le_of_ble_eq_true rfl, Nat.le_of_ble_eq_true rfl⟩ (fun r9 e9 => ?_)
        subst e9
        refine lv_aload_n hx hb dX1_isSame_244 rfl (lv_at hl 4 rfl) ?_
        refine lv_iload hx hb dX1_isSame_245 (lv_at hl 1 rfl) ?_
        refine lv_iload hx hb dX1_isSame_247 (lv_at hl 0 rfl) ?_
        refine lv_aload_n hx hb dX1_isSame_249 rfl (lv_at hl 4 rfl) ?_
        refine va_get (ci := 1) (v := .ref (ad 0 2)) (C := RX1) (T := TX1) (N := 3) hx hb hts kr_wsX1 hown hK hP 0 rfl rfl 2 (by decide) (hts _ kq_515) (fun _ h9 => h9) rfl dX1_isSame_250 ?_
        refine lv_iload hx hb dX1_isSame_253 (lv_at hl 1 rfl) ?_
        refine kr_rdO hx hb hK hP 2 L rfl q (by omega) (by omega) dX1_isSame_255 ?_
        refine lv_iload hx hb dX1_isSame_256 (lv_at hl 0 rfl) ?_
        refine kr_rdT hx hb hK hP (q := q) (by omega) j (by omega) (by omega) dX1_isSame_258 ?_
        rw [ek]
        have enw : kr_nw A q j = kr_st A q j (nI k) := by unfold kr_nw; rw [ek]
        refine kr_vI (n := 3) (As := [.int (nI q), .int (nI j), .int (nI k)]) (rest := [.int (kr_nw A q j)]) ⟨hx, hb, hml, hown, hts⟩ (c_X1_strength l D cy cz g ad i L A q j k hw (by omega) (by omega) (by omega)) kg_RX1_29 ⟨rfl, rfl⟩ (by decide +kernel) ⟨Nat.le_of_ble_eq_true rfl, Nat.le_of_ble_eq_true rfl⟩ (kr_pvs hP hK) rfl hl.1 rfl (Nat.le_of_ble_eq_true rfl) dX1_isSame_259 ⟨Nat.le_of_ble_eq_true rfl, Nat.le_of_ble_eq_true rfl⟩ (fun r9 e9 => ?_)
        subst e9
        refine lv_icmp_eq (tgt := 267) hx hb dX1_isSame_262 (by decide) (fun c262 => ?_) (fun c262 => absurd enw c262)
        refine lv_iinc (v := nI (j + 1)) (lv' := [(5, .int (nI (j + 1))), (4, .int (nI q)), (3, .int (kr_sm A i)), (2, .ref q9), (0, .ref g), (1, .ref h)]) hx hb dX1_isSame_267 hl (k := 0) rfl (kr_inc _) (by decide) rfl (fun ls hl => ?_)
        refine lv_goto (tgt := 202) hx hb dX1_isSame_270 (by decide) ?_
        exact ih (j + 1) ls (show j + 1 ≤ kr_rc A q by omega) (by show kr_rc A q - (j + 1) < kr_rc A q - j; omega) (lv_sub hl [0, 1, 2, 3, 4, 5] rfl)
  · have hi : i < N := kr_lt (by omega) (by omega) c16
    obtain ⟨kd, hkd, ekd⟩ : ∃ kd, kd < 2 ∧ A 0 i = nI kd := by
      rcases (hw.2.2.1 i hi).1 with e | e
      · exact ⟨0, by decide, e⟩
      · exact ⟨1, by decide, e⟩
    refine lv_aload_n hx hb dX1_isSame_19 rfl (lv_at hl 3 rfl) ?_
    refine va_get (ci := 1) (v := .ref (ad 0 0)) (C := RX1) (T := TX1) (N := 3) hx hb hts kr_wsX1 hown hK hP 0 rfl rfl 0 (by decide) (hts _ kq_511) (fun _ h9 => h9) rfl dX1_isSame_20 ?_
    refine lv_iload hx hb dX1_isSame_23 (lv_at hl 0 rfl) ?_
    refine kr_rdO hx hb hK hP 0 N rfl i (by omega) (by omega) dX1_isSame_25 ?_
    refine lv_astore (lv' := [(5, .ref (ad 1 i)), (4, .int (nI i)), (3, .int (kr_sm A i)), (2, .ref q9), (0, .ref g), (1, .ref h)]) hx hb dX1_isSame_26 hl (by decide) rfl (fun ls hl => ?_)
    refine lv_aload_n hx hb dX1_isSame_28 rfl (lv_at hl 3 rfl) ?_
    refine lv_aload hx hb dX1_isSame_29 (lv_at hl 0 rfl) ?_
    refine lv_iconst (v := 0) hx hb dX1_isSame_31 (by decide) ?_
    refine kr_rdK hx hb hK hP (k := i) (by omega) 0 (by decide) dX1_isSame_32 ?_
    rw [ekd]
    refine lv_dup2_11 hx hb dX1_isSame_33 rfl rfl ?_
    refine kr_ald hx hb hK hPk 0 0 rfl rfl kd hkd (by decide) dX1_isSame_34 ?_
    refine lv_iconst (v := 1) hx hb dX1_isSame_35 (by decide) ?_
    refine kr_iaddN hx hb (kr_cn A (nI kd) i) 1 dX1_isSame_36 ?_
    refine kr_astF (tys := [(cz, .array .int)]) hx hb hK hJ hD hS (hA q9 hq9) ((kr_W0 cy h a N L A ++ kr_SW cy cz g ad N L A).length + 0) (kr_gr rfl) kd hkd (by decide) dX1_isSame_37 (fun H locs hJ hD hS => ?_)
    rw [kr_lset1] at hJ hD
    have hJ := kr_Psw hJ (fun h9 => kr_cgI h9 (f' := (fun j => nI (kr_cn A (nI j) (i + 1)))) (fun j hj => by
      by_cases e : j = kd
      · rw [e, pk_us, kr_cn_s, if_pos ekd]
      · rw [pk_un e, kr_cn_s, if_neg (fun w => e ((nI_eq (by omega) (by omega)).mp (w.symm.trans ekd)))]; rfl))
    have hD := kr_Dsw (e' := .inl (cy, 2, .inl (fun j => nI (kr_cn A (nI j) (i + 1))))) hD
    have hPc : va_P D vwCl (kr_W0 cy h a N L A) H := kr_Pl (kr_Pl hJ)
    have hP : va_P D vwCl (kr_SW cy cz g ad N L A) H := kr_Pr (kr_Pl hJ)
    refine lv_iload_n hx hb dX1_isSame_38 rfl (lv_at hl 2 rfl) ?_
    refine lv_aload hx hb dX1_isSame_39 (lv_at hl 0 rfl) ?_
    refine lv_iconst (v := 1) hx hb dX1_isSame_41 (by decide) ?_
    refine kr_rdK hx hb hK hP (k := i) (by omega) 1 (by decide) dX1_isSame_42 ?_
    refine lv_iadd hx hb dX1_isSame_43 ?_
    refine lv_istore_n (lv' := [(3, .int ((kr_sm A i) + (A 1 i))), (5, .ref (ad 1 i)), (4, .int (nI i)), (2, .ref q9), (0, .ref g), (1, .ref h)]) hx hb dX1_isSame_44 rfl hl (by decide) rfl (fun ls hl => ?_)
    refine lv_aload_n hx hb dX1_isSame_45 rfl (lv_at hl 5 rfl) ?_
    refine lv_iload hx hb dX1_isSame_46 (lv_at hl 2 rfl) ?_
    refine kr_vI (n := 1) (As := [.int (nI i)]) (rest := []) ⟨hx, hb, hml, hown, hts⟩ (c_X0_kindOf l D cy h a N L A i hN (by omega)) kg_RX1_41 ⟨rfl, rfl⟩ (by decide +kernel) ⟨Nat.le_of_ble_eq_true rfl, Nat.le_of_ble_eq_true rfl⟩ (kr_pv0 hPc hK0) rfl hl.1 rfl (Nat.le_of_ble_eq_true rfl) dX1_isSame_48 ⟨Nat.le_of_ble_eq_true rfl, Nat.le_of_ble_eq_true rfl⟩ (fun r9 e9 => ?_)
    subst e9
    refine lv_aload hx hb dX1_isSame_51 (lv_at hl 1 rfl) ?_
    refine lv_iconst (v := 0) hx hb dX1_isSame_53 (by decide) ?_
    refine kr_rdK hx hb hK hP (k := i) (by omega) 0 (by decide) dX1_isSame_54 ?_
    refine lv_icmp_ne (tgt := 144) hx hb dX1_isSame_55 (by decide) (fun c55 => absurd rfl c55) (fun c55 => ?_)
    refine lv_aload_n hx hb dX1_isSame_58 rfl (lv_at hl 5 rfl) ?_
    refine lv_iload hx hb dX1_isSame_59 (lv_at hl 2 rfl) ?_
    refine kr_vI (n := 1) (As := [.int (nI i)]) (rest := []) ⟨hx, hb, hml, hown, hts⟩ (c_X0_efficiencyOf l D cy h a N L A i hN (by omega)) kg_RX1_46 ⟨rfl, rfl⟩ (by decide +kernel) ⟨Nat.le_of_ble_eq_true rfl, Nat.le_of_ble_eq_true rfl⟩ (kr_pv0 hPc hK0) rfl hl.1 rfl (Nat.le_of_ble_eq_true rfl) dX1_isSame_61 ⟨Nat.le_of_ble_eq_true rfl, Nat.le_of_ble_eq_true rfl⟩ (fun r9 e9 => ?_)
    subst e9
    refine lv_aload hx hb dX1_isSame_64 (lv_at hl 1 rfl) ?_
    refine lv_iconst (v := 1) hx hb dX1_isSame_66 (by decide) ?_
    refine kr_rdK hx hb hK hP (k := i) (by omega) 1 (by decide) dX1_isSame_67 ?_
    refine lv_icmp_ne (tgt := 144) hx hb dX1_isSame_68 (by decide) (fun c68 => absurd rfl c68) (fun c68 => ?_)
    refine lv_aload_n hx hb dX1_isSame_71 rfl (lv_at hl 5 rfl) ?_
    refine lv_iload hx hb dX1_isSame_72 (lv_at hl 2 rfl) ?_
    refine kr_vI (n := 1) (As := [.int (nI i)]) (rest := []) ⟨hx, hb, hml, hown, hts⟩ (c_X0_crossingsOf l D cy h a N L A i hN (by omega)) kg_RX1_49 ⟨rfl, rfl⟩ (by decide +kernel) ⟨Nat.le_of_ble_eq_true rfl, Nat.le_of_ble_eq_true rfl⟩ (kr_pv0 hPc hK0) rfl hl.1 rfl (Nat.le_of_ble_eq_true rfl) dX1_isSame_74 ⟨Nat.le_of_ble_eq_true rfl, Nat.le_of_ble_eq_true rfl⟩ (fun r9 e9 => ?_)
    subst e9
    refine lv_aload hx hb dX1_isSame_77 (lv_at hl 1 rfl) ?_
    refine lv_iconst (v := 2) hx hb dX1_isSame_79 (by decide) ?_
    refine kr_rdK hx hb hK hP (k := i) (by omega) 2 (by decide) dX1_isSame_80 ?_
    refine lv_icmp_ne (tgt := 144) hx hb dX1_isSame_81 (by decide) (fun c81 => absurd rfl c81) (fun c81 => ?_)
    refine lv_aload_n hx hb dX1_isSame_84 rfl (lv_at hl 5 rfl) ?_
    refine lv_iload hx hb dX1_isSame_85 (lv_at hl 2 rfl) ?_
    refine kr_vI (n := 1) (As := [.int (nI i)]) (rest := []) ⟨hx, hb, hml, hown, hts⟩ (c_X0_spillsAt l D cy h a N L A i hN (by omega)) kg_RX1_52 ⟨rfl, rfl⟩ (by decide +kernel) ⟨Nat.le_of_ble_eq_true rfl, Nat.le_of_ble_eq_true rfl⟩ (kr_pv0 hPc hK0) rfl hl.1 rfl (Nat.le_of_ble_eq_true rfl) dX1_isSame_87 ⟨Nat.le_of_ble_eq_true rfl, Nat.le_of_ble_eq_true rfl⟩ (fun r9 e9 => ?_)
    subst e9
    refine lv_aload hx hb dX1_isSame_90 (lv_at hl 1 rfl) ?_
    refine lv_iconst (v := 3) hx hb dX1_isSame_92 (by decide) ?_
    refine kr_rdK hx hb hK hP (k := i) (by omega) 3 (by decide) dX1_isSame_93 ?_
    refine lv_icmp_ne (tgt := 144) hx hb dX1_isSame_94 (by decide) (fun c94 => absurd rfl c94) (fun c94 => ?_)
    refine lv_aload_n hx hb dX1_isSame_97 rfl (lv_at hl 5 rfl) ?_
    refine lv_iload hx hb dX1_isSame_98 (lv_at hl 2 rfl) ?_
    refine kr_vI (n := 1) (As := [.int (nI i)]) (rest := []) ⟨hx, hb, hml, hown, hts⟩ (c_X0_spillsInto l D cy h a N L A i hN (by omega)) kg_RX1_55 ⟨rfl, rfl⟩ (by decide +kernel) ⟨Nat.le_of_ble_eq_true rfl, Nat.le_of_ble_eq_true rfl⟩ (kr_pv0 hPc hK0) rfl hl.1 rfl (Nat.le_of_ble_eq_true rfl) dX1_isSame_100 ⟨Nat.le_of_ble_eq_true rfl, Nat.le_of_ble_eq_true rfl⟩ (fun r9 e9 => ?_)
    subst e9
    refine lv_aload hx hb dX1_isSame_103 (lv_at hl 1 rfl) ?_
    refine lv_iconst (v := 4) hx hb dX1_isSame_105 (by decide) ?_
    refine kr_rdK hx hb hK hP (k := i) (by omega) 4 (by decide) dX1_isSame_106 ?_
    refine lv_icmp_ne (tgt := 144) hx hb dX1_isSame_107 (by decide) (fun c107 => absurd rfl c107) (fun c107 => ?_)
    refine lv_aload_n hx hb dX1_isSame_110 rfl (lv_at hl 5 rfl) ?_
    refine lv_iload hx hb dX1_isSame_111 (lv_at hl 2 rfl) ?_
    refine kr_vI (n := 1) (As := [.int (nI i)]) (rest := []) ⟨hx, hb, hml, hown, hts⟩ (c_X0_rankOf l D cy h a N L A i hN (by omega)) kg_RX1_58 ⟨rfl, rfl⟩ (by decide +kernel) ⟨Nat.le_of_ble_eq_true rfl, Nat.le_of_ble_eq_true rfl⟩ (kr_pv0 hPc hK0) rfl hl.1 rfl (Nat.le_of_ble_eq_true rfl) dX1_isSame_113 ⟨Nat.le_of_ble_eq_true rfl, Nat.le_of_ble_eq_true rfl⟩ (fun r9 e9 => ?_)
    subst e9
    refine lv_aload_n hx hb dX1_isSame_116 rfl (lv_at hl 4 rfl) ?_
    refine lv_iload hx hb dX1_isSame_117 (lv_at hl 2 rfl) ?_
    refine kr_vI (n := 1) (As := [.int (nI i)]) (rest := [.int (nI (kr_rk A i N))]) ⟨hx, hb, hml, hown, hts⟩ (c_X1_rank l D cy cz g ad N L A i hw hx0 (by omega)) kg_RX1_61 ⟨rfl, rfl⟩ (by decide +kernel) ⟨Nat.le_of_ble_eq_true rfl, Nat.le_of_ble_eq_true rfl⟩ (kr_pvs hP hK) rfl hl.1 rfl (Nat.le_of_ble_eq_true rfl) dX1_isSame_119 ⟨Nat.le_of_ble_eq_true rfl, Nat.le_of_ble_eq_true rfl⟩ (fun r9 e9 => ?_)
    subst e9
    refine lv_icmp_ne (tgt := 144) hx hb dX1_isSame_122 (by decide) (fun c122 => absurd rfl c122) (fun c122 => ?_)
    refine lv_aload_n hx hb dX1_isSame_125 rfl (lv_at hl 5 rfl) ?_
    refine lv_aload hx hb dX1_isSame_126 (lv_at hl 1 rfl) ?_
    refine lv_iconst (v := 0) hx hb dX1_isSame_128 (by decide) ?_
    refine kr_rdK hx hb hK hP (k := i) (by omega) 0 (by decide) dX1_isSame_129 ?_
    refine lv_aload_n hx hb dX1_isSame_130 rfl (lv_at hl 4 rfl) ?_
    refine lv_iload hx hb dX1_isSame_131 (lv_at hl 2 rfl) ?_
    refine kr_vI (n := 1) (As := [.int (nI i)]) (rest := [.int (A 0 i), .ref h]) ⟨hx, hb, hml, hown, hts⟩ (c_X1_rank l D cy cz g ad N L A i hw hx0 (by omega)) kg_RX1_61 ⟨rfl, rfl⟩ (by decide +kernel) ⟨Nat.le_of_ble_eq_true rfl, Nat.le_of_ble_eq_true rfl⟩ (kr_pvs hP hK) rfl hl.1 rfl (Nat.le_of_ble_eq_true rfl) dX1_isSame_133 ⟨Nat.le_of_ble_eq_true rfl, Nat.le_of_ble_eq_true rfl⟩ (fun r9 e9 => ?_)
    subst e9
    refine kr_vI (n := 2) (As := [.int (A 0 i), .int (nI (kr_rk A i N))]) (rest := []) ⟨hx, hb, hml, hown, hts⟩ (c_X0_knotAt l D cy h a N L A (A 0 i) (nI (kr_rk A i N)) hN ((hw.2.2.1 i hi).1) (by rw [kr_kw_at hN hi rfl]; exact kr_kn_ne (by omega))) kg_RX1_64 ⟨rfl, rfl⟩ (by decide +kernel) ⟨Nat.le_of_ble_eq_true rfl, Nat.le_of_ble_eq_true rfl⟩ (kr_pv0 hPc hK0) rfl hl.1 rfl (Nat.le_of_ble_eq_true rfl) dX1_isSame_136 ⟨Nat.le_of_ble_eq_true rfl, Nat.le_of_ble_eq_true rfl⟩ (fun r9 e9 => ?_)
    subst e9
    rw [kr_kw_at hN hi rfl]
    refine lv_iload hx hb dX1_isSame_139 (lv_at hl 2 rfl) ?_
    refine lv_icmp_eq (tgt := 146) hx hb dX1_isSame_141 (by decide) (fun c141 => ?_) (fun c141 => absurd rfl c141)
    refine lv_iinc (v := nI (i + 1)) (lv' := [(4, .int (nI (i + 1))), (3, .int ((kr_sm A i) + (A 1 i))), (5, .ref (ad 1 i)), (2, .ref q9), (0, .ref g), (1, .ref h)]) hx hb dX1_isSame_146 hl (k := 2) rfl (kr_inc _) (by decide) rfl (fun ls hl => ?_)
    refine lv_goto (tgt := 9) hx hb dX1_isSame_149 (by decide) ?_
    exact ih (i + 1) _ _ ls ⟨show i + 1 ≤ N by omega, hJ, hD, hS⟩ (by show N - (i + 1) < N - i; omega) (lv_sub hl [0, 1, 3, 4, 5] rfl)
