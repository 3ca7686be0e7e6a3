section KRLE
variable {N L : Nat} {A : Nat → Nat → Int32} {x y : Int32}
theorem kr_exN (hw : kr_wf N L A) (h : kr_i N x) : kr_ix x < N ∧ x = nI (kr_ix x) := by
  have hN := hw.1
  obtain ⟨k, hk, rfl⟩ := kr_inN hN h
  rw [kr_ix_nI (by omega)]; exact ⟨hk, rfl⟩
theorem kr_exL (hw : kr_wf N L A) (h : kr_i L x) : kr_ix x < L ∧ x = nI (kr_ix x) := by
  have hL := hw.2.1
  obtain ⟨k, hk, rfl⟩ := kr_inL hL h
  rw [kr_ix_nI (by omega)]; exact ⟨hk, rfl⟩
theorem kr_exP (hw : kr_wf N L A) (h : kr_q L A x y) : kr_ix x < L ∧ kr_ix y < kr_rc A (kr_ix x) ∧ x = nI (kr_ix x) ∧ y = nI (kr_ix y) := by
  have hL := hw.2.1
  obtain ⟨q, pl, hq, hp, rfl, rfl⟩ := kr_inP hw h
  obtain ⟨hrc, er⟩ := hw.rc hq
  rw [kr_ix_nI (by omega), kr_ix_nI (by omega)]; exact ⟨hq, hp, rfl, rfl⟩
end KRLE
theorem kg_RL_39 : GoodIn kr_all (wsV RL 39 RX0 yX0_kindOf (Cond.code yX0_kindOf cX0_kindOf 2 (some .int) :: kr_all)) := kr_gV kq_444 kq_233 kq_234 kq_48 kq_235
set_option maxHeartbeats 4000000 in
set_option maxRecDepth 100000 in
theorem h_L_kindOf (l : Launch) (hl0 : l.stackTraces = false) (D : va_G) (cy cl : ClassId) (h : Nat) (a : Nat → Nat) (o N L : Nat) (A : Nat → Nat → Int32) (O : Nat → Int64) (sz : Nat) (x : Int32) (hw : kr_wf N L A) : Met l yL_kindOf (Cond.codeWith yL_kindOf cL_kindOf 4 (some .int) [(0, 9, 12, 13)] :: kr_all) ({ frames := 8, cells := 1, slots := 6, locals := 132 }) (va_Pc [.ref h, .int x, .ref o] (kr_Lw D (kr_WL cy cl h a o N L A O) cy cl sz)) (va_Qi (fun r (O' : Nat → Int64) => r = kr_cd (kr_i N x) True True ∧ (kr_cd (kr_i N x) True True = 0 → O' 0 = Int32.toInt64 (A 0 (kr_ix x)))) (fun O' t => kr_Lq D (kr_WL cy cl h a o N L A O') cy cl (va_A (kr_WL cy cl h a o N L A O) sz) t) (va_A (kr_WL cy cl h a o N L A O) sz)) 1 6 (va_A (kr_WL cy cl h a o N L A O) sz) := by
  refine kr_ofL (Qc := fun AA => va_Qi (fun r (O' : Nat → Int64) => r = kr_cd (kr_i N x) True True ∧ (kr_cd (kr_i N x) True True = 0 → O' 0 = Int32.toInt64 (A 0 (kr_ix x)))) (fun O' t => kr_Lq D (kr_WL cy cl h a o N L A O') cy cl AA t) AA) (by decide) (Nat.le_of_ble_eq_true rfl) ?_
  intro p e s m below meth c ls AA hx hb hml hr hts hown hlocks htab hA hP hK hD hS hT hl
  have hown : s.vm.findClass RL = some m.cls := hown
  have hl : lv_has ls 4 [(0, .ref h), (1, .int x), (2, .ref o)] := hl
  refine lv_aload_n hx hb dL_kindOf_0 rfl (lv_at hl 2 rfl) ?_
  refine lv_iconst (v := 0) hx hb dL_kindOf_1 (by decide) ?_
  refine lv_aload_n hx hb dL_kindOf_2 rfl (lv_at hl 0 rfl) ?_
  refine lv_iload_n hx hb dL_kindOf_3 rfl (lv_at hl 1 rfl) ?_
  by_cases hc : kr_cd (kr_i N x) True True = 0
  · obtain ⟨hc1, hc2, hc3⟩ := kr_cdE hc
    obtain ⟨hk, ex⟩ := kr_exN hw hc1
    have hM := c_X0_kindOf l D cy h a N L A (kr_ix x) hw.1 hk
    rw [← ex] at hM
    refine kr_vI (n := 1) (As := [.int x]) (rest := [.int 0, .ref o]) ⟨hx, hb, hml, hown, hts⟩ hM kg_RL_39 ⟨rfl, rfl⟩ (by decide +kernel) ⟨Nat.le_of_ble_eq_true rfl, Nat.le_of_ble_eq_true rfl⟩ (kr_pvh hP hK) rfl hl.1 rfl (Nat.le_of_ble_eq_true rfl) dL_kindOf_4 ⟨Nat.zero_le _, Nat.zero_le _⟩ (fun r9 e9 => ?_)
    refine lv_i2l (v := r9.toInt64) hx hb dL_kindOf_7 rfl ?_
    refine va_last hx hb hK hP hD hS 9 1 rfl rfl (show ¬ ((0 : Int32) < 0 ∨ 1 ≤ (0 : Int32).toNatClampNeg) by decide) dL_kindOf_8 (fun H locs hP hD hS => ?_)
    have hP : va_P D vwCl (kr_WL cy cl h a o N L A (vp_updL O (0 : Int32).toNatClampNeg r9.toInt64)) H := hP
    have hD : va_D AA (kr_WL cy cl h a o N L A (vp_updL O (0 : Int32).toNatClampNeg r9.toInt64)) := hD
    refine lv_goto (tgt := 15) hx hb dL_kindOf_9 (by decide) ?_
    refine lv_iconst (v := 0) hx hb dL_kindOf_15 (by decide) ?_
    refine W.widen (k := 1) (n := 6) (by decide) (by decide) ?_
    exact kr_lI hx hb hr hlocks hP hK hD hS ⟨hc.symm, fun _ => (kr_uL _ _).trans (congrArg Int32.toInt64 e9)⟩ dL_kindOf_16
  · have hM := x_X0_kindOf l hl0 D cy h a N L A x hc
    rcases kr_cdX hc with ⟨e1, -⟩ | ⟨e1, h2a, h2b⟩ | ⟨e1, h3a, h3b, h3c⟩
    · rw [e1, kr_E1] at hM
      refine kr_h1 (n := 1) (As := [.int x]) (rest := [.int 0, .ref o]) ⟨hx, hb, hml, hown, hts⟩ hM kg_RL_39 ⟨rfl, rfl⟩ (by decide +kernel) ⟨Nat.le_of_ble_eq_true rfl, Nat.le_of_ble_eq_true rfl⟩ (kr_pvt hP hK hT) rfl hl.1 rfl (Nat.le_of_ble_eq_true rfl) dL_kindOf_4 ⟨Nat.le_of_ble_eq_true rfl, Nat.le_of_ble_eq_true rfl⟩ hT htab ⟨by decide, by decide⟩ (fun q9 H hz hk9 => ?_)
      have hP := kr_lkP hP hk9
      have hS := kr_lkS (AA := AA) hz hk9
      refine lv_astore_n (lv' := [(3, .ref q9), (0, .ref h), (1, .int x), (2, .ref o)]) hx hb dL_kindOf_12 rfl hl (by decide) rfl (fun ls hl => ?_)
      refine lv_iconst (v := 1) hx hb dL_kindOf_13 (by decide) ?_
      exact kr_lI hx hb hr hlocks hP hK hD hS ⟨e1.symm, fun w => absurd w hc⟩ dL_kindOf_14
    · exact absurd trivial h2b
    · exact absurd trivial h3c
theorem kg_RL_42 : GoodIn kr_all (wsV RL 42 RX0 yX0_efficiencyOf (Cond.code yX0_efficiencyOf cX0_efficiencyOf 2 (some .int) :: kr_all)) := kr_gV kq_448 kq_242 kq_243 kq_48 kq_244
set_option maxHeartbeats 4000000 in
set_option maxRecDepth 100000 in
theorem h_L_efficiencyOf (l : Launch) (hl0 : l.stackTraces = false) (D : va_G) (cy cl : ClassId) (h : Nat) (a : Nat → Nat) (o N L : Nat) (A : Nat → Nat → Int32) (O : Nat → Int64) (sz : Nat) (x : Int32) (hw : kr_wf N L A) : Met l yL_efficiencyOf (Cond.codeWith yL_efficiencyOf cL_efficiencyOf 4 (some .int) [(0, 9, 12, 13)] :: kr_all) ({ frames := 8, cells := 1, slots := 6, locals := 132 }) (va_Pc [.ref h, .int x, .ref o] (kr_Lw D (kr_WL cy cl h a o N L A O) cy cl sz)) (va_Qi (fun r (O' : Nat → Int64) => r = kr_cd (kr_i N x) True True ∧ (kr_cd (kr_i N x) True True = 0 → O' 0 = Int32.toInt64 (A 1 (kr_ix x)))) (fun O' t => kr_Lq D (kr_WL cy cl h a o N L A O') cy cl (va_A (kr_WL cy cl h a o N L A O) sz) t) (va_A (kr_WL cy cl h a o N L A O) sz)) 1 6 (va_A (kr_WL cy cl h a o N L A O) sz) := by
  refine kr_ofL (Qc := fun AA => va_Qi (fun r (O' : Nat → Int64) => r = kr_cd (kr_i N x) True True ∧ (kr_cd (kr_i N x) True True = 0 → O' 0 = Int32.toInt64 (A 1 (kr_ix x)))) (fun O' t => kr_Lq D (kr_WL cy cl h a o N L A O') cy cl AA t) AA) (by decide) (Nat.le_of_ble_eq_true rfl) ?_
  intro p e s m below meth c ls AA hx hb hml hr hts hown hlocks htab hA hP hK hD hS hT hl
  have hown : s.vm.findClass RL = some m.cls := hown
  have hl : lv_has ls 4 [(0, .ref h), (1, .int x), (2, .ref o)] := hl
  refine lv_aload_n hx hb dL_efficiencyOf_0 rfl (lv_at hl 2 rfl) ?_
  refine lv_iconst (v := 0) hx hb dL_efficiencyOf_1 (by decide) ?_
  refine lv_aload_n hx hb dL_efficiencyOf_2 rfl (lv_at hl 0 rfl) ?_
  refine lv_iload_n hx hb dL_efficiencyOf_3 rfl (lv_at hl 1 rfl) ?_
  by_cases hc : kr_cd (kr_i N x) True True = 0
  · obtain ⟨hc1, hc2, hc3⟩ := kr_cdE hc
    obtain ⟨hk, ex⟩ := kr_exN hw hc1
    have hM := c_X0_efficiencyOf l D cy h a N L A (kr_ix x) hw.1 hk
    rw [← ex] at hM
    refine kr_vI (n := 1) (As := [.int x]) (rest := [.int 0, .ref o]) ⟨hx, hb, hml, hown, hts⟩ hM kg_RL_42 ⟨rfl, rfl⟩ (by decide +kernel) ⟨Nat.le_of_ble_eq_true rfl, Nat.le_of_ble_eq_true rfl⟩ (kr_pvh hP hK) rfl hl.1 rfl (Nat.le_of_ble_eq_true rfl) dL_efficiencyOf_4 ⟨Nat.zero_le _, Nat.zero_le _⟩ (fun r9 e9 => ?_)
    refine lv_i2l (v := r9.toInt64) hx hb dL_efficiencyOf_7 rfl ?_
    refine va_last hx hb hK hP hD hS 9 1 rfl rfl (show ¬ ((0 : Int32) < 0 ∨ 1 ≤ (0 : Int32).toNatClampNeg) by decide) dL_efficiencyOf_8 (fun H locs hP hD hS => ?_)
    have hP : va_P D vwCl (kr_WL cy cl h a o N L A (vp_updL O (0 : Int32).toNatClampNeg r9.toInt64)) H := hP
    have hD : va_D AA (kr_WL cy cl h a o N L A (vp_updL O (0 : Int32).toNatClampNeg r9.toInt64)) := hD
    refine lv_goto (tgt := 15) hx hb dL_efficiencyOf_9 (by decide) ?_
    refine lv_iconst (v := 0) hx hb dL_efficiencyOf_15 (by decide) ?_
    refine W.widen (k := 1) (n := 6) (by decide) (by decide) ?_
    exact kr_lI hx hb hr hlocks hP hK hD hS ⟨hc.symm, fun _ => (kr_uL _ _).trans (congrArg Int32.toInt64 e9)⟩ dL_efficiencyOf_16
  · have hM := x_X0_efficiencyOf l hl0 D cy h a N L A x hc
    rcases kr_cdX hc with ⟨e1, -⟩ | ⟨e1, h2a, h2b⟩ | ⟨e1, h3a, h3b, h3c⟩
    · rw [e1, kr_E1] at hM
      refine kr_h1 (n := 1) (As := [.int x]) (rest := [.int 0, .ref o]) ⟨hx, hb, hml, hown, hts⟩ hM kg_RL_42 ⟨rfl, rfl⟩ (by decide +kernel) ⟨Nat.le_of_ble_eq_true rfl, Nat.le_of_ble_eq_true rfl⟩ (kr_pvt hP hK hT) rfl hl.1 rfl (Nat.le_of_ble_eq_true rfl) dL_efficiencyOf_4 ⟨Nat.le_of_ble_eq_true rfl, Nat.le_of_ble_eq_true rfl⟩ hT htab ⟨by decide, by decide⟩ (fun q9 H hz hk9 => ?_)
      have hP := kr_lkP hP hk9
      have hS := kr_lkS (AA := AA) hz hk9
      refine lv_astore_n (lv' := [(3, .ref q9), (0, .ref h), (1, .int x), (2, .ref o)]) hx hb dL_efficiencyOf_12 rfl hl (by decide) rfl (fun ls hl => ?_)
      refine lv_iconst (v := 1) hx hb dL_efficiencyOf_13 (by decide) ?_
      exact kr_lI hx hb hr hlocks hP hK hD hS ⟨e1.symm, fun w => absurd w hc⟩ dL_efficiencyOf_14
    · exact absurd trivial h2b
    · exact absurd trivial h3c
theorem kg_RL_45 : GoodIn kr_all (wsV RL 45 RX0 yX0_crossingsOf (Cond.code yX0_crossingsOf cX0_crossingsOf 2 (some .int) :: kr_all)) := kr_gV kq_452 kq_246 kq_247 kq_48 kq_248
set_option maxHeartbeats 4000000 in
set_option maxRecDepth 100000 in
theorem h_L_crossingsOf (l : Launch) (hl0 : l.stackTraces = false) (D : va_G) (cy cl : ClassId) (h : Nat) (a : Nat → Nat) (o N L : Nat) (A : Nat → Nat → Int32) (O : Nat → Int64) (sz : Nat) (x : Int32) (hw : kr_wf N L A) : Met l yL_crossingsOf (Cond.codeWith yL_crossingsOf cL_crossingsOf 4 (some .int) [(0, 9, 12, 13)] :: kr_all) ({ frames := 8, cells := 1, slots := 6, locals := 132 }) (va_Pc [.ref h, .int x, .ref o] (kr_Lw D (kr_WL cy cl h a o N L A O) cy cl sz)) (va_Qi (fun r (O' : Nat → Int64) => r = kr_cd (kr_i N x) True True ∧ (kr_cd (kr_i N x) True True = 0 → O' 0 = Int32.toInt64 (A 2 (kr_ix x)))) (fun O' t => kr_Lq D (kr_WL cy cl h a o N L A O') cy cl (va_A (kr_WL cy cl h a o N L A O) sz) t) (va_A (kr_WL cy cl h a o N L A O) sz)) 1 6 (va_A (kr_WL cy cl h a o N L A O) sz) := by
  refine kr_ofL (Qc := fun AA => va_Qi (fun r (O' : Nat → Int64) => r = kr_cd (kr_i N x) True True ∧ (kr_cd (kr_i N x) True True = 0 → O' 0 = Int32.toInt64 (A 2 (kr_ix x)))) (fun O' t => kr_Lq D (kr_WL cy cl h a o N L A O') cy cl AA t) AA) (by decide) (Nat.le_of_ble_eq_true rfl) ?_
  intro p e s m below meth c ls AA hx hb hml hr hts hown hlocks htab hA hP hK hD hS hT hl
  have hown : s.vm.findClass RL = some m.cls := hown
  have hl : lv_has ls 4 [(0, .ref h), (1, .int x), (2, .ref o)] := hl
  refine lv_aload_n hx hb dL_crossingsOf_0 rfl (lv_at hl 2 rfl) ?_
  refine lv_iconst (v := 0) hx hb dL_crossingsOf_1 (by decide) ?_
  refine lv_aload_n hx hb dL_crossingsOf_2 rfl (lv_at hl 0 rfl) ?_
  refine lv_iload_n hx hb dL_crossingsOf_3 rfl (lv_at hl 1 rfl) ?_
  by_cases hc : kr_cd (kr_i N x) True True = 0
  · obtain ⟨hc1, hc2, hc3⟩ := kr_cdE hc
    obtain ⟨hk, ex⟩ := kr_exN hw hc1
    have hM := c_X0_crossingsOf l D cy h a N L A (kr_ix x) hw.1 hk
    rw [← ex] at hM
    refine kr_vI (n := 1) (As := [.int x]) (rest := [.int 0, .ref o]) ⟨hx, hb, hml, hown, hts⟩ hM kg_RL_45 ⟨rfl, rfl⟩ (by decide +kernel) ⟨Nat.le_of_ble_eq_true rfl, Nat.le_of_ble_eq_true rfl⟩ (kr_pvh hP hK) rfl hl.1 rfl (Nat.le_of_ble_eq_true rfl) dL_crossingsOf_4 ⟨Nat.zero_le _, Nat.zero_le _⟩ (fun r9 e9 => ?_)
    refine lv_i2l (v := r9.toInt64) hx hb dL_crossingsOf_7 rfl ?_
    refine va_last hx hb hK hP hD hS 9 1 rfl rfl (show ¬ ((0 : Int32) < 0 ∨ 1 ≤ (0 : Int32).toNatClampNeg) by decide) dL_crossingsOf_8 (fun H locs hP hD hS => ?_)
    have hP : va_P D vwCl (kr_WL cy cl h a o N L A (vp_updL O (0 : Int32).toNatClampNeg r9.toInt64)) H := hP
    have hD : va_D AA (kr_WL cy cl h a o N L A (vp_updL O (0 : Int32).toNatClampNeg r9.toInt64)) := hD
    refine lv_goto (tgt := 15) hx hb dL_crossingsOf_9 (by decide) ?_
    refine lv_iconst (v := 0) hx hb dL_crossingsOf_15 (by decide) ?_
    refine W.widen (k := 1) (n := 6) (by decide) (by decide) ?_
    exact kr_lI hx hb hr hlocks hP hK hD hS ⟨hc.symm, fun _ => (kr_uL _ _).trans (congrArg Int32.toInt64 e9)⟩ dL_crossingsOf_16
  · have hM := x_X0_crossingsOf l hl0 D cy h a N L A x hc
    rcases kr_cdX hc with ⟨e1, -⟩ | ⟨e1, h2a, h2b⟩ | ⟨e1, h3a, h3b, h3c⟩
    · rw [e1, kr_E1] at hM
      refine kr_h1 (n := 1) (As := [.int x]) (rest := [.int 0, .ref o]) ⟨hx, hb, hml, hown, hts⟩ hM kg_RL_45 ⟨rfl, rfl⟩ (by decide +kernel) ⟨Nat.le_of_ble_eq_true rfl, Nat.le_of_ble_eq_true rfl⟩ (kr_pvt hP hK hT) rfl hl.1 rfl (Nat.le_of_ble_eq_true rfl) dL_crossingsOf_4 ⟨Nat.le_of_ble_eq_true rfl, Nat.le_of_ble_eq_true rfl⟩ hT htab ⟨by decide, by decide⟩ (fun q9 H hz hk9 => ?_)
      have hP := kr_lkP hP hk9
      have hS := kr_lkS (AA := AA) hz hk9
      refine lv_astore_n (lv' := [(3, .ref q9), (0, .ref h), (1, .int x), (2, .ref o)]) hx hb dL_crossingsOf_12 rfl hl (by decide) rfl (fun ls hl => ?_)
      refine lv_iconst (v := 1) hx hb dL_crossingsOf_13 (by decide) ?_
      exact kr_lI hx hb hr hlocks hP hK hD hS ⟨e1.symm, fun w => absurd w hc⟩ dL_crossingsOf_14
    · exact absurd trivial h2b
    · exact absurd trivial h3c
theorem kg_RL_48 : GoodIn kr_all (wsV RL 48 RX0 yX0_spillsAt (Cond.code yX0_spillsAt cX0_spillsAt 2 (some .int) :: kr_all)) := kr_gV kq_456 kq_250 kq_251 kq_48 kq_252
set_option maxHeartbeats 4000000 in
set_option maxRecDepth 100000 in
theorem h_L_spillsAt (l : Launch) (hl0 : l.stackTraces = false) (D : va_G) (cy cl : ClassId) (h : Nat) (a : Nat → Nat) (o N L : Nat) (A : Nat → Nat → Int32) (O : Nat → Int64) (sz : Nat) (x : Int32) (hw : kr_wf N L A) : Met l yL_spillsAt (Cond.codeWith yL_spillsAt cL_spillsAt 4 (some .int) [(0, 9, 12, 13)] :: kr_all) ({ frames := 8, cells := 1, slots := 6, locals := 132 }) (va_Pc [.ref h, .int x, .ref o] (kr_Lw D (kr_WL cy cl h a o N L A O) cy cl sz)) (va_Qi (fun r (O' : Nat → Int64) => r = kr_cd (kr_i N x) True True ∧ (kr_cd (kr_i N x) True True = 0 → O' 0 = Int32.toInt64 (A 3 (kr_ix x)))) (fun O' t => kr_Lq D (kr_WL cy cl h a o N L A O') cy cl (va_A (kr_WL cy cl h a o N L A O) sz) t) (va_A (kr_WL cy cl h a o N L A O) sz)) 1 6 (va_A (kr_WL cy cl h a o N L A O) sz) := by
  refine kr_ofL (Qc := fun AA => va_Qi (fun r (O' : Nat → Int64) => r = kr_cd (kr_i N x) True True ∧ (kr_cd (kr_i N x) True True = 0 → O' 0 = Int32.toInt64 (A 3 (kr_ix x)))) (fun O' t => kr_Lq D (kr_WL cy cl h a o N L A O') cy cl AA t) AA) (by decide) (Nat.le_of_ble_eq_true rfl) ?_
  intro p e s m below meth c ls AA hx hb hml hr hts hown hlocks htab hA hP hK hD hS hT hl
  have hown : s.vm.findClass RL = some m.cls := hown
  have hl : lv_has ls 4 [(0, .ref h), (1, .int x), (2, .ref o)] := hl
  refine lv_aload_n hx hb dL_spillsAt_0 rfl (lv_at hl 2 rfl) ?_
  refine lv_iconst (v := 0) hx hb dL_spillsAt_1 (by decide) ?_
  refine lv_aload_n hx hb dL_spillsAt_2 rfl (lv_at hl 0 rfl) ?_
  refine lv_iload_n hx hb dL_spillsAt_3 rfl (lv_at hl 1 rfl) ?_
  by_cases hc : kr_cd (kr_i N x) True True = 0
  · obtain ⟨hc1, hc2, hc3⟩ := kr_cdE hc
    obtain ⟨hk, ex⟩ := kr_exN hw hc1
    have hM := c_X0_spillsAt l D cy h a N L A (kr_ix x) hw.1 hk
    rw [← ex] at hM
    refine kr_vI (n := 1) (As := [.int x]) (rest := [.int 0, .ref o]) ⟨hx, hb, hml, hown, hts⟩ hM kg_RL_48 ⟨rfl, rfl⟩ (by decide +kernel) ⟨Nat.le_of_ble_eq_true rfl, Nat.le_of_ble_eq_true rfl⟩ (kr_pvh hP hK) rfl hl.1 rfl (Nat.le_of_ble_eq_true rfl) dL_spillsAt_4 ⟨Nat.zero_le _, Nat.zero_le _⟩ (fun r9 e9 => ?_)
    refine lv_i2l (v := r9.toInt64) hx hb dL_spillsAt_7 rfl ?_
    refine va_last hx hb hK hP hD hS 9 1 rfl rfl (show ¬ ((0 : Int32) < 0 ∨ 1 ≤ (0 : Int32).toNatClampNeg) by decide) dL_spillsAt_8 (fun H locs hP hD hS => ?_)
    have hP : va_P D vwCl (kr_WL cy cl h a o N L A (vp_updL O (0 : Int32).toNatClampNeg r9.toInt64)) H := hP
    have hD : va_D AA (kr_WL cy cl h a o N L A (vp_updL O (0 : Int32).toNatClampNeg r9.toInt64)) := hD
    refine lv_goto (tgt := 15) hx hb dL_spillsAt_9 (by decide) ?_
    refine lv_iconst (v := 0) hx hb dL_spillsAt_15 (by decide) ?_
    refine W.widen (k := 1) (n := 6) (by decide) (by decide) ?_
    exact kr_lI hx hb hr hlocks hP hK hD hS ⟨hc.symm, fun _ => (kr_uL _ _).trans (congrArg Int32.toInt64 e9)⟩ dL_spillsAt_16
  · have hM := x_X0_spillsAt l hl0 D cy h a N L A x hc
    rcases kr_cdX hc with ⟨e1, -⟩ | ⟨e1, h2a, h2b⟩ | ⟨e1, h3a, h3b, h3c⟩
    · rw [e1, kr_E1] at hM
      refine kr_h1 (n := 1) (As := [.int x]) (rest := [.int 0, .ref o]) ⟨hx, hb, hml, hown, hts⟩ hM kg_RL_48 ⟨rfl, rfl⟩ (by decide +kernel) ⟨Nat.le_of_ble_eq_true rfl, Nat.le_of_ble_eq_true rfl⟩ (kr_pvt hP hK hT) rfl hl.1 rfl (Nat.le_of_ble_eq_true rfl) dL_spillsAt_4 ⟨Nat.le_of_ble_eq_true rfl, Nat.le_of_ble_eq_true rfl⟩ hT htab ⟨by decide, by decide⟩ (fun q9 H hz hk9 => ?_)
      have hP := kr_lkP hP hk9
      have hS := kr_lkS (AA := AA) hz hk9
      refine lv_astore_n (lv' := [(3, .ref q9), (0, .ref h), (1, .int x), (2, .ref o)]) hx hb dL_spillsAt_12 rfl hl (by decide) rfl (fun ls hl => ?_)
      refine lv_iconst (v := 1) hx hb dL_spillsAt_13 (by decide) ?_
      exact kr_lI hx hb hr hlocks hP hK hD hS ⟨e1.symm, fun w => absurd w hc⟩ dL_spillsAt_14
    · exact absurd trivial h2b
    · exact absurd trivial h3c
theorem kg_RL_51 : GoodIn kr_all (wsV RL 51 RX0 yX0_spillsInto (Cond.code yX0_spillsInto cX0_spillsInto 2 (some .int) :: kr_all)) := kr_gV kq_460 kq_254 kq_255 kq_48 kq_256
set_option maxHeartbeats 4000000 in
set_option maxRecDepth 100000 in
theorem h_L_spillsInto (l : Launch) (hl0 : l.stackTraces = false) (D : va_G) (cy cl : ClassId) (h : Nat) (a : Nat → Nat) (o N L : Nat) (A : Nat → Nat → Int32) (O : Nat → Int64) (sz : Nat) (x : Int32) (hw : kr_wf N L A) : Met l yL_spillsInto (Cond.codeWith yL_spillsInto cL_spillsInto 4 (some .int) [(0, 9, 12, 13)] :: kr_all) ({ frames := 8, cells := 1, slots := 6, locals := 132 }) (va_Pc [.ref h, .int x, .ref o] (kr_Lw D (kr_WL cy cl h a o N L A O) cy cl sz)) (va_Qi (fun r (O' : Nat → Int64) => r = kr_cd (kr_i N x) True True ∧ (kr_cd (kr_i N x) True True = 0 → O' 0 = Int32.toInt64 (A 4 (kr_ix x)))) (fun O' t => kr_Lq D (kr_WL cy cl h a o N L A O') cy cl (va_A (kr_WL cy cl h a o N L A O) sz) t) (va_A (kr_WL cy cl h a o N L A O) sz)) 1 6 (va_A (kr_WL cy cl h a o N L A O) sz) := by
  refine kr_ofL (Qc := fun AA => va_Qi (fun r (O' : Nat → Int64) => r = kr_cd (kr_i N x) True True ∧ (kr_cd (kr_i N x) True True = 0 → O' 0 = Int32.toInt64 (A 4 (kr_ix x)))) (fun O' t => kr_Lq D (kr_WL cy cl h a o N L A O') cy cl AA t) AA) (by decide) (Nat.le_of_ble_eq_true rfl) ?_
  intro p e s m below meth c ls AA hx hb hml hr hts hown hlocks htab hA hP hK hD hS hT hl
  have hown : s.vm.findClass RL = some m.cls := hown
  have hl : lv_has ls 4 [(0, .ref h), (1, .int x), (2, .ref o)] := hl
  refine lv_aload_n hx hb dL_spillsInto_0 rfl (lv_at hl 2 rfl) ?_
  refine lv_iconst (v := 0) hx hb dL_spillsInto_1 (by decide) ?_
  refine lv_aload_n hx hb dL_spillsInto_2 rfl (lv_at hl 0 rfl) ?_
  refine lv_iload_n hx hb dL_spillsInto_3 rfl (lv_at hl 1 rfl) ?_
  by_cases hc : kr_cd (kr_i N x) True True = 0
  · obtain ⟨hc1, hc2, hc3⟩ := kr_cdE hc
    obtain ⟨hk, ex⟩ := kr_exN hw hc1
    have hM := c_X0_spillsInto l D cy h a N L A (kr_ix x) hw.1 hk
    rw [← ex] at hM
    refine kr_vI (n := 1) (As := [.int x]) (rest := [.int 0, .ref o]) ⟨hx, hb, hml, hown, hts⟩ hM kg_RL_51 ⟨rfl, rfl⟩ (by decide +kernel) ⟨Nat.le_of_ble_eq_true rfl, Nat.le_of_ble_eq_true rfl⟩ (kr_pvh hP hK) rfl hl.1 rfl (Nat.le_of_ble_eq_true rfl) dL_spillsInto_4 ⟨Nat.zero_le _, Nat.zero_le _⟩ (fun r9 e9 => ?_)
    refine lv_i2l (v := r9.toInt64) hx hb dL_spillsInto_7 rfl ?_
    refine va_last hx hb hK hP hD hS 9 1 rfl rfl (show ¬ ((0 : Int32) < 0 ∨ 1 ≤ (0 : Int32).toNatClampNeg) by decide) dL_spillsInto_8 (fun H locs hP hD hS => ?_)
    have hP : va_P D vwCl (kr_WL cy cl h a o N L A (vp_updL O (0 : Int32).toNatClampNeg r9.toInt64)) H := hP
    have hD : va_D AA (kr_WL cy cl h a o N L A (vp_updL O (0 : Int32).toNatClampNeg r9.toInt64)) := hD
    refine lv_goto (tgt := 15) hx hb dL_spillsInto_9 (by decide) ?_
    refine lv_iconst (v := 0) hx hb dL_spillsInto_15 (by decide) ?_
    refine W.widen (k := 1) (n := 6) (by decide) (by decide) ?_
    exact kr_lI hx hb hr hlocks hP hK hD hS ⟨hc.symm, fun _ => (kr_uL _ _).trans (congrArg Int32.toInt64 e9)⟩ dL_spillsInto_16
  · have hM := x_X0_spillsInto l hl0 D cy h a N L A x hc
    rcases kr_cdX hc with ⟨e1, -⟩ | ⟨e1, h2a, h2b⟩ | ⟨e1, h3a, h3b, h3c⟩
    · rw [e1, kr_E1] at hM
      refine kr_h1 (n := 1) (As := [.int x]) (rest := [.int 0, .ref o]) ⟨hx, hb, hml, hown, hts⟩ hM kg_RL_51 ⟨rfl, rfl⟩ (by decide +kernel) ⟨Nat.le_of_ble_eq_true rfl, Nat.le_of_ble_eq_true rfl⟩ (kr_pvt hP hK hT) rfl hl.1 rfl (Nat.le_of_ble_eq_true rfl) dL_spillsInto_4 ⟨Nat.le_of_ble_eq_true rfl, Nat.le_of_ble_eq_true rfl⟩ hT htab ⟨by decide, by decide⟩ (fun q9 H hz hk9 => ?_)
      have hP := kr_lkP hP hk9
      have hS := kr_lkS (AA := AA) hz hk9
      refine lv_astore_n (lv' := [(3, .ref q9), (0, .ref h), (1, .int x), (2, .ref o)]) hx hb dL_spillsInto_12 rfl hl (by decide) rfl (fun ls hl => ?_)
      refine lv_iconst (v := 1) hx hb dL_spillsInto_13 (by decide) ?_
      exact kr_lI hx hb hr hlocks hP hK hD hS ⟨e1.symm, fun w => absurd w hc⟩ dL_spillsInto_14
    · exact absurd trivial h2b
    · exact absurd trivial h3c
theorem kg_RL_54 : GoodIn kr_all (wsV RL 54 RX0 yX0_rankOf (Cond.code yX0_rankOf cX0_rankOf 2 (some .int) :: kr_all)) := kr_gV kq_464 kq_258 kq_259 kq_48 kq_260
set_option maxHeartbeats 4000000 in
set_option maxRecDepth 100000 in
theorem h_L_rankOf (l : Launch) (hl0 : l.stackTraces = false) (D : va_G) (cy cl : ClassId) (h : Nat) (a : Nat → Nat) (o N L : Nat) (A : Nat → Nat → Int32) (O : Nat → Int64) (sz : Nat) (x : Int32) (hw : kr_wf N L A) : Met l yL_rankOf (Cond.codeWith yL_rankOf cL_rankOf 4 (some .int) [(0, 9, 12, 13)] :: kr_all) ({ frames := 8, cells := 1, slots := 6, locals := 132 }) (va_Pc [.ref h, .int x, .ref o] (kr_Lw D (kr_WL cy cl h a o N L A O) cy cl sz)) (va_Qi (fun r (O' : Nat → Int64) => r = kr_cd (kr_i N x) True True ∧ (kr_cd (kr_i N x) True True = 0 → O' 0 = Int32.toInt64 (nI (kr_rk A (kr_ix x) N)))) (fun O' t => kr_Lq D (kr_WL cy cl h a o N L A O') cy cl (va_A (kr_WL cy cl h a o N L A O) sz) t) (va_A (kr_WL cy cl h a o N L A O) sz)) 1 6 (va_A (kr_WL cy cl h a o N L A O) sz) := by
  refine kr_ofL (Qc := fun AA => va_Qi (fun r (O' : Nat → Int64) => r = kr_cd (kr_i N x) True True ∧ (kr_cd (kr_i N x) True True = 0 → O' 0 = Int32.toInt64 (nI (kr_rk A (kr_ix x) N)))) (fun O' t => kr_Lq D (kr_WL cy cl h a o N L A O') cy cl AA t) AA) (by decide) (Nat.le_of_ble_eq_true rfl) ?_
  intro p e s m below meth c ls AA hx hb hml hr hts hown hlocks htab hA hP hK hD hS hT hl
  have hown : s.vm.findClass RL = some m.cls := hown
  have hl : lv_has ls 4 [(0, .ref h), (1, .int x), (2, .ref o)] := hl
  refine lv_aload_n hx hb dL_rankOf_0 rfl (lv_at hl 2 rfl) ?_
  refine lv_iconst (v := 0) hx hb dL_rankOf_1 (by decide) ?_
  refine lv_aload_n hx hb dL_rankOf_2 rfl (lv_at hl 0 rfl) ?_
  refine lv_iload_n hx hb dL_rankOf_3 rfl (lv_at hl 1 rfl) ?_
  by_cases hc : kr_cd (kr_i N x) True True = 0
  · obtain ⟨hc1, hc2, hc3⟩ := kr_cdE hc
    obtain ⟨hk, ex⟩ := kr_exN hw hc1
    have hM := c_X0_rankOf l D cy h a N L A (kr_ix x) hw.1 hk
    rw [← ex] at hM
    refine kr_vI (n := 1) (As := [.int x]) (rest := [.int 0, .ref o]) ⟨hx, hb, hml, hown, hts⟩ hM kg_RL_54 ⟨rfl, rfl⟩ (by decide +kernel) ⟨Nat.le_of_ble_eq_true rfl, Nat.le_of_ble_eq_true rfl⟩ (kr_pvh hP hK) rfl hl.1 rfl (Nat.le_of_ble_eq_true rfl) dL_rankOf_4 ⟨Nat.zero_le _, Nat.zero_le _⟩ (fun r9 e9 => ?_)
    refine lv_i2l (v := r9.toInt64) hx hb dL_rankOf_7 rfl ?_
    refine va_last hx hb hK hP hD hS 9 1 rfl rfl (show ¬ ((0 : Int32) < 0 ∨ 1 ≤ (0 : Int32).toNatClampNeg) by decide) dL_rankOf_8 (fun H locs hP hD hS => ?_)
    have hP : va_P D vwCl (kr_WL cy cl h a o N L A (vp_updL O (0 : Int32).toNatClampNeg r9.toInt64)) H := hP
    have hD : va_D AA (kr_WL cy cl h a o N L A (vp_updL O (0 : Int32).toNatClampNeg r9.toInt64)) := hD
    refine lv_goto (tgt := 15) hx hb dL_rankOf_9 (by decide) ?_
    refine lv_iconst (v := 0) hx hb dL_rankOf_15 (by decide) ?_
    refine W.widen (k := 1) (n := 6) (by decide) (by decide) ?_
    exact kr_lI hx hb hr hlocks hP hK hD hS ⟨hc.symm, fun _ => (kr_uL _ _).trans (congrArg Int32.toInt64 e9)⟩ dL_rankOf_16
  · have hM := x_X0_rankOf l hl0 D cy h a N L A x hc
    rcases kr_cdX hc with ⟨e1, -⟩ | ⟨e1, h2a, h2b⟩ | ⟨e1, h3a, h3b, h3c⟩
    · rw [e1, kr_E1] at hM
      refine kr_h1 (n := 1) (As := [.int x]) (rest := [.int 0, .ref o]) ⟨hx, hb, hml, hown, hts⟩ hM kg_RL_54 ⟨rfl, rfl⟩ (by decide +kernel) ⟨Nat.le_of_ble_eq_true rfl, Nat.le_of_ble_eq_true rfl⟩ (kr_pvt hP hK hT) rfl hl.1 rfl (Nat.le_of_ble_eq_true rfl) dL_rankOf_4 ⟨Nat.le_of_ble_eq_true rfl, Nat.le_of_ble_eq_true rfl⟩ hT htab ⟨by decide, by decide⟩ (fun q9 H hz hk9 => ?_)
      have hP := kr_lkP hP hk9
      have hS := kr_lkS (AA := AA) hz hk9
      refine lv_astore_n (lv' := [(3, .ref q9), (0, .ref h), (1, .int x), (2, .ref o)]) hx hb dL_rankOf_12 rfl hl (by decide) rfl (fun ls hl => ?_)
      refine lv_iconst (v := 1) hx hb dL_rankOf_13 (by decide) ?_
      exact kr_lI hx hb hr hlocks hP hK hD hS ⟨e1.symm, fun w => absurd w hc⟩ dL_rankOf_14
    · exact absurd trivial h2b
    · exact absurd trivial h3c
theorem kg_RL_66 : GoodIn kr_all (wsV RL 66 RX0 yX0_fallsApartAt (Cond.code yX0_fallsApartAt cX0_fallsApartAt 5 (some .int) :: kr_all)) := kr_gV kq_494 kq_270 kq_271 kq_48 kq_272
set_option maxHeartbeats 4000000 in
set_option maxRecDepth 100000 in
theorem h_L_fallsApartAt (l : Launch) (hl0 : l.stackTraces = false) (D : va_G) (cy cl : ClassId) (h : Nat) (a : Nat → Nat) (o N L : Nat) (A : Nat → Nat → Int32) (O : Nat → Int64) (sz : Nat) (x : Int32) (hw : kr_wf N L A) : Met l yL_fallsApartAt (Cond.codeWith yL_fallsApartAt cL_fallsApartAt 4 (some .int) [(0, 9, 12, 13)] :: kr_all) ({ frames := 8, cells := 1, slots := 6, locals := 135 }) (va_Pc [.ref h, .int x, .ref o] (kr_Lw D (kr_WL cy cl h a o N L A O) cy cl sz)) (va_Qi (fun r (O' : Nat → Int64) => r = kr_cd (kr_i N x) True True ∧ (kr_cd (kr_i N x) True True = 0 → O' 0 = Int32.toInt64 (kr_fa A 16 x 0))) (fun O' t => kr_Lq D (kr_WL cy cl h a o N L A O') cy cl (va_A (kr_WL cy cl h a o N L A O) sz) t) (va_A (kr_WL cy cl h a o N L A O) sz)) 1 6 (va_A (kr_WL cy cl h a o N L A O) sz) := by
  refine kr_ofL (Qc := fun AA => va_Qi (fun r (O' : Nat → Int64) => r = kr_cd (kr_i N x) True True ∧ (kr_cd (kr_i N x) True True = 0 → O' 0 = Int32.toInt64 (kr_fa A 16 x 0))) (fun O' t => kr_Lq D (kr_WL cy cl h a o N L A O') cy cl AA t) AA) (by decide) (Nat.le_of_ble_eq_true rfl) ?_
  intro p e s m below meth c ls AA hx hb hml hr hts hown hlocks htab hA hP hK hD hS hT hl
  have hown : s.vm.findClass RL = some m.cls := hown
  have hl : lv_has ls 4 [(0, .ref h), (1, .int x), (2, .ref o)] := hl
  refine lv_aload_n hx hb dL_fallsApartAt_0 rfl (lv_at hl 2 rfl) ?_
  refine lv_iconst (v := 0) hx hb dL_fallsApartAt_1 (by decide) ?_
  refine lv_aload_n hx hb dL_fallsApartAt_2 rfl (lv_at hl 0 rfl) ?_
  refine lv_iload_n hx hb dL_fallsApartAt_3 rfl (lv_at hl 1 rfl) ?_
  by_cases hc : kr_cd (kr_i N x) True True = 0
  · obtain ⟨hc1, hc2, hc3⟩ := kr_cdE hc
    obtain ⟨hk, ex⟩ := kr_exN hw hc1
    have hM := c_X0_fallsApartAt l D cy h a N L A (kr_ix x) hw hk
    rw [← ex] at hM
    refine kr_vI (n := 1) (As := [.int x]) (rest := [.int 0, .ref o]) ⟨hx, hb, hml, hown, hts⟩ hM kg_RL_66 ⟨rfl, rfl⟩ (by decide +kernel) ⟨Nat.le_of_ble_eq_true rfl, Nat.le_of_ble_eq_true rfl⟩ (kr_pvh hP hK) rfl hl.1 rfl (Nat.le_of_ble_eq_true rfl) dL_fallsApartAt_4 ⟨Nat.zero_le _, Nat.zero_le _⟩ (fun r9 e9 => ?_)
    refine lv_i2l (v := r9.toInt64) hx hb dL_fallsApartAt_7 rfl ?_
    refine va_last hx hb hK hP hD hS 9 1 rfl rfl (show ¬ ((0 : Int32) < 0 ∨ 1 ≤ (0 : Int32).toNatClampNeg) by decide) dL_fallsApartAt_8 (fun H locs hP hD hS => ?_)
    have hP : va_P D vwCl (kr_WL cy cl h a o N L A (vp_updL O (0 : Int32).toNatClampNeg r9.toInt64)) H := hP
    have hD : va_D AA (kr_WL cy cl h a o N L A (vp_updL O (0 : Int32).toNatClampNeg r9.toInt64)) := hD
    refine lv_goto (tgt := 15) hx hb dL_fallsApartAt_9 (by decide) ?_
    refine lv_iconst (v := 0) hx hb dL_fallsApartAt_15 (by decide) ?_
    refine W.widen (k := 1) (n := 6) (by decide) (by decide) ?_
    exact kr_lI hx hb hr hlocks hP hK hD hS ⟨hc.symm, fun _ => (kr_uL _ _).trans (congrArg Int32.toInt64 e9)⟩ dL_fallsApartAt_16
  · have hM := x_X0_fallsApartAt l hl0 D cy h a N L A x hc
    rcases kr_cdX hc with ⟨e1, -⟩ | ⟨e1, h2a, h2b⟩ | ⟨e1, h3a, h3b, h3c⟩
    · rw [e1, kr_E1] at hM
      refine kr_h1 (n := 1) (As := [.int x]) (rest := [.int 0, .ref o]) ⟨hx, hb, hml, hown, hts⟩ hM kg_RL_66 ⟨rfl, rfl⟩ (by decide +kernel) ⟨Nat.le_of_ble_eq_true rfl, Nat.le_of_ble_eq_true rfl⟩ (kr_pvt hP hK hT) rfl hl.1 rfl (Nat.le_of_ble_eq_true rfl) dL_fallsApartAt_4 ⟨Nat.le_of_ble_eq_true rfl, Nat.le_of_ble_eq_true rfl⟩ hT htab ⟨by decide, by decide⟩ (fun q9 H hz hk9 => ?_)
      have hP := kr_lkP hP hk9
      have hS := kr_lkS (AA := AA) hz hk9
      refine lv_astore_n (lv' := [(3, .ref q9), (0, .ref h), (1, .int x), (2, .ref o)]) hx hb dL_fallsApartAt_12 rfl hl (by decide) rfl (fun ls hl => ?_)
      refine lv_iconst (v := 1) hx hb dL_fallsApartAt_13 (by decide) ?_
      exact kr_lI hx hb hr hlocks hP hK hD hS ⟨e1.symm, fun w => absurd w hc⟩ dL_fallsApartAt_14
    · exact absurd trivial h2b
    · exact absurd trivial h3c
theorem kg_RL_69 : GoodIn kr_all (wsV RL 69 RX0 yX0_ropesOf (Cond.code yX0_ropesOf cX0_ropesOf 2 (some .int) :: kr_all)) := kr_gV kq_498 kq_278 kq_279 kq_48 kq_280
set_option maxHeartbeats 4000000 in
set_option maxRecDepth 100000 in
theorem h_L_ropesOf (l : Launch) (hl0 : l.stackTraces = false) (D : va_G) (cy cl : ClassId) (h : Nat) (a : Nat → Nat) (o N L : Nat) (A : Nat → Nat → Int32) (O : Nat → Int64) (sz : Nat) (x : Int32) (hw : kr_wf N L A) : Met l yL_ropesOf (Cond.codeWith yL_ropesOf cL_ropesOf 4 (some .int) [(0, 9, 12, 13)] :: kr_all) ({ frames := 8, cells := 1, slots := 6, locals := 132 }) (va_Pc [.ref h, .int x, .ref o] (kr_Lw D (kr_WL cy cl h a o N L A O) cy cl sz)) (va_Qi (fun r (O' : Nat → Int64) => r = kr_cd (kr_i L x) True True ∧ (kr_cd (kr_i L x) True True = 0 → O' 0 = Int32.toInt64 (A 5 (kr_ix x)))) (fun O' t => kr_Lq D (kr_WL cy cl h a o N L A O') cy cl (va_A (kr_WL cy cl h a o N L A O) sz) t) (va_A (kr_WL cy cl h a o N L A O) sz)) 1 6 (va_A (kr_WL cy cl h a o N L A O) sz) := by
  refine kr_ofL (Qc := fun AA => va_Qi (fun r (O' : Nat → Int64) => r = kr_cd (kr_i L x) True True ∧ (kr_cd (kr_i L x) True True = 0 → O' 0 = Int32.toInt64 (A 5 (kr_ix x)))) (fun O' t => kr_Lq D (kr_WL cy cl h a o N L A O') cy cl AA t) AA) (by decide) (Nat.le_of_ble_eq_true rfl) ?_
  intro p e s m below meth c ls AA hx hb hml hr hts hown hlocks htab hA hP hK hD hS hT hl
  have hown : s.vm.findClass RL = some m.cls := hown
  have hl : lv_has ls 4 [(0, .ref h), (1, .int x), (2, .ref o)] := hl
  refine lv_aload_n hx hb dL_ropesOf_0 rfl (lv_at hl 2 rfl) ?_
  refine lv_iconst (v := 0) hx hb dL_ropesOf_1 (by decide) ?_
  refine lv_aload_n hx hb dL_ropesOf_2 rfl (lv_at hl 0 rfl) ?_
  refine lv_iload_n hx hb dL_ropesOf_3 rfl (lv_at hl 1 rfl) ?_
  by_cases hc : kr_cd (kr_i L x) True True = 0
  · obtain ⟨hc1, hc2, hc3⟩ := kr_cdE hc
    obtain ⟨hk, ex⟩ := kr_exL hw hc1
    have hM := c_X0_ropesOf l D cy h a N L A (kr_ix x) hw hk
    rw [← ex] at hM
    refine kr_vI (n := 1) (As := [.int x]) (rest := [.int 0, .ref o]) ⟨hx, hb, hml, hown, hts⟩ hM kg_RL_69 ⟨rfl, rfl⟩ (by decide +kernel) ⟨Nat.le_of_ble_eq_true rfl, Nat.le_of_ble_eq_true rfl⟩ (kr_pvh hP hK) rfl hl.1 rfl (Nat.le_of_ble_eq_true rfl) dL_ropesOf_4 ⟨Nat.zero_le _, Nat.zero_le _⟩ (fun r9 e9 => ?_)
    refine lv_i2l (v := r9.toInt64) hx hb dL_ropesOf_7 rfl ?_
    refine va_last hx hb hK hP hD hS 9 1 rfl rfl (show ¬ ((0 : Int32) < 0 ∨ 1 ≤ (0 : Int32).toNatClampNeg) by decide) dL_ropesOf_8 (fun H locs hP hD hS => ?_)
    have hP : va_P D vwCl (kr_WL cy cl h a o N L A (vp_updL O (0 : Int32).toNatClampNeg r9.toInt64)) H := hP
    have hD : va_D AA (kr_WL cy cl h a o N L A (vp_updL O (0 : Int32).toNatClampNeg r9.toInt64)) := hD
    refine lv_goto (tgt := 15) hx hb dL_ropesOf_9 (by decide) ?_
    refine lv_iconst (v := 0) hx hb dL_ropesOf_15 (by decide) ?_
    refine W.widen (k := 1) (n := 6) (by decide) (by decide) ?_
    exact kr_lI hx hb hr hlocks hP hK hD hS ⟨hc.symm, fun _ => (kr_uL _ _).trans (congrArg Int32.toInt64 e9)⟩ dL_ropesOf_16
  · have hM := x_X0_ropesOf l hl0 D cy h a N L A x hc
    rcases kr_cdX hc with ⟨e1, -⟩ | ⟨e1, h2a, h2b⟩ | ⟨e1, h3a, h3b, h3c⟩
    · rw [e1, kr_E1] at hM
      refine kr_h1 (n := 1) (As := [.int x]) (rest := [.int 0, .ref o]) ⟨hx, hb, hml, hown, hts⟩ hM kg_RL_69 ⟨rfl, rfl⟩ (by decide +kernel) ⟨Nat.le_of_ble_eq_true rfl, Nat.le_of_ble_eq_true rfl⟩ (kr_pvt hP hK hT) rfl hl.1 rfl (Nat.le_of_ble_eq_true rfl) dL_ropesOf_4 ⟨Nat.le_of_ble_eq_true rfl, Nat.le_of_ble_eq_true rfl⟩ hT htab ⟨by decide, by decide⟩ (fun q9 H hz hk9 => ?_)
      have hP := kr_lkP hP hk9
      have hS := kr_lkS (AA := AA) hz hk9
      refine lv_astore_n (lv' := [(3, .ref q9), (0, .ref h), (1, .int x), (2, .ref o)]) hx hb dL_ropesOf_12 rfl hl (by decide) rfl (fun ls hl => ?_)
      refine lv_iconst (v := 1) hx hb dL_ropesOf_13 (by decide) ?_
      exact kr_lI hx hb hr hlocks hP hK hD hS ⟨e1.symm, fun w => absurd w hc⟩ dL_ropesOf_14
    · exact absurd trivial h2b
    · exact absurd trivial h3c
theorem kg_RL_78 : GoodIn kr_all (wsV RL 78 RX0 yX0_weakestPlace (Cond.code yX0_weakestPlace cX0_weakestPlace 6 (some .int) :: kr_all)) := kr_gV kq_510 kq_282 kq_283 kq_48 kq_284
set_option maxHeartbeats 4000000 in
set_option maxRecDepth 100000 in
theorem h_L_weakestPlace (l : Launch) (hl0 : l.stackTraces = false) (D : va_G) (cy cl : ClassId) (h : Nat) (a : Nat → Nat) (o N L : Nat) (A : Nat → Nat → Int32) (O : Nat → Int64) (sz : Nat) (x : Int32) (hw : kr_wf N L A) : Met l yL_weakestPlace (Cond.codeWith yL_weakestPlace cL_weakestPlace 4 (some .int) [(0, 9, 12, 13)] :: kr_all) ({ frames := 8, cells := 1, slots := 6, locals := 136 }) (va_Pc [.ref h, .int x, .ref o] (kr_Lw D (kr_WL cy cl h a o N L A O) cy cl sz)) (va_Qi (fun r (O' : Nat → Int64) => r = kr_cd (kr_i L x) True True ∧ (kr_cd (kr_i L x) True True = 0 → O' 0 = Int32.toInt64 (kr_wk A (kr_ix x) (kr_rc A (kr_ix x)) 0 (-1)))) (fun O' t => kr_Lq D (kr_WL cy cl h a o N L A O') cy cl (va_A (kr_WL cy cl h a o N L A O) sz) t) (va_A (kr_WL cy cl h a o N L A O) sz)) 1 6 (va_A (kr_WL cy cl h a o N L A O) sz) := by
  refine kr_ofL (Qc := fun AA => va_Qi (fun r (O' : Nat → Int64) => r = kr_cd (kr_i L x) True True ∧ (kr_cd (kr_i L x) True True = 0 → O' 0 = Int32.toInt64 (kr_wk A (kr_ix x) (kr_rc A (kr_ix x)) 0 (-1)))) (fun O' t => kr_Lq D (kr_WL cy cl h a o N L A O') cy cl AA t) AA) (by decide) (Nat.le_of_ble_eq_true rfl) ?_
  intro p e s m below meth c ls AA hx hb hml hr hts hown hlocks htab hA hP hK hD hS hT hl
  have hown : s.vm.findClass RL = some m.cls := hown
  have hl : lv_has ls 4 [(0, .ref h), (1, .int x), (2, .ref o)] := hl
  refine lv_aload_n hx hb dL_weakestPlace_0 rfl (lv_at hl 2 rfl) ?_
  refine lv_iconst (v := 0) hx hb dL_weakestPlace_1 (by decide) ?_
  refine lv_aload_n hx hb dL_weakestPlace_2 rfl (lv_at hl 0 rfl) ?_
  refine lv_iload_n hx hb dL_weakestPlace_3 rfl (lv_at hl 1 rfl) ?_
  by_cases hc : kr_cd (kr_i L x) True True = 0
  · obtain ⟨hc1, hc2, hc3⟩ := kr_cdE hc
    obtain ⟨hk, ex⟩ := kr_exL hw hc1
    have hM := c_X0_weakestPlace l D cy h a N L A (kr_ix x) hw hk
    rw [← ex] at hM
    refine kr_vI (n := 1) (As := [.int x]) (rest := [.int 0, .ref o]) ⟨hx, hb, hml, hown, hts⟩ hM kg_RL_78 ⟨rfl, rfl⟩ (by decide +kernel) ⟨Nat.le_of_ble_eq_true rfl, Nat.le_of_ble_eq_true rfl⟩ (kr_pvh hP hK) rfl hl.1 rfl (Nat.le_of_ble_eq_true rfl) dL_weakestPlace_4 ⟨Nat.zero_le _, Nat.zero_le _⟩ (fun r9 e9 => ?_)
    refine lv_i2l (v := r9.toInt64) hx hb dL_weakestPlace_7 rfl ?_
    refine va_last hx hb hK hP hD hS 9 1 rfl rfl (show ¬ ((0 : Int32) < 0 ∨ 1 ≤ (0 : Int32).toNatClampNeg) by decide) dL_weakestPlace_8 (fun H locs hP hD hS => ?_)
    have hP : va_P D vwCl (kr_WL cy cl h a o N L A (vp_updL O (0 : Int32).toNatClampNeg r9.toInt64)) H := hP
    have hD : va_D AA (kr_WL cy cl h a o N L A (vp_updL O (0 : Int32).toNatClampNeg r9.toInt64)) := hD
    refine lv_goto (tgt := 15) hx hb dL_weakestPlace_9 (by decide) ?_
    refine lv_iconst (v := 0) hx hb dL_weakestPlace_15 (by decide) ?_
    refine W.widen (k := 1) (n := 6) (by decide) (by decide) ?_
    exact kr_lI hx hb hr hlocks hP hK hD hS ⟨hc.symm, fun _ => (kr_uL _ _).trans (congrArg Int32.toInt64 e9)⟩ dL_weakestPlace_16
  · have hM := x_X0_weakestPlace l hl0 D cy h a N L A x hc
    rcases kr_cdX hc with ⟨e1, -⟩ | ⟨e1, h2a, h2b⟩ | ⟨e1, h3a, h3b, h3c⟩
    · rw [e1, kr_E1] at hM
      refine kr_h1 (n := 1) (As := [.int x]) (rest := [.int 0, .ref o]) ⟨hx, hb, hml, hown, hts⟩ hM kg_RL_78 ⟨rfl, rfl⟩ (by decide +kernel) ⟨Nat.le_of_ble_eq_true rfl, Nat.le_of_ble_eq_true rfl⟩ (kr_pvt hP hK hT) rfl hl.1 rfl (Nat.le_of_ble_eq_true rfl) dL_weakestPlace_4 ⟨Nat.le_of_ble_eq_true rfl, Nat.le_of_ble_eq_true rfl⟩ hT htab ⟨by decide, by decide⟩ (fun q9 H hz hk9 => ?_)
      have hP := kr_lkP hP hk9
      have hS := kr_lkS (AA := AA) hz hk9
      refine lv_astore_n (lv' := [(3, .ref q9), (0, .ref h), (1, .int x), (2, .ref o)]) hx hb dL_weakestPlace_12 rfl hl (by decide) rfl (fun ls hl => ?_)
      refine lv_iconst (v := 1) hx hb dL_weakestPlace_13 (by decide) ?_
      exact kr_lI hx hb hr hlocks hP hK hD hS ⟨e1.symm, fun w => absurd w hc⟩ dL_weakestPlace_14
    · exact absurd trivial h2b
    · exact absurd trivial h3c
theorem kg_RL_85 : GoodIn kr_all (wsV RL 85 RX0 yX0_holdsUpTo (Cond.code yX0_holdsUpTo cX0_holdsUpTo 2 (some .int) :: kr_all)) := kr_gV kq_521 kq_110 kq_111 kq_48 kq_112
set_option maxHeartbeats 4000000 in
set_option maxRecDepth 100000 in
theorem h_L_holdsUpTo (l : Launch) (hl0 : l.stackTraces = false) (D : va_G) (cy cl : ClassId) (h : Nat) (a : Nat → Nat) (o N L : Nat) (A : Nat → Nat → Int32) (O : Nat → Int64) (sz : Nat) (x : Int32) (hw : kr_wf N L A) : Met l yL_holdsUpTo (Cond.codeWith yL_holdsUpTo cL_holdsUpTo 4 (some .int) [(0, 9, 12, 13)] :: kr_all) ({ frames := 8, cells := 1, slots := 6, locals := 132 }) (va_Pc [.ref h, .int x, .ref o] (kr_Lw D (kr_WL cy cl h a o N L A O) cy cl sz)) (va_Qi (fun r (O' : Nat → Int64) => r = kr_cd (kr_i L x) True True ∧ (kr_cd (kr_i L x) True True = 0 → O' 0 = Int32.toInt64 (kr_hu A (kr_ix x)))) (fun O' t => kr_Lq D (kr_WL cy cl h a o N L A O') cy cl (va_A (kr_WL cy cl h a o N L A O) sz) t) (va_A (kr_WL cy cl h a o N L A O) sz)) 1 6 (va_A (kr_WL cy cl h a o N L A O) sz) := by
  refine kr_ofL (Qc := fun AA => va_Qi (fun r (O' : Nat → Int64) => r = kr_cd (kr_i L x) True True ∧ (kr_cd (kr_i L x) True True = 0 → O' 0 = Int32.toInt64 (kr_hu A (kr_ix x)))) (fun O' t => kr_Lq D (kr_WL cy cl h a o N L A O') cy cl AA t) AA) (by decide) (Nat.le_of_ble_eq_true rfl) ?_
  intro p e s m below meth c ls AA hx hb hml hr hts hown hlocks htab hA hP hK hD hS hT hl
  have hown : s.vm.findClass RL = some m.cls := hown
  have hl : lv_has ls 4 [(0, .ref h), (1, .int x), (2, .ref o)] := hl
  refine lv_aload_n hx hb dL_holdsUpTo_0 rfl (lv_at hl 2 rfl) ?_
  refine lv_iconst (v := 0) hx hb dL_holdsUpTo_1 (by decide) ?_
  refine lv_aload_n hx hb dL_holdsUpTo_2 rfl (lv_at hl 0 rfl) ?_
  refine lv_iload_n hx hb dL_holdsUpTo_3 rfl (lv_at hl 1 rfl) ?_
  by_cases hc : kr_cd (kr_i L x) True True = 0
  · obtain ⟨hc1, hc2, hc3⟩ := kr_cdE hc
    obtain ⟨hk, ex⟩ := kr_exL hw hc1
    have hM := c_X0_holdsUpTo l D cy h a N L A (kr_ix x) hw hk
    rw [← ex] at hM
    refine kr_vI (n := 1) (As := [.int x]) (rest := [.int 0, .ref o]) ⟨hx, hb, hml, hown, hts⟩ hM kg_RL_85 ⟨rfl, rfl⟩ (by decide +kernel) ⟨Nat.le_of_ble_eq_true rfl, Nat.le_of_ble_eq_true rfl⟩ (kr_pvh hP hK) rfl hl.1 rfl (Nat.le_of_ble_eq_true rfl) dL_holdsUpTo_4 ⟨Nat.zero_le _, Nat.zero_le _⟩ (fun r9 e9 => ?_)
    refine lv_i2l (v := r9.toInt64) hx hb dL_holdsUpTo_7 rfl ?_
    refine va_last hx hb hK hP hD hS 9 1 rfl rfl (show ¬ ((0 : Int32) < 0 ∨ 1 ≤ (0 : Int32).toNatClampNeg) by decide) dL_holdsUpTo_8 (fun H locs hP hD hS => ?_)
    have hP : va_P D vwCl (kr_WL cy cl h a o N L A (vp_updL O (0 : Int32).toNatClampNeg r9.toInt64)) H := hP
    have hD : va_D AA (kr_WL cy cl h a o N L A (vp_updL O (0 : Int32).toNatClampNeg r9.toInt64)) := hD
    refine lv_goto (tgt := 15) hx hb dL_holdsUpTo_9 (by decide) ?_
    refine lv_iconst (v := 0) hx hb dL_holdsUpTo_15 (by decide) ?_
    refine W.widen (k := 1) (n := 6) (by decide) (by decide) ?_
    exact kr_lI hx hb hr hlocks hP hK hD hS ⟨hc.symm, fun _ => (kr_uL _ _).trans (congrArg Int32.toInt64 e9)⟩ dL_holdsUpTo_16
  · have hM := x_X0_holdsUpTo l hl0 D cy h a N L A x hc
    rcases kr_cdX hc with ⟨e1, -⟩ | ⟨e1, h2a, h2b⟩ | ⟨e1, h3a, h3b, h3c⟩
    · rw [e1, kr_E1] at hM
      refine kr_h1 (n := 1) (As := [.int x]) (rest := [.int 0, .ref o]) ⟨hx, hb, hml, hown, hts⟩ hM kg_RL_85 ⟨rfl, rfl⟩ (by decide +kernel) ⟨Nat.le_of_ble_eq_true rfl, Nat.le_of_ble_eq_true rfl⟩ (kr_pvt hP hK hT) rfl hl.1 rfl (Nat.le_of_ble_eq_true rfl) dL_holdsUpTo_4 ⟨Nat.le_of_ble_eq_true rfl, Nat.le_of_ble_eq_true rfl⟩ hT htab ⟨by decide, by decide⟩ (fun q9 H hz hk9 => ?_)
      have hP := kr_lkP hP hk9
      have hS := kr_lkS (AA := AA) hz hk9
      refine lv_astore_n (lv' := [(3, .ref q9), (0, .ref h), (1, .int x), (2, .ref o)]) hx hb dL_holdsUpTo_12 rfl hl (by decide) rfl (fun ls hl => ?_)
      refine lv_iconst (v := 1) hx hb dL_holdsUpTo_13 (by decide) ?_
      exact kr_lI hx hb hr hlocks hP hK hD hS ⟨e1.symm, fun w => absurd w hc⟩ dL_holdsUpTo_14
    · exact absurd trivial h2b
    · exact absurd trivial h3c
theorem kg_RL_35 : GoodIn kr_all (wsV RL 35 RX0 yX0_knotsOf (Cond.code yX0_knotsOf cX0_knotsOf 2 (some .int) :: kr_all)) := kr_gV kq_433 kq_434 kq_435 kq_48 kq_436
set_option maxHeartbeats 4000000 in
set_option maxRecDepth 100000 in
theorem h_L_knotsOf (l : Launch) (hl0 : l.stackTraces = false) (D : va_G) (cy cl : ClassId) (h : Nat) (a : Nat → Nat) (o N L : Nat) (A : Nat → Nat → Int32) (O : Nat → Int64) (sz : Nat) (x : Int32) (hw : kr_wf N L A) : Met l yL_knotsOf (Cond.codeWith yL_knotsOf cL_knotsOf 4 (some .int) [(0, 9, 12, 13)] :: kr_all) ({ frames := 8, cells := 1, slots := 6, locals := 131 }) (va_Pc [.ref h, .int x, .ref o] (kr_Lw D (kr_WL cy cl h a o N L A O) cy cl sz)) (va_Qi (fun r (O' : Nat → Int64) => r = kr_cd (x = 0 ∨ x = 1) True True ∧ (kr_cd (x = 0 ∨ x = 1) True True = 0 → O' 0 = Int32.toInt64 (nI (kr_cn A x N)))) (fun O' t => kr_Lq D (kr_WL cy cl h a o N L A O') cy cl (va_A (kr_WL cy cl h a o N L A O) sz) t) (va_A (kr_WL cy cl h a o N L A O) sz)) 1 6 (va_A (kr_WL cy cl h a o N L A O) sz) := by
  refine kr_ofL (Qc := fun AA => va_Qi (fun r (O' : Nat → Int64) => r = kr_cd (x = 0 ∨ x = 1) True True ∧ (kr_cd (x = 0 ∨ x = 1) True True = 0 → O' 0 = Int32.toInt64 (nI (kr_cn A x N)))) (fun O' t => kr_Lq D (kr_WL cy cl h a o N L A O') cy cl AA t) AA) (by decide) (Nat.le_of_ble_eq_true rfl) ?_
  intro p e s m below meth c ls AA hx hb hml hr hts hown hlocks htab hA hP hK hD hS hT hl
  have hown : s.vm.findClass RL = some m.cls := hown
  have hl : lv_has ls 4 [(0, .ref h), (1, .int x), (2, .ref o)] := hl
  refine lv_aload_n hx hb dL_knotsOf_0 rfl (lv_at hl 2 rfl) ?_
  refine lv_iconst (v := 0) hx hb dL_knotsOf_1 (by decide) ?_
  refine lv_aload_n hx hb dL_knotsOf_2 rfl (lv_at hl 0 rfl) ?_
  refine lv_iload_n hx hb dL_knotsOf_3 rfl (lv_at hl 1 rfl) ?_
  by_cases hc : kr_cd (x = 0 ∨ x = 1) True True = 0
  · obtain ⟨hc1, hc2, hc3⟩ := kr_cdE hc
    have hM := c_X0_knotsOf l D cy h a N L A x hw.1 hc1
    refine kr_vI (n := 1) (As := [.int x]) (rest := [.int 0, .ref o]) ⟨hx, hb, hml, hown, hts⟩ hM kg_RL_35 ⟨rfl, rfl⟩ (by decide +kernel) ⟨Nat.le_of_ble_eq_true rfl, Nat.le_of_ble_eq_true rfl⟩ (kr_pvh hP hK) rfl hl.1 rfl (Nat.le_of_ble_eq_true rfl) dL_knotsOf_4 ⟨Nat.zero_le _, Nat.zero_le _⟩ (fun r9 e9 => ?_)
    refine lv_i2l (v := r9.toInt64) hx hb dL_knotsOf_7 rfl ?_
    refine va_last hx hb hK hP hD hS 9 1 rfl rfl (show ¬ ((0 : Int32) < 0 ∨ 1 ≤ (0 : Int32).toNatClampNeg) by decide) dL_knotsOf_8 (fun H locs hP hD hS => ?_)
    have hP : va_P D vwCl (kr_WL cy cl h a o N L A (vp_updL O (0 : Int32).toNatClampNeg r9.toInt64)) H := hP
    have hD : va_D AA (kr_WL cy cl h a o N L A (vp_updL O (0 : Int32).toNatClampNeg r9.toInt64)) := hD
    refine lv_goto (tgt := 15) hx hb dL_knotsOf_9 (by decide) ?_
    refine lv_iconst (v := 0) hx hb dL_knotsOf_15 (by decide) ?_
    refine W.widen (k := 1) (n := 6) (by decide) (by decide) ?_
    exact kr_lI hx hb hr hlocks hP hK hD hS ⟨hc.symm, fun _ => (kr_uL _ _).trans (congrArg Int32.toInt64 e9)⟩ dL_knotsOf_16
  · have hM := x_X0_knotsOf l hl0 D cy h a N L A x hc
    rcases kr_cdX hc with ⟨e1, -⟩ | ⟨e1, h2a, h2b⟩ | ⟨e1, h3a, h3b, h3c⟩
    · rw [e1, kr_E1] at hM
      refine kr_h1 (n := 1) (As := [.int x]) (rest := [.int 0, .ref o]) ⟨hx, hb, hml, hown, hts⟩ hM kg_RL_35 ⟨rfl, rfl⟩ (by decide +kernel) ⟨Nat.le_of_ble_eq_true rfl, Nat.le_of_ble_eq_true rfl⟩ (kr_pvt hP hK hT) rfl hl.1 rfl (Nat.le_of_ble_eq_true rfl) dL_knotsOf_4 ⟨Nat.le_of_ble_eq_true rfl, Nat.le_of_ble_eq_true rfl⟩ hT htab ⟨by decide, by decide⟩ (fun q9 H hz hk9 => ?_)
      have hP := kr_lkP hP hk9
      have hS := kr_lkS (AA := AA) hz hk9
      refine lv_astore_n (lv' := [(3, .ref q9), (0, .ref h), (1, .int x), (2, .ref o)]) hx hb dL_knotsOf_12 rfl hl (by decide) rfl (fun ls hl => ?_)
      refine lv_iconst (v := 1) hx hb dL_knotsOf_13 (by decide) ?_
      exact kr_lI hx hb hr hlocks hP hK hD hS ⟨e1.symm, fun w => absurd w hc⟩ dL_knotsOf_14
    · exact absurd trivial h2b
    · exact absurd trivial h3c
theorem kg_RL_57 : GoodIn kr_all (wsV RL 57 RX0 yX0_knotAt (Cond.code yX0_knotAt cX0_knotAt 4 (some .int) :: kr_all)) := kr_gV kq_468 kq_469 kq_470 kq_48 kq_471
set_option maxHeartbeats 4000000 in
set_option maxRecDepth 100000 in
theorem h_L_knotAt (l : Launch) (hl0 : l.stackTraces = false) (D : va_G) (cy cl : ClassId) (h : Nat) (a : Nat → Nat) (o N L : Nat) (A : Nat → Nat → Int32) (O : Nat → Int64) (sz : Nat) (x y : Int32) (hw : kr_wf N L A) : Met l yL_knotAt (Cond.codeWith yL_knotAt cL_knotAt 5 (some .int) [(0, 10, 13, 13)] :: kr_all) ({ frames := 8, cells := 1, slots := 6, locals := 133 }) (va_Pc [.ref h, .int x, .int y, .ref o] (kr_Lw D (kr_WL cy cl h a o N L A O) cy cl sz)) (va_Qi (fun r (O' : Nat → Int64) => r = kr_cd ((x = 0 ∨ x = 1) ∧ ¬ kr_kw A N x y N 0 = -1) True True ∧ (kr_cd ((x = 0 ∨ x = 1) ∧ ¬ kr_kw A N x y N 0 = -1) True True = 0 → O' 0 = Int32.toInt64 (kr_kw A N x y N 0))) (fun O' t => kr_Lq D (kr_WL cy cl h a o N L A O') cy cl (va_A (kr_WL cy cl h a o N L A O) sz) t) (va_A (kr_WL cy cl h a o N L A O) sz)) 1 6 (va_A (kr_WL cy cl h a o N L A O) sz) := by
  refine kr_ofL (Qc := fun AA => va_Qi (fun r (O' : Nat → Int64) => r = kr_cd ((x = 0 ∨ x = 1) ∧ ¬ kr_kw A N x y N 0 = -1) True True ∧ (kr_cd ((x = 0 ∨ x = 1) ∧ ¬ kr_kw A N x y N 0 = -1) True True = 0 → O' 0 = Int32.toInt64 (kr_kw A N x y N 0))) (fun O' t => kr_Lq D (kr_WL cy cl h a o N L A O') cy cl AA t) AA) (by decide) (Nat.le_of_ble_eq_true rfl) ?_
  intro p e s m below meth c ls AA hx hb hml hr hts hown hlocks htab hA hP hK hD hS hT hl
  have hown : s.vm.findClass RL = some m.cls := hown
  have hl : lv_has ls 5 [(0, .ref h), (1, .int x), (2, .int y), (3, .ref o)] := hl
  refine lv_aload_n hx hb dL_knotAt_0 rfl (lv_at hl 3 rfl) ?_
  refine lv_iconst (v := 0) hx hb dL_knotAt_1 (by decide) ?_
  refine lv_aload_n hx hb dL_knotAt_2 rfl (lv_at hl 0 rfl) ?_
  refine lv_iload_n hx hb dL_knotAt_3 rfl (lv_at hl 1 rfl) ?_
  refine lv_iload_n hx hb dL_knotAt_4 rfl (lv_at hl 2 rfl) ?_
  by_cases hc : kr_cd ((x = 0 ∨ x = 1) ∧ ¬ kr_kw A N x y N 0 = -1) True True = 0
  · obtain ⟨hc1, hc2, hc3⟩ := kr_cdE hc
    have hM := c_X0_knotAt l D cy h a N L A x y hw.1 hc1.1 hc1.2
    refine kr_vI (n := 2) (As := [.int x, .int y]) (rest := [.int 0, .ref o]) ⟨hx, hb, hml, hown, hts⟩ hM kg_RL_57 ⟨rfl, rfl⟩ (by decide +kernel) ⟨Nat.le_of_ble_eq_true rfl, Nat.le_of_ble_eq_true rfl⟩ (kr_pvh hP hK) rfl hl.1 rfl (Nat.le_of_ble_eq_true rfl) dL_knotAt_5 ⟨Nat.zero_le _, Nat.zero_le _⟩ (fun r9 e9 => ?_)
    refine lv_i2l (v := r9.toInt64) hx hb dL_knotAt_8 rfl ?_
    refine va_last hx hb hK hP hD hS 9 1 rfl rfl (show ¬ ((0 : Int32) < 0 ∨ 1 ≤ (0 : Int32).toNatClampNeg) by decide) dL_knotAt_9 (fun H locs hP hD hS => ?_)
    have hP : va_P D vwCl (kr_WL cy cl h a o N L A (vp_updL O (0 : Int32).toNatClampNeg r9.toInt64)) H := hP
    have hD : va_D AA (kr_WL cy cl h a o N L A (vp_updL O (0 : Int32).toNatClampNeg r9.toInt64)) := hD
    refine lv_goto (tgt := 17) hx hb dL_knotAt_10 (by decide) ?_
    refine lv_iconst (v := 0) hx hb dL_knotAt_17 (by decide) ?_
    refine W.widen (k := 1) (n := 6) (by decide) (by decide) ?_
    exact kr_lI hx hb hr hlocks hP hK hD hS ⟨hc.symm, fun _ => (kr_uL _ _).trans (congrArg Int32.toInt64 e9)⟩ dL_knotAt_18
  · have hM := x_X0_knotAt l hl0 D cy h a N L A x y hw.1 hc
    rcases kr_cdX hc with ⟨e1, -⟩ | ⟨e1, h2a, h2b⟩ | ⟨e1, h3a, h3b, h3c⟩
    · rw [e1, kr_E1] at hM
      refine kr_h1 (n := 2) (As := [.int x, .int y]) (rest := [.int 0, .ref o]) ⟨hx, hb, hml, hown, hts⟩ hM kg_RL_57 ⟨rfl, rfl⟩ (by decide +kernel) ⟨Nat.le_of_ble_eq_true rfl, Nat.le_of_ble_eq_true rfl⟩ (kr_pvt hP hK hT) rfl hl.1 rfl (Nat.le_of_ble_eq_true rfl) dL_knotAt_5 ⟨Nat.le_of_ble_eq_true rfl, Nat.le_of_ble_eq_true rfl⟩ hT htab ⟨by decide, by decide⟩ (fun q9 H hz hk9 => ?_)
      have hP := kr_lkP hP hk9
      have hS := kr_lkS (AA := AA) hz hk9
      refine lv_astore (lv' := [(4, .ref q9), (0, .ref h), (1, .int x), (2, .int y), (3, .ref o)]) hx hb dL_knotAt_13 hl (by decide) rfl (fun ls hl => ?_)
      refine lv_iconst (v := 1) hx hb dL_knotAt_15 (by decide) ?_
      exact kr_lI hx hb hr hlocks hP hK hD hS ⟨e1.symm, fun w => absurd w hc⟩ dL_knotAt_16
    · exact absurd trivial h2b
    · exact absurd trivial h3c
theorem kg_RL_72 : GoodIn kr_all (wsV RL 72 RX0 yX0_knotOf (Cond.code yX0_knotOf cX0_knotOf 3 (some .int) :: kr_all)) := kr_gV kq_502 kq_291 kq_292 kq_48 kq_293
set_option maxHeartbeats 4000000 in
set_option maxRecDepth 100000 in
theorem h_L_knotOf (l : Launch) (hl0 : l.stackTraces = false) (D : va_G) (cy cl : ClassId) (h : Nat) (a : Nat → Nat) (o N L : Nat) (A : Nat → Nat → Int32) (O : Nat → Int64) (sz : Nat) (x y : Int32) (hw : kr_wf N L A) : Met l yL_knotOf (Cond.codeWith yL_knotOf cL_knotOf 5 (some .int) [(0, 10, 13, 13)] :: kr_all) ({ frames := 9, cells := 1, slots := 6, locals := 155 }) (va_Pc [.ref h, .int x, .int y, .ref o] (kr_Lw D (kr_WL cy cl h a o N L A O) cy cl sz)) (va_Qi (fun r (O' : Nat → Int64) => r = kr_cd (kr_q L A x y) True True ∧ (kr_cd (kr_q L A x y) True True = 0 → O' 0 = Int32.toInt64 (A 6 (5 * kr_ix x + kr_ix y)))) (fun O' t => kr_Lq D (kr_WL cy cl h a o N L A O') cy cl (va_A (kr_WL cy cl h a o N L A O) sz) t) (va_A (kr_WL cy cl h a o N L A O) sz)) 1 6 (va_A (kr_WL cy cl h a o N L A O) sz) := by
  refine kr_ofL (Qc := fun AA => va_Qi (fun r (O' : Nat → Int64) => r = kr_cd (kr_q L A x y) True True ∧ (kr_cd (kr_q L A x y) True True = 0 → O' 0 = Int32.toInt64 (A 6 (5 * kr_ix x + kr_ix y)))) (fun O' t => kr_Lq D (kr_WL cy cl h a o N L A O') cy cl AA t) AA) (by decide) (Nat.le_of_ble_eq_true rfl) ?_
  intro p e s m below meth c ls AA hx hb hml hr hts hown hlocks htab hA hP hK hD hS hT hl
  have hown : s.vm.findClass RL = some m.cls := hown
  have hl : lv_has ls 5 [(0, .ref h), (1, .int x), (2, .int y), (3, .ref o)] := hl
  refine lv_aload_n hx hb dL_knotOf_0 rfl (lv_at hl 3 rfl) ?_
  refine lv_iconst (v := 0) hx hb dL_knotOf_1 (by decide) ?_
  refine lv_aload_n hx hb dL_knotOf_2 rfl (lv_at hl 0 rfl) ?_
  refine lv_iload_n hx hb dL_knotOf_3 rfl (lv_at hl 1 rfl) ?_
  refine lv_iload_n hx hb dL_knotOf_4 rfl (lv_at hl 2 rfl) ?_
  by_cases hc : kr_cd (kr_q L A x y) True True = 0
  · obtain ⟨hc1, hc2, hc3⟩ := kr_cdE hc
    obtain ⟨hk, hp, ex, ey⟩ := kr_exP hw hc1
    have hM := c_X0_knotOf l D cy h a N L A (kr_ix x) (kr_ix y) hw hk hp
    rw [← ex, ← ey] at hM
    refine kr_vI (n := 2) (As := [.int x, .int y]) (rest := [.int 0, .ref o]) ⟨hx, hb, hml, hown, hts⟩ hM kg_RL_72 ⟨rfl, rfl⟩ (by decide +kernel) ⟨Nat.le_of_ble_eq_true rfl, Nat.le_of_ble_eq_true rfl⟩ (kr_pvh hP hK) rfl hl.1 rfl (Nat.le_of_ble_eq_true rfl) dL_knotOf_5 ⟨Nat.zero_le _, Nat.zero_le _⟩ (fun r9 e9 => ?_)
    refine lv_i2l (v := r9.toInt64) hx hb dL_knotOf_8 rfl ?_
    refine va_last hx hb hK hP hD hS 9 1 rfl rfl (show ¬ ((0 : Int32) < 0 ∨ 1 ≤ (0 : Int32).toNatClampNeg) by decide) dL_knotOf_9 (fun H locs hP hD hS => ?_)
    have hP : va_P D vwCl (kr_WL cy cl h a o N L A (vp_updL O (0 : Int32).toNatClampNeg r9.toInt64)) H := hP
    have hD : va_D AA (kr_WL cy cl h a o N L A (vp_updL O (0 : Int32).toNatClampNeg r9.toInt64)) := hD
    refine lv_goto (tgt := 17) hx hb dL_knotOf_10 (by decide) ?_
    refine lv_iconst (v := 0) hx hb dL_knotOf_17 (by decide) ?_
    refine W.widen (k := 1) (n := 6) (by decide) (by decide) ?_
    exact kr_lI hx hb hr hlocks hP hK hD hS ⟨hc.symm, fun _ => (kr_uL _ _).trans (congrArg Int32.toInt64 e9)⟩ dL_knotOf_18
  · have hM := x_X0_knotOf l hl0 D cy h a N L A x y hw hc
    rcases kr_cdX hc with ⟨e1, -⟩ | ⟨e1, h2a, h2b⟩ | ⟨e1, h3a, h3b, h3c⟩
    · rw [e1, kr_E1] at hM
      refine kr_h1 (n := 2) (As := [.int x, .int y]) (rest := [.int 0, .ref o]) ⟨hx, hb, hml, hown, hts⟩ hM kg_RL_72 ⟨rfl, rfl⟩ (by decide +kernel) ⟨Nat.le_of_ble_eq_true rfl, Nat.le_of_ble_eq_true rfl⟩ (kr_pvt hP hK hT) rfl hl.1 rfl (Nat.le_of_ble_eq_true rfl) dL_knotOf_5 ⟨Nat.le_of_ble_eq_true rfl, Nat.le_of_ble_eq_true rfl⟩ hT htab ⟨by decide, by decide⟩ (fun q9 H hz hk9 => ?_)
      have hP := kr_lkP hP hk9
      have hS := kr_lkS (AA := AA) hz hk9
      refine lv_astore (lv' := [(4, .ref q9), (0, .ref h), (1, .int x), (2, .int y), (3, .ref o)]) hx hb dL_knotOf_13 hl (by decide) rfl (fun ls hl => ?_)
      refine lv_iconst (v := 1) hx hb dL_knotOf_15 (by decide) ?_
      exact kr_lI hx hb hr hlocks hP hK hD hS ⟨e1.symm, fun w => absurd w hc⟩ dL_knotOf_16
    · exact absurd trivial h2b
    · exact absurd trivial h3c
theorem kg_RL_75 : GoodIn kr_all (wsV RL 75 RX0 yX0_strengthAt (Cond.code yX0_strengthAt cX0_strengthAt 3 (some .int) :: kr_all)) := kr_gV kq_506 kq_300 kq_301 kq_48 kq_302
set_option maxHeartbeats 4000000 in
set_option maxRecDepth 100000 in
theorem h_L_strengthAt (l : Launch) (hl0 : l.stackTraces = false) (D : va_G) (cy cl : ClassId) (h : Nat) (a : Nat → Nat) (o N L : Nat) (A : Nat → Nat → Int32) (O : Nat → Int64) (sz : Nat) (x y : Int32) (hw : kr_wf N L A) : Met l yL_strengthAt (Cond.codeWith yL_strengthAt cL_strengthAt 5 (some .int) [(0, 10, 13, 13)] :: kr_all) ({ frames := 9, cells := 1, slots := 6, locals := 155 }) (va_Pc [.ref h, .int x, .int y, .ref o] (kr_Lw D (kr_WL cy cl h a o N L A O) cy cl sz)) (va_Qi (fun r (O' : Nat → Int64) => r = kr_cd (kr_q L A x y) True True ∧ (kr_cd (kr_q L A x y) True True = 0 → O' 0 = Int32.toInt64 (kr_nw A (kr_ix x) (kr_ix y)))) (fun O' t => kr_Lq D (kr_WL cy cl h a o N L A O') cy cl (va_A (kr_WL cy cl h a o N L A O) sz) t) (va_A (kr_WL cy cl h a o N L A O) sz)) 1 6 (va_A (kr_WL cy cl h a o N L A O) sz) := by
  refine kr_ofL (Qc := fun AA => va_Qi (fun r (O' : Nat → Int64) => r = kr_cd (kr_q L A x y) True True ∧ (kr_cd (kr_q L A x y) True True = 0 → O' 0 = Int32.toInt64 (kr_nw A (kr_ix x) (kr_ix y)))) (fun O' t => kr_Lq D (kr_WL cy cl h a o N L A O') cy cl AA t) AA) (by decide) (Nat.le_of_ble_eq_true rfl) ?_
  intro p e s m below meth c ls AA hx hb hml hr hts hown hlocks htab hA hP hK hD hS hT hl
  have hown : s.vm.findClass RL = some m.cls := hown
  have hl : lv_has ls 5 [(0, .ref h), (1, .int x), (2, .int y), (3, .ref o)] := hl
  refine lv_aload_n hx hb dL_strengthAt_0 rfl (lv_at hl 3 rfl) ?_
  refine lv_iconst (v := 0) hx hb dL_strengthAt_1 (by decide) ?_
  refine lv_aload_n hx hb dL_strengthAt_2 rfl (lv_at hl 0 rfl) ?_
  refine lv_iload_n hx hb dL_strengthAt_3 rfl (lv_at hl 1 rfl) ?_
  refine lv_iload_n hx hb dL_strengthAt_4 rfl (lv_at hl 2 rfl) ?_
  by_cases hc : kr_cd (kr_q L A x y) True True = 0
  · obtain ⟨hc1, hc2, hc3⟩ := kr_cdE hc
    obtain ⟨hk, hp, ex, ey⟩ := kr_exP hw hc1
    have hM := c_X0_strengthAt l D cy h a N L A (kr_ix x) (kr_ix y) hw hk hp
    rw [← ex, ← ey] at hM
    refine kr_vI (n := 2) (As := [.int x, .int y]) (rest := [.int 0, .ref o]) ⟨hx, hb, hml, hown, hts⟩ hM kg_RL_75 ⟨rfl, rfl⟩ (by decide +kernel) ⟨Nat.le_of_ble_eq_true rfl, Nat.le_of_ble_eq_true rfl⟩ (kr_pvh hP hK) rfl hl.1 rfl (Nat.le_of_ble_eq_true rfl) dL_strengthAt_5 ⟨Nat.zero_le _, Nat.zero_le _⟩ (fun r9 e9 => ?_)
    refine lv_i2l (v := r9.toInt64) hx hb dL_strengthAt_8 rfl ?_
    refine va_last hx hb hK hP hD hS 9 1 rfl rfl (show ¬ ((0 : Int32) < 0 ∨ 1 ≤ (0 : Int32).toNatClampNeg) by decide) dL_strengthAt_9 (fun H locs hP hD hS => ?_)
    have hP : va_P D vwCl (kr_WL cy cl h a o N L A (vp_updL O (0 : Int32).toNatClampNeg r9.toInt64)) H := hP
    have hD : va_D AA (kr_WL cy cl h a o N L A (vp_updL O (0 : Int32).toNatClampNeg r9.toInt64)) := hD
    refine lv_goto (tgt := 17) hx hb dL_strengthAt_10 (by decide) ?_
    refine lv_iconst (v := 0) hx hb dL_strengthAt_17 (by decide) ?_
    refine W.widen (k := 1) (n := 6) (by decide) (by decide) ?_
    exact kr_lI hx hb hr hlocks hP hK hD hS ⟨hc.symm, fun _ => (kr_uL _ _).trans (congrArg Int32.toInt64 e9)⟩ dL_strengthAt_18
  · have hM := x_X0_strengthAt l hl0 D cy h a N L A x y hw hc
    rcases kr_cdX hc with ⟨e1, -⟩ | ⟨e1, h2a, h2b⟩ | ⟨e1, h3a, h3b, h3c⟩
    · rw [e1, kr_E1] at hM
      refine kr_h1 (n := 2) (As := [.int x, .int y]) (rest := [.int 0, .ref o]) ⟨hx, hb, hml, hown, hts⟩ hM kg_RL_75 ⟨rfl, rfl⟩ (by decide +kernel) ⟨Nat.le_of_ble_eq_true rfl, Nat.le_of_ble_eq_true rfl⟩ (kr_pvt hP hK hT) rfl hl.1 rfl (Nat.le_of_ble_eq_true rfl) dL_strengthAt_5 ⟨Nat.le_of_ble_eq_true rfl, Nat.le_of_ble_eq_true rfl⟩ hT htab ⟨by decide, by decide⟩ (fun q9 H hz hk9 => ?_)
      have hP := kr_lkP hP hk9
      have hS := kr_lkS (AA := AA) hz hk9
      refine lv_astore (lv' := [(4, .ref q9), (0, .ref h), (1, .int x), (2, .int y), (3, .ref o)]) hx hb dL_strengthAt_13 hl (by decide) rfl (fun ls hl => ?_)
      refine lv_iconst (v := 1) hx hb dL_strengthAt_15 (by decide) ?_
      exact kr_lI hx hb hr hlocks hP hK hD hS ⟨e1.symm, fun w => absurd w hc⟩ dL_strengthAt_16
    · exact absurd trivial h2b
    · exact absurd trivial h3c
theorem kg_RL_91 : GoodIn kr_all (wsV RL 91 RX0 yX0_bestKnot (Cond.code yX0_bestKnot cX0_bestKnot 10 (some .int) :: kr_all)) := kr_gV kq_532 kq_533 kq_534 kq_48 kq_535
set_option maxHeartbeats 4000000 in
set_option maxRecDepth 100000 in
theorem h_L_bestKnot (l : Launch) (hl0 : l.stackTraces = false) (D : va_G) (cy cl : ClassId) (h : Nat) (a : Nat → Nat) (o N L : Nat) (A : Nat → Nat → Int32) (O : Nat → Int64) (sz : Nat) (x y : Int32) (hw : kr_wf N L A) : Met l yL_bestKnot (Cond.codeWith yL_bestKnot cL_bestKnot 5 (some .int) [(0, 10, 13, 13)] :: kr_all) ({ frames := 9, cells := 1, slots := 6, locals := 162 }) (va_Pc [.ref h, .int x, .int y, .ref o] (kr_Lw D (kr_WL cy cl h a o N L A O) cy cl sz)) (va_Qi (fun r (O' : Nat → Int64) => r = kr_cd (kr_q L A x y) True True ∧ (kr_cd (kr_q L A x y) True True = 0 → O' 0 = Int32.toInt64 (kr_bk A N (kr_ix x) (kr_ix y)))) (fun O' t => kr_Lq D (kr_WL cy cl h a o N L A O') cy cl (va_A (kr_WL cy cl h a o N L A O) sz) t) (va_A (kr_WL cy cl h a o N L A O) sz)) 1 6 (va_A (kr_WL cy cl h a o N L A O) sz) := by
  refine kr_ofL (Qc := fun AA => va_Qi (fun r (O' : Nat → Int64) => r = kr_cd (kr_q L A x y) True True ∧ (kr_cd (kr_q L A x y) True True = 0 → O' 0 = Int32.toInt64 (kr_bk A N (kr_ix x) (kr_ix y)))) (fun O' t => kr_Lq D (kr_WL cy cl h a o N L A O') cy cl AA t) AA) (by decide) (Nat.le_of_ble_eq_true rfl) ?_
  intro p e s m below meth c ls AA hx hb hml hr hts hown hlocks htab hA hP hK hD hS hT hl
  have hown : s.vm.findClass RL = some m.cls := hown
  have hl : lv_has ls 5 [(0, .ref h), (1, .int x), (2, .int y), (3, .ref o)] := hl
  refine lv_aload_n hx hb dL_bestKnot_0 rfl (lv_at hl 3 rfl) ?_
  refine lv_iconst (v := 0) hx hb dL_bestKnot_1 (by decide) ?_
  refine lv_aload_n hx hb dL_bestKnot_2 rfl (lv_at hl 0 rfl) ?_
  refine lv_iload_n hx hb dL_bestKnot_3 rfl (lv_at hl 1 rfl) ?_
  refine lv_iload_n hx hb dL_bestKnot_4 rfl (lv_at hl 2 rfl) ?_
  by_cases hc : kr_cd (kr_q L A x y) True True = 0
  · obtain ⟨hc1, hc2, hc3⟩ := kr_cdE hc
    obtain ⟨hk, hp, ex, ey⟩ := kr_exP hw hc1
    have hM := c_X0_bestKnot l D cy h a N L A (kr_ix x) (kr_ix y) hw hk hp
    rw [← ex, ← ey] at hM
    refine kr_vI (n := 2) (As := [.int x, .int y]) (rest := [.int 0, .ref o]) ⟨hx, hb, hml, hown, hts⟩ hM kg_RL_91 ⟨rfl, rfl⟩ (by decide +kernel) ⟨Nat.le_of_ble_eq_true rfl, Nat.le_of_ble_eq_true rfl⟩ (kr_pvh hP hK) rfl hl.1 rfl (Nat.le_of_ble_eq_true rfl) dL_bestKnot_5 ⟨Nat.zero_le _, Nat.zero_le _⟩ (fun r9 e9 => ?_)
    refine lv_i2l (v := r9.toInt64) hx hb dL_bestKnot_8 rfl ?_
    refine va_last hx hb hK hP hD hS 9 1 rfl rfl (show ¬ ((0 : Int32) < 0 ∨ 1 ≤ (0 : Int32).toNatClampNeg) by decide) dL_bestKnot_9 (fun H locs hP hD hS => ?_)
    have hP : va_P D vwCl (kr_WL cy cl h a o N L A (vp_updL O (0 : Int32).toNatClampNeg r9.toInt64)) H := hP
    have hD : va_D AA (kr_WL cy cl h a o N L A (vp_updL O (0 : Int32).toNatClampNeg r9.toInt64)) := hD
    refine lv_goto (tgt := 17) hx hb dL_bestKnot_10 (by decide) ?_
    refine lv_iconst (v := 0) hx hb dL_bestKnot_17 (by decide) ?_
    refine W.widen (k := 1) (n := 6) (by decide) (by decide) ?_
    exact kr_lI hx hb hr hlocks hP hK hD hS ⟨hc.symm, fun _ => (kr_uL _ _).trans (congrArg Int32.toInt64 e9)⟩ dL_bestKnot_18
  · have hM := x_X0_bestKnot l hl0 D cy h a N L A x y hw hc
    rcases kr_cdX hc with ⟨e1, -⟩ | ⟨e1, h2a, h2b⟩ | ⟨e1, h3a, h3b, h3c⟩
    · rw [e1, kr_E1] at hM
      refine kr_h1 (n := 2) (As := [.int x, .int y]) (rest := [.int 0, .ref o]) ⟨hx, hb, hml, hown, hts⟩ hM kg_RL_91 ⟨rfl, rfl⟩ (by decide +kernel) ⟨Nat.le_of_ble_eq_true rfl, Nat.le_of_ble_eq_true rfl⟩ (kr_pvt hP hK hT) rfl hl.1 rfl (Nat.le_of_ble_eq_true rfl) dL_bestKnot_5 ⟨Nat.le_of_ble_eq_true rfl, Nat.le_of_ble_eq_true rfl⟩ hT htab ⟨by decide, by decide⟩ (fun q9 H hz hk9 => ?_)
      have hP := kr_lkP hP hk9
      have hS := kr_lkS (AA := AA) hz hk9
      refine lv_astore (lv' := [(4, .ref q9), (0, .ref h), (1, .int x), (2, .int y), (3, .ref o)]) hx hb dL_bestKnot_13 hl (by decide) rfl (fun ls hl => ?_)
      refine lv_iconst (v := 1) hx hb dL_bestKnot_15 (by decide) ?_
      exact kr_lI hx hb hr hlocks hP hK hD hS ⟨e1.symm, fun w => absurd w hc⟩ dL_bestKnot_16
    · exact absurd trivial h2b
    · exact absurd trivial h3c
theorem kg_RL_60 : GoodIn kr_all (wsV RL 60 RX0 yX0_formOf (Cond.code yX0_formOf cX0_formOf 3 (some .int) :: kr_all)) := kr_gV kq_480 kq_481 kq_482 kq_48 kq_483
set_option maxHeartbeats 4000000 in
set_option maxRecDepth 100000 in
theorem h_L_formOf (l : Launch) (hl0 : l.stackTraces = false) (D : va_G) (cy cl : ClassId) (h : Nat) (a : Nat → Nat) (o N L : Nat) (A : Nat → Nat → Int32) (O : Nat → Int64) (sz : Nat) (x y : Int32) (hw : kr_wf N L A) : Met l yL_formOf (Cond.codeWith yL_formOf cL_formOf 5 (some .int) [(0, 10, 13, 13), (0, 10, 17, 15)] :: kr_all) ({ frames := 8, cells := 1, slots := 6, locals := 133 }) (va_Pc [.ref h, .int x, .int y, .ref o] (kr_Lw D (kr_WL cy cl h a o N L A O) cy cl sz)) (va_Qi (fun r (O' : Nat → Int64) => r = kr_cd (kr_i N x) (kr_o y) True ∧ (kr_cd (kr_i N x) (kr_o y) True = 0 → O' 0 = Int32.toInt64 (kr_fm A y 16 x))) (fun O' t => kr_Lq D (kr_WL cy cl h a o N L A O') cy cl (va_A (kr_WL cy cl h a o N L A O) sz) t) (va_A (kr_WL cy cl h a o N L A O) sz)) 1 6 (va_A (kr_WL cy cl h a o N L A O) sz) := by
  refine kr_ofL (Qc := fun AA => va_Qi (fun r (O' : Nat → Int64) => r = kr_cd (kr_i N x) (kr_o y) True ∧ (kr_cd (kr_i N x) (kr_o y) True = 0 → O' 0 = Int32.toInt64 (kr_fm A y 16 x))) (fun O' t => kr_Lq D (kr_WL cy cl h a o N L A O') cy cl AA t) AA) (by decide) (Nat.le_of_ble_eq_true rfl) ?_
  intro p e s m below meth c ls AA hx hb hml hr hts hown hlocks htab hA hP hK hD hS hT hl
  have hown : s.vm.findClass RL = some m.cls := hown
  have hl : lv_has ls 5 [(0, .ref h), (1, .int x), (2, .int y), (3, .ref o)] := hl
  refine lv_aload_n hx hb dL_formOf_0 rfl (lv_at hl 3 rfl) ?_
  refine lv_iconst (v := 0) hx hb dL_formOf_1 (by decide) ?_
  refine lv_aload_n hx hb dL_formOf_2 rfl (lv_at hl 0 rfl) ?_
  refine lv_iload_n hx hb dL_formOf_3 rfl (lv_at hl 1 rfl) ?_
  refine lv_iload_n hx hb dL_formOf_4 rfl (lv_at hl 2 rfl) ?_
  by_cases hc : kr_cd (kr_i N x) (kr_o y) True = 0
  · obtain ⟨hc1, hc2, hc3⟩ := kr_cdE hc
    obtain ⟨hk, ex⟩ := kr_exN hw hc1
    have hM := c_X0_formOf l D cy h a N L A (kr_ix x) y hw hk hc2
    rw [← ex] at hM
    refine kr_vI (n := 2) (As := [.int x, .int y]) (rest := [.int 0, .ref o]) ⟨hx, hb, hml, hown, hts⟩ hM kg_RL_60 ⟨rfl, rfl⟩ (by decide +kernel) ⟨Nat.le_of_ble_eq_true rfl, Nat.le_of_ble_eq_true rfl⟩ (kr_pvh hP hK) rfl hl.1 rfl (Nat.le_of_ble_eq_true rfl) dL_formOf_5 ⟨Nat.zero_le _, Nat.zero_le _⟩ (fun r9 e9 => ?_)
    refine lv_i2l (v := r9.toInt64) hx hb dL_formOf_8 rfl ?_
    refine va_last hx hb hK hP hD hS 9 1 rfl rfl (show ¬ ((0 : Int32) < 0 ∨ 1 ≤ (0 : Int32).toNatClampNeg) by decide) dL_formOf_9 (fun H locs hP hD hS => ?_)
    have hP : va_P D vwCl (kr_WL cy cl h a o N L A (vp_updL O (0 : Int32).toNatClampNeg r9.toInt64)) H := hP
    have hD : va_D AA (kr_WL cy cl h a o N L A (vp_updL O (0 : Int32).toNatClampNeg r9.toInt64)) := hD
    refine lv_goto (tgt := 21) hx hb dL_formOf_10 (by decide) ?_
    refine lv_iconst (v := 0) hx hb dL_formOf_21 (by decide) ?_
    refine W.widen (k := 1) (n := 6) (by decide) (by decide) ?_
    exact kr_lI hx hb hr hlocks hP hK hD hS ⟨hc.symm, fun _ => (kr_uL _ _).trans (congrArg Int32.toInt64 e9)⟩ dL_formOf_22
  · have hM := x_X0_formOf l hl0 D cy h a N L A x y hw.1 hc
    rcases kr_cdX hc with ⟨e1, -⟩ | ⟨e1, h2a, h2b⟩ | ⟨e1, h3a, h3b, h3c⟩
    · rw [e1, kr_E1] at hM
      refine kr_h1 (n := 2) (As := [.int x, .int y]) (rest := [.int 0, .ref o]) ⟨hx, hb, hml, hown, hts⟩ hM kg_RL_60 ⟨rfl, rfl⟩ (by decide +kernel) ⟨Nat.le_of_ble_eq_true rfl, Nat.le_of_ble_eq_true rfl⟩ (kr_pvt hP hK hT) rfl hl.1 rfl (Nat.le_of_ble_eq_true rfl) dL_formOf_5 ⟨Nat.le_of_ble_eq_true rfl, Nat.le_of_ble_eq_true rfl⟩ hT htab ⟨by decide, by decide⟩ (fun q9 H hz hk9 => ?_)
      have hP := kr_lkP hP hk9
      have hS := kr_lkS (AA := AA) hz hk9
      refine lv_astore (lv' := [(4, .ref q9), (0, .ref h), (1, .int x), (2, .int y), (3, .ref o)]) hx hb dL_formOf_13 hl (by decide) rfl (fun ls hl => ?_)
      refine lv_iconst (v := 1) hx hb dL_formOf_15 (by decide) ?_
      exact kr_lI hx hb hr hlocks hP hK hD hS ⟨e1.symm, fun w => absurd w hc⟩ dL_formOf_16
    · rw [e1, kr_E2] at hM
      refine kr_h2 (n := 2) (As := [.int x, .int y]) (rest := [.int 0, .ref o]) ⟨hx, hb, hml, hown, hts⟩ hM kg_RL_60 ⟨rfl, rfl⟩ (by decide +kernel) ⟨Nat.le_of_ble_eq_true rfl, Nat.le_of_ble_eq_true rfl⟩ (kr_pvt hP hK hT) rfl hl.1 rfl (Nat.le_of_ble_eq_true rfl) dL_formOf_5 ⟨Nat.le_of_ble_eq_true rfl, Nat.le_of_ble_eq_true rfl⟩ hT htab ⟨by decide, by decide⟩ (fun q9 H hz hk9 => ?_)
      have hP := kr_lkP hP hk9
      have hS := kr_lkS (AA := AA) hz hk9
      refine lv_astore (lv' := [(4, .ref q9), (0, .ref h), (1, .int x), (2, .int y), (3, .ref o)]) hx hb dL_formOf_17 hl (by decide) rfl (fun ls hl => ?_)
      refine lv_iconst (v := 2) hx hb dL_formOf_19 (by decide) ?_
      exact kr_lI hx hb hr hlocks hP hK hD hS ⟨e1.symm, fun w => absurd w hc⟩ dL_formOf_20
    · exact absurd trivial h3c
theorem kg_RL_63 : GoodIn kr_all (wsV RL 63 RX0 yX0_spills (Cond.code yX0_spills cX0_spills 5 (some .int) :: kr_all)) := kr_gV kq_487 kq_488 kq_489 kq_48 kq_490
set_option maxHeartbeats 4000000 in
set_option maxRecDepth 100000 in
theorem h_L_spills (l : Launch) (hl0 : l.stackTraces = false) (D : va_G) (cy cl : ClassId) (h : Nat) (a : Nat → Nat) (o N L : Nat) (A : Nat → Nat → Int32) (O : Nat → Int64) (sz : Nat) (x y : Int32) (hw : kr_wf N L A) : Met l yL_spills (Cond.codeWith yL_spills cL_spills 5 (some .int) [(0, 10, 13, 13), (0, 10, 17, 15)] :: kr_all) ({ frames := 8, cells := 1, slots := 6, locals := 135 }) (va_Pc [.ref h, .int x, .int y, .ref o] (kr_Lw D (kr_WL cy cl h a o N L A O) cy cl sz)) (va_Qi (fun r (O' : Nat → Int64) => r = kr_cd (kr_i N x) (kr_o y) True ∧ (kr_cd (kr_i N x) (kr_o y) True = 0 → O' 0 = Int32.toInt64 (nI (kr_sp A y 16 x)))) (fun O' t => kr_Lq D (kr_WL cy cl h a o N L A O') cy cl (va_A (kr_WL cy cl h a o N L A O) sz) t) (va_A (kr_WL cy cl h a o N L A O) sz)) 1 6 (va_A (kr_WL cy cl h a o N L A O) sz) := by
  refine kr_ofL (Qc := fun AA => va_Qi (fun r (O' : Nat → Int64) => r = kr_cd (kr_i N x) (kr_o y) True ∧ (kr_cd (kr_i N x) (kr_o y) True = 0 → O' 0 = Int32.toInt64 (nI (kr_sp A y 16 x)))) (fun O' t => kr_Lq D (kr_WL cy cl h a o N L A O') cy cl AA t) AA) (by decide) (Nat.le_of_ble_eq_true rfl) ?_
  intro p e s m below meth c ls AA hx hb hml hr hts hown hlocks htab hA hP hK hD hS hT hl
  have hown : s.vm.findClass RL = some m.cls := hown
  have hl : lv_has ls 5 [(0, .ref h), (1, .int x), (2, .int y), (3, .ref o)] := hl
  refine lv_aload_n hx hb dL_spills_0 rfl (lv_at hl 3 rfl) ?_
  refine lv_iconst (v := 0) hx hb dL_spills_1 (by decide) ?_
  refine lv_aload_n hx hb dL_spills_2 rfl (lv_at hl 0 rfl) ?_
  refine lv_iload_n hx hb dL_spills_3 rfl (lv_at hl 1 rfl) ?_
  refine lv_iload_n hx hb dL_spills_4 rfl (lv_at hl 2 rfl) ?_
  by_cases hc : kr_cd (kr_i N x) (kr_o y) True = 0
  · obtain ⟨hc1, hc2, hc3⟩ := kr_cdE hc
    obtain ⟨hk, ex⟩ := kr_exN hw hc1
    have hM := c_X0_spills l D cy h a N L A (kr_ix x) y hw hk hc2
    rw [← ex] at hM
    refine kr_vI (n := 2) (As := [.int x, .int y]) (rest := [.int 0, .ref o]) ⟨hx, hb, hml, hown, hts⟩ hM kg_RL_63 ⟨rfl, rfl⟩ (by decide +kernel) ⟨Nat.le_of_ble_eq_true rfl, Nat.le_of_ble_eq_true rfl⟩ (kr_pvh hP hK) rfl hl.1 rfl (Nat.le_of_ble_eq_true rfl) dL_spills_5 ⟨Nat.zero_le _, Nat.zero_le _⟩ (fun r9 e9 => ?_)
    refine lv_i2l (v := r9.toInt64) hx hb dL_spills_8 rfl ?_
    refine va_last hx hb hK hP hD hS 9 1 rfl rfl (show ¬ ((0 : Int32) < 0 ∨ 1 ≤ (0 : Int32).toNatClampNeg) by decide) dL_spills_9 (fun H locs hP hD hS => ?_)
    have hP : va_P D vwCl (kr_WL cy cl h a o N L A (vp_updL O (0 : Int32).toNatClampNeg r9.toInt64)) H := hP
    have hD : va_D AA (kr_WL cy cl h a o N L A (vp_updL O (0 : Int32).toNatClampNeg r9.toInt64)) := hD
    refine lv_goto (tgt := 21) hx hb dL_spills_10 (by decide) ?_
    refine lv_iconst (v := 0) hx hb dL_spills_21 (by decide) ?_
    refine W.widen (k := 1) (n := 6) (by decide) (by decide) ?_
    exact kr_lI hx hb hr hlocks hP hK hD hS ⟨hc.symm, fun _ => (kr_uL _ _).trans (congrArg Int32.toInt64 e9)⟩ dL_spills_22
  · have hM := x_X0_spills l hl0 D cy h a N L A x y hw.1 hc
    rcases kr_cdX hc with ⟨e1, -⟩ | ⟨e1, h2a, h2b⟩ | ⟨e1, h3a, h3b, h3c⟩
    · rw [e1, kr_E1] at hM
      refine kr_h1 (n := 2) (As := [.int x, .int y]) (rest := [.int 0, .ref o]) ⟨hx, hb, hml, hown, hts⟩ hM kg_RL_63 ⟨rfl, rfl⟩ (by decide +kernel) ⟨Nat.le_of_ble_eq_true rfl, Nat.le_of_ble_eq_true rfl⟩ (kr_pvt hP hK hT) rfl hl.1 rfl (Nat.le_of_ble_eq_true rfl) dL_spills_5 ⟨Nat.le_of_ble_eq_true rfl, Nat.le_of_ble_eq_true rfl⟩ hT htab ⟨by decide, by decide⟩ (fun q9 H hz hk9 => ?_)
      have hP := kr_lkP hP hk9
      have hS := kr_lkS (AA := AA) hz hk9
      refine lv_astore (lv' := [(4, .ref q9), (0, .ref h), (1, .int x), (2, .int y), (3, .ref o)]) hx hb dL_spills_13 hl (by decide) rfl (fun ls hl => ?_)
      refine lv_iconst (v := 1) hx hb dL_spills_15 (by decide) ?_
      exact kr_lI hx hb hr hlocks hP hK hD hS ⟨e1.symm, fun w => absurd w hc⟩ dL_spills_16
    · rw [e1, kr_E2] at hM
      refine kr_h2 (n := 2) (As := [.int x, .int y]) (rest := [.int 0, .ref o]) ⟨hx, hb, hml, hown, hts⟩ hM kg_RL_63 ⟨rfl, rfl⟩ (by decide +kernel) ⟨Nat.le_of_ble_eq_true rfl, Nat.le_of_ble_eq_true rfl⟩ (kr_pvt hP hK hT) rfl hl.1 rfl (Nat.le_of_ble_eq_true rfl) dL_spills_5 ⟨Nat.le_of_ble_eq_true rfl, Nat.le_of_ble_eq_true rfl⟩ hT htab ⟨by decide, by decide⟩ (fun q9 H hz hk9 => ?_)
      have hP := kr_lkP hP hk9
      have hS := kr_lkS (AA := AA) hz hk9
      refine lv_astore (lv' := [(4, .ref q9), (0, .ref h), (1, .int x), (2, .int y), (3, .ref o)]) hx hb dL_spills_17 hl (by decide) rfl (fun ls hl => ?_)
      refine lv_iconst (v := 2) hx hb dL_spills_19 (by decide) ?_
      exact kr_lI hx hb hr hlocks hP hK hD hS ⟨e1.symm, fun w => absurd w hc⟩ dL_spills_20
    · exact absurd trivial h3c
theorem kg_RL_81 : GoodIn kr_all (wsV RL 81 RX0 yX0_holds (Cond.code yX0_holds cX0_holds 3 (some .boolean) :: kr_all)) := kr_gV kq_514 kq_515 kq_516 kq_48 kq_517
set_option maxHeartbeats 4000000 in
set_option maxRecDepth 100000 in
theorem h_L_holds (l : Launch) (hl0 : l.stackTraces = false) (D : va_G) (cy cl : ClassId) (h : Nat) (a : Nat → Nat) (o N L : Nat) (A : Nat → Nat → Int32) (O : Nat → Int64) (sz : Nat) (x y : Int32) (hw : kr_wf N L A) : Met l yL_holds (Cond.codeWith yL_holds cL_holds 5 (some .int) [(0, 17, 20, 13), (0, 17, 24, 15)] :: kr_all) ({ frames := 8, cells := 1, slots := 6, locals := 136 }) (va_Pc [.ref h, .int x, .int y, .ref o] (kr_Lw D (kr_WL cy cl h a o N L A O) cy cl sz)) (va_Qi (fun r (O' : Nat → Int64) => r = kr_cd (kr_i L x) (kr_o y) True ∧ (kr_cd (kr_i L x) (kr_o y) True = 0 → O' 0 = Int32.toInt64 (if ¬ A 5 (kr_ix x) = 0 ∧ kr_gw A (kr_ix x) y = -1 then 1 else 0))) (fun O' t => kr_Lq D (kr_WL cy cl h a o N L A O') cy cl (va_A (kr_WL cy cl h a o N L A O) sz) t) (va_A (kr_WL cy cl h a o N L A O) sz)) 1 6 (va_A (kr_WL cy cl h a o N L A O) sz) := by
  refine kr_ofL (Qc := fun AA => va_Qi (fun r (O' : Nat → Int64) => r = kr_cd (kr_i L x) (kr_o y) True ∧ (kr_cd (kr_i L x) (kr_o y) True = 0 → O' 0 = Int32.toInt64 (if ¬ A 5 (kr_ix x) = 0 ∧ kr_gw A (kr_ix x) y = -1 then 1 else 0))) (fun O' t => kr_Lq D (kr_WL cy cl h a o N L A O') cy cl AA t) AA) (by decide) (Nat.le_of_ble_eq_true rfl) ?_
  intro p e s m below meth c ls AA hx hb hml hr hts hown hlocks htab hA hP hK hD hS hT hl
  have hown : s.vm.findClass RL = some m.cls := hown
  have hl : lv_has ls 5 [(0, .ref h), (1, .int x), (2, .int y), (3, .ref o)] := hl
  refine lv_aload_n hx hb dL_holds_0 rfl (lv_at hl 3 rfl) ?_
  refine lv_iconst (v := 0) hx hb dL_holds_1 (by decide) ?_
  refine lv_aload_n hx hb dL_holds_2 rfl (lv_at hl 0 rfl) ?_
  refine lv_iload_n hx hb dL_holds_3 rfl (lv_at hl 1 rfl) ?_
  refine lv_iload_n hx hb dL_holds_4 rfl (lv_at hl 2 rfl) ?_
  by_cases hc : kr_cd (kr_i L x) (kr_o y) True = 0
  · obtain ⟨hc1, hc2, hc3⟩ := kr_cdE hc
    obtain ⟨hk, ex⟩ := kr_exL hw hc1
    have hM := c_X0_holds l D cy h a N L A (kr_ix x) y hw hk hc2
    rw [← ex] at hM
    refine kr_vI (n := 2) (As := [.int x, .int y]) (rest := [.int 0, .ref o]) ⟨hx, hb, hml, hown, hts⟩ hM kg_RL_81 ⟨rfl, rfl⟩ (by decide +kernel) ⟨Nat.le_of_ble_eq_true rfl, Nat.le_of_ble_eq_true rfl⟩ (kr_pvh hP hK) rfl hl.1 rfl (Nat.le_of_ble_eq_true rfl) dL_holds_5 ⟨Nat.zero_le _, Nat.zero_le _⟩ (fun r9 e9 => ?_)
    refine lv_if_eq (tgt := 15) hx hb dL_holds_8 (by decide) (fun c8 => ?_) (fun c8 => ?_)
    · refine lv_lconst (v := 0) hx hb dL_holds_15 (by decide) ?_
      refine va_last hx hb hK hP hD hS 9 1 rfl rfl (show ¬ ((0 : Int32) < 0 ∨ 1 ≤ (0 : Int32).toNatClampNeg) by decide) dL_holds_16 (fun H locs hP hD hS => ?_)
      have hP : va_P D vwCl (kr_WL cy cl h a o N L A (vp_updL O (0 : Int32).toNatClampNeg 0)) H := hP
      have hD : va_D AA (kr_WL cy cl h a o N L A (vp_updL O (0 : Int32).toNatClampNeg 0)) := hD
      refine lv_goto (tgt := 28) hx hb dL_holds_17 (by decide) ?_
      refine lv_iconst (v := 0) hx hb dL_holds_28 (by decide) ?_
      refine W.widen (k := 1) (n := 6) (by decide) (by decide) ?_
      exact kr_lI hx hb hr hlocks hP hK hD hS ⟨hc.symm, fun _ => (kr_uL _ _).trans (by rw [← e9, c8]; rfl)⟩ dL_holds_29
    · refine lv_lconst (v := 1) hx hb dL_holds_11 (by decide) ?_
      refine lv_goto (tgt := 16) hx hb dL_holds_12 (by decide) ?_
      refine va_last hx hb hK hP hD hS 9 1 rfl rfl (show ¬ ((0 : Int32) < 0 ∨ 1 ≤ (0 : Int32).toNatClampNeg) by decide) dL_holds_16 (fun H locs hP hD hS => ?_)
      have hP : va_P D vwCl (kr_WL cy cl h a o N L A (vp_updL O (0 : Int32).toNatClampNeg 1)) H := hP
      have hD : va_D AA (kr_WL cy cl h a o N L A (vp_updL O (0 : Int32).toNatClampNeg 1)) := hD
      refine lv_goto (tgt := 28) hx hb dL_holds_17 (by decide) ?_
      refine lv_iconst (v := 0) hx hb dL_holds_28 (by decide) ?_
      refine W.widen (k := 1) (n := 6) (by decide) (by decide) ?_
      exact kr_lI hx hb hr hlocks hP hK hD hS ⟨hc.symm, fun _ => (kr_uL _ _).trans (by rw [if_pos (show ¬ A 5 (kr_ix x) = 0 ∧ kr_gw A (kr_ix x) y = -1 from Classical.byContradiction (fun w => c8 (e9.trans (if_neg w))))]; rfl)⟩ dL_holds_29
  · have hM := x_X0_holds l hl0 D cy h a N L A x y hw.2.1 hc
    rcases kr_cdX hc with ⟨e1, -⟩ | ⟨e1, h2a, h2b⟩ | ⟨e1, h3a, h3b, h3c⟩
    · rw [e1, kr_E1] at hM
      refine kr_h1 (n := 2) (As := [.int x, .int y]) (rest := [.int 0, .ref o]) ⟨hx, hb, hml, hown, hts⟩ hM kg_RL_81 ⟨rfl, rfl⟩ (by decide +kernel) ⟨Nat.le_of_ble_eq_true rfl, Nat.le_of_ble_eq_true rfl⟩ (kr_pvt hP hK hT) rfl hl.1 rfl (Nat.le_of_ble_eq_true rfl) dL_holds_5 ⟨Nat.le_of_ble_eq_true rfl, Nat.le_of_ble_eq_true rfl⟩ hT htab ⟨by decide, by decide⟩ (fun q9 H hz hk9 => ?_)
      have hP := kr_lkP hP hk9
      have hS := kr_lkS (AA := AA) hz hk9
      refine lv_astore (lv' := [(4, .ref q9), (0, .ref h), (1, .int x), (2, .int y), (3, .ref o)]) hx hb dL_holds_20 hl (by decide) rfl (fun ls hl => ?_)
      refine lv_iconst (v := 1) hx hb dL_holds_22 (by decide) ?_
      exact kr_lI hx hb hr hlocks hP hK hD hS ⟨e1.symm, fun w => absurd w hc⟩ dL_holds_23
    · rw [e1, kr_E2] at hM
      refine kr_h2 (n := 2) (As := [.int x, .int y]) (rest := [.int 0, .ref o]) ⟨hx, hb, hml, hown, hts⟩ hM kg_RL_81 ⟨rfl, rfl⟩ (by decide +kernel) ⟨Nat.le_of_ble_eq_true rfl, Nat.le_of_ble_eq_true rfl⟩ (kr_pvt hP hK hT) rfl hl.1 rfl (Nat.le_of_ble_eq_true rfl) dL_holds_5 ⟨Nat.le_of_ble_eq_true rfl, Nat.le_of_ble_eq_true rfl⟩ hT htab ⟨by decide, by decide⟩ (fun q9 H hz hk9 => ?_)
      have hP := kr_lkP hP hk9
      have hS := kr_lkS (AA := AA) hz hk9
      refine lv_astore (lv' := [(4, .ref q9), (0, .ref h), (1, .int x), (2, .int y), (3, .ref o)]) hx hb dL_holds_24 hl (by decide) rfl (fun ls hl => ?_)
      refine lv_iconst (v := 2) hx hb dL_holds_26 (by decide) ?_
      exact kr_lI hx hb hr hlocks hP hK hD hS ⟨e1.symm, fun w => absurd w hc⟩ dL_holds_27
    · exact absurd trivial h3c
theorem kg_RL_88 : GoodIn kr_all (wsV RL 88 RX0 yX0_wouldGiveWay (Cond.code yX0_wouldGiveWay cX0_wouldGiveWay 3 (some .int) :: kr_all)) := kr_gV kq_525 kq_526 kq_527 kq_48 kq_528
set_option maxHeartbeats 4000000 in
set_option maxRecDepth 100000 in
theorem h_L_wouldGiveWay (l : Launch) (hl0 : l.stackTraces = false) (D : va_G) (cy cl : ClassId) (h : Nat) (a : Nat → Nat) (o N L : Nat) (A : Nat → Nat → Int32) (O : Nat → Int64) (sz : Nat) (x y : Int32) (hw : kr_wf N L A) : Met l yL_wouldGiveWay (Cond.codeWith yL_wouldGiveWay cL_wouldGiveWay 5 (some .int) [(0, 10, 13, 13), (0, 10, 17, 15)] :: kr_all) ({ frames := 8, cells := 1, slots := 6, locals := 136 }) (va_Pc [.ref h, .int x, .int y, .ref o] (kr_Lw D (kr_WL cy cl h a o N L A O) cy cl sz)) (va_Qi (fun r (O' : Nat → Int64) => r = kr_cd (kr_i L x) (kr_o y) True ∧ (kr_cd (kr_i L x) (kr_o y) True = 0 → O' 0 = Int32.toInt64 (kr_gw A (kr_ix x) y))) (fun O' t => kr_Lq D (kr_WL cy cl h a o N L A O') cy cl (va_A (kr_WL cy cl h a o N L A O) sz) t) (va_A (kr_WL cy cl h a o N L A O) sz)) 1 6 (va_A (kr_WL cy cl h a o N L A O) sz) := by
  refine kr_ofL (Qc := fun AA => va_Qi (fun r (O' : Nat → Int64) => r = kr_cd (kr_i L x) (kr_o y) True ∧ (kr_cd (kr_i L x) (kr_o y) True = 0 → O' 0 = Int32.toInt64 (kr_gw A (kr_ix x) y))) (fun O' t => kr_Lq D (kr_WL cy cl h a o N L A O') cy cl AA t) AA) (by decide) (Nat.le_of_ble_eq_true rfl) ?_
  intro p e s m below meth c ls AA hx hb hml hr hts hown hlocks htab hA hP hK hD hS hT hl
  have hown : s.vm.findClass RL = some m.cls := hown
  have hl : lv_has ls 5 [(0, .ref h), (1, .int x), (2, .int y), (3, .ref o)] := hl
  refine lv_aload_n hx hb dL_wouldGiveWay_0 rfl (lv_at hl 3 rfl) ?_
  refine lv_iconst (v := 0) hx hb dL_wouldGiveWay_1 (by decide) ?_
  refine lv_aload_n hx hb dL_wouldGiveWay_2 rfl (lv_at hl 0 rfl) ?_
  refine lv_iload_n hx hb dL_wouldGiveWay_3 rfl (lv_at hl 1 rfl) ?_
  refine lv_iload_n hx hb dL_wouldGiveWay_4 rfl (lv_at hl 2 rfl) ?_
  by_cases hc : kr_cd (kr_i L x) (kr_o y) True = 0
  · obtain ⟨hc1, hc2, hc3⟩ := kr_cdE hc
    obtain ⟨hk, ex⟩ := kr_exL hw hc1
    have hM := c_X0_wouldGiveWay l D cy h a N L A (kr_ix x) y hw hk hc2
    rw [← ex] at hM
    refine kr_vI (n := 2) (As := [.int x, .int y]) (rest := [.int 0, .ref o]) ⟨hx, hb, hml, hown, hts⟩ hM kg_RL_88 ⟨rfl, rfl⟩ (by decide +kernel) ⟨Nat.le_of_ble_eq_true rfl, Nat.le_of_ble_eq_true rfl⟩ (kr_pvh hP hK) rfl hl.1 rfl (Nat.le_of_ble_eq_true rfl) dL_wouldGiveWay_5 ⟨Nat.zero_le _, Nat.zero_le _⟩ (fun r9 e9 => ?_)
    refine lv_i2l (v := r9.toInt64) hx hb dL_wouldGiveWay_8 rfl ?_
    refine va_last hx hb hK hP hD hS 9 1 rfl rfl (show ¬ ((0 : Int32) < 0 ∨ 1 ≤ (0 : Int32).toNatClampNeg) by decide) dL_wouldGiveWay_9 (fun H locs hP hD hS => ?_)
    have hP : va_P D vwCl (kr_WL cy cl h a o N L A (vp_updL O (0 : Int32).toNatClampNeg r9.toInt64)) H := hP
    have hD : va_D AA (kr_WL cy cl h a o N L A (vp_updL O (0 : Int32).toNatClampNeg r9.toInt64)) := hD
    refine lv_goto (tgt := 21) hx hb dL_wouldGiveWay_10 (by decide) ?_
    refine lv_iconst (v := 0) hx hb dL_wouldGiveWay_21 (by decide) ?_
    refine W.widen (k := 1) (n := 6) (by decide) (by decide) ?_
    exact kr_lI hx hb hr hlocks hP hK hD hS ⟨hc.symm, fun _ => (kr_uL _ _).trans (congrArg Int32.toInt64 e9)⟩ dL_wouldGiveWay_22
  · have hM := x_X0_wouldGiveWay l hl0 D cy h a N L A x y hw.2.1 hc
    rcases kr_cdX hc with ⟨e1, -⟩ | ⟨e1, h2a, h2b⟩ | ⟨e1, h3a, h3b, h3c⟩
    · rw [e1, kr_E1] at hM
      refine kr_h1 (n := 2) (As := [.int x, .int y]) (rest := [.int 0, .ref o]) ⟨hx, hb, hml, hown, hts⟩ hM kg_RL_88 ⟨rfl, rfl⟩ (by decide +kernel) ⟨Nat.le_of_ble_eq_true rfl, Nat.le_of_ble_eq_true rfl⟩ (kr_pvt hP hK hT) rfl hl.1 rfl (Nat.le_of_ble_eq_true rfl) dL_wouldGiveWay_5 ⟨Nat.le_of_ble_eq_true rfl, Nat.le_of_ble_eq_true rfl⟩ hT htab ⟨by decide, by decide⟩ (fun q9 H hz hk9 => ?_)
      have hP := kr_lkP hP hk9
      have hS := kr_lkS (AA := AA) hz hk9
      refine lv_astore (lv' := [(4, .ref q9), (0, .ref h), (1, .int x), (2, .int y), (3, .ref o)]) hx hb dL_wouldGiveWay_13 hl (by decide) rfl (fun ls hl => ?_)
      refine lv_iconst (v := 1) hx hb dL_wouldGiveWay_15 (by decide) ?_
      exact kr_lI hx hb hr hlocks hP hK hD hS ⟨e1.symm, fun w => absurd w hc⟩ dL_wouldGiveWay_16
    · rw [e1, kr_E2] at hM
      refine kr_h2 (n := 2) (As := [.int x, .int y]) (rest := [.int 0, .ref o]) ⟨hx, hb, hml, hown, hts⟩ hM kg_RL_88 ⟨rfl, rfl⟩ (by decide +kernel) ⟨Nat.le_of_ble_eq_true rfl, Nat.le_of_ble_eq_true rfl⟩ (kr_pvt hP hK hT) rfl hl.1 rfl (Nat.le_of_ble_eq_true rfl) dL_wouldGiveWay_5 ⟨Nat.le_of_ble_eq_true rfl, Nat.le_of_ble_eq_true rfl⟩ hT htab ⟨by decide, by decide⟩ (fun q9 H hz hk9 => ?_)
      have hP := kr_lkP hP hk9
      have hS := kr_lkS (AA := AA) hz hk9
      refine lv_astore (lv' := [(4, .ref q9), (0, .ref h), (1, .int x), (2, .int y), (3, .ref o)]) hx hb dL_wouldGiveWay_17 hl (by decide) rfl (fun ls hl => ?_)
      refine lv_iconst (v := 2) hx hb dL_wouldGiveWay_19 (by decide) ?_
      exact kr_lI hx hb hr hlocks hP hK hD hS ⟨e1.symm, fun w => absurd w hc⟩ dL_wouldGiveWay_20
    · exact absurd trivial h3c
theorem kg_RL_7 : GoodIn kr_all (wsV RL 7 RX0 yX0_addKnot (Cond.code yX0_addKnot cX0_addKnot 5 (some .int) :: kr_all)) := kr_gV kq_309 kq_310 kq_311 kq_48 kq_312
set_option maxHeartbeats 4000000 in
set_option maxRecDepth 100000 in
theorem h_L_addKnot (l : Launch) (hl0 : l.stackTraces = false) (D : va_G) (cy cl : ClassId) (h : Nat) (a : Nat → Nat) (o N L : Nat) (A : Nat → Nat → Int32) (O : Nat → Int64) (sz : Nat) (x y z : Int32) (hw : kr_wf N L A) : Met l yL_addKnot (Cond.codeWith yL_addKnot cL_addKnot 6 (some .int) [(0, 12, 15, 13), (0, 12, 19, 15), (0, 12, 23, 17)] :: kr_all) ({ frames := 8, cells := 1, slots := 6, locals := 134 }) (va_Pc [.ref h, .int x, .int y, .int z, .ref o] (kr_Lw D (kr_WL cy cl h a o N L A O) cy cl sz)) (va_Qi (fun r (O' : Nat → Int64) => r = kr_cd (x = 0 ∨ x = 1) ((¬ y < 10 ∧ ¬ 100 < y) ∧ (¬ z < 1 ∧ ¬ 9 < z)) (N < 16) ∧ (kr_cd (x = 0 ∨ x = 1) ((¬ y < 10 ∧ ¬ 100 < y) ∧ (¬ z < 1 ∧ ¬ 9 < z)) (N < 16) = 0 → O' 0 = Int32.toInt64 (nI N))) (fun O' t => kr_Lq D (kr_WL cy cl h a o (if kr_cd (x = 0 ∨ x = 1) ((¬ y < 10 ∧ ¬ 100 < y) ∧ (¬ z < 1 ∧ ¬ 9 < z)) (N < 16) = 0 then N + 1 else N) L (if kr_cd (x = 0 ∨ x = 1) ((¬ y < 10 ∧ ¬ 100 < y) ∧ (¬ z < 1 ∧ ¬ 9 < z)) (N < 16) = 0 then kr_aA A N x y z else A) O') cy cl (va_A (kr_WL cy cl h a o N L A O) sz) t) (va_A (kr_WL cy cl h a o N L A O) sz)) 1 6 (va_A (kr_WL cy cl h a o N L A O) sz) := by
  refine kr_ofL (Qc := fun AA => va_Qi (fun r (O' : Nat → Int64) => r = kr_cd (x = 0 ∨ x = 1) ((¬ y < 10 ∧ ¬ 100 < y) ∧ (¬ z < 1 ∧ ¬ 9 < z)) (N < 16) ∧ (kr_cd (x = 0 ∨ x = 1) ((¬ y < 10 ∧ ¬ 100 < y) ∧ (¬ z < 1 ∧ ¬ 9 < z)) (N < 16) = 0 → O' 0 = Int32.toInt64 (nI N))) (fun O' t => kr_Lq D (kr_WL cy cl h a o (if kr_cd (x = 0 ∨ x = 1) ((¬ y < 10 ∧ ¬ 100 < y) ∧ (¬ z < 1 ∧ ¬ 9 < z)) (N < 16) = 0 then N + 1 else N) L (if kr_cd (x = 0 ∨ x = 1) ((¬ y < 10 ∧ ¬ 100 < y) ∧ (¬ z < 1 ∧ ¬ 9 < z)) (N < 16) = 0 then kr_aA A N x y z else A) O') cy cl AA t) AA) (by decide) (Nat.le_of_ble_eq_true rfl) ?_
  intro p e s m below meth c ls AA hx hb hml hr hts hown hlocks htab hA hP hK hD hS hT hl
  have hown : s.vm.findClass RL = some m.cls := hown
  have hl : lv_has ls 6 [(0, .ref h), (1, .int x), (2, .int y), (3, .int z), (4, .ref o)] := hl
  refine lv_aload hx hb dL_addKnot_0 (lv_at hl 4 rfl) ?_
  refine lv_iconst (v := 0) hx hb dL_addKnot_2 (by decide) ?_
  refine lv_aload_n hx hb dL_addKnot_3 rfl (lv_at hl 0 rfl) ?_
  refine lv_iload_n hx hb dL_addKnot_4 rfl (lv_at hl 1 rfl) ?_
  refine lv_iload_n hx hb dL_addKnot_5 rfl (lv_at hl 2 rfl) ?_
  refine lv_iload_n hx hb dL_addKnot_6 rfl (lv_at hl 3 rfl) ?_
  by_cases hc : kr_cd (x = 0 ∨ x = 1) ((¬ y < 10 ∧ ¬ 100 < y) ∧ (¬ z < 1 ∧ ¬ 9 < z)) (N < 16) = 0
  · rw [if_pos hc]
    rw [if_pos hc]
    obtain ⟨hc1, hc2, hc3⟩ := kr_cdE hc
    have hM := c_X0_addKnot l D cy h a N L A s.heap.size x y z hc1 hc2.1 hc2.2 hc3
    refine kr_hwI (n := 3) (As := [.int x, .int y, .int z]) (rest := [.int 0, .ref o]) ⟨hx, hb, hml, hown, hts⟩ hM kg_RL_7 ⟨rfl, rfl⟩ (by decide +kernel) ⟨Nat.le_of_ble_eq_true rfl, Nat.le_of_ble_eq_true rfl⟩ hP hK hD hS hA rfl hl.1 rfl (Nat.le_of_ble_eq_true rfl) dL_addKnot_7 ⟨Nat.zero_le _, Nat.zero_le _⟩ (fun r9 H locs e9 hP hD hS => ?_)
    refine lv_i2l (v := r9.toInt64) hx hb dL_addKnot_10 rfl ?_
    refine va_last hx hb hK hP hD hS 9 1 rfl rfl (show ¬ ((0 : Int32) < 0 ∨ 1 ≤ (0 : Int32).toNatClampNeg) by decide) dL_addKnot_11 (fun H locs hP hD hS => ?_)
    have hP : va_P D vwCl (kr_WL cy cl h a o (N + 1) L (kr_aA A N x y z) (vp_updL O (0 : Int32).toNatClampNeg r9.toInt64)) H := hP
    have hD : va_D AA (kr_WL cy cl h a o (N + 1) L (kr_aA A N x y z) (vp_updL O (0 : Int32).toNatClampNeg r9.toInt64)) := hD
    refine lv_goto (tgt := 27) hx hb dL_addKnot_12 (by decide) ?_
    refine lv_iconst (v := 0) hx hb dL_addKnot_27 (by decide) ?_
    refine W.widen (k := 1) (n := 6) (by decide) (by decide) ?_
    exact kr_lI hx hb hr hlocks hP hK hD hS ⟨hc.symm, fun _ => (kr_uL _ _).trans (congrArg Int32.toInt64 e9)⟩ dL_addKnot_28
  · rw [if_neg hc]
    rw [if_neg hc]
    have hM := x_X0_addKnot l hl0 D cy h a N L A x y z hw.1 hc
    rcases kr_cdX hc with ⟨e1, -⟩ | ⟨e1, h2a, h2b⟩ | ⟨e1, h3a, h3b, h3c⟩
    · rw [e1, kr_E1] at hM
      refine kr_h1 (n := 3) (As := [.int x, .int y, .int z]) (rest := [.int 0, .ref o]) ⟨hx, hb, hml, hown, hts⟩ hM kg_RL_7 ⟨rfl, rfl⟩ (by decide +kernel) ⟨Nat.le_of_ble_eq_true rfl, Nat.le_of_ble_eq_true rfl⟩ (kr_pvt hP hK hT) rfl hl.1 rfl (Nat.le_of_ble_eq_true rfl) dL_addKnot_7 ⟨Nat.le_of_ble_eq_true rfl, Nat.le_of_ble_eq_true rfl⟩ hT htab ⟨by decide, by decide⟩ (fun q9 H hz hk9 => ?_)
      have hP := kr_lkP hP hk9
      have hS := kr_lkS (AA := AA) hz hk9
      refine lv_astore (lv' := [(5, .ref q9), (0, .ref h), (1, .int x), (2, .int y), (3, .int z), (4, .ref o)]) hx hb dL_addKnot_15 hl (by decide) rfl (fun ls hl => ?_)
      refine lv_iconst (v := 1) hx hb dL_addKnot_17 (by decide) ?_
      exact kr_lI hx hb hr hlocks hP hK hD hS ⟨e1.symm, fun w => absurd w hc⟩ dL_addKnot_18
    · rw [e1, kr_E2] at hM
      refine kr_h2 (n := 3) (As := [.int x, .int y, .int z]) (rest := [.int 0, .ref o]) ⟨hx, hb, hml, hown, hts⟩ hM kg_RL_7 ⟨rfl, rfl⟩ (by decide +kernel) ⟨Nat.le_of_ble_eq_true rfl, Nat.le_of_ble_eq_true rfl⟩ (kr_pvt hP hK hT) rfl hl.1 rfl (Nat.le_of_ble_eq_true rfl) dL_addKnot_7 ⟨Nat.le_of_ble_eq_true rfl, Nat.le_of_ble_eq_true rfl⟩ hT htab ⟨by decide, by decide⟩ (fun q9 H hz hk9 => ?_)
      have hP := kr_lkP hP hk9
      have hS := kr_lkS (AA := AA) hz hk9
      refine lv_astore (lv' := [(5, .ref q9), (0, .ref h), (1, .int x), (2, .int y), (3, .int z), (4, .ref o)]) hx hb dL_addKnot_19 hl (by decide) rfl (fun ls hl => ?_)
      refine lv_iconst (v := 2) hx hb dL_addKnot_21 (by decide) ?_
      exact kr_lI hx hb hr hlocks hP hK hD hS ⟨e1.symm, fun w => absurd w hc⟩ dL_addKnot_22
    · rw [e1, kr_E3] at hM
      refine kr_h3 (n := 3) (As := [.int x, .int y, .int z]) (rest := [.int 0, .ref o]) ⟨hx, hb, hml, hown, hts⟩ hM kg_RL_7 ⟨rfl, rfl⟩ (by decide +kernel) ⟨Nat.le_of_ble_eq_true rfl, Nat.le_of_ble_eq_true rfl⟩ (kr_pvt hP hK hT) rfl hl.1 rfl (Nat.le_of_ble_eq_true rfl) dL_addKnot_7 ⟨Nat.le_of_ble_eq_true rfl, Nat.le_of_ble_eq_true rfl⟩ hT htab ⟨by decide, by decide⟩ (fun q9 H hz hk9 => ?_)
      have hP := kr_lkP hP hk9
      have hS := kr_lkS (AA := AA) hz hk9
      refine lv_astore (lv' := [(5, .ref q9), (0, .ref h), (1, .int x), (2, .int y), (3, .int z), (4, .ref o)]) hx hb dL_addKnot_23 hl (by decide) rfl (fun ls hl => ?_)
      refine lv_iconst (v := 3) hx hb dL_addKnot_25 (by decide) ?_
      exact kr_lI hx hb hr hlocks hP hK hD hS ⟨e1.symm, fun w => absurd w hc⟩ dL_addKnot_26
theorem kg_RL_19 : GoodIn kr_all (wsV RL 19 RX0 yX0_setSpill (Cond.code yX0_setSpill cX0_setSpill 5 (some .int) :: kr_all)) := kr_gV kq_353 kq_354 kq_355 kq_48 kq_356
set_option maxHeartbeats 4000000 in
set_option maxRecDepth 100000 in
theorem h_L_setSpill (l : Launch) (hl0 : l.stackTraces = false) (D : va_G) (cy cl : ClassId) (h : Nat) (a : Nat → Nat) (o N L : Nat) (A : Nat → Nat → Int32) (O : Nat → Int64) (sz : Nat) (x y z : Int32) (hw : kr_wf N L A) : Met l yL_setSpill (Cond.codeWith yL_setSpill cL_setSpill 6 (some .int) [(0, 12, 15, 13), (0, 12, 19, 15)] :: kr_all) ({ frames := 8, cells := 1, slots := 6, locals := 135 }) (va_Pc [.ref h, .int x, .int y, .int z, .ref o] (kr_Lw D (kr_WL cy cl h a o N L A O) cy cl sz)) (va_Qi (fun r (O' : Nat → Int64) => r = kr_cd (kr_i N x) (kr_o y ∧ (¬ z < -1 ∧ z < x) ∧ (z = -1 ∨ A 0 (kr_ix z) = A 0 (kr_ix x))) True ∧ (kr_cd (kr_i N x) (kr_o y ∧ (¬ z < -1 ∧ z < x) ∧ (z = -1 ∨ A 0 (kr_ix z) = A 0 (kr_ix x))) True = 0 → O' 0 = Int32.toInt64 (A 3 (kr_ix x)))) (fun O' t => kr_Lq D (kr_WL cy cl h a o N L (if kr_cd (kr_i N x) (kr_o y ∧ (¬ z < -1 ∧ z < x) ∧ (z = -1 ∨ A 0 (kr_ix z) = A 0 (kr_ix x))) True = 0 then kr_sA A (kr_ix x) y z else A) O') cy cl (va_A (kr_WL cy cl h a o N L A O) sz) t) (va_A (kr_WL cy cl h a o N L A O) sz)) 1 6 (va_A (kr_WL cy cl h a o N L A O) sz) := by
  refine kr_ofL (Qc := fun AA => va_Qi (fun r (O' : Nat → Int64) => r = kr_cd (kr_i N x) (kr_o y ∧ (¬ z < -1 ∧ z < x) ∧ (z = -1 ∨ A 0 (kr_ix z) = A 0 (kr_ix x))) True ∧ (kr_cd (kr_i N x) (kr_o y ∧ (¬ z < -1 ∧ z < x) ∧ (z = -1 ∨ A 0 (kr_ix z) = A 0 (kr_ix x))) True = 0 → O' 0 = Int32.toInt64 (A 3 (kr_ix x)))) (fun O' t => kr_Lq D (kr_WL cy cl h a o N L (if kr_cd (kr_i N x) (kr_o y ∧ (¬ z < -1 ∧ z < x) ∧ (z = -1 ∨ A 0 (kr_ix z) = A 0 (kr_ix x))) True = 0 then kr_sA A (kr_ix x) y z else A) O') cy cl AA t) AA) (by decide) (Nat.le_of_ble_eq_true rfl) ?_
  intro p e s m below meth c ls AA hx hb hml hr hts hown hlocks htab hA hP hK hD hS hT hl
  have hown : s.vm.findClass RL = some m.cls := hown
  have hl : lv_has ls 6 [(0, .ref h), (1, .int x), (2, .int y), (3, .int z), (4, .ref o)] := hl
  refine lv_aload hx hb dL_setSpill_0 (lv_at hl 4 rfl) ?_
  refine lv_iconst (v := 0) hx hb dL_setSpill_2 (by decide) ?_
  refine lv_aload_n hx hb dL_setSpill_3 rfl (lv_at hl 0 rfl) ?_
  refine lv_iload_n hx hb dL_setSpill_4 rfl (lv_at hl 1 rfl) ?_
  refine lv_iload_n hx hb dL_setSpill_5 rfl (lv_at hl 2 rfl) ?_
  refine lv_iload_n hx hb dL_setSpill_6 rfl (lv_at hl 3 rfl) ?_
  by_cases hc : kr_cd (kr_i N x) (kr_o y ∧ (¬ z < -1 ∧ z < x) ∧ (z = -1 ∨ A 0 (kr_ix z) = A 0 (kr_ix x))) True = 0
  · rw [if_pos hc]
    obtain ⟨hc1, hc2, hc3⟩ := kr_cdE hc
    obtain ⟨hk, ex⟩ := kr_exN hw hc1
    have hN := hw.1
    have hz2 : z = -1 ∨ ∃ j, j < kr_ix x ∧ z = nI j ∧ A 0 j = A 0 (kr_ix x) := by
      by_cases hz0 : z = -1
      · exact Or.inl hz0
      · obtain ⟨j, hj, ez⟩ := kr_inS (k := kr_ix x) (by omega) hc2.2.1.1 (by rw [← ex]; exact hc2.2.1.2) hz0
        refine Or.inr ⟨j, hj, ez, ?_⟩
        have h9 := hc2.2.2.resolve_left hz0
        rw [ez, kr_ix_nI (by omega)] at h9
        exact h9
    have hM := c_X0_setSpill l D cy h a N L A s.heap.size (kr_ix x) y z hw.1 hk hc2.1 (by rw [← ex]; exact hc2.2.1) hz2
    rw [← ex] at hM
    refine kr_hwI (n := 3) (As := [.int x, .int y, .int z]) (rest := [.int 0, .ref o]) ⟨hx, hb, hml, hown, hts⟩ hM kg_RL_19 ⟨rfl, rfl⟩ (by decide +kernel) ⟨Nat.le_of_ble_eq_true rfl, Nat.le_of_ble_eq_true rfl⟩ hP hK hD hS hA rfl hl.1 rfl (Nat.le_of_ble_eq_true rfl) dL_setSpill_7 ⟨Nat.zero_le _, Nat.zero_le _⟩ (fun r9 H locs e9 hP hD hS => ?_)
    refine lv_i2l (v := r9.toInt64) hx hb dL_setSpill_10 rfl ?_
    refine va_last hx hb hK hP hD hS 9 1 rfl rfl (show ¬ ((0 : Int32) < 0 ∨ 1 ≤ (0 : Int32).toNatClampNeg) by decide) dL_setSpill_11 (fun H locs hP hD hS => ?_)
    have hP : va_P D vwCl (kr_WL cy cl h a o N L (kr_sA A (kr_ix x) y z) (vp_updL O (0 : Int32).toNatClampNeg r9.toInt64)) H := hP
    have hD : va_D AA (kr_WL cy cl h a o N L (kr_sA A (kr_ix x) y z) (vp_updL O (0 : Int32).toNatClampNeg r9.toInt64)) := hD
    refine lv_goto (tgt := 23) hx hb dL_setSpill_12 (by decide) ?_
    refine lv_iconst (v := 0) hx hb dL_setSpill_23 (by decide) ?_
    refine W.widen (k := 1) (n := 6) (by decide) (by decide) ?_
    exact kr_lI hx hb hr hlocks hP hK hD hS ⟨hc.symm, fun _ => (kr_uL _ _).trans (congrArg Int32.toInt64 e9)⟩ dL_setSpill_24
  · rw [if_neg hc]
    have hM := x_X0_setSpill l hl0 D cy h a N L A x y z hw.1 hc
    rcases kr_cdX hc with ⟨e1, -⟩ | ⟨e1, h2a, h2b⟩ | ⟨e1, h3a, h3b, h3c⟩
    · rw [e1, kr_E1] at hM
      refine kr_h1 (n := 3) (As := [.int x, .int y, .int z]) (rest := [.int 0, .ref o]) ⟨hx, hb, hml, hown, hts⟩ hM kg_RL_19 ⟨rfl, rfl⟩ (by decide +kernel) ⟨Nat.le_of_ble_eq_true rfl, Nat.le_of_ble_eq_true rfl⟩ (kr_pvt hP hK hT) rfl hl.1 rfl (Nat.le_of_ble_eq_true rfl) dL_setSpill_7 ⟨Nat.le_of_ble_eq_true rfl, Nat.le_of_ble_eq_true rfl⟩ hT htab ⟨by decide, by decide⟩ (fun q9 H hz hk9 => ?_)
      have hP := kr_lkP hP hk9
      have hS := kr_lkS (AA := AA) hz hk9
      refine lv_astore (lv' := [(5, .ref q9), (0, .ref h), (1, .int x), (2, .int y), (3, .int z), (4, .ref o)]) hx hb dL_setSpill_15 hl (by decide) rfl (fun ls hl => ?_)
      refine lv_iconst (v := 1) hx hb dL_setSpill_17 (by decide) ?_
      exact kr_lI hx hb hr hlocks hP hK hD hS ⟨e1.symm, fun w => absurd w hc⟩ dL_setSpill_18
    · rw [e1, kr_E2] at hM
      refine kr_h2 (n := 3) (As := [.int x, .int y, .int z]) (rest := [.int 0, .ref o]) ⟨hx, hb, hml, hown, hts⟩ hM kg_RL_19 ⟨rfl, rfl⟩ (by decide +kernel) ⟨Nat.le_of_ble_eq_true rfl, Nat.le_of_ble_eq_true rfl⟩ (kr_pvt hP hK hT) rfl hl.1 rfl (Nat.le_of_ble_eq_true rfl) dL_setSpill_7 ⟨Nat.le_of_ble_eq_true rfl, Nat.le_of_ble_eq_true rfl⟩ hT htab ⟨by decide, by decide⟩ (fun q9 H hz hk9 => ?_)
      have hP := kr_lkP hP hk9
      have hS := kr_lkS (AA := AA) hz hk9
      refine lv_astore (lv' := [(5, .ref q9), (0, .ref h), (1, .int x), (2, .int y), (3, .int z), (4, .ref o)]) hx hb dL_setSpill_19 hl (by decide) rfl (fun ls hl => ?_)
      refine lv_iconst (v := 2) hx hb dL_setSpill_21 (by decide) ?_
      exact kr_lI hx hb hr hlocks hP hK hD hS ⟨e1.symm, fun w => absurd w hc⟩ dL_setSpill_22
    · exact absurd trivial h3c
theorem kg_RL_22 : GoodIn kr_all (wsV RL 22 RX0 yX0_tie (Cond.code yX0_tie cX0_tie 4 (some .int) :: kr_all)) := kr_gV kq_366 kq_367 kq_368 kq_48 kq_369
set_option maxHeartbeats 4000000 in
set_option maxRecDepth 100000 in
theorem h_L_tie (l : Launch) (hl0 : l.stackTraces = false) (D : va_G) (cy cl : ClassId) (h : Nat) (a : Nat → Nat) (o N L : Nat) (A : Nat → Nat → Int32) (O : Nat → Int64) (sz : Nat) (x y : Int32) (hw : kr_wf N L A) : Met l yL_tie (Cond.codeWith yL_tie cL_tie 5 (some .int) [(0, 10, 13, 13), (0, 10, 17, 15), (0, 10, 21, 17)] :: kr_all) ({ frames := 8, cells := 1, slots := 6, locals := 135 }) (va_Pc [.ref h, .int x, .int y, .ref o] (kr_Lw D (kr_WL cy cl h a o N L A O) cy cl sz)) (va_Qi (fun r (O' : Nat → Int64) => r = kr_cd (kr_i N x) (A 0 (kr_ix x) = 1 ∧ kr_o y) (L < 6) ∧ (kr_cd (kr_i N x) (A 0 (kr_ix x) = 1 ∧ kr_o y) (L < 6) = 0 → O' 0 = Int32.toInt64 (nI L))) (fun O' t => kr_Lq D (kr_WL cy cl h a o N (if kr_cd (kr_i N x) (A 0 (kr_ix x) = 1 ∧ kr_o y) (L < 6) = 0 then L + 1 else L) (if kr_cd (kr_i N x) (A 0 (kr_ix x) = 1 ∧ kr_o y) (L < 6) = 0 then kr_tA A L (kr_ix x) y else A) O') cy cl (va_A (kr_WL cy cl h a o N L A O) sz) t) (va_A (kr_WL cy cl h a o N L A O) sz)) 1 6 (va_A (kr_WL cy cl h a o N L A O) sz) := by
  refine kr_ofL (Qc := fun AA => va_Qi (fun r (O' : Nat → Int64) => r = kr_cd (kr_i N x) (A 0 (kr_ix x) = 1 ∧ kr_o y) (L < 6) ∧ (kr_cd (kr_i N x) (A 0 (kr_ix x) = 1 ∧ kr_o y) (L < 6) = 0 → O' 0 = Int32.toInt64 (nI L))) (fun O' t => kr_Lq D (kr_WL cy cl h a o N (if kr_cd (kr_i N x) (A 0 (kr_ix x) = 1 ∧ kr_o y) (L < 6) = 0 then L + 1 else L) (if kr_cd (kr_i N x) (A 0 (kr_ix x) = 1 ∧ kr_o y) (L < 6) = 0 then kr_tA A L (kr_ix x) y else A) O') cy cl AA t) AA) (by decide) (Nat.le_of_ble_eq_true rfl) ?_
  intro p e s m below meth c ls AA hx hb hml hr hts hown hlocks htab hA hP hK hD hS hT hl
  have hown : s.vm.findClass RL = some m.cls := hown
  have hl : lv_has ls 5 [(0, .ref h), (1, .int x), (2, .int y), (3, .ref o)] := hl
  refine lv_aload_n hx hb dL_tie_0 rfl (lv_at hl 3 rfl) ?_
  refine lv_iconst (v := 0) hx hb dL_tie_1 (by decide) ?_
  refine lv_aload_n hx hb dL_tie_2 rfl (lv_at hl 0 rfl) ?_
  refine lv_iload_n hx hb dL_tie_3 rfl (lv_at hl 1 rfl) ?_
  refine lv_iload_n hx hb dL_tie_4 rfl (lv_at hl 2 rfl) ?_
  by_cases hc : kr_cd (kr_i N x) (A 0 (kr_ix x) = 1 ∧ kr_o y) (L < 6) = 0
  · rw [if_pos hc]
    rw [if_pos hc]
    obtain ⟨hc1, hc2, hc3⟩ := kr_cdE hc
    obtain ⟨hk, ex⟩ := kr_exN hw hc1
    have hM := c_X0_tie l D cy h a N L A s.heap.size (kr_ix x) y hw.1 hk hc2.1 hc2.2 hc3
    rw [← ex] at hM
    refine kr_hwI (n := 2) (As := [.int x, .int y]) (rest := [.int 0, .ref o]) ⟨hx, hb, hml, hown, hts⟩ hM kg_RL_22 ⟨rfl, rfl⟩ (by decide +kernel) ⟨Nat.le_of_ble_eq_true rfl, Nat.le_of_ble_eq_true rfl⟩ hP hK hD hS hA rfl hl.1 rfl (Nat.le_of_ble_eq_true rfl) dL_tie_5 ⟨Nat.zero_le _, Nat.zero_le _⟩ (fun r9 H locs e9 hP hD hS => ?_)
    refine lv_i2l (v := r9.toInt64) hx hb dL_tie_8 rfl ?_
    refine va_last hx hb hK hP hD hS 9 1 rfl rfl (show ¬ ((0 : Int32) < 0 ∨ 1 ≤ (0 : Int32).toNatClampNeg) by decide) dL_tie_9 (fun H locs hP hD hS => ?_)
    have hP : va_P D vwCl (kr_WL cy cl h a o N (L + 1) (kr_tA A L (kr_ix x) y) (vp_updL O (0 : Int32).toNatClampNeg r9.toInt64)) H := hP
    have hD : va_D AA (kr_WL cy cl h a o N (L + 1) (kr_tA A L (kr_ix x) y) (vp_updL O (0 : Int32).toNatClampNeg r9.toInt64)) := hD
    refine lv_goto (tgt := 25) hx hb dL_tie_10 (by decide) ?_
    refine lv_iconst (v := 0) hx hb dL_tie_25 (by decide) ?_
    refine W.widen (k := 1) (n := 6) (by decide) (by decide) ?_
    exact kr_lI hx hb hr hlocks hP hK hD hS ⟨hc.symm, fun _ => (kr_uL _ _).trans (congrArg Int32.toInt64 e9)⟩ dL_tie_26
  · rw [if_neg hc]
    rw [if_neg hc]
    have hM := x_X0_tie l hl0 D cy h a N L A x y hw.1 hw.2.1 hc
    rcases kr_cdX hc with ⟨e1, -⟩ | ⟨e1, h2a, h2b⟩ | ⟨e1, h3a, h3b, h3c⟩
    · rw [e1, kr_E1] at hM
      refine kr_h1 (n := 2) (As := [.int x, .int y]) (rest := [.int 0, .ref o]) ⟨hx, hb, hml, hown, hts⟩ hM kg_RL_22 ⟨rfl, rfl⟩ (by decide +kernel) ⟨Nat.le_of_ble_eq_true rfl, Nat.le_of_ble_eq_true rfl⟩ (kr_pvt hP hK hT) rfl hl.1 rfl (Nat.le_of_ble_eq_true rfl) dL_tie_5 ⟨Nat.le_of_ble_eq_true rfl, Nat.le_of_ble_eq_true rfl⟩ hT htab ⟨by decide, by decide⟩ (fun q9 H hz hk9 => ?_)
      have hP := kr_lkP hP hk9
      have hS := kr_lkS (AA := AA) hz hk9
      refine lv_astore (lv' := [(4, .ref q9), (0, .ref h), (1, .int x), (2, .int y), (3, .ref o)]) hx hb dL_tie_13 hl (by decide) rfl (fun ls hl => ?_)
      refine lv_iconst (v := 1) hx hb dL_tie_15 (by decide) ?_
      exact kr_lI hx hb hr hlocks hP hK hD hS ⟨e1.symm, fun w => absurd w hc⟩ dL_tie_16
    · rw [e1, kr_E2] at hM
      refine kr_h2 (n := 2) (As := [.int x, .int y]) (rest := [.int 0, .ref o]) ⟨hx, hb, hml, hown, hts⟩ hM kg_RL_22 ⟨rfl, rfl⟩ (by decide +kernel) ⟨Nat.le_of_ble_eq_true rfl, Nat.le_of_ble_eq_true rfl⟩ (kr_pvt hP hK hT) rfl hl.1 rfl (Nat.le_of_ble_eq_true rfl) dL_tie_5 ⟨Nat.le_of_ble_eq_true rfl, Nat.le_of_ble_eq_true rfl⟩ hT htab ⟨by decide, by decide⟩ (fun q9 H hz hk9 => ?_)
      have hP := kr_lkP hP hk9
      have hS := kr_lkS (AA := AA) hz hk9
      refine lv_astore (lv' := [(4, .ref q9), (0, .ref h), (1, .int x), (2, .int y), (3, .ref o)]) hx hb dL_tie_17 hl (by decide) rfl (fun ls hl => ?_)
      refine lv_iconst (v := 2) hx hb dL_tie_19 (by decide) ?_
      exact kr_lI hx hb hr hlocks hP hK hD hS ⟨e1.symm, fun w => absurd w hc⟩ dL_tie_20
    · rw [e1, kr_E3] at hM
      refine kr_h3 (n := 2) (As := [.int x, .int y]) (rest := [.int 0, .ref o]) ⟨hx, hb, hml, hown, hts⟩ hM kg_RL_22 ⟨rfl, rfl⟩ (by decide +kernel) ⟨Nat.le_of_ble_eq_true rfl, Nat.le_of_ble_eq_true rfl⟩ (kr_pvt hP hK hT) rfl hl.1 rfl (Nat.le_of_ble_eq_true rfl) dL_tie_5 ⟨Nat.le_of_ble_eq_true rfl, Nat.le_of_ble_eq_true rfl⟩ hT htab ⟨by decide, by decide⟩ (fun q9 H hz hk9 => ?_)
      have hP := kr_lkP hP hk9
      have hS := kr_lkS (AA := AA) hz hk9
      refine lv_astore (lv' := [(4, .ref q9), (0, .ref h), (1, .int x), (2, .int y), (3, .ref o)]) hx hb dL_tie_21 hl (by decide) rfl (fun ls hl => ?_)
      refine lv_iconst (v := 3) hx hb dL_tie_23 (by decide) ?_
      exact kr_lI hx hb hr hlocks hP hK hD hS ⟨e1.symm, fun w => absurd w hc⟩ dL_tie_24
theorem kg_RL_26 : GoodIn kr_all (wsV RL 26 RX0 yX0_join (Cond.code yX0_join cX0_join 4 (some .int) :: kr_all)) := kr_gV kq_387 kq_388 kq_389 kq_48 kq_390
set_option maxHeartbeats 4000000 in
set_option maxRecDepth 100000 in
theorem h_L_join (l : Launch) (hl0 : l.stackTraces = false) (D : va_G) (cy cl : ClassId) (h : Nat) (a : Nat → Nat) (o N L : Nat) (A : Nat → Nat → Int32) (O : Nat → Int64) (sz : Nat) (x y z : Int32) (hw : kr_wf N L A) : Met l yL_join (Cond.codeWith yL_join cL_join 6 (some .int) [(0, 12, 15, 13), (0, 12, 19, 15), (0, 12, 23, 17)] :: kr_all) ({ frames := 8, cells := 1, slots := 6, locals := 135 }) (va_Pc [.ref h, .int x, .int y, .int z, .ref o] (kr_Lw D (kr_WL cy cl h a o N L A O) cy cl sz)) (va_Qi (fun r (O' : Nat → Int64) => r = kr_cd (kr_i L x ∧ kr_i N y) (A 0 (kr_ix y) = 0 ∧ kr_o z) (¬ A 5 (kr_ix x) = 0 ∧ A 5 (kr_ix x) < 5) ∧ (kr_cd (kr_i L x ∧ kr_i N y) (A 0 (kr_ix y) = 0 ∧ kr_o z) (¬ A 5 (kr_ix x) = 0 ∧ A 5 (kr_ix x) < 5) = 0 → O' 0 = Int32.toInt64 (nI (kr_rc A (kr_ix x) + 1)))) (fun O' t => kr_Lq D (kr_WL cy cl h a o N L (if kr_cd (kr_i L x ∧ kr_i N y) (A 0 (kr_ix y) = 0 ∧ kr_o z) (¬ A 5 (kr_ix x) = 0 ∧ A 5 (kr_ix x) < 5) = 0 then kr_jA A (kr_ix x) (kr_rc A (kr_ix x)) (kr_ix y) z else A) O') cy cl (va_A (kr_WL cy cl h a o N L A O) sz) t) (va_A (kr_WL cy cl h a o N L A O) sz)) 1 6 (va_A (kr_WL cy cl h a o N L A O) sz) := by
  refine kr_ofL (Qc := fun AA => va_Qi (fun r (O' : Nat → Int64) => r = kr_cd (kr_i L x ∧ kr_i N y) (A 0 (kr_ix y) = 0 ∧ kr_o z) (¬ A 5 (kr_ix x) = 0 ∧ A 5 (kr_ix x) < 5) ∧ (kr_cd (kr_i L x ∧ kr_i N y) (A 0 (kr_ix y) = 0 ∧ kr_o z) (¬ A 5 (kr_ix x) = 0 ∧ A 5 (kr_ix x) < 5) = 0 → O' 0 = Int32.toInt64 (nI (kr_rc A (kr_ix x) + 1)))) (fun O' t => kr_Lq D (kr_WL cy cl h a o N L (if kr_cd (kr_i L x ∧ kr_i N y) (A 0 (kr_ix y) = 0 ∧ kr_o z) (¬ A 5 (kr_ix x) = 0 ∧ A 5 (kr_ix x) < 5) = 0 then kr_jA A (kr_ix x) (kr_rc A (kr_ix x)) (kr_ix y) z else A) O') cy cl AA t) AA) (by decide) (Nat.le_of_ble_eq_true rfl) ?_
  intro p e s m below meth c ls AA hx hb hml hr hts hown hlocks htab hA hP hK hD hS hT hl
  have hown : s.vm.findClass RL = some m.cls := hown
  have hl : lv_has ls 6 [(0, .ref h), (1, .int x), (2, .int y), (3, .int z), (4, .ref o)] := hl
  refine lv_aload hx hb dL_join_0 (lv_at hl 4 rfl) ?_
  refine lv_iconst (v := 0) hx hb dL_join_2 (by decide) ?_
  refine lv_aload_n hx hb dL_join_3 rfl (lv_at hl 0 rfl) ?_
  refine lv_iload_n hx hb dL_join_4 rfl (lv_at hl 1 rfl) ?_
  refine lv_iload_n hx hb dL_join_5 rfl (lv_at hl 2 rfl) ?_
  refine lv_iload_n hx hb dL_join_6 rfl (lv_at hl 3 rfl) ?_
  by_cases hc : kr_cd (kr_i L x ∧ kr_i N y) (A 0 (kr_ix y) = 0 ∧ kr_o z) (¬ A 5 (kr_ix x) = 0 ∧ A 5 (kr_ix x) < 5) = 0
  · rw [if_pos hc]
    obtain ⟨hc1, hc2, hc3⟩ := kr_cdE hc
    obtain ⟨hk, ex⟩ := kr_exL hw hc1.1
    obtain ⟨hk2, ey⟩ := kr_exN hw hc1.2
    obtain ⟨hrc, er⟩ := hw.rc hk
    have hr9 : 0 < kr_rc A (kr_ix x) := by
      refine Nat.pos_of_ne_zero (fun w => hc3.1 ?_)
      rw [er, w]; rfl
    have hr8 : kr_rc A (kr_ix x) < 5 := by
      have h9 := hc3.2
      rw [er] at h9
      exact kr_lt (by omega) (by omega) (show ¬ nI 5 ≤ nI (kr_rc A (kr_ix x)) from Int32.not_le.mpr h9)
    have hM := c_X0_join l D cy h a N L A s.heap.size (kr_ix x) (kr_rc A (kr_ix x)) (kr_ix y) z hw.1 hw.2.1 hk hk2 hc2.1 hc2.2 er hr9 hr8
    rw [← ex, ← ey] at hM
    refine kr_hwI (n := 3) (As := [.int x, .int y, .int z]) (rest := [.int 0, .ref o]) ⟨hx, hb, hml, hown, hts⟩ hM kg_RL_26 ⟨rfl, rfl⟩ (by decide +kernel) ⟨Nat.le_of_ble_eq_true rfl, Nat.le_of_ble_eq_true rfl⟩ hP hK hD hS hA rfl hl.1 rfl (Nat.le_of_ble_eq_true rfl) dL_join_7 ⟨Nat.zero_le _, Nat.zero_le _⟩ (fun r9 H locs e9 hP hD hS => ?_)
    refine lv_i2l (v := r9.toInt64) hx hb dL_join_10 rfl ?_
    refine va_last hx hb hK hP hD hS 9 1 rfl rfl (show ¬ ((0 : Int32) < 0 ∨ 1 ≤ (0 : Int32).toNatClampNeg) by decide) dL_join_11 (fun H locs hP hD hS => ?_)
    have hP : va_P D vwCl (kr_WL cy cl h a o N L (kr_jA A (kr_ix x) (kr_rc A (kr_ix x)) (kr_ix y) z) (vp_updL O (0 : Int32).toNatClampNeg r9.toInt64)) H := hP
    have hD : va_D AA (kr_WL cy cl h a o N L (kr_jA A (kr_ix x) (kr_rc A (kr_ix x)) (kr_ix y) z) (vp_updL O (0 : Int32).toNatClampNeg r9.toInt64)) := hD
    refine lv_goto (tgt := 27) hx hb dL_join_12 (by decide) ?_
    refine lv_iconst (v := 0) hx hb dL_join_27 (by decide) ?_
    refine W.widen (k := 1) (n := 6) (by decide) (by decide) ?_
    exact kr_lI hx hb hr hlocks hP hK hD hS ⟨hc.symm, fun _ => (kr_uL _ _).trans (congrArg Int32.toInt64 e9)⟩ dL_join_28
  · rw [if_neg hc]
    have hM := x_X0_join l hl0 D cy h a N L A x y z hw hc
    rcases kr_cdX hc with ⟨e1, -⟩ | ⟨e1, h2a, h2b⟩ | ⟨e1, h3a, h3b, h3c⟩
    · rw [e1, kr_E1] at hM
      refine kr_h1 (n := 3) (As := [.int x, .int y, .int z]) (rest := [.int 0, .ref o]) ⟨hx, hb, hml, hown, hts⟩ hM kg_RL_26 ⟨rfl, rfl⟩ (by decide +kernel) ⟨Nat.le_of_ble_eq_true rfl, Nat.le_of_ble_eq_true rfl⟩ (kr_pvt hP hK hT) rfl hl.1 rfl (Nat.le_of_ble_eq_true rfl) dL_join_7 ⟨Nat.le_of_ble_eq_true rfl, Nat.le_of_ble_eq_true rfl⟩ hT htab ⟨by decide, by decide⟩ (fun q9 H hz hk9 => ?_)
      have hP := kr_lkP hP hk9
      have hS := kr_lkS (AA := AA) hz hk9
      refine lv_astore (lv' := [(5, .ref q9), (0, .ref h), (1, .int x), (2, .int y), (3, .int z), (4, .ref o)]) hx hb dL_join_15 hl (by decide) rfl (fun ls hl => ?_)
      refine lv_iconst (v := 1) hx hb dL_join_17 (by decide) ?_
      exact kr_lI hx hb hr hlocks hP hK hD hS ⟨e1.symm, fun w => absurd w hc⟩ dL_join_18
    · rw [e1, kr_E2] at hM
      refine kr_h2 (n := 3) (As := [.int x, .int y, .int z]) (rest := [.int 0, .ref o]) ⟨hx, hb, hml, hown, hts⟩ hM kg_RL_26 ⟨rfl, rfl⟩ (by decide +kernel) ⟨Nat.le_of_ble_eq_true rfl, Nat.le_of_ble_eq_true rfl⟩ (kr_pvt hP hK hT) rfl hl.1 rfl (Nat.le_of_ble_eq_true rfl) dL_join_7 ⟨Nat.le_of_ble_eq_true rfl, Nat.le_of_ble_eq_true rfl⟩ hT htab ⟨by decide, by decide⟩ (fun q9 H hz hk9 => ?_)
      have hP := kr_lkP hP hk9
      have hS := kr_lkS (AA := AA) hz hk9
      refine lv_astore (lv' := [(5, .ref q9), (0, .ref h), (1, .int x), (2, .int y), (3, .int z), (4, .ref o)]) hx hb dL_join_19 hl (by decide) rfl (fun ls hl => ?_)
      refine lv_iconst (v := 2) hx hb dL_join_21 (by decide) ?_
      exact kr_lI hx hb hr hlocks hP hK hD hS ⟨e1.symm, fun w => absurd w hc⟩ dL_join_22
    · rw [e1, kr_E3] at hM
      refine kr_h3 (n := 3) (As := [.int x, .int y, .int z]) (rest := [.int 0, .ref o]) ⟨hx, hb, hml, hown, hts⟩ hM kg_RL_26 ⟨rfl, rfl⟩ (by decide +kernel) ⟨Nat.le_of_ble_eq_true rfl, Nat.le_of_ble_eq_true rfl⟩ (kr_pvt hP hK hT) rfl hl.1 rfl (Nat.le_of_ble_eq_true rfl) dL_join_7 ⟨Nat.le_of_ble_eq_true rfl, Nat.le_of_ble_eq_true rfl⟩ hT htab ⟨by decide, by decide⟩ (fun q9 H hz hk9 => ?_)
      have hP := kr_lkP hP hk9
      have hS := kr_lkS (AA := AA) hz hk9
      refine lv_astore (lv' := [(5, .ref q9), (0, .ref h), (1, .int x), (2, .int y), (3, .int z), (4, .ref o)]) hx hb dL_join_23 hl (by decide) rfl (fun ls hl => ?_)
      refine lv_iconst (v := 3) hx hb dL_join_25 (by decide) ?_
      exact kr_lI hx hb hr hlocks hP hK hD hS ⟨e1.symm, fun w => absurd w hc⟩ dL_join_26
theorem kg_RL_29 : GoodIn kr_all (wsV RL 29 RX0 yX0_retie (Cond.code yX0_retie cX0_retie 6 (some .int) :: kr_all)) := kr_gV kq_400 kq_401 kq_402 kq_48 kq_403
set_option maxHeartbeats 4000000 in
set_option maxRecDepth 100000 in
theorem h_L_retie (l : Launch) (hl0 : l.stackTraces = false) (D : va_G) (cy cl : ClassId) (h : Nat) (a : Nat → Nat) (o N L : Nat) (A : Nat → Nat → Int32) (O : Nat → Int64) (sz : Nat) (x y z : Int32) (hw : kr_wf N L A) : Met l yL_retie (Cond.codeWith yL_retie cL_retie 6 (some .int) [(0, 12, 15, 13), (0, 12, 19, 15)] :: kr_all) ({ frames := 9, cells := 1, slots := 6, locals := 158 }) (va_Pc [.ref h, .int x, .int y, .int z, .ref o] (kr_Lw D (kr_WL cy cl h a o N L A O) cy cl sz)) (va_Qi (fun r (O' : Nat → Int64) => r = kr_cd (kr_q L A x y ∧ kr_i N z) (A 0 (kr_ix z) = if y = 0 then 1 else 0) True ∧ (kr_cd (kr_q L A x y ∧ kr_i N z) (A 0 (kr_ix z) = if y = 0 then 1 else 0) True = 0 → O' 0 = Int32.toInt64 (A 6 (5 * kr_ix x + kr_ix y)))) (fun O' t => kr_Lq D (kr_WL cy cl h a o N L (if kr_cd (kr_q L A x y ∧ kr_i N z) (A 0 (kr_ix z) = if y = 0 then 1 else 0) True = 0 then kr_rA A (5 * kr_ix x + kr_ix y) (kr_ix z) else A) O') cy cl (va_A (kr_WL cy cl h a o N L A O) sz) t) (va_A (kr_WL cy cl h a o N L A O) sz)) 1 6 (va_A (kr_WL cy cl h a o N L A O) sz) := by
  refine kr_ofL (Qc := fun AA => va_Qi (fun r (O' : Nat → Int64) => r = kr_cd (kr_q L A x y ∧ kr_i N z) (A 0 (kr_ix z) = if y = 0 then 1 else 0) True ∧ (kr_cd (kr_q L A x y ∧ kr_i N z) (A 0 (kr_ix z) = if y = 0 then 1 else 0) True = 0 → O' 0 = Int32.toInt64 (A 6 (5 * kr_ix x + kr_ix y)))) (fun O' t => kr_Lq D (kr_WL cy cl h a o N L (if kr_cd (kr_q L A x y ∧ kr_i N z) (A 0 (kr_ix z) = if y = 0 then 1 else 0) True = 0 then kr_rA A (5 * kr_ix x + kr_ix y) (kr_ix z) else A) O') cy cl AA t) AA) (by decide) (Nat.le_of_ble_eq_true rfl) ?_
  intro p e s m below meth c ls AA hx hb hml hr hts hown hlocks htab hA hP hK hD hS hT hl
  have hown : s.vm.findClass RL = some m.cls := hown
  have hl : lv_has ls 6 [(0, .ref h), (1, .int x), (2, .int y), (3, .int z), (4, .ref o)] := hl
  refine lv_aload hx hb dL_retie_0 (lv_at hl 4 rfl) ?_
  refine lv_iconst (v := 0) hx hb dL_retie_2 (by decide) ?_
  refine lv_aload_n hx hb dL_retie_3 rfl (lv_at hl 0 rfl) ?_
  refine lv_iload_n hx hb dL_retie_4 rfl (lv_at hl 1 rfl) ?_
  refine lv_iload_n hx hb dL_retie_5 rfl (lv_at hl 2 rfl) ?_
  refine lv_iload_n hx hb dL_retie_6 rfl (lv_at hl 3 rfl) ?_
  by_cases hc : kr_cd (kr_q L A x y ∧ kr_i N z) (A 0 (kr_ix z) = if y = 0 then 1 else 0) True = 0
  · rw [if_pos hc]
    obtain ⟨hc1, hc2, hc3⟩ := kr_cdE hc
    obtain ⟨hk, hp, ex, ey⟩ := kr_exP hw hc1.1
    obtain ⟨hk2, ez⟩ := kr_exN hw hc1.2
    have hM := c_X0_retie l D cy h a N L A s.heap.size (kr_ix x) (kr_ix y) (kr_ix z) hw hk hp hk2 (by rw [← ey]; exact hc2)
    rw [← ex, ← ey, ← ez] at hM
    refine kr_hwI (n := 3) (As := [.int x, .int y, .int z]) (rest := [.int 0, .ref o]) ⟨hx, hb, hml, hown, hts⟩ hM kg_RL_29 ⟨rfl, rfl⟩ (by decide +kernel) ⟨Nat.le_of_ble_eq_true rfl, Nat.le_of_ble_eq_true rfl⟩ hP hK hD hS hA rfl hl.1 rfl (Nat.le_of_ble_eq_true rfl) dL_retie_7 ⟨Nat.zero_le _, Nat.zero_le _⟩ (fun r9 H locs e9 hP hD hS => ?_)
    refine lv_i2l (v := r9.toInt64) hx hb dL_retie_10 rfl ?_
    refine va_last hx hb hK hP hD hS 9 1 rfl rfl (show ¬ ((0 : Int32) < 0 ∨ 1 ≤ (0 : Int32).toNatClampNeg) by decide) dL_retie_11 (fun H locs hP hD hS => ?_)
    have hP : va_P D vwCl (kr_WL cy cl h a o N L (kr_rA A (5 * kr_ix x + kr_ix y) (kr_ix z)) (vp_updL O (0 : Int32).toNatClampNeg r9.toInt64)) H := hP
    have hD : va_D AA (kr_WL cy cl h a o N L (kr_rA A (5 * kr_ix x + kr_ix y) (kr_ix z)) (vp_updL O (0 : Int32).toNatClampNeg r9.toInt64)) := hD
    refine lv_goto (tgt := 23) hx hb dL_retie_12 (by decide) ?_
    refine lv_iconst (v := 0) hx hb dL_retie_23 (by decide) ?_
    refine W.widen (k := 1) (n := 6) (by decide) (by decide) ?_
    exact kr_lI hx hb hr hlocks hP hK hD hS ⟨hc.symm, fun _ => (kr_uL _ _).trans (congrArg Int32.toInt64 e9)⟩ dL_retie_24
  · rw [if_neg hc]
    have hM := x_X0_retie l hl0 D cy h a N L A x y z hw hc
    rcases kr_cdX hc with ⟨e1, -⟩ | ⟨e1, h2a, h2b⟩ | ⟨e1, h3a, h3b, h3c⟩
    · rw [e1, kr_E1] at hM
      refine kr_h1 (n := 3) (As := [.int x, .int y, .int z]) (rest := [.int 0, .ref o]) ⟨hx, hb, hml, hown, hts⟩ hM kg_RL_29 ⟨rfl, rfl⟩ (by decide +kernel) ⟨Nat.le_of_ble_eq_true rfl, Nat.le_of_ble_eq_true rfl⟩ (kr_pvt hP hK hT) rfl hl.1 rfl (Nat.le_of_ble_eq_true rfl) dL_retie_7 ⟨Nat.le_of_ble_eq_true rfl, Nat.le_of_ble_eq_true rfl⟩ hT htab ⟨by decide, by decide⟩ (fun q9 H hz hk9 => ?_)
      have hP := kr_lkP hP hk9
      have hS := kr_lkS (AA := AA) hz hk9
      refine lv_astore (lv' := [(5, .ref q9), (0, .ref h), (1, .int x), (2, .int y), (3, .int z), (4, .ref o)]) hx hb dL_retie_15 hl (by decide) rfl (fun ls hl => ?_)
      refine lv_iconst (v := 1) hx hb dL_retie_17 (by decide) ?_
      exact kr_lI hx hb hr hlocks hP hK hD hS ⟨e1.symm, fun w => absurd w hc⟩ dL_retie_18
    · rw [e1, kr_E2] at hM
      refine kr_h2 (n := 3) (As := [.int x, .int y, .int z]) (rest := [.int 0, .ref o]) ⟨hx, hb, hml, hown, hts⟩ hM kg_RL_29 ⟨rfl, rfl⟩ (by decide +kernel) ⟨Nat.le_of_ble_eq_true rfl, Nat.le_of_ble_eq_true rfl⟩ (kr_pvt hP hK hT) rfl hl.1 rfl (Nat.le_of_ble_eq_true rfl) dL_retie_7 ⟨Nat.le_of_ble_eq_true rfl, Nat.le_of_ble_eq_true rfl⟩ hT htab ⟨by decide, by decide⟩ (fun q9 H hz hk9 => ?_)
      have hP := kr_lkP hP hk9
      have hS := kr_lkS (AA := AA) hz hk9
      refine lv_astore (lv' := [(5, .ref q9), (0, .ref h), (1, .int x), (2, .int y), (3, .int z), (4, .ref o)]) hx hb dL_retie_19 hl (by decide) rfl (fun ls hl => ?_)
      refine lv_iconst (v := 2) hx hb dL_retie_21 (by decide) ?_
      exact kr_lI hx hb hr hlocks hP hK hD hS ⟨e1.symm, fun w => absurd w hc⟩ dL_retie_22
    · exact absurd trivial h3c
theorem kg_RL_32 : GoodIn kr_all (wsV RL 32 RX0 yX0_pull (Cond.code yX0_pull cX0_pull 6 (some .int) :: kr_all)) := kr_gV kq_410 kq_411 kq_412 kq_48 kq_413
set_option maxHeartbeats 4000000 in
set_option maxRecDepth 100000 in
theorem h_L_pull (l : Launch) (hl0 : l.stackTraces = false) (D : va_G) (cy cl : ClassId) (h : Nat) (a : Nat → Nat) (o N L : Nat) (A : Nat → Nat → Int32) (O : Nat → Int64) (sz : Nat) (x y : Int32) (hw : kr_wf N L A) : Met l yL_pull (Cond.codeWith yL_pull cL_pull 5 (some .int) [(0, 10, 13, 13), (0, 10, 17, 15), (0, 10, 21, 17)] :: kr_all) ({ frames := 8, cells := 1, slots := 6, locals := 139 }) (va_Pc [.ref h, .int x, .int y, .ref o] (kr_Lw D (kr_WL cy cl h a o N L A O) cy cl sz)) (va_Qi (fun r (O' : Nat → Int64) => r = kr_cd (kr_i L x) (kr_o y) (¬ A 5 (kr_ix x) = 0) ∧ (kr_cd (kr_i L x) (kr_o y) (¬ A 5 (kr_ix x) = 0) = 0 → O' 0 = Int32.toInt64 (kr_gw A (kr_ix x) y))) (fun O' t => kr_Lq D (kr_WL cy cl h a o N L (if kr_cd (kr_i L x) (kr_o y) (¬ A 5 (kr_ix x) = 0) = 0 then kr_pA A (kr_ix x) y else A) O') cy cl (va_A (kr_WL cy cl h a o N L A O) sz) t) (va_A (kr_WL cy cl h a o N L A O) sz)) 1 6 (va_A (kr_WL cy cl h a o N L A O) sz) := by
  refine kr_ofL (Qc := fun AA => va_Qi (fun r (O' : Nat → Int64) => r = kr_cd (kr_i L x) (kr_o y) (¬ A 5 (kr_ix x) = 0) ∧ (kr_cd (kr_i L x) (kr_o y) (¬ A 5 (kr_ix x) = 0) = 0 → O' 0 = Int32.toInt64 (kr_gw A (kr_ix x) y))) (fun O' t => kr_Lq D (kr_WL cy cl h a o N L (if kr_cd (kr_i L x) (kr_o y) (¬ A 5 (kr_ix x) = 0) = 0 then kr_pA A (kr_ix x) y else A) O') cy cl AA t) AA) (by decide) (Nat.le_of_ble_eq_true rfl) ?_
  intro p e s m below meth c ls AA hx hb hml hr hts hown hlocks htab hA hP hK hD hS hT hl
  have hown : s.vm.findClass RL = some m.cls := hown
  have hl : lv_has ls 5 [(0, .ref h), (1, .int x), (2, .int y), (3, .ref o)] := hl
  refine lv_aload_n hx hb dL_pull_0 rfl (lv_at hl 3 rfl) ?_
  refine lv_iconst (v := 0) hx hb dL_pull_1 (by decide) ?_
  refine lv_aload_n hx hb dL_pull_2 rfl (lv_at hl 0 rfl) ?_
  refine lv_iload_n hx hb dL_pull_3 rfl (lv_at hl 1 rfl) ?_
  refine lv_iload_n hx hb dL_pull_4 rfl (lv_at hl 2 rfl) ?_
  by_cases hc : kr_cd (kr_i L x) (kr_o y) (¬ A 5 (kr_ix x) = 0) = 0
  · rw [if_pos hc]
    obtain ⟨hc1, hc2, hc3⟩ := kr_cdE hc
    obtain ⟨hk, ex⟩ := kr_exL hw hc1
    have hM := c_X0_pull l D cy h a N L A s.heap.size (kr_ix x) y hw hk hc2 hc3
    rw [← ex] at hM
    refine kr_hwI (n := 2) (As := [.int x, .int y]) (rest := [.int 0, .ref o]) ⟨hx, hb, hml, hown, hts⟩ hM kg_RL_32 ⟨rfl, rfl⟩ (by decide +kernel) ⟨Nat.le_of_ble_eq_true rfl, Nat.le_of_ble_eq_true rfl⟩ hP hK hD hS hA rfl hl.1 rfl (Nat.le_of_ble_eq_true rfl) dL_pull_5 ⟨Nat.zero_le _, Nat.zero_le _⟩ (fun r9 H locs e9 hP hD hS => ?_)
    refine lv_i2l (v := r9.toInt64) hx hb dL_pull_8 rfl ?_
    refine va_last hx hb hK hP hD hS 9 1 rfl rfl (show ¬ ((0 : Int32) < 0 ∨ 1 ≤ (0 : Int32).toNatClampNeg) by decide) dL_pull_9 (fun H locs hP hD hS => ?_)
    have hP : va_P D vwCl (kr_WL cy cl h a o N L (kr_pA A (kr_ix x) y) (vp_updL O (0 : Int32).toNatClampNeg r9.toInt64)) H := hP
    have hD : va_D AA (kr_WL cy cl h a o N L (kr_pA A (kr_ix x) y) (vp_updL O (0 : Int32).toNatClampNeg r9.toInt64)) := hD
    refine lv_goto (tgt := 25) hx hb dL_pull_10 (by decide) ?_
    refine lv_iconst (v := 0) hx hb dL_pull_25 (by decide) ?_
    refine W.widen (k := 1) (n := 6) (by decide) (by decide) ?_
    exact kr_lI hx hb hr hlocks hP hK hD hS ⟨hc.symm, fun _ => (kr_uL _ _).trans (congrArg Int32.toInt64 e9)⟩ dL_pull_26
  · rw [if_neg hc]
    have hM := x_X0_pull l hl0 D cy h a N L A x y hw.2.1 hc
    rcases kr_cdX hc with ⟨e1, -⟩ | ⟨e1, h2a, h2b⟩ | ⟨e1, h3a, h3b, h3c⟩
    · rw [e1, kr_E1] at hM
      refine kr_h1 (n := 2) (As := [.int x, .int y]) (rest := [.int 0, .ref o]) ⟨hx, hb, hml, hown, hts⟩ hM kg_RL_32 ⟨rfl, rfl⟩ (by decide +kernel) ⟨Nat.le_of_ble_eq_true rfl, Nat.le_of_ble_eq_true rfl⟩ (kr_pvt hP hK hT) rfl hl.1 rfl (Nat.le_of_ble_eq_true rfl) dL_pull_5 ⟨Nat.le_of_ble_eq_true rfl, Nat.le_of_ble_eq_true rfl⟩ hT htab ⟨by decide, by decide⟩ (fun q9 H hz hk9 => ?_)
      have hP := kr_lkP hP hk9
      have hS := kr_lkS (AA := AA) hz hk9
      refine lv_astore (lv' := [(4, .ref q9), (0, .ref h), (1, .int x), (2, .int y), (3, .ref o)]) hx hb dL_pull_13 hl (by decide) rfl (fun ls hl => ?_)
      refine lv_iconst (v := 1) hx hb dL_pull_15 (by decide) ?_
      exact kr_lI hx hb hr hlocks hP hK hD hS ⟨e1.symm, fun w => absurd w hc⟩ dL_pull_16
    · rw [e1, kr_E2] at hM
      refine kr_h2 (n := 2) (As := [.int x, .int y]) (rest := [.int 0, .ref o]) ⟨hx, hb, hml, hown, hts⟩ hM kg_RL_32 ⟨rfl, rfl⟩ (by decide +kernel) ⟨Nat.le_of_ble_eq_true rfl, Nat.le_of_ble_eq_true rfl⟩ (kr_pvt hP hK hT) rfl hl.1 rfl (Nat.le_of_ble_eq_true rfl) dL_pull_5 ⟨Nat.le_of_ble_eq_true rfl, Nat.le_of_ble_eq_true rfl⟩ hT htab ⟨by decide, by decide⟩ (fun q9 H hz hk9 => ?_)
      have hP := kr_lkP hP hk9
      have hS := kr_lkS (AA := AA) hz hk9
      refine lv_astore (lv' := [(4, .ref q9), (0, .ref h), (1, .int x), (2, .int y), (3, .ref o)]) hx hb dL_pull_17 hl (by decide) rfl (fun ls hl => ?_)
      refine lv_iconst (v := 2) hx hb dL_pull_19 (by decide) ?_
      exact kr_lI hx hb hr hlocks hP hK hD hS ⟨e1.symm, fun w => absurd w hc⟩ dL_pull_20
    · rw [e1, kr_E3] at hM
      refine kr_h3 (n := 2) (As := [.int x, .int y]) (rest := [.int 0, .ref o]) ⟨hx, hb, hml, hown, hts⟩ hM kg_RL_32 ⟨rfl, rfl⟩ (by decide +kernel) ⟨Nat.le_of_ble_eq_true rfl, Nat.le_of_ble_eq_true rfl⟩ (kr_pvt hP hK hT) rfl hl.1 rfl (Nat.le_of_ble_eq_true rfl) dL_pull_5 ⟨Nat.le_of_ble_eq_true rfl, Nat.le_of_ble_eq_true rfl⟩ hT htab ⟨by decide, by decide⟩ (fun q9 H hz hk9 => ?_)
      have hP := kr_lkP hP hk9
      have hS := kr_lkS (AA := AA) hz hk9
      refine lv_astore (lv' := [(4, .ref q9), (0, .ref h), (1, .int x), (2, .int y), (3, .ref o)]) hx hb dL_pull_21 hl (by decide) rfl (fun ls hl => ?_)
      refine lv_iconst (v := 3) hx hb dL_pull_23 (by decide) ?_
      exact kr_lI hx hb hr hlocks hP hK hD hS ⟨e1.symm, fun w => absurd w hc⟩ dL_pull_24
