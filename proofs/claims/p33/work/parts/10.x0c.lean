set_option maxHeartbeats 4000000 in
set_option maxRecDepth 100000 in
theorem c_X0_knots (l : Launch) (D : va_G) (cy : ClassId) (h : Nat) (a : Nat → Nat) (N L : Nat) (A : Nat → Nat → Int32) : Met l yX0_knots (Cond.code yX0_knots cX0_knots 1 (some .int) :: kr_all) ({ frames := 0, cells := 0, slots := 0, locals := 0 }) (va_Pc [.ref h] (kr_R D (kr_W0 cy h a N L A) cy)) (vp_Si (fun r => r = nI N)) 0 0 (fun _ => False) := by
  refine kr_of (by decide) (Nat.le_of_ble_eq_true rfl) ?_
  intro p e s m below meth c ls hx hb hml hr hts hown hlocks hin hv hl
  obtain ⟨hP, hK⟩ := hv
  have hown : s.vm.findClass RX0 = some m.cls := hown
  have hl : lv_has ls 1 [(0, .ref h)] := hl
  refine lv_aload_n hx hb dX0_knots_0 rfl (lv_at hl 0 rfl) ?_
  refine va_get (ci := 0) (v := .int (nI N)) (C := RX0) (T := TX0) (N := 10) hx hb hts kr_wsX0 hown hK hP 0 rfl rfl 5 (by decide) (hts _ kq_47) (fun _ h9 => h9) rfl dX0_knots_1 ?_
  exact kr_eI hx hb hr hlocks rfl rfl dX0_knots_4
set_option maxHeartbeats 4000000 in
set_option maxRecDepth 100000 in
theorem c_X0_lines (l : Launch) (D : va_G) (cy : ClassId) (h : Nat) (a : Nat → Nat) (N L : Nat) (A : Nat → Nat → Int32) : Met l yX0_lines (Cond.code yX0_lines cX0_lines 1 (some .int) :: kr_all) ({ frames := 0, cells := 0, slots := 0, locals := 0 }) (va_Pc [.ref h] (kr_R D (kr_W0 cy h a N L A) cy)) (vp_Si (fun r => r = nI L)) 0 0 (fun _ => False) := by
  refine kr_of (by decide) (Nat.le_of_ble_eq_true rfl) ?_
  intro p e s m below meth c ls hx hb hml hr hts hown hlocks hin hv hl
  obtain ⟨hP, hK⟩ := hv
  have hown : s.vm.findClass RX0 = some m.cls := hown
  have hl : lv_has ls 1 [(0, .ref h)] := hl
  refine lv_aload_n hx hb dX0_lines_0 rfl (lv_at hl 0 rfl) ?_
  refine va_get (ci := 0) (v := .int (nI L)) (C := RX0) (T := TX0) (N := 10) hx hb hts kr_wsX0 hown hK hP 0 rfl rfl 7 (by decide) (hts _ kq_49) (fun _ h9 => h9) rfl dX0_lines_1 ?_
  exact kr_eI hx hb hr hlocks rfl rfl dX0_lines_4
theorem kg_RX0_41 : GoodIn kr_all (wsS RX0 41 yX0_checkKind (Cond.code yX0_checkKind cX0_checkKind 1 none :: kr_all)) := kr_gS kq_253 kq_254 kq_25 kq_255
theorem kg_RX0_107 : GoodIn kr_all (wsV RX0 107 RX0 yX0_countOfKind (Cond.code yX0_countOfKind cX0_countOfKind 4 (some .int) :: kr_all)) := kr_gV kq_257 kq_259 kq_13 kq_25 kq_260
set_option maxHeartbeats 4000000 in
set_option maxRecDepth 100000 in
theorem c_X0_knotsOf (l : Launch) (D : va_G) (cy : ClassId) (h : Nat) (a : Nat → Nat) (N L : Nat) (A : Nat → Nat → Int32) (kd : Int32) (hN : N ≤ 16) (hkd : kd = 0 ∨ kd = 1) : Met l yX0_knotsOf (Cond.code yX0_knotsOf cX0_knotsOf 2 (some .int) :: kr_all) ({ frames := 1, cells := 0, slots := 0, locals := 23 }) (va_Pc [.ref h, .int kd] (kr_R D (kr_W0 cy h a N L A) cy)) (vp_Si (fun r => r = nI (kr_cn A kd N))) 0 0 (fun _ => False) := by
  refine kr_of (by decide) (Nat.le_of_ble_eq_true rfl) ?_
  intro p e s m below meth c ls hx hb hml hr hts hown hlocks hin hv hl
  obtain ⟨hP, hK⟩ := hv
  have hown : s.vm.findClass RX0 = some m.cls := hown
  have hl : lv_has ls 2 [(0, .ref h), (1, .int kd)] := hl
  refine lv_iload_n hx hb dX0_knotsOf_0 rfl (lv_at hl 1 rfl) ?_
  refine kr_sV (n := 1) (As := [.int kd]) (rest := []) ⟨hx, hb, hml, hown, hts⟩ (c_X0_checkKind l kd (by assumption)) kg_RX0_41 ⟨rfl, rfl⟩ (by decide +kernel) ⟨Nat.le_of_ble_eq_true rfl, Nat.le_of_ble_eq_true rfl⟩ ⟨kr_blT, fun U hU hW => ⟨rfl, trivial⟩⟩ rfl hl.1 rfl (Nat.le_of_ble_eq_true rfl) dX0_knotsOf_1 ⟨Nat.zero_le _, Nat.zero_le _⟩ ?_
  refine lv_aload_n hx hb dX0_knotsOf_4 rfl (lv_at hl 0 rfl) ?_
  refine lv_iload_n hx hb dX0_knotsOf_5 rfl (lv_at hl 1 rfl) ?_
  refine kr_vI (n := 1) (As := [.int kd]) (rest := []) ⟨hx, hb, hml, hown, hts⟩ (c_X0_countOfKind l D cy h a N L A kd (by omega)) kg_RX0_107 ⟨rfl, rfl⟩ (by decide +kernel) ⟨Nat.le_of_ble_eq_true rfl, Nat.le_of_ble_eq_true rfl⟩ (kr_pv0 hP hK) rfl hl.1 rfl (Nat.le_of_ble_eq_true rfl) dX0_knotsOf_6 ⟨Nat.zero_le _, Nat.zero_le _⟩ (fun r9 e9 => ?_)
  subst e9
  exact kr_eI hx hb hr hlocks rfl rfl dX0_knotsOf_9
theorem kg_RX0_59 : GoodIn kr_all (wsV RX0 59 RX0 yX0_checkKnot (Cond.code yX0_checkKnot cX0_checkKnot 2 none :: kr_all)) := kr_gV kq_155 kq_157 kq_3 kq_25 kq_158
set_option maxHeartbeats 4000000 in
set_option maxRecDepth 100000 in
theorem c_X0_kindOf (l : Launch) (D : va_G) (cy : ClassId) (h : Nat) (a : Nat → Nat) (N L : Nat) (A : Nat → Nat → Int32) (k : Nat) (hN : N ≤ 16) (hk : k < N) : Met l yX0_kindOf (Cond.code yX0_kindOf cX0_kindOf 2 (some .int) :: kr_all) ({ frames := 2, cells := 0, slots := 0, locals := 42 }) (va_Pc [.ref h, .int (nI k)] (kr_R D (kr_W0 cy h a N L A) cy)) (vp_Si (fun r => r = A 0 k)) 0 0 (fun _ => False) := by
  refine kr_of (by decide) (Nat.le_of_ble_eq_true rfl) ?_
  intro p e s m below meth c ls hx hb hml hr hts hown hlocks hin hv hl
  obtain ⟨hP, hK⟩ := hv
  have hown : s.vm.findClass RX0 = some m.cls := hown
  have hl : lv_has ls 2 [(0, .ref h), (1, .int (nI k))] := hl
  refine lv_aload_n hx hb dX0_kindOf_0 rfl (lv_at hl 0 rfl) ?_
  refine lv_iload_n hx hb dX0_kindOf_1 rfl (lv_at hl 1 rfl) ?_
  refine kr_vV (n := 1) (As := [.int (nI k)]) (rest := []) ⟨hx, hb, hml, hown, hts⟩ (c_X0_checkKnot l D cy h a N L A k (by omega) (by omega)) kg_RX0_59 ⟨rfl, rfl⟩ (by decide +kernel) ⟨Nat.le_of_ble_eq_true rfl, Nat.le_of_ble_eq_true rfl⟩ (kr_pv0 hP hK) rfl hl.1 rfl (Nat.le_of_ble_eq_true rfl) dX0_kindOf_2 ⟨Nat.zero_le _, Nat.zero_le _⟩ ?_
  refine lv_aload_n hx hb dX0_kindOf_5 rfl (lv_at hl 0 rfl) ?_
  refine va_get (ci := 0) (v := .ref (a 0)) (C := RX0) (T := TX0) (N := 10) hx hb hts kr_wsX0 hown hK hP 0 rfl rfl 0 (by decide) (hts _ kq_42) (fun _ h9 => h9) rfl dX0_kindOf_6 ?_
  refine lv_iload_n hx hb dX0_kindOf_9 rfl (lv_at hl 1 rfl) ?_
  refine kr_ald hx hb hK hP 1 0 rfl rfl k (by omega) (by decide) dX0_kindOf_10 ?_
  exact kr_eI hx hb hr hlocks rfl rfl dX0_kindOf_11
set_option maxHeartbeats 4000000 in
set_option maxRecDepth 100000 in
theorem c_X0_efficiencyOf (l : Launch) (D : va_G) (cy : ClassId) (h : Nat) (a : Nat → Nat) (N L : Nat) (A : Nat → Nat → Int32) (k : Nat) (hN : N ≤ 16) (hk : k < N) : Met l yX0_efficiencyOf (Cond.code yX0_efficiencyOf cX0_efficiencyOf 2 (some .int) :: kr_all) ({ frames := 2, cells := 0, slots := 0, locals := 42 }) (va_Pc [.ref h, .int (nI k)] (kr_R D (kr_W0 cy h a N L A) cy)) (vp_Si (fun r => r = A 1 k)) 0 0 (fun _ => False) := by
  refine kr_of (by decide) (Nat.le_of_ble_eq_true rfl) ?_
  intro p e s m below meth c ls hx hb hml hr hts hown hlocks hin hv hl
  obtain ⟨hP, hK⟩ := hv
  have hown : s.vm.findClass RX0 = some m.cls := hown
  have hl : lv_has ls 2 [(0, .ref h), (1, .int (nI k))] := hl
  refine lv_aload_n hx hb dX0_efficiencyOf_0 rfl (lv_at hl 0 rfl) ?_
  refine lv_iload_n hx hb dX0_efficiencyOf_1 rfl (lv_at hl 1 rfl) ?_
  refine kr_vV (n := 1) (As := [.int (nI k)]) (rest := []) ⟨hx, hb, hml, hown, hts⟩ (c_X0_checkKnot l D cy h a N L A k (by omega) (by omega)) kg_RX0_59 ⟨rfl, rfl⟩ (by decide +kernel) ⟨Nat.le_of_ble_eq_true rfl, Nat.le_of_ble_eq_true rfl⟩ (kr_pv0 hP hK) rfl hl.1 rfl (Nat.le_of_ble_eq_true rfl) dX0_efficiencyOf_2 ⟨Nat.zero_le _, Nat.zero_le _⟩ ?_
  refine lv_aload_n hx hb dX0_efficiencyOf_5 rfl (lv_at hl 0 rfl) ?_
  refine va_get (ci := 0) (v := .ref (a 1)) (C := RX0) (T := TX0) (N := 10) hx hb hts kr_wsX0 hown hK hP 0 rfl rfl 1 (by decide) (hts _ kq_43) (fun _ h9 => h9) rfl dX0_efficiencyOf_6 ?_
  refine lv_iload_n hx hb dX0_efficiencyOf_9 rfl (lv_at hl 1 rfl) ?_
  refine kr_ald hx hb hK hP 2 0 rfl rfl k (by omega) (by decide) dX0_efficiencyOf_10 ?_
  exact kr_eI hx hb hr hlocks rfl rfl dX0_efficiencyOf_11
set_option maxHeartbeats 4000000 in
set_option maxRecDepth 100000 in
theorem c_X0_crossingsOf (l : Launch) (D : va_G) (cy : ClassId) (h : Nat) (a : Nat → Nat) (N L : Nat) (A : Nat → Nat → Int32) (k : Nat) (hN : N ≤ 16) (hk : k < N) : Met l yX0_crossingsOf (Cond.code yX0_crossingsOf cX0_crossingsOf 2 (some .int) :: kr_all) ({ frames := 2, cells := 0, slots := 0, locals := 42 }) (va_Pc [.ref h, .int (nI k)] (kr_R D (kr_W0 cy h a N L A) cy)) (vp_Si (fun r => r = A 2 k)) 0 0 (fun _ => False) := by
  refine kr_of (by decide) (Nat.le_of_ble_eq_true rfl) ?_
  intro p e s m below meth c ls hx hb hml hr hts hown hlocks hin hv hl
  obtain ⟨hP, hK⟩ := hv
  have hown : s.vm.findClass RX0 = some m.cls := hown
  have hl : lv_has ls 2 [(0, .ref h), (1, .int (nI k))] := hl
  refine lv_aload_n hx hb dX0_crossingsOf_0 rfl (lv_at hl 0 rfl) ?_
  refine lv_iload_n hx hb dX0_crossingsOf_1 rfl (lv_at hl 1 rfl) ?_
  refine kr_vV (n := 1) (As := [.int (nI k)]) (rest := []) ⟨hx, hb, hml, hown, hts⟩ (c_X0_checkKnot l D cy h a N L A k (by omega) (by omega)) kg_RX0_59 ⟨rfl, rfl⟩ (by decide +kernel) ⟨Nat.le_of_ble_eq_true rfl, Nat.le_of_ble_eq_true rfl⟩ (kr_pv0 hP hK) rfl hl.1 rfl (Nat.le_of_ble_eq_true rfl) dX0_crossingsOf_2 ⟨Nat.zero_le _, Nat.zero_le _⟩ ?_
  refine lv_aload_n hx hb dX0_crossingsOf_5 rfl (lv_at hl 0 rfl) ?_
  refine va_get (ci := 0) (v := .ref (a 2)) (C := RX0) (T := TX0) (N := 10) hx hb hts kr_wsX0 hown hK hP 0 rfl rfl 2 (by decide) (hts _ kq_44) (fun _ h9 => h9) rfl dX0_crossingsOf_6 ?_
  refine lv_iload_n hx hb dX0_crossingsOf_9 rfl (lv_at hl 1 rfl) ?_
  refine kr_ald hx hb hK hP 3 0 rfl rfl k (by omega) (by decide) dX0_crossingsOf_10 ?_
  exact kr_eI hx hb hr hlocks rfl rfl dX0_crossingsOf_11
set_option maxHeartbeats 4000000 in
set_option maxRecDepth 100000 in
theorem c_X0_spillsAt (l : Launch) (D : va_G) (cy : ClassId) (h : Nat) (a : Nat → Nat) (N L : Nat) (A : Nat → Nat → Int32) (k : Nat) (hN : N ≤ 16) (hk : k < N) : Met l yX0_spillsAt (Cond.code yX0_spillsAt cX0_spillsAt 2 (some .int) :: kr_all) ({ frames := 2, cells := 0, slots := 0, locals := 42 }) (va_Pc [.ref h, .int (nI k)] (kr_R D (kr_W0 cy h a N L A) cy)) (vp_Si (fun r => r = A 3 k)) 0 0 (fun _ => False) := by
  refine kr_of (by decide) (Nat.le_of_ble_eq_true rfl) ?_
  intro p e s m below meth c ls hx hb hml hr hts hown hlocks hin hv hl
  obtain ⟨hP, hK⟩ := hv
  have hown : s.vm.findClass RX0 = some m.cls := hown
  have hl : lv_has ls 2 [(0, .ref h), (1, .int (nI k))] := hl
  refine lv_aload_n hx hb dX0_spillsAt_0 rfl (lv_at hl 0 rfl) ?_
  refine lv_iload_n hx hb dX0_spillsAt_1 rfl (lv_at hl 1 rfl) ?_
  refine kr_vV (n := 1) (As := [.int (nI k)]) (rest := []) ⟨hx, hb, hml, hown, hts⟩ (c_X0_checkKnot l D cy h a N L A k (by omega) (by omega)) kg_RX0_59 ⟨rfl, rfl⟩ (by decide +kernel) ⟨Nat.le_of_ble_eq_true rfl, Nat.le_of_ble_eq_true rfl⟩ (kr_pv0 hP hK) rfl hl.1 rfl (Nat.le_of_ble_eq_true rfl) dX0_spillsAt_2 ⟨Nat.zero_le _, Nat.zero_le _⟩ ?_
  refine lv_aload_n hx hb dX0_spillsAt_5 rfl (lv_at hl 0 rfl) ?_
  refine va_get (ci := 0) (v := .ref (a 3)) (C := RX0) (T := TX0) (N := 10) hx hb hts kr_wsX0 hown hK hP 0 rfl rfl 3 (by decide) (hts _ kq_45) (fun _ h9 => h9) rfl dX0_spillsAt_6 ?_
  refine lv_iload_n hx hb dX0_spillsAt_9 rfl (lv_at hl 1 rfl) ?_
  refine kr_ald hx hb hK hP 4 0 rfl rfl k (by omega) (by decide) dX0_spillsAt_10 ?_
  exact kr_eI hx hb hr hlocks rfl rfl dX0_spillsAt_11
set_option maxHeartbeats 4000000 in
set_option maxRecDepth 100000 in
theorem c_X0_spillsInto (l : Launch) (D : va_G) (cy : ClassId) (h : Nat) (a : Nat → Nat) (N L : Nat) (A : Nat → Nat → Int32) (k : Nat) (hN : N ≤ 16) (hk : k < N) : Met l yX0_spillsInto (Cond.code yX0_spillsInto cX0_spillsInto 2 (some .int) :: kr_all) ({ frames := 2, cells := 0, slots := 0, locals := 42 }) (va_Pc [.ref h, .int (nI k)] (kr_R D (kr_W0 cy h a N L A) cy)) (vp_Si (fun r => r = A 4 k)) 0 0 (fun _ => False) := by
  refine kr_of (by decide) (Nat.le_of_ble_eq_true rfl) ?_
  intro p e s m below meth c ls hx hb hml hr hts hown hlocks hin hv hl
  obtain ⟨hP, hK⟩ := hv
  have hown : s.vm.findClass RX0 = some m.cls := hown
  have hl : lv_has ls 2 [(0, .ref h), (1, .int (nI k))] := hl
  refine lv_aload_n hx hb dX0_spillsInto_0 rfl (lv_at hl 0 rfl) ?_
  refine lv_iload_n hx hb dX0_spillsInto_1 rfl (lv_at hl 1 rfl) ?_
  refine kr_vV (n := 1) (As := [.int (nI k)]) (rest := []) ⟨hx, hb, hml, hown, hts⟩ (c_X0_checkKnot l D cy h a N L A k (by omega) (by omega)) kg_RX0_59 ⟨rfl, rfl⟩ (by decide +kernel) ⟨Nat.le_of_ble_eq_true rfl, Nat.le_of_ble_eq_true rfl⟩ (kr_pv0 hP hK) rfl hl.1 rfl (Nat.le_of_ble_eq_true rfl) dX0_spillsInto_2 ⟨Nat.zero_le _, Nat.zero_le _⟩ ?_
  refine lv_aload_n hx hb dX0_spillsInto_5 rfl (lv_at hl 0 rfl) ?_
  refine va_get (ci := 0) (v := .ref (a 4)) (C := RX0) (T := TX0) (N := 10) hx hb hts kr_wsX0 hown hK hP 0 rfl rfl 4 (by decide) (hts _ kq_46) (fun _ h9 => h9) rfl dX0_spillsInto_6 ?_
  refine lv_iload_n hx hb dX0_spillsInto_9 rfl (lv_at hl 1 rfl) ?_
  refine kr_ald hx hb hK hP 5 0 rfl rfl k (by omega) (by decide) dX0_spillsInto_10 ?_
  exact kr_eI hx hb hr hlocks rfl rfl dX0_spillsInto_11
set_option maxHeartbeats 4000000 in
set_option maxRecDepth 100000 in
theorem c_X0_rankOf (l : Launch) (D : va_G) (cy : ClassId) (h : Nat) (a : Nat → Nat) (N L : Nat) (A : Nat → Nat → Int32) (k : Nat) (hN : N ≤ 16) (hk : k < N) : Met l yX0_rankOf (Cond.code yX0_rankOf cX0_rankOf 2 (some .int) :: kr_all) ({ frames := 2, cells := 0, slots := 0, locals := 45 }) (va_Pc [.ref h, .int (nI k)] (kr_R D (kr_W0 cy h a N L A) cy)) (vp_Si (fun r => r = nI (kr_rk A k N))) 0 0 (fun _ => False) := by
  refine kr_of (by decide) (Nat.le_of_ble_eq_true rfl) ?_
  intro p e s m below meth c ls hx hb hml hr hts hown hlocks hin hv hl
  obtain ⟨hP, hK⟩ := hv
  have hown : s.vm.findClass RX0 = some m.cls := hown
  have hl : lv_has ls 2 [(0, .ref h), (1, .int (nI k))] := hl
  refine lv_aload_n hx hb dX0_rankOf_0 rfl (lv_at hl 0 rfl) ?_
  refine lv_iload_n hx hb dX0_rankOf_1 rfl (lv_at hl 1 rfl) ?_
  refine kr_vV (n := 1) (As := [.int (nI k)]) (rest := []) ⟨hx, hb, hml, hown, hts⟩ (c_X0_checkKnot l D cy h a N L A k (by omega) (by omega)) kg_RX0_59 ⟨rfl, rfl⟩ (by decide +kernel) ⟨Nat.le_of_ble_eq_true rfl, Nat.le_of_ble_eq_true rfl⟩ (kr_pv0 hP hK) rfl hl.1 rfl (Nat.le_of_ble_eq_true rfl) dX0_rankOf_2 ⟨Nat.zero_le _, Nat.zero_le _⟩ ?_
  refine lv_aload_n hx hb dX0_rankOf_5 rfl (lv_at hl 0 rfl) ?_
  refine lv_iload_n hx hb dX0_rankOf_6 rfl (lv_at hl 1 rfl) ?_
  refine kr_vI (n := 1) (As := [.int (nI k)]) (rest := []) ⟨hx, hb, hml, hown, hts⟩ (c_X0_rankInKind l D cy h a N L A k (by omega) (by omega)) kg_RX0_110 ⟨rfl, rfl⟩ (by decide +kernel) ⟨Nat.le_of_ble_eq_true rfl, Nat.le_of_ble_eq_true rfl⟩ (kr_pv0 hP hK) rfl hl.1 rfl (Nat.le_of_ble_eq_true rfl) dX0_rankOf_7 ⟨Nat.zero_le _, Nat.zero_le _⟩ (fun r9 e9 => ?_)
  subst e9
  exact kr_eI hx hb hr hlocks rfl rfl dX0_rankOf_10
theorem kg_RX0_113 : GoodIn kr_all (wsV RX0 113 RX0 yX0_knotWithRank (Cond.code yX0_knotWithRank cX0_knotWithRank 4 (some .int) :: kr_all)) := kr_gV kq_293 kq_295 kq_16 kq_25 kq_296
set_option maxHeartbeats 4000000 in
set_option maxRecDepth 100000 in
theorem c_X0_knotAt (l : Launch) (D : va_G) (cy : ClassId) (h : Nat) (a : Nat → Nat) (N L : Nat) (A : Nat → Nat → Int32) (kd rk : Int32) (hN : N ≤ 16) (hkd : kd = 0 ∨ kd = 1) (hv0 : ¬ kr_kw A N kd rk N 0 = -1) : Met l yX0_knotAt (Cond.code yX0_knotAt cX0_knotAt 4 (some .int) :: kr_all) ({ frames := 3, cells := 0, slots := 0, locals := 68 }) (va_Pc [.ref h, .int kd, .int rk] (kr_R D (kr_W0 cy h a N L A) cy)) (vp_Si (fun r => r = kr_kw A N kd rk N 0)) 0 0 (fun _ => False) := by
  refine kr_of (by decide) (Nat.le_of_ble_eq_true rfl) ?_
  intro p e s m below meth c ls hx hb hml hr hts hown hlocks hin hv hl
  obtain ⟨hP, hK⟩ := hv
  have hown : s.vm.findClass RX0 = some m.cls := hown
  have hl : lv_has ls 4 [(0, .ref h), (1, .int kd), (2, .int rk)] := hl
  refine lv_iload_n hx hb dX0_knotAt_0 rfl (lv_at hl 1 rfl) ?_
  refine kr_sV (n := 1) (As := [.int kd]) (rest := []) ⟨hx, hb, hml, hown, hts⟩ (c_X0_checkKind l kd (by assumption)) kg_RX0_41 ⟨rfl, rfl⟩ (by decide +kernel) ⟨Nat.le_of_ble_eq_true rfl, Nat.le_of_ble_eq_true rfl⟩ ⟨kr_blT, fun U hU hW => ⟨rfl, trivial⟩⟩ rfl hl.1 rfl (Nat.le_of_ble_eq_true rfl) dX0_knotAt_1 ⟨Nat.zero_le _, Nat.zero_le _⟩ ?_
  refine lv_aload_n hx hb dX0_knotAt_4 rfl (lv_at hl 0 rfl) ?_
  refine lv_iload_n hx hb dX0_knotAt_5 rfl (lv_at hl 1 rfl) ?_
  refine lv_iload_n hx hb dX0_knotAt_6 rfl (lv_at hl 2 rfl) ?_
  refine kr_vI (n := 2) (As := [.int kd, .int rk]) (rest := []) ⟨hx, hb, hml, hown, hts⟩ (c_X0_knotWithRank l D cy h a N L A kd rk (by omega)) kg_RX0_113 ⟨rfl, rfl⟩ (by decide +kernel) ⟨Nat.le_of_ble_eq_true rfl, Nat.le_of_ble_eq_true rfl⟩ (kr_pv0 hP hK) rfl hl.1 rfl (Nat.le_of_ble_eq_true rfl) dX0_knotAt_7 ⟨Nat.zero_le _, Nat.zero_le _⟩ (fun r9 e9 => ?_)
  subst e9
  refine lv_istore_n (lv' := [(3, .int (kr_kw A N kd rk N 0)), (0, .ref h), (1, .int kd), (2, .int rk)]) hx hb dX0_knotAt_10 rfl hl (by decide) rfl (fun ls hl => ?_)
  refine lv_iload_n hx hb dX0_knotAt_11 rfl (lv_at hl 0 rfl) ?_
  refine lv_iconst (v := -1) hx hb dX0_knotAt_12 (by decide) ?_
  refine lv_icmp_ne (tgt := 26) hx hb dX0_knotAt_13 (by decide) (fun c13 => ?_) (fun c13 => absurd c13 hv0)
  refine lv_iload_n hx hb dX0_knotAt_26 rfl (lv_at hl 0 rfl) ?_
  exact kr_eI hx hb hr hlocks rfl rfl dX0_knotAt_27
theorem kg_RX0_62 : GoodIn kr_all (wsS RX0 62 yX0_checkLoad (Cond.code yX0_checkLoad cX0_checkLoad 1 none :: kr_all)) := kr_gS kq_194 kq_195 kq_25 kq_196
set_option maxHeartbeats 4000000 in
set_option maxRecDepth 100000 in
theorem c_X0_formOf (l : Launch) (D : va_G) (cy : ClassId) (h : Nat) (a : Nat → Nat) (N L : Nat) (A : Nat → Nat → Int32) (k : Nat) (ld : Int32) (hw : kr_wf N L A) (hk : k < N) (hld : ¬ ld < 1 ∧ ¬ 999 < ld) : Met l yX0_formOf (Cond.code yX0_formOf cX0_formOf 3 (some .int) :: kr_all) ({ frames := 3, cells := 0, slots := 0, locals := 67 }) (va_Pc [.ref h, .int (nI k), .int ld] (kr_R D (kr_W0 cy h a N L A) cy)) (vp_Si (fun r => r = kr_fm A ld 16 (nI k))) 0 0 (fun _ => False) := by
  refine kr_of (by decide) (Nat.le_of_ble_eq_true rfl) ?_
  intro p e s m below meth c ls hx hb hml hr hts hown hlocks hin hv hl
  obtain ⟨hP, hK⟩ := hv
  have hown : s.vm.findClass RX0 = some m.cls := hown
  have hl : lv_has ls 3 [(0, .ref h), (1, .int (nI k)), (2, .int ld)] := hl
  have hN := hw.1
  refine lv_aload_n hx hb dX0_formOf_0 rfl (lv_at hl 0 rfl) ?_
  refine lv_iload_n hx hb dX0_formOf_1 rfl (lv_at hl 1 rfl) ?_
  refine kr_vV (n := 1) (As := [.int (nI k)]) (rest := []) ⟨hx, hb, hml, hown, hts⟩ (c_X0_checkKnot l D cy h a N L A k (by omega) (by omega)) kg_RX0_59 ⟨rfl, rfl⟩ (by decide +kernel) ⟨Nat.le_of_ble_eq_true rfl, Nat.le_of_ble_eq_true rfl⟩ (kr_pv0 hP hK) rfl hl.1 rfl (Nat.le_of_ble_eq_true rfl) dX0_formOf_2 ⟨Nat.zero_le _, Nat.zero_le _⟩ ?_
  refine lv_iload_n hx hb dX0_formOf_5 rfl (lv_at hl 2 rfl) ?_
  refine kr_sV (n := 1) (As := [.int ld]) (rest := []) ⟨hx, hb, hml, hown, hts⟩ (c_X0_checkLoad l ld (by assumption)) kg_RX0_62 ⟨rfl, rfl⟩ (by decide +kernel) ⟨Nat.le_of_ble_eq_true rfl, Nat.le_of_ble_eq_true rfl⟩ ⟨kr_blT, fun U hU hW => ⟨rfl, trivial⟩⟩ rfl hl.1 rfl (Nat.le_of_ble_eq_true rfl) dX0_formOf_6 ⟨Nat.zero_le _, Nat.zero_le _⟩ ?_
  refine lv_aload_n hx hb dX0_formOf_9 rfl (lv_at hl 0 rfl) ?_
  refine lv_iload_n hx hb dX0_formOf_10 rfl (lv_at hl 1 rfl) ?_
  refine lv_iload_n hx hb dX0_formOf_11 rfl (lv_at hl 2 rfl) ?_
  refine kr_vI (n := 2) (As := [.int (nI k), .int ld]) (rest := []) ⟨hx, hb, hml, hown, hts⟩ (c_X0_formUnder l D cy h a N L A (nI k) ld hw (by first | assumption | exact Or.inr ⟨_, by assumption, rfl⟩ | exact hw.tn (by assumption) (by assumption))) kg_RX0_104 ⟨rfl, rfl⟩ (by decide +kernel) ⟨Nat.le_of_ble_eq_true rfl, Nat.le_of_ble_eq_true rfl⟩ (kr_pv0 hP hK) rfl hl.1 rfl (Nat.le_of_ble_eq_true rfl) dX0_formOf_12 ⟨Nat.zero_le _, Nat.zero_le _⟩ (fun r9 e9 => ?_)
  subst e9
  exact kr_eI hx hb hr hlocks rfl rfl dX0_formOf_15
set_option maxHeartbeats 4000000 in
set_option maxRecDepth 100000 in
theorem c_X0_spills (l : Launch) (D : va_G) (cy : ClassId) (h : Nat) (a : Nat → Nat) (N L : Nat) (A : Nat → Nat → Int32) (k : Nat) (ld : Int32) (hw : kr_wf N L A) (hk : k < N) (hld : ¬ ld < 1 ∧ ¬ 999 < ld) : Met l yX0_spills (Cond.code yX0_spills cX0_spills 5 (some .int) :: kr_all) ({ frames := 2, cells := 0, slots := 0, locals := 43 }) (va_Pc [.ref h, .int (nI k), .int ld] (kr_R D (kr_W0 cy h a N L A) cy)) (vp_Si (fun r => r = nI (kr_sp A ld 16 (nI k)))) 0 0 (fun _ => False) := by
  refine kr_of (by decide) (Nat.le_of_ble_eq_true rfl) ?_
  intro p e s m below meth c ls hx hb hml hr hts hown hlocks hin hv hl
  obtain ⟨hP, hK⟩ := hv
  have hown : s.vm.findClass RX0 = some m.cls := hown
  have hl : lv_has ls 5 [(0, .ref h), (1, .int (nI k)), (2, .int ld)] := hl
  have hN := hw.1
  refine lv_aload_n hx hb dX0_spills_0 rfl (lv_at hl 0 rfl) ?_
  refine lv_iload_n hx hb dX0_spills_1 rfl (lv_at hl 1 rfl) ?_
  refine kr_vV (n := 1) (As := [.int (nI k)]) (rest := []) ⟨hx, hb, hml, hown, hts⟩ (c_X0_checkKnot l D cy h a N L A k (by omega) (by omega)) kg_RX0_59 ⟨rfl, rfl⟩ (by decide +kernel) ⟨Nat.le_of_ble_eq_true rfl, Nat.le_of_ble_eq_true rfl⟩ (kr_pv0 hP hK) rfl hl.1 rfl (Nat.le_of_ble_eq_true rfl) dX0_spills_2 ⟨Nat.zero_le _, Nat.zero_le _⟩ ?_
  refine lv_iload_n hx hb dX0_spills_5 rfl (lv_at hl 2 rfl) ?_
  refine kr_sV (n := 1) (As := [.int ld]) (rest := []) ⟨hx, hb, hml, hown, hts⟩ (c_X0_checkLoad l ld (by assumption)) kg_RX0_62 ⟨rfl, rfl⟩ (by decide +kernel) ⟨Nat.le_of_ble_eq_true rfl, Nat.le_of_ble_eq_true rfl⟩ ⟨kr_blT, fun U hU hW => ⟨rfl, trivial⟩⟩ rfl hl.1 rfl (Nat.le_of_ble_eq_true rfl) dX0_spills_6 ⟨Nat.zero_le _, Nat.zero_le _⟩ ?_
  refine lv_iload_n hx hb dX0_spills_9 rfl (lv_at hl 1 rfl) ?_
  refine lv_istore_n (lv' := [(3, .int (nI k)), (0, .ref h), (1, .int (nI k)), (2, .int ld)]) hx hb dX0_spills_10 rfl hl (by decide) rfl (fun ls hl => ?_)
  refine lv_iconst (v := 0) hx hb dX0_spills_11 (by decide) ?_
  refine lv_istore (lv' := [(4, .int 0), (3, .int (nI k)), (0, .ref h), (1, .int (nI k)), (2, .int ld)]) hx hb dX0_spills_12 hl (by decide) rfl (fun ls hl => ?_)
  refine kr_lp (nL := 5) (fun z : Nat × Int32 => [(4, .int (nI z.1)), (3, .int z.2), (0, .ref h), (1, .int (nI k)), (2, .int ld)]) (fun z => z.1 ≤ 16 ∧ kr_kn N z.2 ∧ z.1 + kr_sp A ld (16 - z.1) z.2 = kr_sp A ld 16 (nI k)) (fun z => 16 - z.1) ?_ (0, nI k) ⟨by omega, Or.inr ⟨k, hk, rfl⟩, Nat.zero_add _⟩ (lv_sub hl [0, 1, 2, 3, 4] rfl)
  clear hl
  intro z ls hI hl ih
  obtain ⟨i, f⟩ := z
  have hl : lv_has ls 5 [(4, .int (nI i)), (3, .int f), (0, .ref h), (1, .int (nI k)), (2, .int ld)] := hl
  obtain ⟨hi0, hf, he⟩ : i ≤ 16 ∧ kr_kn N f ∧ i + kr_sp A ld (16 - i) f = kr_sp A ld 16 (nI k) := hI
  refine lv_iload hx hb dX0_spills_14 (lv_at hl 0 rfl) ?_
  refine lv_bipush (v := 16) hx hb dX0_spills_16 (by decide) ?_
  refine lv_icmp_ge (tgt := 43) hx hb dX0_spills_18 (by decide) (fun c18 => ?_) (fun c18 => ?_)
  · have hi2 : i = 16 := by have := kr_ge (b := 16) (by omega) (by decide) c18; omega
    subst hi2
    refine lv_iload hx hb dX0_spills_43 (lv_at hl 0 rfl) ?_
    exact kr_eI hx hb hr hlocks rfl (congrArg nI he) dX0_spills_45
  · have hi : i < 16 := kr_lt (b := 16) (by omega) (by decide) c18
    refine lv_aload_n hx hb dX0_spills_21 rfl (lv_at hl 2 rfl) ?_
    refine lv_iload_n hx hb dX0_spills_22 rfl (lv_at hl 1 rfl) ?_
    refine lv_iload_n hx hb dX0_spills_23 rfl (lv_at hl 4 rfl) ?_
    refine kr_vI (n := 2) (As := [.int f, .int ld]) (rest := []) ⟨hx, hb, hml, hown, hts⟩ (c_X0_spillsUnder l D cy h a N L A f ld hw.1 (by assumption)) kg_RX0_121 ⟨rfl, rfl⟩ (by decide +kernel) ⟨Nat.le_of_ble_eq_true rfl, Nat.le_of_ble_eq_true rfl⟩ (kr_pv0 hP hK) rfl hl.1 rfl (Nat.le_of_ble_eq_true rfl) dX0_spills_24 ⟨Nat.zero_le _, Nat.zero_le _⟩ (fun r9 e9 => ?_)
    subst e9
    refine lv_if_eq (tgt := 43) hx hb dX0_spills_27 (by decide) (fun c27 => ?_) (fun c27 => ?_)
    · rw [kr_sp_no (kr_if0 c27)] at he
      refine lv_iload hx hb dX0_spills_43 (lv_at hl 0 rfl) ?_
      exact kr_eI hx hb hr hlocks rfl (congrArg nI he) dX0_spills_45
    · obtain ⟨j, hj, rfl⟩ := kr_go_kn hN hf (kr_if1 c27)
      rw [kr_sp_go hi (by omega) (kr_if1 c27)] at he
      refine lv_aload_n hx hb dX0_spills_30 rfl (lv_at hl 2 rfl) ?_
      refine va_get (ci := 0) (v := .ref (a 4)) (C := RX0) (T := TX0) (N := 10) hx hb hts kr_wsX0 hown hK hP 0 rfl rfl 4 (by decide) (hts _ kq_46) (fun _ h9 => h9) rfl dX0_spills_31 ?_
      refine lv_iload_n hx hb dX0_spills_34 rfl (lv_at hl 1 rfl) ?_
      refine kr_ald hx hb hK hP 5 0 rfl rfl j (by omega) (by decide) dX0_spills_35 ?_
      refine lv_istore_n (lv' := [(3, .int (A 4 j)), (4, .int (nI i)), (0, .ref h), (1, .int (nI k)), (2, .int ld)]) hx hb dX0_spills_36 rfl hl (by decide) rfl (fun ls hl => ?_)
      refine lv_iinc (v := nI (i + 1)) (lv' := [(4, .int (nI (i + 1))), (3, .int (A 4 j)), (0, .ref h), (1, .int (nI k)), (2, .int ld)]) hx hb dX0_spills_37 hl (k := 1) rfl (kr_inc _) (by decide) rfl (fun ls hl => ?_)
      refine lv_goto (tgt := 14) hx hb dX0_spills_40 (by decide) ?_
      exact ih (i + 1, A 4 j) ls ⟨by omega, hw.kn hj, by show i + 1 + kr_sp A ld (16 - (i + 1)) (A 4 j) = _; omega⟩ (by show 16 - (i + 1) < 16 - i; omega) (lv_sub hl [0, 1, 2, 3, 4] rfl)
set_option maxHeartbeats 4000000 in
set_option maxRecDepth 100000 in
theorem c_X0_fallsApartAt (l : Launch) (D : va_G) (cy : ClassId) (h : Nat) (a : Nat → Nat) (N L : Nat) (A : Nat → Nat → Int32) (k : Nat) (hw : kr_wf N L A) (hk : k < N) : Met l yX0_fallsApartAt (Cond.code yX0_fallsApartAt cX0_fallsApartAt 5 (some .int) :: kr_all) ({ frames := 2, cells := 0, slots := 0, locals := 42 }) (va_Pc [.ref h, .int (nI k)] (kr_R D (kr_W0 cy h a N L A) cy)) (vp_Si (fun r => r = kr_fa A 16 (nI k) 0)) 0 0 (fun _ => False) := by
  refine kr_of (by decide) (Nat.le_of_ble_eq_true rfl) ?_
  intro p e s m below meth c ls hx hb hml hr hts hown hlocks hin hv hl
  obtain ⟨hP, hK⟩ := hv
  have hown : s.vm.findClass RX0 = some m.cls := hown
  have hl : lv_has ls 5 [(0, .ref h), (1, .int (nI k))] := hl
  have hN := hw.1
  refine lv_aload_n hx hb dX0_fallsApartAt_0 rfl (lv_at hl 0 rfl) ?_
  refine lv_iload_n hx hb dX0_fallsApartAt_1 rfl (lv_at hl 1 rfl) ?_
  refine kr_vV (n := 1) (As := [.int (nI k)]) (rest := []) ⟨hx, hb, hml, hown, hts⟩ (c_X0_checkKnot l D cy h a N L A k (by omega) (by omega)) kg_RX0_59 ⟨rfl, rfl⟩ (by decide +kernel) ⟨Nat.le_of_ble_eq_true rfl, Nat.le_of_ble_eq_true rfl⟩ (kr_pv0 hP hK) rfl hl.1 rfl (Nat.le_of_ble_eq_true rfl) dX0_fallsApartAt_2 ⟨Nat.zero_le _, Nat.zero_le _⟩ ?_
  refine lv_iload_n hx hb dX0_fallsApartAt_5 rfl (lv_at hl 1 rfl) ?_
  refine lv_istore_n (lv' := [(2, .int (nI k)), (0, .ref h), (1, .int (nI k))]) hx hb dX0_fallsApartAt_6 rfl hl (by decide) rfl (fun ls hl => ?_)
  refine lv_iconst (v := 0) hx hb dX0_fallsApartAt_7 (by decide) ?_
  refine lv_istore_n (lv' := [(3, .int 0), (2, .int (nI k)), (0, .ref h), (1, .int (nI k))]) hx hb dX0_fallsApartAt_8 rfl hl (by decide) rfl (fun ls hl => ?_)
  refine lv_iconst (v := 0) hx hb dX0_fallsApartAt_9 (by decide) ?_
  refine lv_istore (lv' := [(4, .int 0), (3, .int 0), (2, .int (nI k)), (0, .ref h), (1, .int (nI k))]) hx hb dX0_fallsApartAt_10 hl (by decide) rfl (fun ls hl => ?_)
  refine kr_lp (nL := 5) (fun z : Nat × Int32 × Int32 => [(4, .int (nI z.1)), (3, .int z.2.2), (2, .int z.2.1), (0, .ref h), (1, .int (nI k))]) (fun z => z.1 ≤ 16 ∧ kr_kn N z.2.1 ∧ kr_fa A (16 - z.1) z.2.1 z.2.2 = kr_fa A 16 (nI k) 0) (fun z => 16 - z.1) ?_ (0, nI k, 0) ⟨by omega, Or.inr ⟨k, hk, rfl⟩, rfl⟩ (lv_sub hl [0, 1, 2, 3, 4] rfl)
  clear hl
  intro z ls hI hl ih
  obtain ⟨i, f, g⟩ := z
  have hl : lv_has ls 5 [(4, .int (nI i)), (3, .int g), (2, .int f), (0, .ref h), (1, .int (nI k))] := hl
  obtain ⟨hi0, hf, he⟩ : i ≤ 16 ∧ kr_kn N f ∧ kr_fa A (16 - i) f g = kr_fa A 16 (nI k) 0 := hI
  refine lv_iload hx hb dX0_fallsApartAt_12 (lv_at hl 0 rfl) ?_
  refine lv_bipush (v := 16) hx hb dX0_fallsApartAt_14 (by decide) ?_
  refine lv_icmp_ge (tgt := 62) hx hb dX0_fallsApartAt_16 (by decide) (fun c16 => ?_) (fun c16 => ?_)
  · have hi2 : i = 16 := by have := kr_ge (b := 16) (by omega) (by decide) c16; omega
    subst hi2
    refine lv_iload_n hx hb dX0_fallsApartAt_62 rfl (lv_at hl 1 rfl) ?_
    exact kr_eI hx hb hr hlocks rfl he dX0_fallsApartAt_63
  · have hi : i < 16 := kr_lt (b := 16) (by omega) (by decide) c16
    refine lv_aload_n hx hb dX0_fallsApartAt_19 rfl (lv_at hl 3 rfl) ?_
    refine lv_iload_n hx hb dX0_fallsApartAt_20 rfl (lv_at hl 2 rfl) ?_
    refine kr_vI (n := 1) (As := [.int f]) (rest := []) ⟨hx, hb, hml, hown, hts⟩ (c_X0_isKnot l D cy h a N L A f) kg_RX0_125 ⟨rfl, rfl⟩ (by decide +kernel) ⟨Nat.le_of_ble_eq_true rfl, Nat.le_of_ble_eq_true rfl⟩ (kr_pv0 hP hK) rfl hl.1 rfl (Nat.le_of_ble_eq_true rfl) dX0_fallsApartAt_21 ⟨Nat.zero_le _, Nat.zero_le _⟩ (fun r9 e9 => ?_)
    subst e9
    refine lv_if_eq (tgt := 62) hx hb dX0_fallsApartAt_24 (by decide) (fun c24 => ?_) (fun c24 => ?_)
    · have hf2 := kr_isK3 hN hf (kr_if0 c24)
      subst hf2
      refine lv_iload_n hx hb dX0_fallsApartAt_62 rfl (lv_at hl 1 rfl) ?_
      exact kr_eI hx hb hr hlocks rfl ((kr_fa_no _).symm.trans he) dX0_fallsApartAt_63
    · obtain ⟨j, hj, rfl⟩ := kr_isK hN hf (kr_if1 c24)
      refine lv_aload_n hx hb dX0_fallsApartAt_27 rfl (lv_at hl 3 rfl) ?_
      refine va_get (ci := 0) (v := .ref (a 3)) (C := RX0) (T := TX0) (N := 10) hx hb hts kr_wsX0 hown hK hP 0 rfl rfl 3 (by decide) (hts _ kq_45) (fun _ h9 => h9) rfl dX0_fallsApartAt_28 ?_
      refine lv_iload_n hx hb dX0_fallsApartAt_31 rfl (lv_at hl 2 rfl) ?_
      refine kr_ald hx hb hK hP 4 0 rfl rfl j (by omega) (by decide) dX0_fallsApartAt_32 ?_
      refine lv_if_ne (tgt := 38) hx hb dX0_fallsApartAt_33 (by decide) (fun c33 => ?_) (fun c33 => ?_)
      · rw [kr_fa_s hi (by omega) c33] at he
        refine lv_iload_n hx hb dX0_fallsApartAt_38 rfl (lv_at hl 1 rfl) ?_
        refine lv_aload_n hx hb dX0_fallsApartAt_39 rfl (lv_at hl 3 rfl) ?_
        refine va_get (ci := 0) (v := .ref (a 3)) (C := RX0) (T := TX0) (N := 10) hx hb hts kr_wsX0 hown hK hP 0 rfl rfl 3 (by decide) (hts _ kq_45) (fun _ h9 => h9) rfl dX0_fallsApartAt_40 ?_
        refine lv_iload_n hx hb dX0_fallsApartAt_43 rfl (lv_at hl 2 rfl) ?_
        refine kr_ald hx hb hK hP 4 0 rfl rfl j (by omega) (by decide) dX0_fallsApartAt_44 ?_
        refine va_mmax hx hb (hml.trans hl.1.symm) hown (hts _ kq_310) (hts _ kq_311) (hts _ kq_33) (hts _ kq_312) (Nat.le_of_ble_eq_true rfl) (Nat.le_of_ble_eq_true rfl) (Nat.zero_le _) (Nat.zero_le _) dX0_fallsApartAt_45 ?_
        show W _ _ _ _ _ _ _ _ _ _ _ _ _ _ _ (F0 _ _ _ (.int (kr_mx g (A 3 j)) :: _))
        refine lv_istore_n (lv' := [(3, .int (kr_mx g (A 3 j))), (4, .int (nI i)), (2, .int (nI j)), (0, .ref h), (1, .int (nI k))]) hx hb dX0_fallsApartAt_48 rfl hl (by decide) rfl (fun ls hl => ?_)
        refine lv_aload_n hx hb dX0_fallsApartAt_49 rfl (lv_at hl 3 rfl) ?_
        refine va_get (ci := 0) (v := .ref (a 4)) (C := RX0) (T := TX0) (N := 10) hx hb hts kr_wsX0 hown hK hP 0 rfl rfl 4 (by decide) (hts _ kq_46) (fun _ h9 => h9) rfl dX0_fallsApartAt_50 ?_
        refine lv_iload_n hx hb dX0_fallsApartAt_53 rfl (lv_at hl 2 rfl) ?_
        refine kr_ald hx hb hK hP 5 0 rfl rfl j (by omega) (by decide) dX0_fallsApartAt_54 ?_
        refine lv_istore_n (lv' := [(2, .int (A 4 j)), (3, .int (kr_mx g (A 3 j))), (4, .int (nI i)), (0, .ref h), (1, .int (nI k))]) hx hb dX0_fallsApartAt_55 rfl hl (by decide) rfl (fun ls hl => ?_)
        refine lv_iinc (v := nI (i + 1)) (lv' := [(4, .int (nI (i + 1))), (2, .int (A 4 j)), (3, .int (kr_mx g (A 3 j))), (0, .ref h), (1, .int (nI k))]) hx hb dX0_fallsApartAt_56 hl (k := 2) rfl (kr_inc _) (by decide) rfl (fun ls hl => ?_)
        refine lv_goto (tgt := 12) hx hb dX0_fallsApartAt_59 (by decide) ?_
        exact ih (i + 1, A 4 j, kr_mx g (A 3 j)) ls ⟨by omega, hw.kn hj, he⟩ (by show 16 - (i + 1) < 16 - i; omega) (lv_sub hl [0, 2, 1, 3, 4] rfl)
      · refine lv_iconst (v := 0) hx hb dX0_fallsApartAt_36 (by decide) ?_
        exact kr_eI hx hb hr hlocks rfl ((kr_fa_0 hi (by omega) c33).symm.trans he) dX0_fallsApartAt_37
set_option maxHeartbeats 4000000 in
set_option maxRecDepth 100000 in
theorem c_X0_ropesOf (l : Launch) (D : va_G) (cy : ClassId) (h : Nat) (a : Nat → Nat) (N L : Nat) (A : Nat → Nat → Int32) (q : Nat) (hw : kr_wf N L A) (hq : q < L) : Met l yX0_ropesOf (Cond.code yX0_ropesOf cX0_ropesOf 2 (some .int) :: kr_all) ({ frames := 1, cells := 0, slots := 0, locals := 21 }) (va_Pc [.ref h, .int (nI q)] (kr_R D (kr_W0 cy h a N L A) cy)) (vp_Si (fun r => r = A 5 q)) 0 0 (fun _ => False) := by
  refine kr_of (by decide) (Nat.le_of_ble_eq_true rfl) ?_
  intro p e s m below meth c ls hx hb hml hr hts hown hlocks hin hv hl
  obtain ⟨hP, hK⟩ := hv
  have hown : s.vm.findClass RX0 = some m.cls := hown
  have hl : lv_has ls 2 [(0, .ref h), (1, .int (nI q))] := hl
  have hL := hw.2.1
  refine lv_aload_n hx hb dX0_ropesOf_0 rfl (lv_at hl 0 rfl) ?_
  refine lv_iload_n hx hb dX0_ropesOf_1 rfl (lv_at hl 1 rfl) ?_
  refine kr_vV (n := 1) (As := [.int (nI q)]) (rest := []) ⟨hx, hb, hml, hown, hts⟩ (c_X0_checkLine l D cy h a N L A q (by omega) (by omega)) kg_RX0_82 ⟨rfl, rfl⟩ (by decide +kernel) ⟨Nat.le_of_ble_eq_true rfl, Nat.le_of_ble_eq_true rfl⟩ (kr_pv0 hP hK) rfl hl.1 rfl (Nat.le_of_ble_eq_true rfl) dX0_ropesOf_2 ⟨Nat.zero_le _, Nat.zero_le _⟩ ?_
  refine lv_aload_n hx hb dX0_ropesOf_5 rfl (lv_at hl 0 rfl) ?_
  refine va_get (ci := 0) (v := .ref (a 5)) (C := RX0) (T := TX0) (N := 10) hx hb hts kr_wsX0 hown hK hP 0 rfl rfl 6 (by decide) (hts _ kq_48) (fun _ h9 => h9) rfl dX0_ropesOf_6 ?_
  refine lv_iload_n hx hb dX0_ropesOf_9 rfl (lv_at hl 1 rfl) ?_
  refine kr_ald hx hb hK hP 6 0 rfl rfl q (by omega) (by decide) dX0_ropesOf_10 ?_
  exact kr_eI hx hb hr hlocks rfl rfl dX0_ropesOf_11
theorem kg_RX0_90 : GoodIn kr_all (wsV RX0 90 RX0 yX0_checkPlace (Cond.code yX0_checkPlace cX0_checkPlace 3 none :: kr_all)) := kr_gV kq_78 kq_80 kq_0 kq_25 kq_81
set_option maxHeartbeats 4000000 in
set_option maxRecDepth 100000 in
theorem c_X0_knotOf (l : Launch) (D : va_G) (cy : ClassId) (h : Nat) (a : Nat → Nat) (N L : Nat) (A : Nat → Nat → Int32) (q pl : Nat) (hw : kr_wf N L A) (hq : q < L) (hp : pl < kr_rc A q) : Met l yX0_knotOf (Cond.code yX0_knotOf cX0_knotOf 3 (some .int) :: kr_all) ({ frames := 2, cells := 0, slots := 0, locals := 43 }) (va_Pc [.ref h, .int (nI q), .int (nI pl)] (kr_R D (kr_W0 cy h a N L A) cy)) (vp_Si (fun r => r = A 6 (5 * q + pl))) 0 0 (fun _ => False) := by
  refine kr_of (by decide) (Nat.le_of_ble_eq_true rfl) ?_
  intro p e s m below meth c ls hx hb hml hr hts hown hlocks hin hv hl
  obtain ⟨hP, hK⟩ := hv
  have hown : s.vm.findClass RX0 = some m.cls := hown
  have hl : lv_has ls 3 [(0, .ref h), (1, .int (nI q)), (2, .int (nI pl))] := hl
  have hL := hw.2.1
  obtain ⟨hrc, er⟩ := hw.rc hq
  refine lv_aload_n hx hb dX0_knotOf_0 rfl (lv_at hl 0 rfl) ?_
  refine lv_iload_n hx hb dX0_knotOf_1 rfl (lv_at hl 1 rfl) ?_
  refine lv_iload_n hx hb dX0_knotOf_2 rfl (lv_at hl 2 rfl) ?_
  refine kr_vV (n := 2) (As := [.int (nI q), .int (nI pl)]) (rest := []) ⟨hx, hb, hml, hown, hts⟩ (c_X0_checkPlace l D cy h a N L A q pl hw (by omega) (by omega)) kg_RX0_90 ⟨rfl, rfl⟩ (by decide +kernel) ⟨Nat.le_of_ble_eq_true rfl, Nat.le_of_ble_eq_true rfl⟩ (kr_pv0 hP hK) rfl hl.1 rfl (Nat.le_of_ble_eq_true rfl) dX0_knotOf_3 ⟨Nat.zero_le _, Nat.zero_le _⟩ ?_
  refine lv_aload_n hx hb dX0_knotOf_6 rfl (lv_at hl 0 rfl) ?_
  refine va_get (ci := 0) (v := .ref (a 6)) (C := RX0) (T := TX0) (N := 10) hx hb hts kr_wsX0 hown hK hP 0 rfl rfl 8 (by decide) (hts _ kq_50) (fun _ h9 => h9) rfl dX0_knotOf_7 ?_
  refine lv_iload_n hx hb dX0_knotOf_10 rfl (lv_at hl 1 rfl) ?_
  refine lv_iload_n hx hb dX0_knotOf_11 rfl (lv_at hl 2 rfl) ?_
  refine kr_sI (n := 2) (As := [.int (nI q), .int (nI pl)]) (rest := [.ref (a 6)]) ⟨hx, hb, hml, hown, hts⟩ (c_X0_slot l q pl) kg_RX0_97 ⟨rfl, rfl⟩ (by decide +kernel) ⟨Nat.le_of_ble_eq_true rfl, Nat.le_of_ble_eq_true rfl⟩ ⟨kr_blT, fun U hU hW => ⟨rfl, trivial⟩⟩ rfl hl.1 rfl (Nat.le_of_ble_eq_true rfl) dX0_knotOf_12 ⟨Nat.zero_le _, Nat.zero_le _⟩ (fun r9 e9 => ?_)
  subst e9
  refine kr_ald hx hb hK hP 7 0 rfl rfl (5 * q + pl) (by omega) (by decide) dX0_knotOf_15 ?_
  exact kr_eI hx hb hr hlocks rfl rfl dX0_knotOf_16
theorem kg_RX0_134 : GoodIn kr_all (wsV RX0 134 RX0 yX0_currentStrength (Cond.code yX0_currentStrength cX0_currentStrength 3 (some .int) :: kr_all)) := kr_gV kq_329 kq_331 kq_17 kq_25 kq_332
set_option maxHeartbeats 4000000 in
set_option maxRecDepth 100000 in
theorem c_X0_strengthAt (l : Launch) (D : va_G) (cy : ClassId) (h : Nat) (a : Nat → Nat) (N L : Nat) (A : Nat → Nat → Int32) (q pl : Nat) (hw : kr_wf N L A) (hq : q < L) (hp : pl < kr_rc A q) : Met l yX0_strengthAt (Cond.code yX0_strengthAt cX0_strengthAt 3 (some .int) :: kr_all) ({ frames := 3, cells := 0, slots := 0, locals := 67 }) (va_Pc [.ref h, .int (nI q), .int (nI pl)] (kr_R D (kr_W0 cy h a N L A) cy)) (vp_Si (fun r => r = kr_nw A q pl)) 0 0 (fun _ => False) := by
  refine kr_of (by decide) (Nat.le_of_ble_eq_true rfl) ?_
  intro p e s m below meth c ls hx hb hml hr hts hown hlocks hin hv hl
  obtain ⟨hP, hK⟩ := hv
  have hown : s.vm.findClass RX0 = some m.cls := hown
  have hl : lv_has ls 3 [(0, .ref h), (1, .int (nI q)), (2, .int (nI pl))] := hl
  have hL := hw.2.1
  obtain ⟨hrc, er⟩ := hw.rc hq
  refine lv_aload_n hx hb dX0_strengthAt_0 rfl (lv_at hl 0 rfl) ?_
  refine lv_iload_n hx hb dX0_strengthAt_1 rfl (lv_at hl 1 rfl) ?_
  refine lv_iload_n hx hb dX0_strengthAt_2 rfl (lv_at hl 2 rfl) ?_
  refine kr_vV (n := 2) (As := [.int (nI q), .int (nI pl)]) (rest := []) ⟨hx, hb, hml, hown, hts⟩ (c_X0_checkPlace l D cy h a N L A q pl hw (by omega) (by omega)) kg_RX0_90 ⟨rfl, rfl⟩ (by decide +kernel) ⟨Nat.le_of_ble_eq_true rfl, Nat.le_of_ble_eq_true rfl⟩ (kr_pv0 hP hK) rfl hl.1 rfl (Nat.le_of_ble_eq_true rfl) dX0_strengthAt_3 ⟨Nat.zero_le _, Nat.zero_le _⟩ ?_
  refine lv_aload_n hx hb dX0_strengthAt_6 rfl (lv_at hl 0 rfl) ?_
  refine lv_iload_n hx hb dX0_strengthAt_7 rfl (lv_at hl 1 rfl) ?_
  refine lv_iload_n hx hb dX0_strengthAt_8 rfl (lv_at hl 2 rfl) ?_
  refine kr_vI (n := 2) (As := [.int (nI q), .int (nI pl)]) (rest := []) ⟨hx, hb, hml, hown, hts⟩ (c_X0_currentStrength l D cy h a N L A q pl hw (by omega) (by omega)) kg_RX0_134 ⟨rfl, rfl⟩ (by decide +kernel) ⟨Nat.le_of_ble_eq_true rfl, Nat.le_of_ble_eq_true rfl⟩ (kr_pv0 hP hK) rfl hl.1 rfl (Nat.le_of_ble_eq_true rfl) dX0_strengthAt_9 ⟨Nat.zero_le _, Nat.zero_le _⟩ (fun r9 e9 => ?_)
  subst e9
  exact kr_eI hx hb hr hlocks rfl rfl dX0_strengthAt_12
set_option maxHeartbeats 4000000 in
set_option maxRecDepth 100000 in
theorem c_X0_weakestPlace (l : Launch) (D : va_G) (cy : ClassId) (h : Nat) (a : Nat → Nat) (N L : Nat) (A : Nat → Nat → Int32) (q : Nat) (hw : kr_wf N L A) (hq : q < L) : Met l yX0_weakestPlace (Cond.code yX0_weakestPlace cX0_weakestPlace 6 (some .int) :: kr_all) ({ frames := 3, cells := 0, slots := 0, locals := 67 }) (va_Pc [.ref h, .int (nI q)] (kr_R D (kr_W0 cy h a N L A) cy)) (vp_Si (fun r => r = kr_wk A q (kr_rc A q) 0 (-1))) 0 0 (fun _ => False) := by
  refine kr_of (by decide) (Nat.le_of_ble_eq_true rfl) ?_
  intro p e s m below meth c ls hx hb hml hr hts hown hlocks hin hv hl
  obtain ⟨hP, hK⟩ := hv
  have hown : s.vm.findClass RX0 = some m.cls := hown
  have hl : lv_has ls 6 [(0, .ref h), (1, .int (nI q))] := hl
  have hL := hw.2.1
  obtain ⟨hrc, er⟩ := hw.rc hq
  refine lv_aload_n hx hb dX0_weakestPlace_0 rfl (lv_at hl 0 rfl) ?_
  refine lv_iload_n hx hb dX0_weakestPlace_1 rfl (lv_at hl 1 rfl) ?_
  refine kr_vV (n := 1) (As := [.int (nI q)]) (rest := []) ⟨hx, hb, hml, hown, hts⟩ (c_X0_checkLine l D cy h a N L A q (by omega) (by omega)) kg_RX0_82 ⟨rfl, rfl⟩ (by decide +kernel) ⟨Nat.le_of_ble_eq_true rfl, Nat.le_of_ble_eq_true rfl⟩ (kr_pv0 hP hK) rfl hl.1 rfl (Nat.le_of_ble_eq_true rfl) dX0_weakestPlace_2 ⟨Nat.zero_le _, Nat.zero_le _⟩ ?_
  refine lv_iconst (v := -1) hx hb dX0_weakestPlace_5 (by decide) ?_
  refine lv_istore_n (lv' := [(2, .int (-1)), (0, .ref h), (1, .int (nI q))]) hx hb dX0_weakestPlace_6 rfl hl (by decide) rfl (fun ls hl => ?_)
  refine lv_ldc (v := 2147483647) hx hb hown (hts _ kq_337) dX0_weakestPlace_7 ?_
  refine lv_istore_n (lv' := [(3, .int 2147483647), (2, .int (-1)), (0, .ref h), (1, .int (nI q))]) hx hb dX0_weakestPlace_9 rfl hl (by decide) rfl (fun ls hl => ?_)
  refine lv_iconst (v := 0) hx hb dX0_weakestPlace_10 (by decide) ?_
  refine lv_istore (lv' := [(4, .int 0), (3, .int 2147483647), (2, .int (-1)), (0, .ref h), (1, .int (nI q))]) hx hb dX0_weakestPlace_11 hl (by decide) rfl (fun ls hl => ?_)
  refine kr_lp (nL := 6) (fun z : Nat × Int32 × Int32 => [(4, .int (nI z.1)), (3, .int z.2.2), (2, .int z.2.1), (0, .ref h), (1, .int (nI q))]) (fun z => z.1 ≤ kr_rc A q ∧ ((z.2.1 = -1 ∧ z.2.2 = 2147483647) ∨ ∃ j, j < kr_rc A q ∧ z.2.1 = nI j ∧ z.2.2 = kr_nw A q j) ∧ kr_wk A q (kr_rc A q - z.1) z.1 z.2.1 = kr_wk A q (kr_rc A q) 0 (-1)) (fun z => kr_rc A q - z.1) ?_ (0, -1, 2147483647) ⟨by omega, Or.inl ⟨rfl, rfl⟩, rfl⟩ (lv_sub hl [0, 1, 2, 3, 4] rfl)
  clear hl
  intro z ls hI hl ih
  obtain ⟨i, b, g⟩ := z
  have hl : lv_has ls 6 [(4, .int (nI i)), (3, .int g), (2, .int b), (0, .ref h), (1, .int (nI q))] := hl
  obtain ⟨hi0, hb2, he⟩ : i ≤ kr_rc A q ∧ ((b = -1 ∧ g = 2147483647) ∨ ∃ j, j < kr_rc A q ∧ b = nI j ∧ g = kr_nw A q j) ∧ kr_wk A q (kr_rc A q - i) i b = kr_wk A q (kr_rc A q) 0 (-1) := hI
  refine lv_iload hx hb dX0_weakestPlace_13 (lv_at hl 0 rfl) ?_
  refine lv_aload_n hx hb dX0_weakestPlace_15 rfl (lv_at hl 3 rfl) ?_
  refine va_get (ci := 0) (v := .ref (a 5)) (C := RX0) (T := TX0) (N := 10) hx hb hts kr_wsX0 hown hK hP 0 rfl rfl 6 (by decide) (hts _ kq_48) (fun _ h9 => h9) rfl dX0_weakestPlace_16 ?_
  refine lv_iload_n hx hb dX0_weakestPlace_19 rfl (lv_at hl 4 rfl) ?_
  refine kr_ald hx hb hK hP 6 0 rfl rfl q (by omega) (by decide) dX0_weakestPlace_20 ?_
  rw [er]
  refine lv_icmp_ge (tgt := 51) hx hb dX0_weakestPlace_21 (by decide) (fun c21 => ?_) (fun c21 => ?_)
  · have hi2 : i = kr_rc A q := by have := kr_ge (by omega) (by omega) c21; omega
    subst hi2
    refine lv_iload_n hx hb dX0_weakestPlace_51 rfl (lv_at hl 2 rfl) ?_
    exact kr_eI hx hb hr hlocks rfl (by rw [Nat.sub_self] at he; exact he) dX0_weakestPlace_52
  · have hi : i < kr_rc A q := kr_lt (by omega) (by omega) c21
    rw [kr_wk_s hi] at he
    refine lv_aload_n hx hb dX0_weakestPlace_24 rfl (lv_at hl 3 rfl) ?_
    refine lv_iload_n hx hb dX0_weakestPlace_25 rfl (lv_at hl 4 rfl) ?_
    refine lv_iload hx hb dX0_weakestPlace_26 (lv_at hl 0 rfl) ?_
    refine kr_vI (n := 2) (As := [.int (nI q), .int (nI i)]) (rest := []) ⟨hx, hb, hml, hown, hts⟩ (c_X0_currentStrength l D cy h a N L A q i hw (by omega) (by omega)) kg_RX0_134 ⟨rfl, rfl⟩ (by decide +kernel) ⟨Nat.le_of_ble_eq_true rfl, Nat.le_of_ble_eq_true rfl⟩ (kr_pv0 hP hK) rfl hl.1 rfl (Nat.le_of_ble_eq_true rfl) dX0_weakestPlace_28 ⟨Nat.zero_le _, Nat.zero_le _⟩ (fun r9 e9 => ?_)
    subst e9
    refine lv_istore (lv' := [(5, .int (kr_nw A q i)), (4, .int (nI i)), (3, .int g), (2, .int b), (0, .ref h), (1, .int (nI q))]) hx hb dX0_weakestPlace_31 hl (by decide) rfl (fun ls hl => ?_)
    refine lv_iload hx hb dX0_weakestPlace_33 (lv_at hl 0 rfl) ?_
    refine lv_iload_n hx hb dX0_weakestPlace_35 rfl (lv_at hl 2 rfl) ?_
    refine lv_icmp_ge (tgt := 45) hx hb dX0_weakestPlace_36 (by decide) (fun c36 => ?_) (fun c36 => ?_)
    · have hno : ¬ (b = -1 ∨ kr_nw A q i < kr_nw A q (kr_ix b)) := by
        rcases hb2 with ⟨rfl, rfl⟩ | ⟨j, hj, rfl, rfl⟩
        · exact absurd (kr_nw_lt q i) (kr_ngt2 c36)
        · rw [kr_ix_nI (by omega)]; exact fun z => z.elim (kr_kn_ne (by omega)) (kr_ngt2 c36)
      rw [if_neg hno] at he
      refine lv_iinc (v := nI (i + 1)) (lv' := [(4, .int (nI (i + 1))), (5, .int (kr_nw A q i)), (3, .int g), (2, .int b), (0, .ref h), (1, .int (nI q))]) hx hb dX0_weakestPlace_45 hl (k := 1) rfl (kr_inc _) (by decide) rfl (fun ls hl => ?_)
      refine lv_goto (tgt := 13) hx hb dX0_weakestPlace_48 (by decide) ?_
      exact ih (i + 1, b, g) ls ⟨by omega, hb2, he⟩ (by show kr_rc A q - (i + 1) < kr_rc A q - i; omega) (lv_sub hl [0, 2, 3, 4, 5] rfl)
    · have hyes : b = -1 ∨ kr_nw A q i < kr_nw A q (kr_ix b) := by
        rcases hb2 with ⟨rfl, rfl⟩ | ⟨j, hj, rfl, rfl⟩
        · exact Or.inl rfl
        · rw [kr_ix_nI (by omega)]; exact Or.inr (kr_nle2 c36)
      rw [if_pos hyes] at he
      refine lv_iload hx hb dX0_weakestPlace_39 (lv_at hl 1 rfl) ?_
      refine lv_istore_n (lv' := [(2, .int (nI i)), (5, .int (kr_nw A q i)), (4, .int (nI i)), (3, .int g), (0, .ref h), (1, .int (nI q))]) hx hb dX0_weakestPlace_41 rfl hl (by decide) rfl (fun ls hl => ?_)
      refine lv_iload hx hb dX0_weakestPlace_42 (lv_at hl 1 rfl) ?_
      refine lv_istore_n (lv' := [(3, .int (kr_nw A q i)), (2, .int (nI i)), (5, .int (kr_nw A q i)), (4, .int (nI i)), (0, .ref h), (1, .int (nI q))]) hx hb dX0_weakestPlace_44 rfl hl (by decide) rfl (fun ls hl => ?_)
      refine lv_iinc (v := nI (i + 1)) (lv' := [(4, .int (nI (i + 1))), (3, .int (kr_nw A q i)), (2, .int (nI i)), (5, .int (kr_nw A q i)), (0, .ref h), (1, .int (nI q))]) hx hb dX0_weakestPlace_45 hl (k := 3) rfl (kr_inc _) (by decide) rfl (fun ls hl => ?_)
      refine lv_goto (tgt := 13) hx hb dX0_weakestPlace_48 (by decide) ?_
      exact ih (i + 1, nI i, kr_nw A q i) ls ⟨by omega, Or.inr ⟨i, by omega, rfl, rfl⟩, he⟩ (by show kr_rc A q - (i + 1) < kr_rc A q - i; omega) (lv_sub hl [0, 1, 2, 4, 5] rfl)
theorem kg_RX0_101 : GoodIn kr_all (wsV RX0 101 RX0 yX0_firstPlaceToGiveWay (Cond.code yX0_firstPlaceToGiveWay cX0_firstPlaceToGiveWay 4 (some .int) :: kr_all)) := kr_gV kq_222 kq_224 kq_8 kq_25 kq_225
set_option maxHeartbeats 4000000 in
set_option maxRecDepth 100000 in
theorem c_X0_holds (l : Launch) (D : va_G) (cy : ClassId) (h : Nat) (a : Nat → Nat) (N L : Nat) (A : Nat → Nat → Int32) (q : Nat) (ld : Int32) (hw : kr_wf N L A) (hq : q < L) (hld : ¬ ld < 1 ∧ ¬ 999 < ld) : Met l yX0_holds (Cond.code yX0_holds cX0_holds 3 (some .boolean) :: kr_all) ({ frames := 5, cells := 0, slots := 0, locals := 114 }) (va_Pc [.ref h, .int (nI q), .int ld] (kr_R D (kr_W0 cy h a N L A) cy)) (vp_Si (fun r => r = if ¬ A 5 q = 0 ∧ kr_gw A q ld = -1 then 1 else 0)) 0 0 (fun _ => False) := by
  refine kr_of (by decide) (Nat.le_of_ble_eq_true rfl) ?_
  intro p e s m below meth c ls hx hb hml hr hts hown hlocks hin hv hl
  obtain ⟨hP, hK⟩ := hv
  have hown : s.vm.findClass RX0 = some m.cls := hown
  have hl : lv_has ls 3 [(0, .ref h), (1, .int (nI q)), (2, .int ld)] := hl
  have hL := hw.2.1
  refine lv_aload_n hx hb dX0_holds_0 rfl (lv_at hl 0 rfl) ?_
  refine lv_iload_n hx hb dX0_holds_1 rfl (lv_at hl 1 rfl) ?_
  refine kr_vV (n := 1) (As := [.int (nI q)]) (rest := []) ⟨hx, hb, hml, hown, hts⟩ (c_X0_checkLine l D cy h a N L A q (by omega) (by omega)) kg_RX0_82 ⟨rfl, rfl⟩ (by decide +kernel) ⟨Nat.le_of_ble_eq_true rfl, Nat.le_of_ble_eq_true rfl⟩ (kr_pv0 hP hK) rfl hl.1 rfl (Nat.le_of_ble_eq_true rfl) dX0_holds_2 ⟨Nat.zero_le _, Nat.zero_le _⟩ ?_
  refine lv_iload_n hx hb dX0_holds_5 rfl (lv_at hl 2 rfl) ?_
  refine kr_sV (n := 1) (As := [.int ld]) (rest := []) ⟨hx, hb, hml, hown, hts⟩ (c_X0_checkLoad l ld (by assumption)) kg_RX0_62 ⟨rfl, rfl⟩ (by decide +kernel) ⟨Nat.le_of_ble_eq_true rfl, Nat.le_of_ble_eq_true rfl⟩ ⟨kr_blT, fun U hU hW => ⟨rfl, trivial⟩⟩ rfl hl.1 rfl (Nat.le_of_ble_eq_true rfl) dX0_holds_6 ⟨Nat.zero_le _, Nat.zero_le _⟩ ?_
  refine lv_aload_n hx hb dX0_holds_9 rfl (lv_at hl 0 rfl) ?_
  refine lv_iload_n hx hb dX0_holds_10 rfl (lv_at hl 1 rfl) ?_
  refine kr_vI (n := 1) (As := [.int (nI q)]) (rest := []) ⟨hx, hb, hml, hown, hts⟩ (c_X0_isGone l D cy h a N L A q (by omega)) kg_RX0_140 ⟨rfl, rfl⟩ (by decide +kernel) ⟨Nat.le_of_ble_eq_true rfl, Nat.le_of_ble_eq_true rfl⟩ (kr_pv0 hP hK) rfl hl.1 rfl (Nat.le_of_ble_eq_true rfl) dX0_holds_11 ⟨Nat.zero_le _, Nat.zero_le _⟩ (fun r9 e9 => ?_)
  subst e9
  refine lv_if_ne (tgt := 31) hx hb dX0_holds_14 (by decide) (fun c14 => ?_) (fun c14 => ?_)
  · refine lv_iconst (v := 0) hx hb dX0_holds_31 (by decide) ?_
    exact kr_eZ hx hb hr hlocks rfl (Or.inl rfl) (if_neg (fun z => z.1 (kr_if1 c14))).symm dX0_holds_32
  · refine lv_aload_n hx hb dX0_holds_17 rfl (lv_at hl 0 rfl) ?_
    refine lv_iload_n hx hb dX0_holds_18 rfl (lv_at hl 1 rfl) ?_
    refine lv_iload_n hx hb dX0_holds_19 rfl (lv_at hl 2 rfl) ?_
    refine kr_vI (n := 2) (As := [.int (nI q), .int ld]) (rest := []) ⟨hx, hb, hml, hown, hts⟩ (c_X0_firstPlaceToGiveWay l D cy h a N L A q ld hw (by omega)) kg_RX0_101 ⟨rfl, rfl⟩ (by decide +kernel) ⟨Nat.le_of_ble_eq_true rfl, Nat.le_of_ble_eq_true rfl⟩ (kr_pv0 hP hK) rfl hl.1 rfl (Nat.le_of_ble_eq_true rfl) dX0_holds_20 ⟨Nat.zero_le _, Nat.zero_le _⟩ (fun r9 e9 => ?_)
    subst e9
    refine lv_iconst (v := -1) hx hb dX0_holds_23 (by decide) ?_
    refine lv_icmp_ne (tgt := 31) hx hb dX0_holds_24 (by decide) (fun c24 => ?_) (fun c24 => ?_)
    · refine lv_iconst (v := 0) hx hb dX0_holds_31 (by decide) ?_
      exact kr_eZ hx hb hr hlocks rfl (Or.inl rfl) (if_neg (fun z => c24 z.2)).symm dX0_holds_32
    · refine lv_iconst (v := 1) hx hb dX0_holds_27 (by decide) ?_
      refine lv_goto (tgt := 32) hx hb dX0_holds_28 (by decide) ?_
      exact kr_eZ hx hb hr hlocks rfl (Or.inr rfl) (if_pos ⟨kr_if0 c14, c24⟩).symm dX0_holds_32
theorem kg_RX0_143 : GoodIn kr_all (wsV RX0 143 RX0 yX0_loadHeldWith (Cond.code yX0_loadHeldWith cX0_loadHeldWith 7 (some .int) :: kr_all)) := kr_gV kq_346 kq_348 kq_18 kq_25 kq_349
set_option maxHeartbeats 4000000 in
set_option maxRecDepth 100000 in
theorem c_X0_holdsUpTo (l : Launch) (D : va_G) (cy : ClassId) (h : Nat) (a : Nat → Nat) (N L : Nat) (A : Nat → Nat → Int32) (q : Nat) (hw : kr_wf N L A) (hq : q < L) : Met l yX0_holdsUpTo (Cond.code yX0_holdsUpTo cX0_holdsUpTo 2 (some .int) :: kr_all) ({ frames := 4, cells := 0, slots := 0, locals := 99 }) (va_Pc [.ref h, .int (nI q)] (kr_R D (kr_W0 cy h a N L A) cy)) (vp_Si (fun r => r = kr_hu A q)) 0 0 (fun _ => False) := by
  refine kr_of (by decide) (Nat.le_of_ble_eq_true rfl) ?_
  intro p e s m below meth c ls hx hb hml hr hts hown hlocks hin hv hl
  obtain ⟨hP, hK⟩ := hv
  have hown : s.vm.findClass RX0 = some m.cls := hown
  have hl : lv_has ls 2 [(0, .ref h), (1, .int (nI q))] := hl
  have hL := hw.2.1
  obtain ⟨hrc, er⟩ := hw.rc hq
  refine lv_aload_n hx hb dX0_holdsUpTo_0 rfl (lv_at hl 0 rfl) ?_
  refine lv_iload_n hx hb dX0_holdsUpTo_1 rfl (lv_at hl 1 rfl) ?_
  refine kr_vV (n := 1) (As := [.int (nI q)]) (rest := []) ⟨hx, hb, hml, hown, hts⟩ (c_X0_checkLine l D cy h a N L A q (by omega) (by omega)) kg_RX0_82 ⟨rfl, rfl⟩ (by decide +kernel) ⟨Nat.le_of_ble_eq_true rfl, Nat.le_of_ble_eq_true rfl⟩ (kr_pv0 hP hK) rfl hl.1 rfl (Nat.le_of_ble_eq_true rfl) dX0_holdsUpTo_2 ⟨Nat.zero_le _, Nat.zero_le _⟩ ?_
  refine lv_aload_n hx hb dX0_holdsUpTo_5 rfl (lv_at hl 0 rfl) ?_
  refine lv_iload_n hx hb dX0_holdsUpTo_6 rfl (lv_at hl 1 rfl) ?_
  refine lv_iconst (v := -1) hx hb dX0_holdsUpTo_7 (by decide) ?_
  refine lv_iconst (v := -1) hx hb dX0_holdsUpTo_8 (by decide) ?_
  refine kr_vI (n := 3) (As := [.int (nI q), .int (-1), .int (-1)]) (rest := []) ⟨hx, hb, hml, hown, hts⟩ (c_X0_loadHeldWith l D cy h a N L A q (-1) (-1) hw (by omega) (by first | assumption | exact Or.inl rfl)) kg_RX0_143 ⟨rfl, rfl⟩ (by decide +kernel) ⟨Nat.le_of_ble_eq_true rfl, Nat.le_of_ble_eq_true rfl⟩ (kr_pv0 hP hK) rfl hl.1 rfl (Nat.le_of_ble_eq_true rfl) dX0_holdsUpTo_9 ⟨Nat.zero_le _, Nat.zero_le _⟩ (fun r9 e9 => ?_)
  subst e9
  exact kr_eI hx hb hr hlocks rfl (kr_lu_hu q hrc) dX0_holdsUpTo_12
set_option maxHeartbeats 4000000 in
set_option maxRecDepth 100000 in
theorem c_X0_wouldGiveWay (l : Launch) (D : va_G) (cy : ClassId) (h : Nat) (a : Nat → Nat) (N L : Nat) (A : Nat → Nat → Int32) (q : Nat) (ld : Int32) (hw : kr_wf N L A) (hq : q < L) (hld : ¬ ld < 1 ∧ ¬ 999 < ld) : Met l yX0_wouldGiveWay (Cond.code yX0_wouldGiveWay cX0_wouldGiveWay 3 (some .int) :: kr_all) ({ frames := 5, cells := 0, slots := 0, locals := 114 }) (va_Pc [.ref h, .int (nI q), .int ld] (kr_R D (kr_W0 cy h a N L A) cy)) (vp_Si (fun r => r = kr_gw A q ld)) 0 0 (fun _ => False) := by
  refine kr_of (by decide) (Nat.le_of_ble_eq_true rfl) ?_
  intro p e s m below meth c ls hx hb hml hr hts hown hlocks hin hv hl
  obtain ⟨hP, hK⟩ := hv
  have hown : s.vm.findClass RX0 = some m.cls := hown
  have hl : lv_has ls 3 [(0, .ref h), (1, .int (nI q)), (2, .int ld)] := hl
  have hL := hw.2.1
  refine lv_aload_n hx hb dX0_wouldGiveWay_0 rfl (lv_at hl 0 rfl) ?_
  refine lv_iload_n hx hb dX0_wouldGiveWay_1 rfl (lv_at hl 1 rfl) ?_
  refine kr_vV (n := 1) (As := [.int (nI q)]) (rest := []) ⟨hx, hb, hml, hown, hts⟩ (c_X0_checkLine l D cy h a N L A q (by omega) (by omega)) kg_RX0_82 ⟨rfl, rfl⟩ (by decide +kernel) ⟨Nat.le_of_ble_eq_true rfl, Nat.le_of_ble_eq_true rfl⟩ (kr_pv0 hP hK) rfl hl.1 rfl (Nat.le_of_ble_eq_true rfl) dX0_wouldGiveWay_2 ⟨Nat.zero_le _, Nat.zero_le _⟩ ?_
  refine lv_iload_n hx hb dX0_wouldGiveWay_5 rfl (lv_at hl 2 rfl) ?_
  refine kr_sV (n := 1) (As := [.int ld]) (rest := []) ⟨hx, hb, hml, hown, hts⟩ (c_X0_checkLoad l ld (by assumption)) kg_RX0_62 ⟨rfl, rfl⟩ (by decide +kernel) ⟨Nat.le_of_ble_eq_true rfl, Nat.le_of_ble_eq_true rfl⟩ ⟨kr_blT, fun U hU hW => ⟨rfl, trivial⟩⟩ rfl hl.1 rfl (Nat.le_of_ble_eq_true rfl) dX0_wouldGiveWay_6 ⟨Nat.zero_le _, Nat.zero_le _⟩ ?_
  refine lv_aload_n hx hb dX0_wouldGiveWay_9 rfl (lv_at hl 0 rfl) ?_
  refine lv_iload_n hx hb dX0_wouldGiveWay_10 rfl (lv_at hl 1 rfl) ?_
  refine lv_iload_n hx hb dX0_wouldGiveWay_11 rfl (lv_at hl 2 rfl) ?_
  refine kr_vI (n := 2) (As := [.int (nI q), .int ld]) (rest := []) ⟨hx, hb, hml, hown, hts⟩ (c_X0_firstPlaceToGiveWay l D cy h a N L A q ld hw (by omega)) kg_RX0_101 ⟨rfl, rfl⟩ (by decide +kernel) ⟨Nat.le_of_ble_eq_true rfl, Nat.le_of_ble_eq_true rfl⟩ (kr_pv0 hP hK) rfl hl.1 rfl (Nat.le_of_ble_eq_true rfl) dX0_wouldGiveWay_12 ⟨Nat.zero_le _, Nat.zero_le _⟩ (fun r9 e9 => ?_)
  subst e9
  exact kr_eI hx hb hr hlocks rfl rfl dX0_wouldGiveWay_15
theorem kg_RX0_93 : GoodIn kr_all (wsS RX0 93 yX0_kindDueAt (Cond.code yX0_kindDueAt cX0_kindDueAt 1 (some .int) :: kr_all)) := kr_gS kq_164 kq_165 kq_25 kq_166
set_option maxHeartbeats 4000000 in
set_option maxRecDepth 100000 in
theorem c_X0_bestKnot (l : Launch) (D : va_G) (cy : ClassId) (h : Nat) (a : Nat → Nat) (N L : Nat) (A : Nat → Nat → Int32) (q pl : Nat) (hw : kr_wf N L A) (hq : q < L) (hp : pl < kr_rc A q) : Met l yX0_bestKnot (Cond.code yX0_bestKnot cX0_bestKnot 10 (some .int) :: kr_all) ({ frames := 4, cells := 0, slots := 0, locals := 99 }) (va_Pc [.ref h, .int (nI q), .int (nI pl)] (kr_R D (kr_W0 cy h a N L A) cy)) (vp_Si (fun r => r = kr_bk A N q pl)) 0 0 (fun _ => False) := by
  refine kr_of (by decide) (Nat.le_of_ble_eq_true rfl) ?_
  intro p e s m below meth c ls hx hb hml hr hts hown hlocks hin hv hl
  obtain ⟨hP, hK⟩ := hv
  have hown : s.vm.findClass RX0 = some m.cls := hown
  have hl : lv_has ls 10 [(0, .ref h), (1, .int (nI q)), (2, .int (nI pl))] := hl
  have hN := hw.1
  have hL := hw.2.1
  obtain ⟨hrc, er⟩ := hw.rc hq
  refine lv_aload_n hx hb dX0_bestKnot_0 rfl (lv_at hl 0 rfl) ?_
  refine lv_iload_n hx hb dX0_bestKnot_1 rfl (lv_at hl 1 rfl) ?_
  refine lv_iload_n hx hb dX0_bestKnot_2 rfl (lv_at hl 2 rfl) ?_
  refine kr_vV (n := 2) (As := [.int (nI q), .int (nI pl)]) (rest := []) ⟨hx, hb, hml, hown, hts⟩ (c_X0_checkPlace l D cy h a N L A q pl hw (by omega) (by omega)) kg_RX0_90 ⟨rfl, rfl⟩ (by decide +kernel) ⟨Nat.le_of_ble_eq_true rfl, Nat.le_of_ble_eq_true rfl⟩ (kr_pv0 hP hK) rfl hl.1 rfl (Nat.le_of_ble_eq_true rfl) dX0_bestKnot_3 ⟨Nat.zero_le _, Nat.zero_le _⟩ ?_
  refine lv_iload_n hx hb dX0_bestKnot_6 rfl (lv_at hl 2 rfl) ?_
  refine kr_sI (n := 1) (As := [.int (nI pl)]) (rest := []) ⟨hx, hb, hml, hown, hts⟩ (c_X0_kindDueAt l (nI pl)) kg_RX0_93 ⟨rfl, rfl⟩ (by decide +kernel) ⟨Nat.le_of_ble_eq_true rfl, Nat.le_of_ble_eq_true rfl⟩ ⟨kr_blT, fun U hU hW => ⟨rfl, trivial⟩⟩ rfl hl.1 rfl (Nat.le_of_ble_eq_true rfl) dX0_bestKnot_7 ⟨Nat.zero_le _, Nat.zero_le _⟩ (fun r9 e9 => ?_)
  subst e9
  show W _ _ _ _ _ _ _ _ _ _ _ _ _ _ _ (F0 _ _ _ (.int (kr_kd pl) :: _))
  refine lv_topi (fun kd ekd => ?_)
  refine lv_istore_n (lv' := [(3, .int kd), (0, .ref h), (1, .int (nI q)), (2, .int (nI pl))]) hx hb dX0_bestKnot_10 rfl hl (by decide) rfl (fun ls hl => ?_)
  refine lv_aload_n hx hb dX0_bestKnot_11 rfl (lv_at hl 1 rfl) ?_
  refine lv_iload_n hx hb dX0_bestKnot_12 rfl (lv_at hl 0 rfl) ?_
  refine kr_vI (n := 1) (As := [.int kd]) (rest := []) ⟨hx, hb, hml, hown, hts⟩ (c_X0_countOfKind l D cy h a N L A kd (by omega)) kg_RX0_107 ⟨rfl, rfl⟩ (by decide +kernel) ⟨Nat.le_of_ble_eq_true rfl, Nat.le_of_ble_eq_true rfl⟩ (kr_pv0 hP hK) rfl hl.1 rfl (Nat.le_of_ble_eq_true rfl) dX0_bestKnot_13 ⟨Nat.zero_le _, Nat.zero_le _⟩ (fun r9 e9 => ?_)
  subst e9
  refine lv_istore (lv' := [(4, .int (nI (kr_cn A kd N))), (3, .int kd), (0, .ref h), (1, .int (nI q)), (2, .int (nI pl))]) hx hb dX0_bestKnot_16 hl (by decide) rfl (fun ls hl => ?_)
  refine lv_iconst (v := -1) hx hb dX0_bestKnot_18 (by decide) ?_
  refine lv_istore (lv' := [(5, .int (-1)), (4, .int (nI (kr_cn A kd N))), (3, .int kd), (0, .ref h), (1, .int (nI q)), (2, .int (nI pl))]) hx hb dX0_bestKnot_19 hl (by decide) rfl (fun ls hl => ?_)
  refine lv_iconst (v := -1) hx hb dX0_bestKnot_21 (by decide) ?_
  refine lv_istore (lv' := [(6, .int (-1)), (5, .int (-1)), (4, .int (nI (kr_cn A kd N))), (3, .int kd), (0, .ref h), (1, .int (nI q)), (2, .int (nI pl))]) hx hb dX0_bestKnot_22 hl (by decide) rfl (fun ls hl => ?_)
  refine lv_iconst (v := 0) hx hb dX0_bestKnot_24 (by decide) ?_
  refine lv_istore (lv' := [(7, .int 0), (6, .int (-1)), (5, .int (-1)), (4, .int (nI (kr_cn A kd N))), (3, .int kd), (0, .ref h), (1, .int (nI q)), (2, .int (nI pl))]) hx hb dX0_bestKnot_25 hl (by decide) rfl (fun ls hl => ?_)
  have hcn := kr_cn_le (A := A) (kd := kd) N
  refine kr_lp (nL := 10) (fun z : Nat × Int32 × Int32 => [(7, .int (nI z.1)), (6, .int z.2.2), (5, .int z.2.1), (4, .int (nI (kr_cn A kd N))), (3, .int kd), (0, .ref h), (1, .int (nI q)), (2, .int (nI pl))]) (fun z => z.1 ≤ kr_cn A kd N ∧ kr_bs A N q (nI pl) kd (kr_cn A kd N - z.1) z.1 z.2.1 z.2.2 = kr_bk A N q pl) (fun z => kr_cn A kd N - z.1) ?_ (0, -1, -1) ⟨by omega, by rw [ekd]; rfl⟩ (lv_sub hl [0, 1, 2, 3, 4, 5, 6, 7] rfl)
  clear hl
  intro z ls hI hl ih
  obtain ⟨i, b, g⟩ := z
  have hl : lv_has ls 10 [(7, .int (nI i)), (6, .int g), (5, .int b), (4, .int (nI (kr_cn A kd N))), (3, .int kd), (0, .ref h), (1, .int (nI q)), (2, .int (nI pl))] := hl
  obtain ⟨hi0, he⟩ : i ≤ kr_cn A kd N ∧ kr_bs A N q (nI pl) kd (kr_cn A kd N - i) i b g = kr_bk A N q pl := hI
  refine lv_iload hx hb dX0_bestKnot_27 (lv_at hl 0 rfl) ?_
  refine lv_iload hx hb dX0_bestKnot_29 (lv_at hl 3 rfl) ?_
  refine lv_icmp_ge (tgt := 74) hx hb dX0_bestKnot_31 (by decide) (fun c31 => ?_) (fun c31 => ?_)
  · have hi2 : i = kr_cn A kd N := by have := kr_ge (by omega) (by omega) c31; omega
    subst hi2
    refine lv_iload hx hb dX0_bestKnot_74 (lv_at hl 2 rfl) ?_
    exact kr_eI hx hb hr hlocks rfl (by rw [Nat.sub_self] at he; exact he) dX0_bestKnot_76
  · have hi : i < kr_cn A kd N := kr_lt (by omega) (by omega) c31
    rw [kr_bs_s hi] at he
    refine lv_aload_n hx hb dX0_bestKnot_34 rfl (lv_at hl 5 rfl) ?_
    refine lv_iload_n hx hb dX0_bestKnot_35 rfl (lv_at hl 4 rfl) ?_
    refine lv_iload hx hb dX0_bestKnot_36 (lv_at hl 0 rfl) ?_
    refine kr_vI (n := 2) (As := [.int kd, .int (nI i)]) (rest := []) ⟨hx, hb, hml, hown, hts⟩ (c_X0_knotWithRank l D cy h a N L A kd (nI i) (by omega)) kg_RX0_113 ⟨rfl, rfl⟩ (by decide +kernel) ⟨Nat.le_of_ble_eq_true rfl, Nat.le_of_ble_eq_true rfl⟩ (kr_pv0 hP hK) rfl hl.1 rfl (Nat.le_of_ble_eq_true rfl) dX0_bestKnot_38 ⟨Nat.zero_le _, Nat.zero_le _⟩ (fun r9 e9 => ?_)
    subst e9
    have hkk := kr_kw_kn (A := A) (N := N) (kd := kd) (rk := nI i) N 0 (by omega)
    refine lv_istore (lv' := [(8, .int (kr_kw A N kd (nI i) N 0)), (7, .int (nI i)), (6, .int g), (5, .int b), (4, .int (nI (kr_cn A kd N))), (3, .int kd), (0, .ref h), (1, .int (nI q)), (2, .int (nI pl))]) hx hb dX0_bestKnot_41 hl (by decide) rfl (fun ls hl => ?_)
    refine lv_aload_n hx hb dX0_bestKnot_43 rfl (lv_at hl 6 rfl) ?_
    refine lv_iload_n hx hb dX0_bestKnot_44 rfl (lv_at hl 7 rfl) ?_
    refine lv_iload_n hx hb dX0_bestKnot_45 rfl (lv_at hl 8 rfl) ?_
    refine lv_iload hx hb dX0_bestKnot_46 (lv_at hl 0 rfl) ?_
    refine kr_vI (n := 3) (As := [.int (nI q), .int (nI pl), .int (kr_kw A N kd (nI i) N 0)]) (rest := []) ⟨hx, hb, hml, hown, hts⟩ (c_X0_loadHeldWith l D cy h a N L A q (nI pl) (kr_kw A N kd (nI i) N 0) hw (by omega) (by first | assumption | exact Or.inl rfl)) kg_RX0_143 ⟨rfl, rfl⟩ (by decide +kernel) ⟨Nat.le_of_ble_eq_true rfl, Nat.le_of_ble_eq_true rfl⟩ (kr_pv0 hP hK) rfl hl.1 rfl (Nat.le_of_ble_eq_true rfl) dX0_bestKnot_48 ⟨Nat.zero_le _, Nat.zero_le _⟩ (fun r9 e9 => ?_)
    subst e9
    refine lv_istore (lv' := [(9, .int (kr_lu A q (nI pl) (kr_kw A N kd (nI i) N 0))), (8, .int (kr_kw A N kd (nI i) N 0)), (7, .int (nI i)), (6, .int g), (5, .int b), (4, .int (nI (kr_cn A kd N))), (3, .int kd), (0, .ref h), (1, .int (nI q)), (2, .int (nI pl))]) hx hb dX0_bestKnot_51 hl (by decide) rfl (fun ls hl => ?_)
    refine lv_iload hx hb dX0_bestKnot_53 (lv_at hl 0 rfl) ?_
    refine lv_iload hx hb dX0_bestKnot_55 (lv_at hl 3 rfl) ?_
    refine lv_icmp_le (tgt := 68) hx hb dX0_bestKnot_57 (by decide) (fun c57 => ?_) (fun c57 => ?_)
    · rw [if_neg (kr_ngt2 c57)] at he
      refine lv_iinc (v := nI (i + 1)) (lv' := [(7, .int (nI (i + 1))), (9, .int (kr_lu A q (nI pl) (kr_kw A N kd (nI i) N 0))), (8, .int (kr_kw A N kd (nI i) N 0)), (6, .int g), (5, .int b), (4, .int (nI (kr_cn A kd N))), (3, .int kd), (0, .ref h), (1, .int (nI q)), (2, .int (nI pl))]) hx hb dX0_bestKnot_68 hl (k := 2) rfl (kr_inc _) (by decide) rfl (fun ls hl => ?_)
      refine lv_goto (tgt := 27) hx hb dX0_bestKnot_71 (by decide) ?_
      exact ih (i + 1, b, g) ls ⟨by omega, he⟩ (by show kr_cn A kd N - (i + 1) < kr_cn A kd N - i; omega) (lv_sub hl [0, 3, 4, 5, 6, 7, 8, 9] rfl)
    · rw [if_pos (kr_nle2 c57)] at he
      refine lv_iload hx hb dX0_bestKnot_60 (lv_at hl 1 rfl) ?_
      refine lv_istore (lv' := [(5, .int (kr_kw A N kd (nI i) N 0)), (9, .int (kr_lu A q (nI pl) (kr_kw A N kd (nI i) N 0))), (8, .int (kr_kw A N kd (nI i) N 0)), (7, .int (nI i)), (6, .int g), (4, .int (nI (kr_cn A kd N))), (3, .int kd), (0, .ref h), (1, .int (nI q)), (2, .int (nI pl))]) hx hb dX0_bestKnot_62 hl (by decide) rfl (fun ls hl => ?_)
      refine lv_iload hx hb dX0_bestKnot_64 (lv_at hl 1 rfl) ?_
      refine lv_istore (lv' := [(6, .int (kr_lu A q (nI pl) (kr_kw A N kd (nI i) N 0))), (5, .int (kr_kw A N kd (nI i) N 0)), (9, .int (kr_lu A q (nI pl) (kr_kw A N kd (nI i) N 0))), (8, .int (kr_kw A N kd (nI i) N 0)), (7, .int (nI i)), (4, .int (nI (kr_cn A kd N))), (3, .int kd), (0, .ref h), (1, .int (nI q)), (2, .int (nI pl))]) hx hb dX0_bestKnot_66 hl (by decide) rfl (fun ls hl => ?_)
      refine lv_iinc (v := nI (i + 1)) (lv' := [(7, .int (nI (i + 1))), (6, .int (kr_lu A q (nI pl) (kr_kw A N kd (nI i) N 0))), (5, .int (kr_kw A N kd (nI i) N 0)), (9, .int (kr_lu A q (nI pl) (kr_kw A N kd (nI i) N 0))), (8, .int (kr_kw A N kd (nI i) N 0)), (4, .int (nI (kr_cn A kd N))), (3, .int kd), (0, .ref h), (1, .int (nI q)), (2, .int (nI pl))]) hx hb dX0_bestKnot_68 hl (k := 4) rfl (kr_inc _) (by decide) rfl (fun ls hl => ?_)
      refine lv_goto (tgt := 27) hx hb dX0_bestKnot_71 (by decide) ?_
      exact ih (i + 1, kr_kw A N kd (nI i) N 0, kr_lu A q (nI pl) (kr_kw A N kd (nI i) N 0)) ls ⟨by omega, he⟩ (by show kr_cn A kd N - (i + 1) < kr_cn A kd N - i; omega) (lv_sub hl [0, 1, 2, 5, 6, 7, 8, 9] rfl)
theorem kg_RX0_147 : GoodIn kr_all (wsV RX0 147 RX0 yX0_holdsUpTo (Cond.code yX0_holdsUpTo cX0_holdsUpTo 2 (some .int) :: kr_all)) := kr_gV kq_366 kq_343 kq_344 kq_25 kq_345
set_option maxHeartbeats 4000000 in
set_option maxRecDepth 100000 in
theorem c_X0_strongestLine (l : Launch) (D : va_G) (cy : ClassId) (h : Nat) (a : Nat → Nat) (N L : Nat) (A : Nat → Nat → Int32) (hw : kr_wf N L A) : Met l yX0_strongestLine (Cond.code yX0_strongestLine cX0_strongestLine 5 (some .int) :: kr_all) ({ frames := 5, cells := 0, slots := 0, locals := 120 }) (va_Pc [.ref h] (kr_R D (kr_W0 cy h a N L A) cy)) (vp_Si (fun r => r = kr_sg A L 0 (-1))) 0 0 (fun _ => False) := by
  refine kr_of (by decide) (Nat.le_of_ble_eq_true rfl) ?_
  intro p e s m below meth c ls hx hb hml hr hts hown hlocks hin hv hl
  obtain ⟨hP, hK⟩ := hv
  have hown : s.vm.findClass RX0 = some m.cls := hown
  have hl : lv_has ls 5 [(0, .ref h)] := hl
  have hL := hw.2.1
  refine lv_iconst (v := -1) hx hb dX0_strongestLine_0 (by decide) ?_
  refine lv_istore_n (lv' := [(1, .int (-1)), (0, .ref h)]) hx hb dX0_strongestLine_1 rfl hl (by decide) rfl (fun ls hl => ?_)
  refine lv_iconst (v := -1) hx hb dX0_strongestLine_2 (by decide) ?_
  refine lv_istore_n (lv' := [(2, .int (-1)), (1, .int (-1)), (0, .ref h)]) hx hb dX0_strongestLine_3 rfl hl (by decide) rfl (fun ls hl => ?_)
  refine lv_iconst (v := 0) hx hb dX0_strongestLine_4 (by decide) ?_
  refine lv_istore_n (lv' := [(3, .int 0), (2, .int (-1)), (1, .int (-1)), (0, .ref h)]) hx hb dX0_strongestLine_5 rfl hl (by decide) rfl (fun ls hl => ?_)
  refine kr_lp (nL := 5) (fun z : Nat × Int32 × Int32 => [(3, .int (nI z.1)), (2, .int z.2.2), (1, .int z.2.1), (0, .ref h)]) (fun z => z.1 ≤ L ∧ ((z.2.1 = -1 ∧ z.2.2 = -1) ∨ ∃ j, j < L ∧ z.2.1 = nI j ∧ z.2.2 = kr_hu A j) ∧ kr_sg A (L - z.1) z.1 z.2.1 = kr_sg A L 0 (-1)) (fun z => L - z.1) ?_ (0, -1, -1) ⟨by omega, Or.inl ⟨rfl, rfl⟩, rfl⟩ (lv_sub hl [0, 1, 2, 3] rfl)
  clear hl
  intro z ls hI hl ih
  obtain ⟨i, b, g⟩ := z
  have hl : lv_has ls 5 [(3, .int (nI i)), (2, .int g), (1, .int b), (0, .ref h)] := hl
  obtain ⟨hi0, hb2, he⟩ : i ≤ L ∧ ((b = -1 ∧ g = -1) ∨ ∃ j, j < L ∧ b = nI j ∧ g = kr_hu A j) ∧ kr_sg A (L - i) i b = kr_sg A L 0 (-1) := hI
  refine lv_iload_n hx hb dX0_strongestLine_6 rfl (lv_at hl 0 rfl) ?_
  refine lv_aload_n hx hb dX0_strongestLine_7 rfl (lv_at hl 3 rfl) ?_
  refine va_get (ci := 0) (v := .int (nI L)) (C := RX0) (T := TX0) (N := 10) hx hb hts kr_wsX0 hown hK hP 0 rfl rfl 7 (by decide) (hts _ kq_49) (fun _ h9 => h9) rfl dX0_strongestLine_8 ?_
  refine lv_icmp_ge (tgt := 38) hx hb dX0_strongestLine_11 (by decide) (fun c11 => ?_) (fun c11 => ?_)
  · have hi2 : i = L := by have := kr_ge (by omega) (by omega) c11; omega
    subst hi2
    refine lv_iload_n hx hb dX0_strongestLine_38 rfl (lv_at hl 2 rfl) ?_
    exact kr_eI hx hb hr hlocks rfl (by rw [Nat.sub_self] at he; exact he) dX0_strongestLine_39
  · have hi : i < L := kr_lt (by omega) (by omega) c11
    rw [kr_sg_s hi] at he
    refine lv_aload_n hx hb dX0_strongestLine_14 rfl (lv_at hl 3 rfl) ?_
    refine lv_iload_n hx hb dX0_strongestLine_15 rfl (lv_at hl 0 rfl) ?_
    refine kr_vI (n := 1) (As := [.int (nI i)]) (rest := []) ⟨hx, hb, hml, hown, hts⟩ (c_X0_holdsUpTo l D cy h a N L A i hw (by omega)) kg_RX0_147 ⟨rfl, rfl⟩ (by decide +kernel) ⟨Nat.le_of_ble_eq_true rfl, Nat.le_of_ble_eq_true rfl⟩ (kr_pv0 hP hK) rfl hl.1 rfl (Nat.le_of_ble_eq_true rfl) dX0_strongestLine_16 ⟨Nat.zero_le _, Nat.zero_le _⟩ (fun r9 e9 => ?_)
    subst e9
    refine lv_istore (lv' := [(4, .int (kr_hu A i)), (3, .int (nI i)), (2, .int g), (1, .int b), (0, .ref h)]) hx hb dX0_strongestLine_19 hl (by decide) rfl (fun ls hl => ?_)
    refine lv_iload hx hb dX0_strongestLine_21 (lv_at hl 0 rfl) ?_
    refine lv_iload_n hx hb dX0_strongestLine_23 rfl (lv_at hl 2 rfl) ?_
    refine lv_icmp_le (tgt := 32) hx hb dX0_strongestLine_24 (by decide) (fun c24 => ?_) (fun c24 => ?_)
    · have hno : ¬ (b = -1 ∨ kr_hu A (kr_ix b) < kr_hu A i) := by
        rcases hb2 with ⟨rfl, rfl⟩ | ⟨j, hj, rfl, rfl⟩
        · exact absurd c24 (kr_hu_nn i)
        · rw [kr_ix_nI (by omega)]; exact fun z => z.elim (kr_kn_ne (by omega)) (kr_ngt2 c24)
      rw [if_neg hno] at he
      refine lv_iinc (v := nI (i + 1)) (lv' := [(3, .int (nI (i + 1))), (4, .int (kr_hu A i)), (2, .int g), (1, .int b), (0, .ref h)]) hx hb dX0_strongestLine_32 hl (k := 1) rfl (kr_inc _) (by decide) rfl (fun ls hl => ?_)
      refine lv_goto (tgt := 6) hx hb dX0_strongestLine_35 (by decide) ?_
      exact ih (i + 1, b, g) ls ⟨by omega, hb2, he⟩ (by show L - (i + 1) < L - i; omega) (lv_sub hl [0, 2, 3, 4] rfl)
    · have hyes : b = -1 ∨ kr_hu A (kr_ix b) < kr_hu A i := by
        rcases hb2 with ⟨rfl, rfl⟩ | ⟨j, hj, rfl, rfl⟩
        · exact Or.inl rfl
        · rw [kr_ix_nI (by omega)]; exact Or.inr (kr_nle2 c24)
      rw [if_pos hyes] at he
      refine lv_iload_n hx hb dX0_strongestLine_27 rfl (lv_at hl 1 rfl) ?_
      refine lv_istore_n (lv' := [(1, .int (nI i)), (4, .int (kr_hu A i)), (3, .int (nI i)), (2, .int g), (0, .ref h)]) hx hb dX0_strongestLine_28 rfl hl (by decide) rfl (fun ls hl => ?_)
      refine lv_iload hx hb dX0_strongestLine_29 (lv_at hl 1 rfl) ?_
      refine lv_istore_n (lv' := [(2, .int (kr_hu A i)), (1, .int (nI i)), (4, .int (kr_hu A i)), (3, .int (nI i)), (0, .ref h)]) hx hb dX0_strongestLine_31 rfl hl (by decide) rfl (fun ls hl => ?_)
      refine lv_iinc (v := nI (i + 1)) (lv' := [(3, .int (nI (i + 1))), (2, .int (kr_hu A i)), (1, .int (nI i)), (4, .int (kr_hu A i)), (0, .ref h)]) hx hb dX0_strongestLine_32 hl (k := 3) rfl (kr_inc _) (by decide) rfl (fun ls hl => ?_)
      refine lv_goto (tgt := 6) hx hb dX0_strongestLine_35 (by decide) ?_
      exact ih (i + 1, nI i, kr_hu A i) ls ⟨by omega, Or.inr ⟨i, by omega, rfl, rfl⟩, he⟩ (by show L - (i + 1) < L - i; omega) (lv_sub hl [0, 1, 2, 4] rfl)
theorem kg_RX0_166 : GoodIn kr_all (wsV RX0 166 RX0 yX0_kindOf (Cond.code yX0_kindOf cX0_kindOf 2 (some .int) :: kr_all)) := kr_gV kq_381 kq_262 kq_263 kq_25 kq_264
theorem kg_RX0_152 : GoodIn kr_all (wsS RX0 152 yX0_digestWith (Cond.code yX0_digestWith cX0_digestWith 3 (some .long) :: kr_all)) := kr_gS kq_372 kq_373 kq_25 kq_374
theorem kg_RX0_169 : GoodIn kr_all (wsV RX0 169 RX0 yX0_efficiencyOf (Cond.code yX0_efficiencyOf cX0_efficiencyOf 2 (some .int) :: kr_all)) := kr_gV kq_382 kq_266 kq_267 kq_25 kq_268
theorem kg_RX0_172 : GoodIn kr_all (wsV RX0 172 RX0 yX0_crossingsOf (Cond.code yX0_crossingsOf cX0_crossingsOf 2 (some .int) :: kr_all)) := kr_gV kq_383 kq_384 kq_385 kq_25 kq_386
theorem kg_RX0_175 : GoodIn kr_all (wsV RX0 175 RX0 yX0_spillsAt (Cond.code yX0_spillsAt cX0_spillsAt 2 (some .int) :: kr_all)) := kr_gV kq_387 kq_270 kq_271 kq_25 kq_272
theorem kg_RX0_178 : GoodIn kr_all (wsV RX0 178 RX0 yX0_spillsInto (Cond.code yX0_spillsInto cX0_spillsInto 2 (some .int) :: kr_all)) := kr_gV kq_388 kq_274 kq_275 kq_25 kq_276
theorem kg_RX0_181 : GoodIn kr_all (wsV RX0 181 RX0 yX0_rankOf (Cond.code yX0_rankOf cX0_rankOf 2 (some .int) :: kr_all)) := kr_gV kq_389 kq_278 kq_279 kq_25 kq_280
theorem kg_RX0_184 : GoodIn kr_all (wsV RX0 184 RX0 yX0_fallsApartAt (Cond.code yX0_fallsApartAt cX0_fallsApartAt 5 (some .int) :: kr_all)) := kr_gV kq_390 kq_307 kq_308 kq_25 kq_309
set_option maxHeartbeats 4000000 in
set_option maxRecDepth 100000 in
theorem c_X0_digestWithKnot (l : Launch) (D : va_G) (cy : ClassId) (h : Nat) (a : Nat → Nat) (N L : Nat) (A : Nat → Nat → Int32) (d0 : Int64) (k : Nat) (hw : kr_wf N L A) (hk : k < N) : Met l yX0_digestWithKnot (Cond.code yX0_digestWithKnot cX0_digestWithKnot 6 (some .long) :: kr_all) ({ frames := 3, cells := 0, slots := 0, locals := 66 }) (va_Pc [.ref h, .long d0, .int (nI k)] (kr_R D (kr_W0 cy h a N L A) cy)) (vp_Sl (fun r => r = kr_dk A N d0 k)) 0 0 (fun _ => False) := by
  refine kr_of (by decide) (Nat.le_of_ble_eq_true rfl) ?_
  intro p e s m below meth c ls hx hb hml hr hts hown hlocks hin hv hl
  obtain ⟨hP, hK⟩ := hv
  have hown : s.vm.findClass RX0 = some m.cls := hown
  have hl : lv_has ls 6 [(0, .ref h), (1, .long d0), (3, .int (nI k))] := hl
  have hN := hw.1
  refine lv_lload_n hx hb dX0_digestWithKnot_0 rfl (lv_at hl 1 rfl) ?_
  refine lv_lstore (lv' := [(4, .long d0), (0, .ref h), (1, .long d0), (3, .int (nI k))]) hx hb dX0_digestWithKnot_1 hl (by decide) rfl (fun ls hl => ?_)
  refine lv_lload hx hb dX0_digestWithKnot_3 (lv_at hl 0 rfl) ?_
  refine lv_aload_n hx hb dX0_digestWithKnot_5 rfl (lv_at hl 1 rfl) ?_
  refine lv_iload_n hx hb dX0_digestWithKnot_6 rfl (lv_at hl 3 rfl) ?_
  refine kr_vI (n := 1) (As := [.int (nI k)]) (rest := [.long d0]) ⟨hx, hb, hml, hown, hts⟩ (c_X0_kindOf l D cy h a N L A k (by omega) (by omega)) kg_RX0_166 ⟨rfl, rfl⟩ (by decide +kernel) ⟨Nat.le_of_ble_eq_true rfl, Nat.le_of_ble_eq_true rfl⟩ (kr_pv0 hP hK) rfl hl.1 rfl (Nat.le_of_ble_eq_true rfl) dX0_digestWithKnot_7 ⟨Nat.zero_le _, Nat.zero_le _⟩ (fun r9 e9 => ?_)
  subst e9
  refine kr_sL (n := 2) (As := [.long d0, .int (A 0 k)]) (rest := []) ⟨hx, hb, hml, hown, hts⟩ (c_X0_digestWith l d0 (A 0 k)) kg_RX0_152 ⟨rfl, rfl⟩ (by decide +kernel) ⟨Nat.le_of_ble_eq_true rfl, Nat.le_of_ble_eq_true rfl⟩ ⟨kr_blT, fun U hU hW => ⟨rfl, trivial⟩⟩ rfl hl.1 rfl (Nat.le_of_ble_eq_true rfl) dX0_digestWithKnot_10 ⟨Nat.zero_le _, Nat.zero_le _⟩ (fun r9 e9 => ?_)
  subst e9
  refine lv_lstore (lv' := [(4, .long (kr_dw d0 (A 0 k))), (0, .ref h), (1, .long d0), (3, .int (nI k))]) hx hb dX0_digestWithKnot_13 hl (by decide) rfl (fun ls hl => ?_)
  refine lv_lload hx hb dX0_digestWithKnot_15 (lv_at hl 0 rfl) ?_
  refine lv_aload_n hx hb dX0_digestWithKnot_17 rfl (lv_at hl 1 rfl) ?_
  refine lv_iload_n hx hb dX0_digestWithKnot_18 rfl (lv_at hl 3 rfl) ?_
  refine kr_vI (n := 1) (As := [.int (nI k)]) (rest := [.long (kr_dw d0 (A 0 k))]) ⟨hx, hb, hml, hown, hts⟩ (c_X0_efficiencyOf l D cy h a N L A k (by omega) (by omega)) kg_RX0_169 ⟨rfl, rfl⟩ (by decide +kernel) ⟨Nat.le_of_ble_eq_true rfl, Nat.le_of_ble_eq_true rfl⟩ (kr_pv0 hP hK) rfl hl.1 rfl (Nat.le_of_ble_eq_true rfl) dX0_digestWithKnot_19 ⟨Nat.zero_le _, Nat.zero_le _⟩ (fun r9 e9 => ?_)
  subst e9
  refine kr_sL (n := 2) (As := [.long (kr_dw d0 (A 0 k)), .int (A 1 k)]) (rest := []) ⟨hx, hb, hml, hown, hts⟩ (c_X0_digestWith l (kr_dw d0 (A 0 k)) (A 1 k)) kg_RX0_152 ⟨rfl, rfl⟩ (by decide +kernel) ⟨Nat.le_of_ble_eq_true rfl, Nat.le_of_ble_eq_true rfl⟩ ⟨kr_blT, fun U hU hW => ⟨rfl, trivial⟩⟩ rfl hl.1 rfl (Nat.le_of_ble_eq_true rfl) dX0_digestWithKnot_22 ⟨Nat.zero_le _, Nat.zero_le _⟩ (fun r9 e9 => ?_)
  subst e9
  refine lv_lstore (lv' := [(4, .long (kr_dw (kr_dw d0 (A 0 k)) (A 1 k))), (0, .ref h), (1, .long d0), (3, .int (nI k))]) hx hb dX0_digestWithKnot_25 hl (by decide) rfl (fun ls hl => ?_)
  refine lv_lload hx hb dX0_digestWithKnot_27 (lv_at hl 0 rfl) ?_
  refine lv_aload_n hx hb dX0_digestWithKnot_29 rfl (lv_at hl 1 rfl) ?_
  refine lv_iload_n hx hb dX0_digestWithKnot_30 rfl (lv_at hl 3 rfl) ?_
  refine kr_vI (n := 1) (As := [.int (nI k)]) (rest := [.long (kr_dw (kr_dw d0 (A 0 k)) (A 1 k))]) ⟨hx, hb, hml, hown, hts⟩ (c_X0_crossingsOf l D cy h a N L A k (by omega) (by omega)) kg_RX0_172 ⟨rfl, rfl⟩ (by decide +kernel) ⟨Nat.le_of_ble_eq_true rfl, Nat.le_of_ble_eq_true rfl⟩ (kr_pv0 hP hK) rfl hl.1 rfl (Nat.le_of_ble_eq_true rfl) dX0_digestWithKnot_31 ⟨Nat.zero_le _, Nat.zero_le _⟩ (fun r9 e9 => ?_)
  subst e9
  refine kr_sL (n := 2) (As := [.long (kr_dw (kr_dw d0 (A 0 k)) (A 1 k)), .int (A 2 k)]) (rest := []) ⟨hx, hb, hml, hown, hts⟩ (c_X0_digestWith l (kr_dw (kr_dw d0 (A 0 k)) (A 1 k)) (A 2 k)) kg_RX0_152 ⟨rfl, rfl⟩ (by decide +kernel) ⟨Nat.le_of_ble_eq_true rfl, Nat.le_of_ble_eq_true rfl⟩ ⟨kr_blT, fun U hU hW => ⟨rfl, trivial⟩⟩ rfl hl.1 rfl (Nat.le_of_ble_eq_true rfl) dX0_digestWithKnot_34 ⟨Nat.zero_le _, Nat.zero_le _⟩ (fun r9 e9 => ?_)
  subst e9
  refine lv_lstore (lv' := [(4, .long (kr_dw (kr_dw (kr_dw d0 (A 0 k)) (A 1 k)) (A 2 k))), (0, .ref h), (1, .long d0), (3, .int (nI k))]) hx hb dX0_digestWithKnot_37 hl (by decide) rfl (fun ls hl => ?_)
  refine lv_lload hx hb dX0_digestWithKnot_39 (lv_at hl 0 rfl) ?_
  refine lv_aload_n hx hb dX0_digestWithKnot_41 rfl (lv_at hl 1 rfl) ?_
  refine lv_iload_n hx hb dX0_digestWithKnot_42 rfl (lv_at hl 3 rfl) ?_
  refine kr_vI (n := 1) (As := [.int (nI k)]) (rest := [.long (kr_dw (kr_dw (kr_dw d0 (A 0 k)) (A 1 k)) (A 2 k))]) ⟨hx, hb, hml, hown, hts⟩ (c_X0_spillsAt l D cy h a N L A k (by omega) (by omega)) kg_RX0_175 ⟨rfl, rfl⟩ (by decide +kernel) ⟨Nat.le_of_ble_eq_true rfl, Nat.le_of_ble_eq_true rfl⟩ (kr_pv0 hP hK) rfl hl.1 rfl (Nat.le_of_ble_eq_true rfl) dX0_digestWithKnot_43 ⟨Nat.zero_le _, Nat.zero_le _⟩ (fun r9 e9 => ?_)
  subst e9
  refine kr_sL (n := 2) (As := [.long (kr_dw (kr_dw (kr_dw d0 (A 0 k)) (A 1 k)) (A 2 k)), .int (A 3 k)]) (rest := []) ⟨hx, hb, hml, hown, hts⟩ (c_X0_digestWith l (kr_dw (kr_dw (kr_dw d0 (A 0 k)) (A 1 k)) (A 2 k)) (A 3 k)) kg_RX0_152 ⟨rfl, rfl⟩ (by decide +kernel) ⟨Nat.le_of_ble_eq_true rfl, Nat.le_of_ble_eq_true rfl⟩ ⟨kr_blT, fun U hU hW => ⟨rfl, trivial⟩⟩ rfl hl.1 rfl (Nat.le_of_ble_eq_true rfl) dX0_digestWithKnot_46 ⟨Nat.zero_le _, Nat.zero_le _⟩ (fun r9 e9 => ?_)
  subst e9
  refine lv_lstore (lv' := [(4, .long (kr_dw (kr_dw (kr_dw (kr_dw d0 (A 0 k)) (A 1 k)) (A 2 k)) (A 3 k))), (0, .ref h), (1, .long d0), (3, .int (nI k))]) hx hb dX0_digestWithKnot_49 hl (by decide) rfl (fun ls hl => ?_)
  refine lv_lload hx hb dX0_digestWithKnot_51 (lv_at hl 0 rfl) ?_
  refine lv_aload_n hx hb dX0_digestWithKnot_53 rfl (lv_at hl 1 rfl) ?_
  refine lv_iload_n hx hb dX0_digestWithKnot_54 rfl (lv_at hl 3 rfl) ?_
  refine kr_vI (n := 1) (As := [.int (nI k)]) (rest := [.long (kr_dw (kr_dw (kr_dw (kr_dw d0 (A 0 k)) (A 1 k)) (A 2 k)) (A 3 k))]) ⟨hx, hb, hml, hown, hts⟩ (c_X0_spillsInto l D cy h a N L A k (by omega) (by omega)) kg_RX0_178 ⟨rfl, rfl⟩ (by decide +kernel) ⟨Nat.le_of_ble_eq_true rfl, Nat.le_of_ble_eq_true rfl⟩ (kr_pv0 hP hK) rfl hl.1 rfl (Nat.le_of_ble_eq_true rfl) dX0_digestWithKnot_55 ⟨Nat.zero_le _, Nat.zero_le _⟩ (fun r9 e9 => ?_)
  subst e9
  refine kr_sL (n := 2) (As := [.long (kr_dw (kr_dw (kr_dw (kr_dw d0 (A 0 k)) (A 1 k)) (A 2 k)) (A 3 k)), .int (A 4 k)]) (rest := []) ⟨hx, hb, hml, hown, hts⟩ (c_X0_digestWith l (kr_dw (kr_dw (kr_dw (kr_dw d0 (A 0 k)) (A 1 k)) (A 2 k)) (A 3 k)) (A 4 k)) kg_RX0_152 ⟨rfl, rfl⟩ (by decide +kernel) ⟨Nat.le_of_ble_eq_true rfl, Nat.le_of_ble_eq_true rfl⟩ ⟨kr_blT, fun U hU hW => ⟨rfl, trivial⟩⟩ rfl hl.1 rfl (Nat.le_of_ble_eq_true rfl) dX0_digestWithKnot_58 ⟨Nat.zero_le _, Nat.zero_le _⟩ (fun r9 e9 => ?_)
  subst e9
  refine lv_lstore (lv' := [(4, .long (kr_dw (kr_dw (kr_dw (kr_dw (kr_dw d0 (A 0 k)) (A 1 k)) (A 2 k)) (A 3 k)) (A 4 k))), (0, .ref h), (1, .long d0), (3, .int (nI k))]) hx hb dX0_digestWithKnot_61 hl (by decide) rfl (fun ls hl => ?_)
  refine lv_lload hx hb dX0_digestWithKnot_63 (lv_at hl 0 rfl) ?_
  refine lv_aload_n hx hb dX0_digestWithKnot_65 rfl (lv_at hl 1 rfl) ?_
  refine lv_iload_n hx hb dX0_digestWithKnot_66 rfl (lv_at hl 3 rfl) ?_
  refine kr_vI (n := 1) (As := [.int (nI k)]) (rest := [.long (kr_dw (kr_dw (kr_dw (kr_dw (kr_dw d0 (A 0 k)) (A 1 k)) (A 2 k)) (A 3 k)) (A 4 k))]) ⟨hx, hb, hml, hown, hts⟩ (c_X0_rankOf l D cy h a N L A k (by omega) (by omega)) kg_RX0_181 ⟨rfl, rfl⟩ (by decide +kernel) ⟨Nat.le_of_ble_eq_true rfl, Nat.le_of_ble_eq_true rfl⟩ (kr_pv0 hP hK) rfl hl.1 rfl (Nat.le_of_ble_eq_true rfl) dX0_digestWithKnot_67 ⟨Nat.zero_le _, Nat.zero_le _⟩ (fun r9 e9 => ?_)
  subst e9
  refine kr_sL (n := 2) (As := [.long (kr_dw (kr_dw (kr_dw (kr_dw (kr_dw d0 (A 0 k)) (A 1 k)) (A 2 k)) (A 3 k)) (A 4 k)), .int (nI (kr_rk A k N))]) (rest := []) ⟨hx, hb, hml, hown, hts⟩ (c_X0_digestWith l (kr_dw (kr_dw (kr_dw (kr_dw (kr_dw d0 (A 0 k)) (A 1 k)) (A 2 k)) (A 3 k)) (A 4 k)) (nI (kr_rk A k N))) kg_RX0_152 ⟨rfl, rfl⟩ (by decide +kernel) ⟨Nat.le_of_ble_eq_true rfl, Nat.le_of_ble_eq_true rfl⟩ ⟨kr_blT, fun U hU hW => ⟨rfl, trivial⟩⟩ rfl hl.1 rfl (Nat.le_of_ble_eq_true rfl) dX0_digestWithKnot_70 ⟨Nat.zero_le _, Nat.zero_le _⟩ (fun r9 e9 => ?_)
  subst e9
  refine lv_lstore (lv' := [(4, .long (kr_dw (kr_dw (kr_dw (kr_dw (kr_dw (kr_dw d0 (A 0 k)) (A 1 k)) (A 2 k)) (A 3 k)) (A 4 k)) (nI (kr_rk A k N)))), (0, .ref h), (1, .long d0), (3, .int (nI k))]) hx hb dX0_digestWithKnot_73 hl (by decide) rfl (fun ls hl => ?_)
  refine lv_lload hx hb dX0_digestWithKnot_75 (lv_at hl 0 rfl) ?_
  refine lv_aload_n hx hb dX0_digestWithKnot_77 rfl (lv_at hl 1 rfl) ?_
  refine lv_iload_n hx hb dX0_digestWithKnot_78 rfl (lv_at hl 3 rfl) ?_
  refine kr_vI (n := 1) (As := [.int (nI k)]) (rest := [.long (kr_dw (kr_dw (kr_dw (kr_dw (kr_dw (kr_dw d0 (A 0 k)) (A 1 k)) (A 2 k)) (A 3 k)) (A 4 k)) (nI (kr_rk A k N)))]) ⟨hx, hb, hml, hown, hts⟩ (c_X0_fallsApartAt l D cy h a N L A k hw (by omega)) kg_RX0_184 ⟨rfl, rfl⟩ (by decide +kernel) ⟨Nat.le_of_ble_eq_true rfl, Nat.le_of_ble_eq_true rfl⟩ (kr_pv0 hP hK) rfl hl.1 rfl (Nat.le_of_ble_eq_true rfl) dX0_digestWithKnot_79 ⟨Nat.zero_le _, Nat.zero_le _⟩ (fun r9 e9 => ?_)
  subst e9
  refine kr_sL (n := 2) (As := [.long (kr_dw (kr_dw (kr_dw (kr_dw (kr_dw (kr_dw d0 (A 0 k)) (A 1 k)) (A 2 k)) (A 3 k)) (A 4 k)) (nI (kr_rk A k N))), .int (kr_fa A 16 (nI k) 0)]) (rest := []) ⟨hx, hb, hml, hown, hts⟩ (c_X0_digestWith l (kr_dw (kr_dw (kr_dw (kr_dw (kr_dw (kr_dw d0 (A 0 k)) (A 1 k)) (A 2 k)) (A 3 k)) (A 4 k)) (nI (kr_rk A k N))) (kr_fa A 16 (nI k) 0)) kg_RX0_152 ⟨rfl, rfl⟩ (by decide +kernel) ⟨Nat.le_of_ble_eq_true rfl, Nat.le_of_ble_eq_true rfl⟩ ⟨kr_blT, fun U hU hW => ⟨rfl, trivial⟩⟩ rfl hl.1 rfl (Nat.le_of_ble_eq_true rfl) dX0_digestWithKnot_82 ⟨Nat.zero_le _, Nat.zero_le _⟩ (fun r9 e9 => ?_)
  subst e9
  exact kr_eL hx hb hr hlocks rfl rfl dX0_digestWithKnot_85
theorem kg_RX0_187 : GoodIn kr_all (wsV RX0 187 RX0 yX0_ropesOf (Cond.code yX0_ropesOf cX0_ropesOf 2 (some .int) :: kr_all)) := kr_gV kq_395 kq_318 kq_319 kq_25 kq_320
theorem kg_RX0_190 : GoodIn kr_all (wsV RX0 190 RX0 yX0_weakestPlace (Cond.code yX0_weakestPlace cX0_weakestPlace 6 (some .int) :: kr_all)) := kr_gV kq_396 kq_334 kq_335 kq_25 kq_336
theorem kg_RX0_193 : GoodIn kr_all (wsV RX0 193 RX0 yX0_knotOf (Cond.code yX0_knotOf cX0_knotOf 3 (some .int) :: kr_all)) := kr_gV kq_397 kq_322 kq_323 kq_25 kq_324
theorem kg_RX0_196 : GoodIn kr_all (wsV RX0 196 RX0 yX0_strengthAt (Cond.code yX0_strengthAt cX0_strengthAt 3 (some .int) :: kr_all)) := kr_gV kq_398 kq_326 kq_327 kq_25 kq_328
set_option maxHeartbeats 4000000 in
set_option maxRecDepth 100000 in
theorem c_X0_digestWithLine (l : Launch) (D : va_G) (cy : ClassId) (h : Nat) (a : Nat → Nat) (N L : Nat) (A : Nat → Nat → Int32) (d0 : Int64) (q : Nat) (hw : kr_wf N L A) (hq : q < L) : Met l yX0_digestWithLine (Cond.code yX0_digestWithLine cX0_digestWithLine 7 (some .long) :: kr_all) ({ frames := 5, cells := 0, slots := 0, locals := 120 }) (va_Pc [.ref h, .long d0, .int (nI q)] (kr_R D (kr_W0 cy h a N L A) cy)) (vp_Sl (fun r => r = kr_dl A d0 q)) 0 0 (fun _ => False) := by
  refine kr_of (by decide) (Nat.le_of_ble_eq_true rfl) ?_
  intro p e s m below meth c ls hx hb hml hr hts hown hlocks hin hv hl
  obtain ⟨hP, hK⟩ := hv
  have hown : s.vm.findClass RX0 = some m.cls := hown
  have hl : lv_has ls 7 [(0, .ref h), (1, .long d0), (3, .int (nI q))] := hl
  have hL := hw.2.1
  obtain ⟨hrc, er⟩ := hw.rc hq
  refine lv_lload_n hx hb dX0_digestWithLine_0 rfl (lv_at hl 1 rfl) ?_
  refine lv_lstore (lv' := [(4, .long d0), (0, .ref h), (1, .long d0), (3, .int (nI q))]) hx hb dX0_digestWithLine_1 hl (by decide) rfl (fun ls hl => ?_)
  refine lv_lload hx hb dX0_digestWithLine_3 (lv_at hl 0 rfl) ?_
  refine lv_aload_n hx hb dX0_digestWithLine_5 rfl (lv_at hl 1 rfl) ?_
  refine lv_iload_n hx hb dX0_digestWithLine_6 rfl (lv_at hl 3 rfl) ?_
  refine kr_vI (n := 1) (As := [.int (nI q)]) (rest := [.long d0]) ⟨hx, hb, hml, hown, hts⟩ (c_X0_ropesOf l D cy h a N L A q hw (by omega)) kg_RX0_187 ⟨rfl, rfl⟩ (by decide +kernel) ⟨Nat.le_of_ble_eq_true rfl, Nat.le_of_ble_eq_true rfl⟩ (kr_pv0 hP hK) rfl hl.1 rfl (Nat.le_of_ble_eq_true rfl) dX0_digestWithLine_7 ⟨Nat.zero_le _, Nat.zero_le _⟩ (fun r9 e9 => ?_)
  subst e9
  refine kr_sL (n := 2) (As := [.long d0, .int (A 5 q)]) (rest := []) ⟨hx, hb, hml, hown, hts⟩ (c_X0_digestWith l d0 (A 5 q)) kg_RX0_152 ⟨rfl, rfl⟩ (by decide +kernel) ⟨Nat.le_of_ble_eq_true rfl, Nat.le_of_ble_eq_true rfl⟩ ⟨kr_blT, fun U hU hW => ⟨rfl, trivial⟩⟩ rfl hl.1 rfl (Nat.le_of_ble_eq_true rfl) dX0_digestWithLine_10 ⟨Nat.zero_le _, Nat.zero_le _⟩ (fun r9 e9 => ?_)
  subst e9
  refine lv_lstore (lv' := [(4, .long (kr_dw d0 (A 5 q))), (0, .ref h), (1, .long d0), (3, .int (nI q))]) hx hb dX0_digestWithLine_13 hl (by decide) rfl (fun ls hl => ?_)
  refine lv_lload hx hb dX0_digestWithLine_15 (lv_at hl 0 rfl) ?_
  refine lv_aload_n hx hb dX0_digestWithLine_17 rfl (lv_at hl 1 rfl) ?_
  refine lv_iload_n hx hb dX0_digestWithLine_18 rfl (lv_at hl 3 rfl) ?_
  refine kr_vI (n := 1) (As := [.int (nI q)]) (rest := [.long (kr_dw d0 (A 5 q))]) ⟨hx, hb, hml, hown, hts⟩ (c_X0_holdsUpTo l D cy h a N L A q hw (by omega)) kg_RX0_147 ⟨rfl, rfl⟩ (by decide +kernel) ⟨Nat.le_of_ble_eq_true rfl, Nat.le_of_ble_eq_true rfl⟩ (kr_pv0 hP hK) rfl hl.1 rfl (Nat.le_of_ble_eq_true rfl) dX0_digestWithLine_19 ⟨Nat.zero_le _, Nat.zero_le _⟩ (fun r9 e9 => ?_)
  subst e9
  refine kr_sL (n := 2) (As := [.long (kr_dw d0 (A 5 q)), .int (kr_hu A q)]) (rest := []) ⟨hx, hb, hml, hown, hts⟩ (c_X0_digestWith l (kr_dw d0 (A 5 q)) (kr_hu A q)) kg_RX0_152 ⟨rfl, rfl⟩ (by decide +kernel) ⟨Nat.le_of_ble_eq_true rfl, Nat.le_of_ble_eq_true rfl⟩ ⟨kr_blT, fun U hU hW => ⟨rfl, trivial⟩⟩ rfl hl.1 rfl (Nat.le_of_ble_eq_true rfl) dX0_digestWithLine_22 ⟨Nat.zero_le _, Nat.zero_le _⟩ (fun r9 e9 => ?_)
  subst e9
  refine lv_lstore (lv' := [(4, .long (kr_dw (kr_dw d0 (A 5 q)) (kr_hu A q))), (0, .ref h), (1, .long d0), (3, .int (nI q))]) hx hb dX0_digestWithLine_25 hl (by decide) rfl (fun ls hl => ?_)
  refine lv_lload hx hb dX0_digestWithLine_27 (lv_at hl 0 rfl) ?_
  refine lv_aload_n hx hb dX0_digestWithLine_29 rfl (lv_at hl 1 rfl) ?_
  refine lv_iload_n hx hb dX0_digestWithLine_30 rfl (lv_at hl 3 rfl) ?_
  refine kr_vI (n := 1) (As := [.int (nI q)]) (rest := [.long (kr_dw (kr_dw d0 (A 5 q)) (kr_hu A q))]) ⟨hx, hb, hml, hown, hts⟩ (c_X0_weakestPlace l D cy h a N L A q hw (by omega)) kg_RX0_190 ⟨rfl, rfl⟩ (by decide +kernel) ⟨Nat.le_of_ble_eq_true rfl, Nat.le_of_ble_eq_true rfl⟩ (kr_pv0 hP hK) rfl hl.1 rfl (Nat.le_of_ble_eq_true rfl) dX0_digestWithLine_31 ⟨Nat.zero_le _, Nat.zero_le _⟩ (fun r9 e9 => ?_)
  subst e9
  refine kr_sL (n := 2) (As := [.long (kr_dw (kr_dw d0 (A 5 q)) (kr_hu A q)), .int (kr_wk A q (kr_rc A q) 0 (-1))]) (rest := []) ⟨hx, hb, hml, hown, hts⟩ (c_X0_digestWith l (kr_dw (kr_dw d0 (A 5 q)) (kr_hu A q)) (kr_wk A q (kr_rc A q) 0 (-1))) kg_RX0_152 ⟨rfl, rfl⟩ (by decide +kernel) ⟨Nat.le_of_ble_eq_true rfl, Nat.le_of_ble_eq_true rfl⟩ ⟨kr_blT, fun U hU hW => ⟨rfl, trivial⟩⟩ rfl hl.1 rfl (Nat.le_of_ble_eq_true rfl) dX0_digestWithLine_34 ⟨Nat.zero_le _, Nat.zero_le _⟩ (fun r9 e9 => ?_)
  subst e9
  refine lv_lstore (lv' := [(4, .long (kr_dw (kr_dw (kr_dw d0 (A 5 q)) (kr_hu A q)) (kr_wk A q (kr_rc A q) 0 (-1)))), (0, .ref h), (1, .long d0), (3, .int (nI q))]) hx hb dX0_digestWithLine_37 hl (by decide) rfl (fun ls hl => ?_)
  refine lv_iconst (v := 0) hx hb dX0_digestWithLine_39 (by decide) ?_
  refine lv_istore (lv' := [(6, .int 0), (4, .long (kr_dw (kr_dw (kr_dw d0 (A 5 q)) (kr_hu A q)) (kr_wk A q (kr_rc A q) 0 (-1)))), (0, .ref h), (1, .long d0), (3, .int (nI q))]) hx hb dX0_digestWithLine_40 hl (by decide) rfl (fun ls hl => ?_)
  refine kr_lp (nL := 7) (fun z : Nat × Int64 => [(6, .int (nI z.1)), (4, .long z.2), (0, .ref h), (1, .long d0), (3, .int (nI q))]) (fun z => z.1 ≤ kr_rc A q ∧ kr_dp A q (kr_rc A q - z.1) z.1 z.2 = kr_dl A d0 q) (fun z => kr_rc A q - z.1) ?_ (0, kr_dw (kr_dw (kr_dw d0 (A 5 q)) (kr_hu A q)) (kr_wk A q (kr_rc A q) 0 (-1))) ⟨by omega, rfl⟩ (lv_sub hl [0, 1, 2, 3, 4] rfl)
  clear hl
  intro z ls hI hl ih
  obtain ⟨i, d⟩ := z
  have hl : lv_has ls 7 [(6, .int (nI i)), (4, .long d), (0, .ref h), (1, .long d0), (3, .int (nI q))] := hl
  obtain ⟨hi0, he⟩ : i ≤ kr_rc A q ∧ kr_dp A q (kr_rc A q - i) i d = kr_dl A d0 q := hI
  refine lv_iload hx hb dX0_digestWithLine_42 (lv_at hl 0 rfl) ?_
  refine lv_aload_n hx hb dX0_digestWithLine_44 rfl (lv_at hl 2 rfl) ?_
  refine va_get (ci := 0) (v := .ref (a 5)) (C := RX0) (T := TX0) (N := 10) hx hb hts kr_wsX0 hown hK hP 0 rfl rfl 6 (by decide) (hts _ kq_48) (fun _ h9 => h9) rfl dX0_digestWithLine_45 ?_
  refine lv_iload_n hx hb dX0_digestWithLine_48 rfl (lv_at hl 4 rfl) ?_
  refine kr_ald hx hb hK hP 6 0 rfl rfl q (by omega) (by decide) dX0_digestWithLine_49 ?_
  rw [er]
  refine lv_icmp_ge (tgt := 87) hx hb dX0_digestWithLine_50 (by decide) (fun c50 => ?_) (fun c50 => ?_)
  · have hi2 : i = kr_rc A q := by have := kr_ge (by omega) (by omega) c50; omega
    subst hi2
    refine lv_lload hx hb dX0_digestWithLine_87 (lv_at hl 1 rfl) ?_
    exact kr_eL hx hb hr hlocks rfl (by rw [Nat.sub_self] at he; exact he) dX0_digestWithLine_89
  · have hi : i < kr_rc A q := kr_lt (by omega) (by omega) c50
    rw [kr_dp_s hi] at he
    refine lv_lload hx hb dX0_digestWithLine_53 (lv_at hl 1 rfl) ?_
    refine lv_aload_n hx hb dX0_digestWithLine_55 rfl (lv_at hl 2 rfl) ?_
    refine lv_iload_n hx hb dX0_digestWithLine_56 rfl (lv_at hl 4 rfl) ?_
    refine lv_iload hx hb dX0_digestWithLine_57 (lv_at hl 0 rfl) ?_
    refine kr_vI (n := 2) (As := [.int (nI q), .int (nI i)]) (rest := [.long d]) ⟨hx, hb, hml, hown, hts⟩ (c_X0_knotOf l D cy h a N L A q i hw (by omega) (by omega)) kg_RX0_193 ⟨rfl, rfl⟩ (by decide +kernel) ⟨Nat.le_of_ble_eq_true rfl, Nat.le_of_ble_eq_true rfl⟩ (kr_pv0 hP hK) rfl hl.1 rfl (Nat.le_of_ble_eq_true rfl) dX0_digestWithLine_59 ⟨Nat.zero_le _, Nat.zero_le _⟩ (fun r9 e9 => ?_)
    subst e9
    refine kr_sL (n := 2) (As := [.long d, .int (A 6 (5 * q + i))]) (rest := []) ⟨hx, hb, hml, hown, hts⟩ (c_X0_digestWith l d (A 6 (5 * q + i))) kg_RX0_152 ⟨rfl, rfl⟩ (by decide +kernel) ⟨Nat.le_of_ble_eq_true rfl, Nat.le_of_ble_eq_true rfl⟩ ⟨kr_blT, fun U hU hW => ⟨rfl, trivial⟩⟩ rfl hl.1 rfl (Nat.le_of_ble_eq_true rfl) dX0_digestWithLine_62 ⟨Nat.zero_le _, Nat.zero_le _⟩ (fun r9 e9 => ?_)
    subst e9
    refine lv_lstore (lv' := [(4, .long (kr_dw d (A 6 (5 * q + i)))), (6, .int (nI i)), (0, .ref h), (1, .long d0), (3, .int (nI q))]) hx hb dX0_digestWithLine_65 hl (by decide) rfl (fun ls hl => ?_)
    refine lv_lload hx hb dX0_digestWithLine_67 (lv_at hl 0 rfl) ?_
    refine lv_aload_n hx hb dX0_digestWithLine_69 rfl (lv_at hl 2 rfl) ?_
    refine lv_iload_n hx hb dX0_digestWithLine_70 rfl (lv_at hl 4 rfl) ?_
    refine lv_iload hx hb dX0_digestWithLine_71 (lv_at hl 1 rfl) ?_
    refine kr_vI (n := 2) (As := [.int (nI q), .int (nI i)]) (rest := [.long (kr_dw d (A 6 (5 * q + i)))]) ⟨hx, hb, hml, hown, hts⟩ (c_X0_strengthAt l D cy h a N L A q i hw (by omega) (by omega)) kg_RX0_196 ⟨rfl, rfl⟩ (by decide +kernel) ⟨Nat.le_of_ble_eq_true rfl, Nat.le_of_ble_eq_true rfl⟩ (kr_pv0 hP hK) rfl hl.1 rfl (Nat.le_of_ble_eq_true rfl) dX0_digestWithLine_73 ⟨Nat.zero_le _, Nat.zero_le _⟩ (fun r9 e9 => ?_)
    subst e9
    refine kr_sL (n := 2) (As := [.long (kr_dw d (A 6 (5 * q + i))), .int (kr_nw A q i)]) (rest := []) ⟨hx, hb, hml, hown, hts⟩ (c_X0_digestWith l (kr_dw d (A 6 (5 * q + i))) (kr_nw A q i)) kg_RX0_152 ⟨rfl, rfl⟩ (by decide +kernel) ⟨Nat.le_of_ble_eq_true rfl, Nat.le_of_ble_eq_true rfl⟩ ⟨kr_blT, fun U hU hW => ⟨rfl, trivial⟩⟩ rfl hl.1 rfl (Nat.le_of_ble_eq_true rfl) dX0_digestWithLine_76 ⟨Nat.zero_le _, Nat.zero_le _⟩ (fun r9 e9 => ?_)
    subst e9
    refine lv_lstore (lv' := [(4, .long (kr_dw (kr_dw d (A 6 (5 * q + i))) (kr_nw A q i))), (6, .int (nI i)), (0, .ref h), (1, .long d0), (3, .int (nI q))]) hx hb dX0_digestWithLine_79 hl (by decide) rfl (fun ls hl => ?_)
    refine lv_iinc (v := nI (i + 1)) (lv' := [(6, .int (nI (i + 1))), (4, .long (kr_dw (kr_dw d (A 6 (5 * q + i))) (kr_nw A q i))), (0, .ref h), (1, .long d0), (3, .int (nI q))]) hx hb dX0_digestWithLine_81 hl (k := 1) rfl (kr_inc _) (by decide) rfl (fun ls hl => ?_)
    refine lv_goto (tgt := 42) hx hb dX0_digestWithLine_84 (by decide) ?_
    exact ih (i + 1, kr_dw (kr_dw d (A 6 (5 * q + i))) (kr_nw A q i)) ls ⟨by omega, he⟩ (by show kr_rc A q - (i + 1) < kr_rc A q - i; omega) (lv_sub hl [0, 1, 2, 3, 4] rfl)
theorem kg_RX0_156 : GoodIn kr_all (wsV RX0 156 RX0 yX0_strongestLine (Cond.code yX0_strongestLine cX0_strongestLine 5 (some .int) :: kr_all)) := kr_gV kq_376 kq_363 kq_364 kq_25 kq_365
theorem kg_RX0_163 : GoodIn kr_all (wsV RX0 163 RX0 yX0_digestWithLine (Cond.code yX0_digestWithLine cX0_digestWithLine 7 (some .long) :: kr_all)) := kr_gV kq_391 kq_393 kq_21 kq_25 kq_394
theorem kg_RX0_160 : GoodIn kr_all (wsV RX0 160 RX0 yX0_digestWithKnot (Cond.code yX0_digestWithKnot cX0_digestWithKnot 6 (some .long) :: kr_all)) := kr_gV kq_377 kq_379 kq_20 kq_25 kq_380
set_option maxHeartbeats 4000000 in
set_option maxRecDepth 100000 in
theorem c_X0_digest (l : Launch) (D : va_G) (cy : ClassId) (h : Nat) (a : Nat → Nat) (N L : Nat) (A : Nat → Nat → Int32) (hw : kr_wf N L A) : Met l yX0_digest (Cond.code yX0_digest cX0_digest 4 (some .long) :: kr_all) ({ frames := 6, cells := 0, slots := 0, locals := 146 }) (va_Pc [.ref h] (kr_R D (kr_W0 cy h a N L A) cy)) (vp_Sl (fun r => r = kr_dg N L A)) 0 0 (fun _ => False) := by
  refine kr_of (by decide) (Nat.le_of_ble_eq_true rfl) ?_
  intro p e s m below meth c ls hx hb hml hr hts hown hlocks hin hv hl
  obtain ⟨hP, hK⟩ := hv
  have hown : s.vm.findClass RX0 = some m.cls := hown
  have hl : lv_has ls 4 [(0, .ref h)] := hl
  have hN := hw.1
  have hL := hw.2.1
  refine lv_ldc2 (v := 2063) hx hb hown (hts _ kq_371) dX0_digest_0 ?_
  refine lv_lstore_n (lv' := [(1, .long 2063), (0, .ref h)]) hx hb dX0_digest_3 rfl hl (by decide) rfl (fun ls hl => ?_)
  refine lv_lload_n hx hb dX0_digest_4 rfl (lv_at hl 0 rfl) ?_
  refine lv_aload_n hx hb dX0_digest_5 rfl (lv_at hl 1 rfl) ?_
  refine va_get (ci := 0) (v := .int (nI N)) (C := RX0) (T := TX0) (N := 10) hx hb hts kr_wsX0 hown hK hP 0 rfl rfl 5 (by decide) (hts _ kq_47) (fun _ h9 => h9) rfl dX0_digest_6 ?_
  refine kr_sL (n := 2) (As := [.long 2063, .int (nI N)]) (rest := []) ⟨hx, hb, hml, hown, hts⟩ (c_X0_digestWith l 2063 (nI N)) kg_RX0_152 ⟨rfl, rfl⟩ (by decide +kernel) ⟨Nat.le_of_ble_eq_true rfl, Nat.le_of_ble_eq_true rfl⟩ ⟨kr_blT, fun U hU hW => ⟨rfl, trivial⟩⟩ rfl hl.1 rfl (Nat.le_of_ble_eq_true rfl) dX0_digest_9 ⟨Nat.zero_le _, Nat.zero_le _⟩ (fun r9 e9 => ?_)
  subst e9
  refine lv_lstore_n (lv' := [(1, .long (kr_dw 2063 (nI N))), (0, .ref h)]) hx hb dX0_digest_12 rfl hl (by decide) rfl (fun ls hl => ?_)
  refine lv_lload_n hx hb dX0_digest_13 rfl (lv_at hl 0 rfl) ?_
  refine lv_aload_n hx hb dX0_digest_14 rfl (lv_at hl 1 rfl) ?_
  refine va_get (ci := 0) (v := .int (nI L)) (C := RX0) (T := TX0) (N := 10) hx hb hts kr_wsX0 hown hK hP 0 rfl rfl 7 (by decide) (hts _ kq_49) (fun _ h9 => h9) rfl dX0_digest_15 ?_
  refine kr_sL (n := 2) (As := [.long (kr_dw 2063 (nI N)), .int (nI L)]) (rest := []) ⟨hx, hb, hml, hown, hts⟩ (c_X0_digestWith l (kr_dw 2063 (nI N)) (nI L)) kg_RX0_152 ⟨rfl, rfl⟩ (by decide +kernel) ⟨Nat.le_of_ble_eq_true rfl, Nat.le_of_ble_eq_true rfl⟩ ⟨kr_blT, fun U hU hW => ⟨rfl, trivial⟩⟩ rfl hl.1 rfl (Nat.le_of_ble_eq_true rfl) dX0_digest_18 ⟨Nat.zero_le _, Nat.zero_le _⟩ (fun r9 e9 => ?_)
  subst e9
  refine lv_lstore_n (lv' := [(1, .long (kr_dw (kr_dw 2063 (nI N)) (nI L))), (0, .ref h)]) hx hb dX0_digest_21 rfl hl (by decide) rfl (fun ls hl => ?_)
  refine lv_lload_n hx hb dX0_digest_22 rfl (lv_at hl 0 rfl) ?_
  refine lv_aload_n hx hb dX0_digest_23 rfl (lv_at hl 1 rfl) ?_
  refine kr_vI (n := 0) (As := []) (rest := [.long (kr_dw (kr_dw 2063 (nI N)) (nI L))]) ⟨hx, hb, hml, hown, hts⟩ (c_X0_strongestLine l D cy h a N L A hw) kg_RX0_156 ⟨rfl, rfl⟩ (by decide +kernel) ⟨Nat.le_of_ble_eq_true rfl, Nat.le_of_ble_eq_true rfl⟩ (kr_pv0 hP hK) rfl hl.1 rfl (Nat.le_of_ble_eq_true rfl) dX0_digest_24 ⟨Nat.zero_le _, Nat.zero_le _⟩ (fun r9 e9 => ?_)
  subst e9
  refine kr_sL (n := 2) (As := [.long (kr_dw (kr_dw 2063 (nI N)) (nI L)), .int (kr_sg A L 0 (-1))]) (rest := []) ⟨hx, hb, hml, hown, hts⟩ (c_X0_digestWith l (kr_dw (kr_dw 2063 (nI N)) (nI L)) (kr_sg A L 0 (-1))) kg_RX0_152 ⟨rfl, rfl⟩ (by decide +kernel) ⟨Nat.le_of_ble_eq_true rfl, Nat.le_of_ble_eq_true rfl⟩ ⟨kr_blT, fun U hU hW => ⟨rfl, trivial⟩⟩ rfl hl.1 rfl (Nat.le_of_ble_eq_true rfl) dX0_digest_27 ⟨Nat.zero_le _, Nat.zero_le _⟩ (fun r9 e9 => ?_)
  subst e9
  refine lv_lstore_n (lv' := [(1, .long (kr_dw (kr_dw (kr_dw 2063 (nI N)) (nI L)) (kr_sg A L 0 (-1)))), (0, .ref h)]) hx hb dX0_digest_30 rfl hl (by decide) rfl (fun ls hl => ?_)
  refine lv_iconst (v := 0) hx hb dX0_digest_31 (by decide) ?_
  refine lv_istore_n (lv' := [(3, .int 0), (1, .long (kr_dw (kr_dw (kr_dw 2063 (nI N)) (nI L)) (kr_sg A L 0 (-1)))), (0, .ref h)]) hx hb dX0_digest_32 rfl hl (by decide) rfl (fun ls hl => ?_)
  refine kr_lp (nL := 4) (fun z : Nat × Int64 => [(3, .int (nI z.1)), (1, .long z.2), (0, .ref h)]) (fun z => z.1 ≤ N ∧ kr_dks A N (N - z.1) z.1 z.2 = kr_dks A N N 0 (kr_dw (kr_dw (kr_dw 2063 (nI N)) (nI L)) (kr_sg A L 0 (-1)))) (fun z => N - z.1) ?_ (0, kr_dw (kr_dw (kr_dw 2063 (nI N)) (nI L)) (kr_sg A L 0 (-1))) ⟨by omega, rfl⟩ (lv_sub hl [0, 1, 2] rfl)
  clear hl
  intro z ls hI hl ih
  obtain ⟨i, d⟩ := z
  have hl : lv_has ls 4 [(3, .int (nI i)), (1, .long d), (0, .ref h)] := hl
  obtain ⟨hi0, he⟩ : i ≤ N ∧ kr_dks A N (N - i) i d = kr_dks A N N 0 (kr_dw (kr_dw (kr_dw 2063 (nI N)) (nI L)) (kr_sg A L 0 (-1))) := hI
  refine lv_iload_n hx hb dX0_digest_33 rfl (lv_at hl 0 rfl) ?_
  refine lv_aload_n hx hb dX0_digest_34 rfl (lv_at hl 2 rfl) ?_
  refine va_get (ci := 0) (v := .int (nI N)) (C := RX0) (T := TX0) (N := 10) hx hb hts kr_wsX0 hown hK hP 0 rfl rfl 5 (by decide) (hts _ kq_47) (fun _ h9 => h9) rfl dX0_digest_35 ?_
  refine lv_icmp_ge (tgt := 54) hx hb dX0_digest_38 (by decide) (fun c38 => ?_) (fun c38 => ?_)
  · have hi2 : i = N := by have := kr_ge (by omega) (by omega) c38; omega
    rw [hi2, Nat.sub_self] at he
    have he : d = kr_dks A N N 0 (kr_dw (kr_dw (kr_dw 2063 (nI N)) (nI L)) (kr_sg A L 0 (-1))) := he
    refine lv_iconst (v := 0) hx hb dX0_digest_54 (by decide) ?_
    refine lv_istore_n (lv' := [(3, .int 0), (1, .long d), (0, .ref h)]) hx hb dX0_digest_55 rfl hl (by decide) rfl (fun ls hl => ?_)
    refine kr_lp (nL := 4) (fun z : Nat × Int64 => [(3, .int (nI z.1)), (1, .long z.2), (0, .ref h)]) (fun z => z.1 ≤ L ∧ kr_dls A (L - z.1) z.1 z.2 = kr_dls A L 0 d) (fun z => L - z.1) ?_ (0, d) ⟨by omega, rfl⟩ (lv_sub hl [0, 1, 2] rfl)
    clear hl
    intro z ls hI hl ih
    obtain ⟨j, d2⟩ := z
    have hl : lv_has ls 4 [(3, .int (nI j)), (1, .long d2), (0, .ref h)] := hl
    obtain ⟨hj0, hf⟩ : j ≤ L ∧ kr_dls A (L - j) j d2 = kr_dls A L 0 d := hI
    refine lv_iload_n hx hb dX0_digest_56 rfl (lv_at hl 0 rfl) ?_
    refine lv_aload_n hx hb dX0_digest_57 rfl (lv_at hl 2 rfl) ?_
    refine va_get (ci := 0) (v := .int (nI L)) (C := RX0) (T := TX0) (N := 10) hx hb hts kr_wsX0 hown hK hP 0 rfl rfl 7 (by decide) (hts _ kq_49) (fun _ h9 => h9) rfl dX0_digest_58 ?_
    refine lv_icmp_ge (tgt := 77) hx hb dX0_digest_61 (by decide) (fun c61 => ?_) (fun c61 => ?_)
    · have hj2 : j = L := by have := kr_ge (by omega) (by omega) c61; omega
      rw [hj2, Nat.sub_self, he] at hf
      refine lv_lload_n hx hb dX0_digest_77 rfl (lv_at hl 1 rfl) ?_
      exact kr_eL hx hb hr hlocks rfl hf dX0_digest_78
    · have hj : j < L := kr_lt (by omega) (by omega) c61
      rw [kr_dls_s hj] at hf
      refine lv_aload_n hx hb dX0_digest_64 rfl (lv_at hl 2 rfl) ?_
      refine lv_lload_n hx hb dX0_digest_65 rfl (lv_at hl 1 rfl) ?_
      refine lv_iload_n hx hb dX0_digest_66 rfl (lv_at hl 0 rfl) ?_
      refine kr_vL (n := 2) (As := [.long d2, .int (nI j)]) (rest := []) ⟨hx, hb, hml, hown, hts⟩ (c_X0_digestWithLine l D cy h a N L A d2 j hw (by omega)) kg_RX0_163 ⟨rfl, rfl⟩ (by decide +kernel) ⟨Nat.le_of_ble_eq_true rfl, Nat.le_of_ble_eq_true rfl⟩ (kr_pv0 hP hK) rfl hl.1 rfl (Nat.le_of_ble_eq_true rfl) dX0_digest_67 ⟨Nat.zero_le _, Nat.zero_le _⟩ (fun r9 e9 => ?_)
      subst e9
      refine lv_lstore_n (lv' := [(1, .long (kr_dl A d2 j)), (3, .int (nI j)), (0, .ref h)]) hx hb dX0_digest_70 rfl hl (by decide) rfl (fun ls hl => ?_)
      refine lv_iinc (v := nI (j + 1)) (lv' := [(3, .int (nI (j + 1))), (1, .long (kr_dl A d2 j)), (0, .ref h)]) hx hb dX0_digest_71 hl (k := 1) rfl (kr_inc _) (by decide) rfl (fun ls hl => ?_)
      refine lv_goto (tgt := 56) hx hb dX0_digest_74 (by decide) ?_
      exact ih (j + 1, kr_dl A d2 j) ls ⟨by omega, hf⟩ (by show L - (j + 1) < L - j; omega) (lv_sub hl [0, 1, 2] rfl)
  · have hi : i < N := kr_lt (by omega) (by omega) c38
    rw [kr_dks_s hi] at he
    refine lv_aload_n hx hb dX0_digest_41 rfl (lv_at hl 2 rfl) ?_
    refine lv_lload_n hx hb dX0_digest_42 rfl (lv_at hl 1 rfl) ?_
    refine lv_iload_n hx hb dX0_digest_43 rfl (lv_at hl 0 rfl) ?_
    refine kr_vL (n := 2) (As := [.long d, .int (nI i)]) (rest := []) ⟨hx, hb, hml, hown, hts⟩ (c_X0_digestWithKnot l D cy h a N L A d i hw (by omega)) kg_RX0_160 ⟨rfl, rfl⟩ (by decide +kernel) ⟨Nat.le_of_ble_eq_true rfl, Nat.le_of_ble_eq_true rfl⟩ (kr_pv0 hP hK) rfl hl.1 rfl (Nat.le_of_ble_eq_true rfl) dX0_digest_44 ⟨Nat.zero_le _, Nat.zero_le _⟩ (fun r9 e9 => ?_)
    subst e9
    refine lv_lstore_n (lv' := [(1, .long (kr_dk A N d i)), (3, .int (nI i)), (0, .ref h)]) hx hb dX0_digest_47 rfl hl (by decide) rfl (fun ls hl => ?_)
    refine lv_iinc (v := nI (i + 1)) (lv' := [(3, .int (nI (i + 1))), (1, .long (kr_dk A N d i)), (0, .ref h)]) hx hb dX0_digest_48 hl (k := 1) rfl (kr_inc _) (by decide) rfl (fun ls hl => ?_)
    refine lv_goto (tgt := 33) hx hb dX0_digest_51 (by decide) ?_
    exact ih (i + 1, kr_dk A N d i) ls ⟨by omega, he⟩ (by show N - (i + 1) < N - i; omega) (lv_sub hl [0, 1, 2] rfl)
